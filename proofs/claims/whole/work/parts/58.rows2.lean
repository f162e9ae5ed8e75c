theorem insF_cong {key key' : Nat → Nat} {x : Nat} (hx : key x = key' x) : ∀ (k : Nat) (f : Nat → Nat), (∀ i, i < k → key (f i) = key' (f i)) → insF key x k f = insF key' x k f := by
  intro k
  induction k with
  | zero => intro f _; rfl
  | succ k ih =>
    intro f h
    have hk := h k (by omega)
    by_cases z : key x < key (f k)
    · rw [insF_t z, insF_t (key := key') (by rw [← hx, ← hk]; exact z)]
      refine ih _ (fun i hi => ?_)
      rw [uf_ne (by omega)]; exact h i (by omega)
    · rw [insF_f (Nat.not_lt.mp z), insF_f (key := key') (by rw [← hx, ← hk]; omega)]
theorem gat_cong {key key' : Nat → Nat} {sel sel' : Nat → Bool} : ∀ m, (∀ q, q < m → key q = key' q ∧ sel q = sel' q) → gat key sel m = gat key' sel' m := by
  intro m
  induction m with
  | zero => intro _; rfl
  | succ m ih =>
    intro h
    have e := ih (fun q hq => h q (by omega))
    have hm := h m (by omega)
    cases hs : sel m
    · rw [gat_f hs, gat_f (sel := sel') (by rw [← hm.2]; exact hs), e]
    · rw [gat_t hs, gat_t (sel := sel') (by rw [← hm.2]; exact hs), e]
      congr 1
      refine insF_cong hm.1 _ _ (fun i hi => ?_)
      have h1 := ((gat_sp key' sel' m).1 i hi).1
      exact (h _ (by omega)).1
/-- the state for which the reference plans: one order's customer with another life, one order more -/
def EfB (a b : Sa) (gd : Nat) (ot : Int32) (lf : Nat) (mo : Bool) (c sm dy : Nat) : Prop :=
  b 0 3 = a 0 3 ∧ (∀ j l, 10 ≤ j → j < 14 → b j l = a j l) ∧ (∀ i, b 9 i = a 9 i) ∧ b 0 4 = a 0 4 + (if mo then 1 else 0) ∧ (∀ q j, q < a 0 4 → 14 ≤ j → j < 20 → b j q = a j q) ∧
  (mo = true → b 14 (a 0 4) = c ∧ b 15 (a 0 4) = gd ∧ b 16 (a 0 4) = sm ∧ b 17 (a 0 4) = dy ∧ b 18 (a 0 4) = 0 ∧ b 8 c = a 8 c ∧ c < a 0 2) ∧
  (∀ q, q < a 0 4 → a 18 q = 0 → a 15 q = gd → b 8 (a 14 q) = if nI q = ot then lf else a 8 (a 14 q)) ∧ Iv b
def nm (a : Sa) (q : Nat) : Nat := if q < a 0 4 then q else 40
def LR (M : Mm) (a b : Sa) (gd : Nat) : Prop := M.1 18 0 24 = nI (TuN b gd) ∧ M.1 18 0 25 = nI (AgN b gd) ∧ (∀ i, i < TuN b gd → M.1 18 17 i = nI (nm a (Tu b gd i))) ∧ (∀ k, k < AgN b gd → M.1 18 18 k = nI (Ag b gd k)) ∧ (∀ i, i < TuN b gd → M.1 18 19 i = nI (b 16 (Tu b gd i))) ∧ (∀ k i, k < AgN b gd → i < TuN b gd → M.1 18 24 (8 * k + i) = bi (ftp b gd k i)) ∧ (∀ k i, k < AgN b gd → i < TuN b gd → M.1 18 20 (8 * k + i) = nI 0)
theorem EfB.lots {a b : Sa} {gd lf c sm dy : Nat} {ot : Int32} {mo : Bool} (h : EfB a b gd ot lf mo c sm dy) : gat (a 11) (lsel a gd) (a 0 3) = gat (b 11) (lsel b gd) (b 0 3) := by
  rw [h.1]
  refine gat_cong _ (fun q _ => ⟨(h.2.1 11 q (by omega) (by omega)).symm, ?_⟩)
  unfold lsel
  rw [h.2.1 10 q (by omega) (by omega)]
theorem EfB.ords {a b : Sa} {gd lf c sm dy : Nat} {ot : Int32} {mo : Bool} (h : EfB a b gd ot lf mo c sm dy) : gat (a 17) (osel a gd) (a 0 4) = gat (b 17) (osel b gd) (a 0 4) := by
  refine gat_cong _ (fun q hq => ⟨(h.2.2.2.2.1 q 17 hq (by omega) (by omega)).symm, ?_⟩)
  unfold osel
  rw [h.2.2.2.2.1 q 15 hq (by omega) (by omega), h.2.2.2.2.1 q 18 hq (by omega) (by omega)]
theorem EfB.no {a b : Sa} {gd lf c sm dy : Nat} {ot : Int32} {mo : Bool} (h : EfB a b gd ot lf mo c sm dy) (hm : mo = false) : TuN b gd = (gat (a 17) (osel a gd) (a 0 4)).1 ∧ Tu b gd = (gat (a 17) (osel a gd) (a 0 4)).2 := by
  have e4 := h.2.2.2.1
  rw [hm] at e4
  have e5 : b 0 4 = a 0 4 := e4
  unfold TuN Tu
  rw [h.ords, e5]
  exact ⟨rfl, rfl⟩
theorem EfB.yes {a b : Sa} {gd lf c sm dy : Nat} {ot : Int32} {mo : Bool} (h : EfB a b gd ot lf mo c sm dy) (hm : mo = true) : TuN b gd = (gat (a 17) (osel a gd) (a 0 4)).1 + 1 ∧ ∀ κ : Nat → Nat, (∀ y, y < a 0 4 → κ y = a 17 y) → κ 40 = dy → ∀ i, i < (gat (a 17) (osel a gd) (a 0 4)).1 + 1 → insF κ 40 (gat (a 17) (osel a gd) (a 0 4)).1 (gat (a 17) (osel a gd) (a 0 4)).2 i = nm a (Tu b gd i) := by
  have e4 := h.2.2.2.1
  rw [hm] at e4
  have e5 : b 0 4 = a 0 4 + 1 := e4
  obtain ⟨x1, x2, x3, x4, x5, x6, x7⟩ := h.2.2.2.2.2.1 hm
  have hs : osel b gd (a 0 4) = true := decide_eq_true ⟨x2, x5⟩
  have eg : gat (b 17) (osel b gd) (b 0 4) = ((gat (a 17) (osel a gd) (a 0 4)).1 + 1, insF (b 17) (a 0 4) (gat (a 17) (osel a gd) (a 0 4)).1 (gat (a 17) (osel a gd) (a 0 4)).2) := by
    rw [e5, gat_t hs, h.ords]
  refine ⟨by unfold TuN; rw [eg], fun κ hκ h40 i hi => ?_⟩
  have hlt : ∀ i, i < (gat (a 17) (osel a gd) (a 0 4)).1 → (gat (a 17) (osel a gd) (a 0 4)).2 i < a 0 4 := fun i hi => ((gat_sp (a 17) (osel a gd) (a 0 4)).1 i hi).1
  have e40 : nm a (a 0 4) = 40 := if_neg (Nat.lt_irrefl _)
  have hmap := insF_map (key := b 17) (key' := κ) (φ := nm a) (x := a 0 4) (gat (a 17) (osel a gd) (a 0 4)).1 (gat (a 17) (osel a gd) (a 0 4)).2 (gat (a 17) (osel a gd) (a 0 4)).2 (fun j hj => ?_) (by rw [e40, h40, x4]) i hi
  · rw [e40] at hmap
    rw [hmap]
    unfold Tu
    rw [eg]
  · have h9 := hlt j hj
    have e : nm a ((gat (a 17) (osel a gd) (a 0 4)).2 j) = (gat (a 17) (osel a gd) (a 0 4)).2 j := if_pos h9
    rw [e, hκ _ h9, h.2.2.2.2.1 _ 17 h9 (by omega) (by omega)]
    exact ⟨rfl, rfl⟩
/-- an order of the row: told, or the one more -/
theorem EfB.who {a b : Sa} {gd lf c sm dy : Nat} {ot : Int32} {mo : Bool} (h : EfB a b gd ot lf mo c sm dy) {i : Nat} (hi : i < TuN b gd) : (nm a (Tu b gd i) = Tu b gd i ∧ Tu b gd i < a 0 4 ∧ a 18 (Tu b gd i) = 0 ∧ a 15 (Tu b gd i) = gd) ∨ (nm a (Tu b gd i) = 40 ∧ Tu b gd i = a 0 4 ∧ mo = true) := by
  obtain ⟨h1, h2, h3⟩ := Tu_in hi
  rcases Nat.lt_or_ge (Tu b gd i) (a 0 4) with z | z
  · left
    rw [h.2.2.2.2.1 _ 15 z (by omega) (by omega)] at h2
    rw [h.2.2.2.2.1 _ 18 z (by omega) (by omega)] at h3
    exact ⟨if_pos z, z, h3, h2⟩
  · right
    have e4 := h.2.2.2.1
    cases hm : mo
    · rw [hm] at e4
      have e5 : b 0 4 = a 0 4 := e4
      omega
    · rw [hm] at e4
      have e5 : b 0 4 = a 0 4 + 1 := e4
      exact ⟨if_neg (by omega), by omega, rfl⟩
theorem EfB.fitX {a b : Sa} {gd lf c sm dy : Nat} {ot : Int32} {mo : Bool} (h : EfB a b gd ot lf mo c sm dy) (hm : mo = true) {p : Nat} : isfor a p c gd dy (a 8 c) = fit b p (a 0 4) := by
  obtain ⟨x1, x2, x3, x4, x5, x6, x7⟩ := h.2.2.2.2.2.1 hm
  unfold isfor fit
  rw [x1, x2, x4, x6, h.2.2.1, h.2.1 10 p (by omega) (by omega), h.2.1 11 p (by omega) (by omega), h.2.1 13 p (by omega) (by omega)]
theorem EfB.fitO {a b : Sa} {gd lf c sm dy : Nat} {ot : Int32} {mo : Bool} (h : EfB a b gd ot lf mo c sm dy) {p q : Nat} (hq : q < a 0 4) (h18 : a 18 q = 0) (h15 : a 15 q = gd) (ho : nI q = ot) : isfor a p (a 14 q) gd (a 17 q) lf = fit b p q := by
  have e := h.2.2.2.2.2.2.1 q hq h18 h15
  rw [if_pos ho] at e
  unfold isfor fit
  rw [h.2.2.2.2.1 q 14 hq (by omega) (by omega), h.2.2.2.2.1 q 15 hq (by omega) (by omega), h.2.2.2.2.1 q 17 hq (by omega) (by omega), h.2.2.1, h.2.1 10 p (by omega) (by omega), h.2.1 11 p (by omega) (by omega), h.2.1 13 p (by omega) (by omega), e, h15]
theorem EfB.fitN {a b : Sa} {gd lf c sm dy : Nat} {ot : Int32} {mo : Bool} (h : EfB a b gd ot lf mo c sm dy) {p q : Nat} (hq : q < a 0 4) (h18 : a 18 q = 0) (h15 : a 15 q = gd) (ho : ¬ nI q = ot) : fit a p q = fit b p q := by
  have e := h.2.2.2.2.2.2.1 q hq h18 h15
  rw [if_neg ho] at e
  unfold fit
  rw [h.2.2.2.2.1 q 14 hq (by omega) (by omega), h.2.2.2.2.1 q 15 hq (by omega) (by omega), h.2.2.2.2.1 q 17 hq (by omega) (by omega), h.2.2.1, h.2.1 10 p (by omega) (by omega), h.2.1 11 p (by omega) (by omega), h.2.1 13 p (by omega) (by omega), e]
