/-! the reference's rows while it plans -/
def PMd (M : Mm) (am tn : Nat) (Lt : Nat → Nat) (ft : Nat → Nat → Bool) (mu : Nat → Nat → Nat) : Prop := M.1 18 0 24 = nI tn ∧ M.1 18 0 25 = nI am ∧ (∀ k, k < am → M.1 18 18 k = nI (Lt k)) ∧ (∀ k i, k < am → i < tn → M.1 18 24 (8 * k + i) = bi (ft k i)) ∧ (∀ k i, k < am → i < tn → M.1 18 20 (8 * k + i) = nI (mu k i)) ∧ am ≤ 24 ∧ tn ≤ 8
section PMS
variable {M : Mm} {am tn : Nat} {Lt : Nat → Nat} {ft : Nat → Nat → Bool} {mu : Nat → Nat → Nat}
theorem PMd.tn_ (h : PMd M am tn Lt ft mu) : M.1 18 0 24 = nI tn := h.1
theorem PMd.am_ (h : PMd M am tn Lt ft mu) : M.1 18 0 25 = nI am := h.2.1
theorem PMd.age (h : PMd M am tn Lt ft mu) {k : Nat} (hk : k < am) : M.1 18 18 k = nI (Lt k) := h.2.2.1 k hk
theorem PMd.may (h : PMd M am tn Lt ft mu) {k i : Nat} (hk : k < am) (hi : i < tn) : M.1 18 24 (8 * k + i) = bi (ft k i) := h.2.2.2.1 k i hk hi
theorem PMd.much (h : PMd M am tn Lt ft mu) {k i : Nat} (hk : k < am) (hi : i < tn) : M.1 18 20 (8 * k + i) = nI (mu k i) := h.2.2.2.2.1 k i hk hi
theorem PMd.a24 (h : PMd M am tn Lt ft mu) : am ≤ 24 := h.2.2.2.2.2.1
theorem PMd.t8 (h : PMd M am tn Lt ft mu) : tn ≤ 8 := h.2.2.2.2.2.2
end PMS
/-- only the search's rows have changed -/
def FBs (M M1 : Mm) : Prop := (∀ o' c' i', ¬ (o' = 18 ∧ (c' = 21 ∨ c' = 22 ∨ c' = 23 ∨ (c' = 0 ∧ i' = 27))) → M1.1 o' c' i' = M.1 o' c' i') ∧ M1.2 = M.2
theorem FBs.rf {M : Mm} : FBs M M := ⟨fun _ _ _ _ => rfl, rfl⟩
theorem FBs.tr {M M1 M2 : Mm} (h : FBs M M1) (h2 : FBs M1 M2) : FBs M M2 := ⟨fun o' c' i' z => (h2.1 o' c' i' z).trans (h.1 o' c' i' z), h2.2.trans h.2⟩
theorem FBs.wr {M : Mm} {c i : Nat} {x : Int32} (h : c = 21 ∨ c = 22 ∨ c = 23 ∨ (c = 0 ∧ i = 27)) : FBs M (wr M 18 c i x) := ⟨fun o' c' i' z => wr_ne (by omega), wr_lg _ _ _ _ _⟩
theorem FBs.pm {M M1 : Mm} (h : FBs M M1) {am tn : Nat} {Lt : Nat → Nat} {ft : Nat → Nat → Bool} {mu : Nat → Nat → Nat} (hp : PMd M am tn Lt ft mu) : PMd M1 am tn Lt ft mu := by
  refine ⟨(h.1 _ _ _ (by omega)).trans hp.tn_, (h.1 _ _ _ (by omega)).trans hp.am_, fun k hk => (h.1 _ _ _ (by omega)).trans (hp.age hk), fun k i hk hi => (h.1 _ _ _ (by omega)).trans (hp.may hk hi), fun k i hk hi => (h.1 _ _ _ (by omega)).trans (hp.much hk hi), hp.a24, hp.t8⟩
theorem FBs.rm {M M1 : Mm} (h : FBs M M1) {a : Sa} (hN : RM (M.1 18 12) a) : RM (M1.1 18 12) a := RM_eq (fun i _ => h.1 _ _ _ (by omega)) hN
/-- the search's rows: whence a lot, whence an order (0: not reached; else one more), the queue -/
def Sc (M : Mm) (am tn : Nat) (lf fo : Nat → Nat) (qn : Nat) (qu : Nat → Nat) : Prop := (∀ k, k < am → M.1 18 21 k = nI (lf k) - 1 ∧ lf k < 100) ∧ (∀ j, j < tn → M.1 18 22 j = nI (fo j) - 1 ∧ fo j < 100) ∧ M.1 18 0 27 = nI qn ∧ (∀ x, x < qn → M.1 18 23 x = nI (qu x) ∧ qu x < am) ∧ fb_ct (fun k => decide (lf k ≠ 0)) am = qn
theorem nI_m1_eq {v : Nat} (h : v < 65536) : nI v - 1 = -1 ↔ v = 0 := by
  rw [fa_eq]
  have e1 : (nI v - 1).toInt = (v : Int) - 1 := pk_sub_toInt (a := v) (b := 1) (by omega) (by omega)
  have e2 : (-1 : Int32).toInt = -1 := rfl
  rw [e1, e2]
  omega
theorem ct_one {p : Nat → Bool} {q : Nat → Bool} {i : Nat} : ∀ {n : Nat}, i < n → p i = false → q i = true → (∀ k, k < n → k ≠ i → q k = p k) → fb_ct q n = fb_ct p n + 1 := by
  intro n
  induction n with
  | zero => intro h; omega
  | succ n ih =>
    intro h h1 h2 h3
    rw [fb_ct_succ, fb_ct_succ]
    by_cases e : i = n
    · subst e
      rw [fb_ct_cong (fun k hk => h3 k (by omega) (by omega)), h1, h2]
      rfl
    · rw [ih (by omega) h1 h2 (fun k hk hne => h3 k (by omega) hne), h3 n (by omega) (by omega)]
      omega
theorem ct_lt {p : Nat → Bool} {i n : Nat} (h : i < n) (h1 : p i = false) : fb_ct p n < n := by
  have := ct_one (p := p) (q := fun k => if k = i then true else p k) h h1 (if_pos rfl) (fun k _ hne => if_neg hne)
  have h2 := fb_ct_le (fun k => if k = i then true else p k) n
  omega
def FRl (M M1 : Mm) : Prop := (∀ o' c' i', ¬ (o' = 18 ∧ (c' = 21 ∨ c' = 23 ∨ (c' = 0 ∧ i' = 27))) → M1.1 o' c' i' = M.1 o' c' i') ∧ M1.2 = M.2
theorem FRl.rf {M : Mm} : FRl M M := ⟨fun _ _ _ _ => rfl, rfl⟩
theorem FRl.tr {M M1 M2 : Mm} (h : FRl M M1) (h2 : FRl M1 M2) : FRl M M2 := ⟨fun o' c' i' z => (h2.1 o' c' i' z).trans (h.1 o' c' i' z), h2.2.trans h.2⟩
theorem FRl.wr {M : Mm} {c i : Nat} {x : Int32} (h : c = 21 ∨ c = 23 ∨ (c = 0 ∧ i = 27)) : FRl M (wr M 18 c i x) := ⟨fun o' c' i' z => wr_ne (by omega), wr_lg _ _ _ _ _⟩
theorem FRl.fb {M M1 : Mm} (h : FRl M M1) : FBs M M1 := ⟨fun o' c' i' z => h.1 o' c' i' (by omega), h.2⟩
def FPl (M M1 : Mm) : Prop := (∀ o' c' i', ¬ (o' = 18 ∧ (c' = 20 ∨ c' = 21 ∨ c' = 22 ∨ c' = 23 ∨ (c' = 0 ∧ i' = 27))) → M1.1 o' c' i' = M.1 o' c' i') ∧ M1.2 = M.2
theorem FPl.rf {M : Mm} : FPl M M := ⟨fun _ _ _ _ => rfl, rfl⟩
theorem FPl.tr {M M1 M2 : Mm} (h : FPl M M1) (h2 : FPl M1 M2) : FPl M M2 := ⟨fun o' c' i' z => (h2.1 o' c' i' z).trans (h.1 o' c' i' z), h2.2.trans h.2⟩
theorem FPl.wr {M : Mm} {c i : Nat} {x : Int32} (h : c = 20 ∨ c = 21 ∨ c = 22 ∨ c = 23 ∨ (c = 0 ∧ i = 27)) : FPl M (wr M 18 c i x) := ⟨fun o' c' i' z => wr_ne (by omega), wr_lg _ _ _ _ _⟩
theorem FBs.fp {M M1 : Mm} (h : FBs M M1) : FPl M M1 := ⟨fun o' c' i' z => h.1 o' c' i' (by omega), h.2⟩
theorem FPl.rm {M M1 : Mm} (h : FPl M M1) {a : Sa} (hN : RM (M.1 18 12) a) : RM (M1.1 18 12) a := RM_eq (fun i _ => h.1 _ _ _ (by omega)) hN
section SCS
variable {M : Mm} {am tn : Nat} {lf fo : Nat → Nat} {qn : Nat} {qu : Nat → Nat}
theorem Sc.lf_ (h : Sc M am tn lf fo qn qu) {k : Nat} (hk : k < am) : M.1 18 21 k = nI (lf k) - 1 := (h.1 k hk).1
theorem Sc.lfb (h : Sc M am tn lf fo qn qu) {k : Nat} (hk : k < am) : lf k < 100 := (h.1 k hk).2
theorem Sc.fo_ (h : Sc M am tn lf fo qn qu) {j : Nat} (hj : j < tn) : M.1 18 22 j = nI (fo j) - 1 := (h.2.1 j hj).1
theorem Sc.fob (h : Sc M am tn lf fo qn qu) {j : Nat} (hj : j < tn) : fo j < 100 := (h.2.1 j hj).2
theorem Sc.qn_ (h : Sc M am tn lf fo qn qu) : M.1 18 0 27 = nI qn := h.2.2.1
theorem Sc.qu_ (h : Sc M am tn lf fo qn qu) {x : Nat} (hx : x < qn) : M.1 18 23 x = nI (qu x) := (h.2.2.2.1 x hx).1
theorem Sc.qub (h : Sc M am tn lf fo qn qu) {x : Nat} (hx : x < qn) : qu x < am := (h.2.2.2.1 x hx).2
theorem Sc.le (h : Sc M am tn lf fo qn qu) : qn ≤ am := by rw [← h.2.2.2.2]; exact fb_ct_le _ _
theorem Sc.lt (h : Sc M am tn lf fo qn qu) {m : Nat} (hm : m < am) (h0 : lf m = 0) : qn < am := by
  rw [← h.2.2.2.2]; exact ct_lt hm (decide_eq_false (fun z => z h0))
theorem Sc.order (h : Sc M am tn lf fo qn qu) {j v : Nat} (hj : j < tn) (hv : v < 99) : Sc (wr M 18 22 j (nI v)) am tn lf (uf fo j (v + 1)) qn qu := by
  refine ⟨fun k hk => ⟨(wr_ne (by omega)).trans (h.lf_ hk), h.lfb hk⟩, fun i hi => ?_, (wr_ne (by omega)).trans h.qn_, fun x hx => ⟨(wr_ne (by omega)).trans (h.qu_ hx), h.qub hx⟩, h.2.2.2.2⟩
  by_cases e : i = j
  · subst e; rw [uf_eq, wr_eq]; exact ⟨(nI_pred v).symm, by omega⟩
  · rw [uf_ne e, wr_ne (by omega)]; exact h.2.1 i hi
theorem ct_uf {m v : Nat} (hm : m < am) (h0 : lf m = 0) (hv : 0 < v) : fb_ct (fun k => decide (uf lf m v k ≠ 0)) am = fb_ct (fun k => decide (lf k ≠ 0)) am + 1 :=
  ct_one hm (decide_eq_false (fun z => z h0)) (by rw [uf_eq]; exact decide_eq_true (by omega)) (fun k _ hne => by rw [uf_ne hne])
theorem Sc.push (h : Sc M am tn lf fo qn qu) {m v : Nat} (hm : m < am) (h0 : lf m = 0) (hv : v < 99) : Sc (wr (wr (wr M 18 21 m (nI v)) 18 23 qn (nI m)) 18 0 27 (nI (qn + 1))) am tn (uf lf m (v + 1)) fo (qn + 1) (uf qu qn m) := by
  refine ⟨fun k hk => ?_, fun i hi => ⟨by rw [wr_ne (by omega), wr_ne (by omega), wr_ne (by omega)]; exact h.fo_ hi, h.fob hi⟩, wr_eq, fun x hx => ?_, by rw [ct_uf hm h0 (by omega), h.2.2.2.2]⟩
  · rw [wr_ne (by omega), wr_ne (by omega)]
    by_cases e : k = m
    · subst e; rw [uf_eq, wr_eq]; exact ⟨(nI_pred v).symm, by omega⟩
    · rw [uf_ne e, wr_ne (by omega)]; exact h.1 k hk
  · rw [wr_ne (by omega)]
    by_cases e : x = qn
    · subst e; rw [uf_eq, wr_eq]; exact ⟨rfl, hm⟩
    · rw [uf_ne e, wr_ne (by omega), wr_ne (by omega)]; exact h.2.2.2.1 x (by omega)
end SCS
/-- the search for one more piece: the lots that suit i stand first in the queue, by age; if none of them has any left, all that is reached lies in Z -/
def Bf (Z : Nat → Prop) (ft : Nat → Nat → Bool) (sp : Nat → Nat) (am i : Nat) (lf : Nat → Nat) (qn : Nat) (qu : Nat → Nat) : Prop := (∀ k, k < am → ft k i = true → lf k = i + 1 ∧ qu (fb_ct (fun k => ft k i) k) = k) ∧ fb_ct (fun k => ft k i) am ≤ qn ∧ ((∀ k, k < am → ft k i = true → sp k = 0) → ∀ y, y < qn → Z (qu y))
theorem ct_lt2 {p : Nat → Bool} {m n : Nat} (h : m < n) (hp : p m = true) : fb_ct p m < fb_ct p n := by
  have h9 := fb_ct_mono p (m := m + 1) (n := n) (by omega)
  rw [fb_ct_succ, if_pos hp] at h9
  omega
theorem Bf_0 {Z : Nat → Prop} {ft : Nat → Nat → Bool} {sp : Nat → Nat} {mu : Nat → Nat → Nat} {am tn i qn : Nat} {qu : Nat → Nat} (hZ : (∀ k, k < am → ft k i = true → sp k = 0) → ClZ Z mu ft sp am tn i) (hq : qn = 0) (hqb : ∀ x, x < qn + fb_ct (fun k => ft k i && decide ((0 : Nat) = 0)) am → qu x < am)
    (h1 : ∀ m, m < am → (ft m i && decide ((0 : Nat) = 0)) = true → qu (qn + fb_ct (fun k => ft k i && decide ((0 : Nat) = 0)) m) = m) (h2 : ∀ x, qn ≤ x → x < qn + fb_ct (fun k => ft k i && decide ((0 : Nat) = 0)) am → ft (qu x) i = true) : Bf Z ft sp am i (fun q => if q < am ∧ (ft q i && decide ((0 : Nat) = 0)) = true then i + 1 else 0) (qn + fb_ct (fun k => ft k i && decide ((0 : Nat) = 0)) am) qu := by
  have e : (fun k => ft k i && decide ((0 : Nat) = 0)) = (fun k => ft k i) := by funext k; rw [decide_eq_true rfl, Bool.and_true]
  subst hq
  rw [e] at *
  refine ⟨fun k hk hf => ⟨?_, ?_⟩, by omega, fun hA y hy => ?_⟩
  · show (if k < am ∧ (ft k i && decide ((0 : Nat) = 0)) = true then i + 1 else 0) = i + 1
    rw [if_pos ⟨hk, by rw [hf]; rfl⟩]
  · have := h1 k hk (by rw [hf]; rfl)
    rwa [Nat.zero_add] at this
  · exact (hZ hA).1 _ (hqb y (by omega)) (h2 y (by omega) (by omega))
theorem Bf_step {Z : Nat → Prop} {ft : Nat → Nat → Bool} {sp : Nat → Nat} {mu : Nat → Nat → Nat} {am tn i j x qn : Nat} {lf qu qv2 : Nat → Nat} (hZ : (∀ k, k < am → ft k i = true → sp k = 0) → ClZ Z mu ft sp am tn i) (h : Bf Z ft sp am i lf qn qu) (hx : x < qn) (hxb : qu x < am) (hj : j < tn) (hmu : 0 < mu (qu x) j)
    (hqb : ∀ x, x < qn + fb_ct (fun k => ft k j && decide (lf k = 0)) am → qv2 x < am) (h0 : ∀ x, x < qn → qv2 x = qu x) (h2 : ∀ x, qn ≤ x → x < qn + fb_ct (fun k => ft k j && decide (lf k = 0)) am → ft (qv2 x) j = true) : Bf Z ft sp am i (fun q => if q < am ∧ (ft q j && decide (lf q = 0)) = true then j + 1 else lf q) (qn + fb_ct (fun k => ft k j && decide (lf k = 0)) am) qv2 := by
  obtain ⟨b1, b2, b3⟩ := h
  refine ⟨fun k hk hf => ⟨?_, ?_⟩, by omega, fun hA y hy => ?_⟩
  · have h5 := (b1 k hk hf).1
    show (if k < am ∧ (ft k j && decide (lf k = 0)) = true then j + 1 else lf k) = i + 1
    rw [if_neg, h5]
    rintro ⟨-, z⟩
    rw [Bool.and_eq_true] at z
    have := of_decide_eq_true z.2
    omega
  · rw [h0 _ (Nat.lt_of_lt_of_le (ct_lt2 (p := fun k => ft k i) hk hf) b2)]
    exact (b1 k hk hf).2
  · rcases Nat.lt_or_ge y qn with z | z
    · rw [h0 y z]; exact b3 hA y z
    · exact (hZ hA).2.2 (qu x) j (qv2 y) hxb hj (hqb y hy) (b3 hA x hx) hmu (h2 y z hy)
/-- the first entry with something left is the first lot that suits and has some -/
theorem Bf_hit {Z : Nat → Prop} {ft : Nat → Nat → Bool} {sp : Nat → Nat} {mu : Nat → Nat → Nat} {am tn i x qn : Nat} {lf qu : Nat → Nat} (hZ : (∀ k, k < am → ft k i = true → sp k = 0) → ClZ Z mu ft sp am tn i) (h : Bf Z ft sp am i lf qn qu) (hx : x < qn) (hxb : qu x < am) (hpr : ∀ k, k < am → ft k i = true → fb_ct (fun k => ft k i) k < x → sp k = 0) (hs : 0 < sp (qu x)) : lf (qu x) = i + 1 ∧ fa_first (fun k => ft k i && decide (0 < sp k)) am = qu x := by
  obtain ⟨b1, b2, b3⟩ := h
  have hlt : x < fb_ct (fun k => ft k i) am := by
    rcases Nat.lt_or_ge x (fb_ct (fun k => ft k i) am) with z | z
    · exact z
    · have hA : ∀ k, k < am → ft k i = true → sp k = 0 := fun k hk hf => hpr k hk hf (Nat.lt_of_lt_of_le (ct_lt2 (p := fun k => ft k i) hk hf) z)
      have := (hZ hA).2.1 (qu x) hxb (b3 hA x hx)
      omega
  obtain ⟨m, hm, hdm, ecm⟩ := fb_ct_kth hlt
  have e : qu x = m := by rw [← ecm]; exact (b1 m hm hdm).2
  rw [e] at hs ⊢
  refine ⟨(b1 m hm hdm).1, first_eq hm (by rw [hdm, decide_eq_true hs]; rfl) (fun y hy => ?_)⟩
  cases hf : ft y i
  · rfl
  · have h9 := ct_lt2 (p := fun k => ft k i) hy hf
    have := hpr y (by omega) hf (by omega)
    rw [decide_eq_false (by omega)]
    rfl
theorem Bf_miss {Z : Nat → Prop} {ft : Nat → Nat → Bool} {sp : Nat → Nat} {am i x qn : Nat} {lf qu : Nat → Nat} (h : Bf Z ft sp am i lf qn qu) (hx : qn ≤ x) (hpr : ∀ k, k < am → ft k i = true → fb_ct (fun k => ft k i) k < x → sp k = 0) : ¬ fa_first (fun k => ft k i && decide (0 < sp k)) am < am := by
  intro z
  have h1 := fa_first_yes _ _ z
  rw [Bool.and_eq_true] at h1
  have h2 := hpr _ z h1.1 (Nat.lt_of_lt_of_le (ct_lt2 (p := fun k => ft k i) z h1.1) (Nat.le_trans h.2.1 hx))
  have h3 := of_decide_eq_true h1.2
  omega
