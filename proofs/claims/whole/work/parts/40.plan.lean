/-! THE PLAN, as numbers: rows by insertion; each order in turn takes of the lots by age -/
theorem downto {P : Nat → Prop} (h : ∀ k, (∀ k', k = k' + 1 → P k') → P k) : ∀ k, P k := by
  intro k
  induction k with
  | zero => exact h 0 (fun k' z => absurd z (by omega))
  | succ k ih => exact h (k + 1) (fun k' z => by have : k' = k := by omega
                                                 subst this; exact ih)
def uf (f : Nat → Nat) (k x : Nat) : Nat → Nat := fun i => if i = k then x else f i
theorem uf_eq {f : Nat → Nat} {k x : Nat} : uf f k x k = x := if_pos rfl
theorem uf_ne {f : Nat → Nat} {k x i : Nat} (h : i ≠ k) : uf f k x i = f i := if_neg h
def insF (key : Nat → Nat) (x : Nat) : Nat → (Nat → Nat) → (Nat → Nat)
  | 0, f => uf f 0 x
  | k + 1, f => if key x < key (f k) then insF key x k (uf f (k + 1) (f k)) else uf f (k + 1) x
theorem insF_0 {key : Nat → Nat} {x : Nat} {f : Nat → Nat} : insF key x 0 f = uf f 0 x := rfl
theorem insF_t {key : Nat → Nat} {x k : Nat} {f : Nat → Nat} (h : key x < key (f k)) : insF key x (k + 1) f = insF key x k (uf f (k + 1) (f k)) := if_pos h
theorem insF_f {key : Nat → Nat} {x k : Nat} {f : Nat → Nat} (h : key (f k) ≤ key x) : insF key x (k + 1) f = uf f (k + 1) x := if_neg (Nat.not_lt.mpr h)
def gat (key : Nat → Nat) (sel : Nat → Bool) : Nat → Nat × (Nat → Nat)
  | 0 => (0, fun _ => 0)
  | m + 1 => if sel m then ((gat key sel m).1 + 1, insF key m (gat key sel m).1 (gat key sel m).2) else gat key sel m
theorem gat_t {key : Nat → Nat} {sel : Nat → Bool} {m : Nat} (h : sel m = true) : gat key sel (m + 1) = ((gat key sel m).1 + 1, insF key m (gat key sel m).1 (gat key sel m).2) := if_pos h
theorem gat_f {key : Nat → Nat} {sel : Nat → Bool} {m : Nat} (h : sel m = false) : gat key sel (m + 1) = gat key sel m := if_neg (by rw [h]; decide)
theorem gat_le (key : Nat → Nat) (sel : Nat → Bool) : ∀ m, (gat key sel m).1 ≤ m := by
  intro m
  induction m with
  | zero => exact Nat.le_refl 0
  | succ m ih =>
    cases h : sel m
    · rw [gat_f h]; omega
    · rw [gat_t h]; show _ + 1 ≤ _; omega
/-- what an insertion does: the row with x at some place p, what was at or behind p one further -/
theorem insF_sp (key : Nat → Nat) (x : Nat) : ∀ k f, ∃ p, p ≤ k ∧ (∀ i, i < p → insF key x k f i = f i) ∧ insF key x k f p = x ∧ (∀ i, p < i → i ≤ k → insF key x k f i = f (i - 1)) ∧ (∀ i, k < i → insF key x k f i = f i) ∧ (0 < p → key (f (p - 1)) ≤ key x) ∧ (∀ i, p ≤ i → i < k → key x < key (f i)) := by
  intro k
  induction k with
  | zero =>
    intro f
    refine ⟨0, Nat.le_refl 0, fun i hi => by omega, uf_eq, fun i h1 h2 => by omega, fun i hi => uf_ne (by omega), fun h => by omega, fun i h1 h2 => by omega⟩
  | succ k ih =>
    intro f
    by_cases h : key x < key (f k)
    · rw [insF_t h]
      obtain ⟨p, h1, h2, h3, h4, h5, h6, h7⟩ := ih (uf f (k + 1) (f k))
      refine ⟨p, by omega, fun i hi => by rw [h2 i hi, uf_ne (by omega)], h3, fun i hi1 hi2 => ?_, fun i hi => by rw [h5 i (by omega), uf_ne (by omega)], fun hp => ?_, fun i hi1 hi2 => ?_⟩
      · by_cases e : i = k + 1
        · subst e; rw [h5 _ (by omega), uf_eq]; rfl
        · rw [h4 i hi1 (by omega), uf_ne (by omega)]
      · have := h6 hp; rw [uf_ne (by omega)] at this; exact this
      · by_cases e : i = k
        · subst e; exact h
        · have := h7 i hi1 (by omega); rw [uf_ne (by omega)] at this; exact this
    · rw [insF_f (by omega)]
      refine ⟨k + 1, Nat.le_refl _, fun i hi => uf_ne (by omega), uf_eq, fun i h1 h2 => by omega, fun i hi => uf_ne (by omega), fun _ => by show key (f (k + 1 - 1)) ≤ _; rw [show k + 1 - 1 = k by omega]; omega, fun i h1 h2 => by omega⟩
/-- what the gathered row is: the chosen ones, each once, by key -/
theorem gat_sp (key : Nat → Nat) (sel : Nat → Bool) : ∀ m, (∀ i, i < (gat key sel m).1 → (gat key sel m).2 i < m ∧ sel ((gat key sel m).2 i) = true) ∧ (∀ i j, i ≤ j → j < (gat key sel m).1 → key ((gat key sel m).2 i) ≤ key ((gat key sel m).2 j)) ∧ (∀ i j, i < j → j < (gat key sel m).1 → (gat key sel m).2 i ≠ (gat key sel m).2 j) ∧ (∀ x, x < m → sel x = true → ∃ i, i < (gat key sel m).1 ∧ (gat key sel m).2 i = x) := by
  intro m
  induction m with
  | zero => exact ⟨fun i hi => absurd hi (Nat.not_lt_zero i), fun i j _ hj => absurd hj (Nat.not_lt_zero j), fun i j _ hj => absurd hj (Nat.not_lt_zero j), fun x hx => absurd hx (Nat.not_lt_zero x)⟩
  | succ m ih =>
    obtain ⟨i1, i2, i3, i4⟩ := ih
    cases hs : sel m
    · rw [gat_f hs]
      refine ⟨fun i hi => ⟨by have := (i1 i hi).1; omega, (i1 i hi).2⟩, i2, i3, fun x hx hsx => ?_⟩
      have : x ≠ m := fun e => by rw [e, hs] at hsx; exact absurd hsx (by decide)
      exact i4 x (by omega) hsx
    · rw [gat_t hs]
      generalize hn : (gat key sel m).1 = n at *
      generalize hf : (gat key sel m).2 = f at *
      obtain ⟨p, h1, h2, h3, h4, h5, h6, h7⟩ := insF_sp key m n f
      dsimp only
      have at_ : ∀ i, i < n + 1 → (i < p ∧ insF key m n f i = f i) ∨ (i = p ∧ insF key m n f i = m) ∨ (p < i ∧ insF key m n f i = f (i - 1)) := by
        intro i hi
        rcases Nat.lt_trichotomy i p with z | z | z
        · exact Or.inl ⟨z, h2 i z⟩
        · exact Or.inr (Or.inl ⟨z, by rw [z]; exact h3⟩)
        · exact Or.inr (Or.inr ⟨z, h4 i z (by omega)⟩)
      refine ⟨fun i hi => ?_, fun i j hij hj => ?_, fun i j hij hj => ?_, fun x hx hsx => ?_⟩
      · rcases at_ i hi with ⟨z, e⟩ | ⟨z, e⟩ | ⟨z, e⟩
        · rw [e]; have := i1 i (by omega); exact ⟨by omega, this.2⟩
        · rw [e]; exact ⟨by omega, hs⟩
        · rw [e]; have := i1 (i - 1) (by omega); exact ⟨by omega, this.2⟩
      · rcases at_ i (by omega) with ⟨z, e⟩ | ⟨z, e⟩ | ⟨z, e⟩ <;> rcases at_ j hj with ⟨z', e'⟩ | ⟨z', e'⟩ | ⟨z', e'⟩
        · rw [e, e']; exact i2 i j hij (by omega)
        · rw [e, e']; exact Nat.le_trans (i2 i (p - 1) (by omega) (by omega)) (h6 (by omega))
        · rw [e, e']; exact i2 i (j - 1) (by omega) (by omega)
        · omega
        · rw [e, e']; exact Nat.le_refl _
        · rw [e, e']; exact Nat.le_of_lt (h7 (j - 1) (by omega) (by omega))
        · omega
        · omega
        · rw [e, e']; exact i2 (i - 1) (j - 1) (by omega) (by omega)
      · rcases at_ i (by omega) with ⟨z, e⟩ | ⟨z, e⟩ | ⟨z, e⟩ <;> rcases at_ j hj with ⟨z', e'⟩ | ⟨z', e'⟩ | ⟨z', e'⟩
        · rw [e, e']; exact i3 i j hij (by omega)
        · rw [e, e']; have := (i1 i (by omega)).1; omega
        · rw [e, e']; exact i3 i (j - 1) (by omega) (by omega)
        · omega
        · omega
        · rw [e, e']; have := (i1 (j - 1) (by omega)).1; omega
        · omega
        · omega
        · rw [e, e']; exact i3 (i - 1) (j - 1) (by omega) (by omega)
      · by_cases e : x = m
        · exact ⟨p, by omega, by rw [h3, e]⟩
        · obtain ⟨i, hi, he⟩ := i4 x (by omega) hsx
          rcases Nat.lt_or_ge i p with z | z
          · exact ⟨i, by omega, by rw [h2 i z, he]⟩
          · refine ⟨i + 1, by omega, ?_⟩
            rw [h4 (i + 1) (by omega) (by omega), show i + 1 - 1 = i by omega, he]
/-- an order in turn takes of each lot what it still wants: what it wants ahead of lot k, what it takes of it -/
def pw (f : Nat → Bool) (r : Nat → Nat) (w : Nat) : Nat → Nat
  | 0 => w
  | k + 1 => pw f r w k - (if f k then min (pw f r w k) (r k) else 0)
def ps (f : Nat → Bool) (r : Nat → Nat) (w k : Nat) : Nat := if f k then min (pw f r w k) (r k) else 0
theorem pw_succ {f : Nat → Bool} {r : Nat → Nat} {w k : Nat} : pw f r w (k + 1) = pw f r w k - ps f r w k := rfl
/-- what is left of lot k ahead of turn i -/
def pr (ft : Nat → Nat → Bool) (left want : Nat → Nat) : Nat → Nat → Nat
  | 0 => left
  | i + 1 => fun k => pr ft left want i k - ps (fun k => ft k i) (pr ft left want i) (want i) k
def sh (ft : Nat → Nat → Bool) (left want : Nat → Nat) (i k : Nat) : Nat := ps (fun k => ft k i) (pr ft left want i) (want i) k
theorem pr_succ {ft : Nat → Nat → Bool} {left want : Nat → Nat} {i k : Nat} : pr ft left want (i + 1) k = pr ft left want i k - sh ft left want i k := rfl
/-- the same with all that may be had ahead of lot k -/
def cum (f : Nat → Bool) (r : Nat → Nat) : Nat → Nat := fb_sm (fun k => if f k then r k else 0)
theorem cum_succ {f : Nat → Bool} {r : Nat → Nat} {k : Nat} : cum f r (k + 1) = cum f r k + (if f k then r k else 0) := rfl
theorem pw_cum (f : Nat → Bool) (r : Nat → Nat) (w : Nat) : ∀ k, pw f r w k = w - cum f r k := by
  intro k
  induction k with
  | zero => rfl
  | succ k ih =>
    rw [cum_succ]
    unfold pw
    rw [ih]
    split
    · omega
    · omega
theorem ps_cum (f : Nat → Bool) (r : Nat → Nat) (w k : Nat) : ps f r w k = if f k then min (w - cum f r k) (r k) else 0 := by
  unfold ps; rw [pw_cum]
theorem ps_le (f : Nat → Bool) (r : Nat → Nat) (w k : Nat) : ps f r w k ≤ r k := by
  rw [ps_cum]; split
  · omega
  · omega
theorem ps_sum (f : Nat → Bool) (r : Nat → Nat) (w : Nat) : ∀ n, fb_sm (ps f r w) n = w - pw f r w n := by
  intro n
  have h : ∀ n, fb_sm (ps f r w) n + pw f r w n = w := by
    intro n
    induction n with
    | zero => exact Nat.zero_add w
    | succ n ih =>
      rw [fb_sm_succ, pw_succ]
      have : ps f r w n ≤ pw f r w n := by
        unfold ps; split
        · omega
        · omega
      omega
  have := h n
  omega
-- the plan of a good
def lsel (a : Sa) (gd : Nat) : Nat → Bool := fun l => decide (a 10 l = gd)
def osel (a : Sa) (gd : Nat) : Nat → Bool := fun o => decide (a 15 o = gd ∧ a 18 o = 0)
def AgN (a : Sa) (gd : Nat) : Nat := (gat (a 11) (lsel a gd) (a 0 3)).1
def Ag (a : Sa) (gd : Nat) : Nat → Nat := (gat (a 11) (lsel a gd) (a 0 3)).2
def TuN (a : Sa) (gd : Nat) : Nat := (gat (a 17) (osel a gd) (a 0 4)).1
def Tu (a : Sa) (gd : Nat) : Nat → Nat := (gat (a 17) (osel a gd) (a 0 4)).2
def ftp (a : Sa) (gd : Nat) : Nat → Nat → Bool := fun k i => fit a (Ag a gd k) (Tu a gd i)
def prp (a : Sa) (gd : Nat) : Nat → Nat → Nat := pr (ftp a gd) (fun k => a 12 (Ag a gd k)) (fun i => a 16 (Tu a gd i))
def shp (a : Sa) (gd : Nat) : Nat → Nat → Nat := sh (ftp a gd) (fun k => a 12 (Ag a gd k)) (fun i => a 16 (Tu a gd i))
theorem Ag_in {a : Sa} {gd k : Nat} (h : k < AgN a gd) : Ag a gd k < a 0 3 ∧ a 10 (Ag a gd k) = gd := by
  have := (gat_sp (a 11) (lsel a gd) (a 0 3)).1 k h
  exact ⟨this.1, of_decide_eq_true this.2⟩
theorem Tu_in {a : Sa} {gd i : Nat} (h : i < TuN a gd) : Tu a gd i < a 0 4 ∧ a 15 (Tu a gd i) = gd ∧ a 18 (Tu a gd i) = 0 := by
  have := (gat_sp (a 17) (osel a gd) (a 0 4)).1 i h
  exact ⟨this.1, of_decide_eq_true this.2⟩
theorem AgN_le {a : Sa} {gd : Nat} : AgN a gd ≤ a 0 3 := gat_le _ _ _
/-- orders gathered so far: no more than customers -/
theorem gatO_le {a : Sa} (hI : Iv a) {gd m : Nat} (hm : m ≤ a 0 4) : (gat (a 17) (osel a gd) m).1 ≤ a 0 2 := by
  obtain ⟨h1, -, h3, -⟩ := gat_sp (a 17) (osel a gd) m
  generalize (gat (a 17) (osel a gd) m).1 = n at *
  generalize (gat (a 17) (osel a gd) m).2 = f at *
  refine fb_holes (a 0 2) n (fun i => a 14 (f i)) (fun i hi => (hI.ord (o := f i) (by have := (h1 i hi).1; omega)).1) (fun i j hij hj => ?_)
  intro e
  obtain ⟨a1, a2⟩ := h1 i (by omega)
  obtain ⟨b1, b2⟩ := h1 j hj
  have a3 := of_decide_eq_true a2
  have b3 := of_decide_eq_true b2
  exact h3 i j hij hj (hI.one (by omega) (by omega) a3.2 b3.2 e (a3.1.trans b3.1.symm))
theorem TuN_le {a : Sa} (hI : Iv a) {gd : Nat} : TuN a gd ≤ a 0 2 := gatO_le hI (Nat.le_refl _)
theorem prp_le {a : Sa} {gd i k : Nat} : prp a gd i k ≤ a 12 (Ag a gd k) := by
  unfold prp
  induction i with
  | zero => exact Nat.le_refl _
  | succ i ih => rw [pr_succ]; omega
theorem kd_2 {o : Nat} (h : kd o = 2) : o < 12 := by
  unfold kd at h
  split at h
  · assumption
  · split at h <;> omega
def FL (M M1 : Mm) : Prop := (∀ o' c' i', ¬ (o' = 16 ∧ (c' = 4 ∨ (c' = 0 ∧ i' = 1))) → M1.1 o' c' i' = M.1 o' c' i') ∧ M1.2 = M.2
def FT (M M1 : Mm) : Prop := (∀ o' c' i', ¬ (o' = 16 ∧ (c' = 6 ∨ (c' = 0 ∧ i' = 2))) → M1.1 o' c' i' = M.1 o' c' i') ∧ M1.2 = M.2
def FR (M M1 : Mm) : Prop := (∀ o' c' i', ¬ (o' = 16 ∧ (c' = 4 ∨ c' = 5 ∨ (c' = 0 ∧ i' = 1))) → M1.1 o' c' i' = M.1 o' c' i') ∧ M1.2 = M.2
def FV (M M1 : Mm) : Prop := (∀ o' c' i', ¬ (o' = 16 ∧ (c' = 5 ∨ c' = 7)) → M1.1 o' c' i' = M.1 o' c' i') ∧ M1.2 = M.2
theorem FL.rf {M : Mm} : FL M M := ⟨fun _ _ _ _ => rfl, rfl⟩
theorem FT.rf {M : Mm} : FT M M := ⟨fun _ _ _ _ => rfl, rfl⟩
theorem FV.rf {M : Mm} : FV M M := ⟨fun _ _ _ _ => rfl, rfl⟩
theorem FL.tr {M M1 M2 : Mm} (h : FL M M1) (h2 : FL M1 M2) : FL M M2 := ⟨fun o' c' i' z => (h2.1 o' c' i' z).trans (h.1 o' c' i' z), h2.2.trans h.2⟩
theorem FT.tr {M M1 M2 : Mm} (h : FT M M1) (h2 : FT M1 M2) : FT M M2 := ⟨fun o' c' i' z => (h2.1 o' c' i' z).trans (h.1 o' c' i' z), h2.2.trans h.2⟩
theorem FR.tr {M M1 M2 : Mm} (h : FR M M1) (h2 : FR M1 M2) : FR M M2 := ⟨fun o' c' i' z => (h2.1 o' c' i' z).trans (h.1 o' c' i' z), h2.2.trans h.2⟩
theorem FV.tr {M M1 M2 : Mm} (h : FV M M1) (h2 : FV M1 M2) : FV M M2 := ⟨fun o' c' i' z => (h2.1 o' c' i' z).trans (h.1 o' c' i' z), h2.2.trans h.2⟩
theorem FL.wr {M : Mm} {c i : Nat} {x : Int32} (h : c = 4 ∨ (c = 0 ∧ i = 1)) : FL M (wr M 16 c i x) := ⟨fun o' c' i' z => wr_ne (by omega), wr_lg _ _ _ _ _⟩
theorem FT.wr {M : Mm} {c i : Nat} {x : Int32} (h : c = 6 ∨ (c = 0 ∧ i = 2)) : FT M (wr M 16 c i x) := ⟨fun o' c' i' z => wr_ne (by omega), wr_lg _ _ _ _ _⟩
theorem FR.wr {M : Mm} {c i : Nat} {x : Int32} (h : c = 4 ∨ c = 5 ∨ (c = 0 ∧ i = 1)) : FR M (wr M 16 c i x) := ⟨fun o' c' i' z => wr_ne (by omega), wr_lg _ _ _ _ _⟩
theorem FV.wr {M : Mm} {c i : Nat} {x : Int32} (h : c = 5 ∨ c = 7) : FV M (wr M 16 c i x) := ⟨fun o' c' i' z => wr_ne (by omega), wr_lg _ _ _ _ _⟩
theorem FL.fr {M M1 : Mm} (h : FL M M1) : FR M M1 := ⟨fun o' c' i' z => h.1 o' c' i' (by omega), h.2⟩
theorem RP_eq {B B' : Nat → Nat → Int32} {a : Sa} (h : ∀ c i, B' c i = B c i) (hS : RP B a) : RP B' a := RP_of (fun c i _ => h c i) (fun _ _ _ => rfl) hS
theorem fb_sm_eq0 {f : Nat → Nat} {n : Nat} (h : n = 0) : fb_sm f n = 0 := by subst h; rfl
theorem nI_min {x y : Nat} (hx : x < 2147483648) (hy : y < 2147483648) : (if nI y < nI x then nI y else nI x) = nI (min x y) := by
  by_cases h : y < x
  · rw [if_pos ((nI_ltI hy hx).mpr h), show min x y = y by omega]
  · rw [if_neg (fun z => h ((nI_ltI hy hx).mp z)), show min x y = x by omega]
theorem nI_max0 {x y : Nat} (hx : x < 65536) (hy : y < 65536) : (if (nI 0 : Int32) < nI x - nI y then nI x - nI y else nI 0) = nI (x - y) := by
  have e : (nI x - nI y).toInt = (x : Int) - y := pk_sub_toInt (by omega) (by omega)
  have e0 : (nI 0).toInt = 0 := rfl
  by_cases h : y < x
  · rw [if_pos (by rw [fa_lt, e, e0]; omega), pk_sub (by omega)]
  · rw [if_neg (by rw [fa_lt, e, e0]; omega), show x - y = 0 by omega]
def PlS (M : Mm) (o : Nat) (a : Sa) (gd : Nat) : Prop := M.1 16 0 0 = nI o ∧ M.1 16 0 1 = nI (AgN a gd) ∧ M.1 16 0 2 = nI (TuN a gd) ∧ (∀ k, k < AgN a gd → M.1 16 4 k = nI (Ag a gd k)) ∧ (∀ i, i < TuN a gd → M.1 16 6 i = nI (Tu a gd i)) ∧ (∀ k, k < AgN a gd → M.1 16 5 k = nI (prp a gd (TuN a gd) k)) ∧ (∀ k, k < AgN a gd → ∀ i, i < TuN a gd → M.1 16 7 (k * 6 + i) = nI (shp a gd i k))
noncomputable def rin (a : Sa) (gd k : Nat) (X : Sa × Nat) : Nat → Sa × Nat
  | 0 => X
  | i + 1 => (ua (rin a gd k X i).1 21 (64 * Ag a gd k + Tu a gd i) (shp a gd i k), (rin a gd k X i).2 + (res (rin a gd k X i).1 (Ag a gd k) (Tu a gd i) - shp a gd i k))
noncomputable def rout (a : Sa) (gd : Nat) : Nat → Sa × Nat
  | 0 => (a, 0)
  | k + 1 => rin a gd k (rout a gd k) (TuN a gd)
noncomputable def rsv (a : Sa) (gd : Nat) : Sa × Nat := rout a gd (AgN a gd)
def tpos (a : Sa) (gd x : Nat) : Nat := fa_first (fun i => decide (Tu a gd i = x)) (TuN a gd)
def apos (a : Sa) (gd x : Nat) : Nat := fa_first (fun i => decide (Ag a gd i = x)) (AgN a gd)
theorem first_eq {p : Nat → Bool} {n k : Nat} (hk : k < n) (h : p k = true) (hf : ∀ i, i < k → p i = false) : fa_first p n = k := by
  rcases Nat.lt_trichotomy (fa_first p n) k with z | z | z
  · have := fa_first_yes p n (by omega)
    rw [hf _ z] at this
    exact absurd this (by decide)
  · exact z
  · rw [fa_first_no p n k z] at h
    exact absurd h (by decide)
theorem first_no {p : Nat → Bool} {n : Nat} (hf : ∀ i, i < n → p i = false) : fa_first p n = n := by
  rcases Nat.lt_or_ge (fa_first p n) n with z | z
  · have := fa_first_yes p n z
    rw [hf _ z] at this
    exact absurd this (by decide)
  · have := fa_first_le p n; omega
theorem tpos_lt {a : Sa} {gd x : Nat} (hx : x < a 0 4) (h1 : a 15 x = gd) (h2 : a 18 x = 0) : tpos a gd x < TuN a gd ∧ Tu a gd (tpos a gd x) = x := by
  obtain ⟨i, hi, he⟩ := (gat_sp (a 17) (osel a gd) (a 0 4)).2.2.2 x hx (decide_eq_true ⟨h1, h2⟩)
  have hlt : tpos a gd x < TuN a gd := by
    rcases Nat.lt_or_ge (tpos a gd x) (TuN a gd) with z | z
    · exact z
    · have := fa_first_no (fun i => decide (Tu a gd i = x)) (TuN a gd) i (Nat.lt_of_lt_of_le hi z)
      have he : Tu a gd i = x := he
      rw [decide_eq_true he] at this
      exact absurd this (by decide)
  exact ⟨hlt, of_decide_eq_true (fa_first_yes _ _ hlt)⟩
theorem sh_le_w {ft : Nat → Nat → Bool} {left want : Nat → Nat} {i k : Nat} : sh ft left want i k ≤ pr ft left want i k := ps_le _ _ _ _
theorem ps_le_w {f : Nat → Bool} {r : Nat → Nat} {w k : Nat} : ps f r w k ≤ w := by
  rw [ps_cum]; split
  · omega
  · omega
theorem shp_le {a : Sa} (hI : Iv a) {gd i k : Nat} (hi : i < TuN a gd) : shp a gd i k ≤ 99 := by
  have h1 : shp a gd i k ≤ a 16 (Tu a gd i) := by unfold shp sh; exact ps_le_w
  have h2 := hI.ord (Tu_in hi).1
  omega
theorem prp_succ {a : Sa} {gd i k : Nat} : prp a gd (i + 1) k = prp a gd i k - shp a gd i k := rfl
theorem rs_res {a : Sa} {p q v p' q' : Nat} (h : q < 64) (h' : q' < 64) : res (ua a 21 (64 * p + q) v) p' q' = if p' = p ∧ q' = q then v else res a p' q' := by
  unfold res
  rw [ua_at]
  by_cases e : p' = p ∧ q' = q
  · rw [if_pos e, if_pos ⟨rfl, by omega⟩]
  · rw [if_neg e, if_neg (by omega)]
theorem rs_Ir {a : Sa} (hr : Ir a) {p q v : Nat} (hq : q < 64) (hp : p < 65536) (h : p < a 0 3 ∧ q < a 0 4 ∧ a 18 q = 0 ∧ a 15 q = a 10 p) : Ir (ua a 21 (64 * p + q) v) := by
  have e : ∀ j i, j < 20 → ua a 21 (64 * p + q) v j i = a j i := fun j i hj => ua_nj (by omega)
  refine ⟨fun p' q' hq' hne => ?_, by rw [e 0 4 (by omega)]; exact hr.2⟩
  rw [rs_res hq hq'] at hne
  rw [e 0 3 (by omega), e 0 4 (by omega), e 18 _ (by omega), e 15 _ (by omega), e 10 _ (by omega)]
  by_cases z : p' = p ∧ q' = q
  · obtain ⟨rfl, rfl⟩ := z; exact h
  · rw [if_neg z] at hne; exact hr.1 p' q' hq' hne
theorem rs_Ib {a : Sa} (hb : Ib a) {p q v : Nat} (hq : q < 64) (hv : v ≤ 99) : Ib (ua a 21 (64 * p + q) v) := by
  intro p' q' hq'
  rw [rs_res hq hq']
  split
  · exact hv
  · exact hb p' q' hq'
