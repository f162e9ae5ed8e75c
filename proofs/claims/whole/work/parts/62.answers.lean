/-! what each call answers, by the state -/
def rof (a : Sa) (p : Nat) : Nat := fb_sm (res a p) (a 0 4)
def nw (a : Sa) (sm tp : Nat) : Nat → Nat
  | 0 => a 0 0 | 1 => a 0 1 | 2 => a 0 2 | 3 => a 0 3 | 4 => a 0 4
  | 5 => fb_ct (fun i => decide (a 18 i = 0)) (a 0 4)
  | 6 => fb_sm (a 12) (a 0 3)
  | 7 => fb_sm (fun p => fb_sm (res a p) (a 0 4)) (a 0 3)
  | 8 => a 0 5 | 9 => a 0 6 | 10 => sm | _ => tp
def A_now (a : Sa) (sm tp : Nat) (x : Int32) : Int32 := if inr x 12 = true then nI (nw a sm tp x.toNatClampNeg) else -1
def T_lot (a : Sa) (x w : Int32) : Bool := !(inr x (a 0 3) && inr w 5)
def V_lot (a : Sa) (p k : Nat) : Nat := if k < 4 then a (10 + k) p else rof a p
def T_ord (a : Sa) (x w : Int32) : Bool := !(inr x (a 0 4) && inr w 7)
def V_ord (a : Sa) (q k : Nat) : Nat := if k < 5 then a (14 + k) q else if k = 5 then ro a q else a 19 q
def A_res (a : Sa) (x y : Int32) : Int32 := if inr x (a 0 3) = true ∧ inr y (a 0 4) = true then nI (res a x.toNatClampNeg y.toNatClampNeg) else -1
def A_cus (a : Sa) (x y : Int32) : Int32 := if inr x (a 0 2) = true then (if y = -1 then nI (a 8 x.toNatClampNeg) else if inr y (a 0 1) = true then nI (a 9 (x.toNatClampNeg * 4 + y.toNatClampNeg)) - 1 else -1) else -1
def A_suits (a : Sa) (x y : Int32) : Bool := inr x (a 0 3) && opn a y && fit a x.toNatClampNeg y.toNatClampNeg
def A_plan (a : Sa) (x y : Int32) : Int32 := if (x = -1 ∨ inr x (a 0 3) = true) ∧ opn a y = true then (if x = -1 then nI (fb_sm (shp a (a 15 y.toNatClampNeg) (tpos a (a 15 y.toNatClampNeg) y.toNatClampNeg)) (AgN a (a 15 y.toNatClampNeg))) else nI (if apos a (a 15 y.toNatClampNeg) x.toNatClampNeg < AgN a (a 15 y.toNatClampNeg) then shp a (a 15 y.toNatClampNeg) (tpos a (a 15 y.toNatClampNeg) y.toNatClampNeg) (apos a (a 15 y.toNatClampNeg) x.toNatClampNeg) else 0)) else -1
def A_waste (a : Sa) (x d : Int32) : Int32 := if inr x (a 0 1) = true ∧ ahead a d = true then nI (fb_sm (fun p => if a 10 p = x.toNatClampNeg ∧ a 11 p ≤ d.toNatClampNeg then a 12 p - rof a p else 0) (a 0 3)) else -1
def A_least (a : Sa) (x d : Int32) : Int32 := if inr x (a 0 1) = true ∧ ahead a d = true then nI (fb_sm (fun k => if a 11 (Ag a x.toNatClampNeg k) ≤ d.toNatClampNeg then prp a x.toNatClampNeg (TuN a x.toNatClampNeg) k else 0) (AgN a x.toNatClampNeg)) else -1
def cask (a : Sa) (c gd s d : Int32) : Bool := inr c (a 0 2) && inr gd (a 0 1) && isin s (nI 1) (nI 99) && ahead a d
def asked (a : Sa) (c gd : Nat) : Bool := decide (0 < fb_ct (fun i => decide (a 14 i = c ∧ a 15 i = gd ∧ a 18 i = 0)) (a 0 4))
noncomputable def addO (a : Sa) (c gd s d : Nat) : Sa := ua (ua (ua (ua (ua (ua (ua a 14 (a 0 4) c) 15 (a 0 4) gd) 16 (a 0 4) s) 17 (a 0 4) d) 18 (a 0 4) 0) 19 (a 0 4) 0) 0 4 (a 0 4 + 1)
noncomputable def addL (a : Sa) (gd e s h : Nat) : Sa := ua (ua (ua (ua (ua a 10 (a 0 3) gd) 11 (a 0 3) e) 12 (a 0 3) s) 13 (a 0 3) h) 0 3 (a 0 3 + 1)
noncomputable def A_would (a : Sa) (c gd s d : Int32) : Int32 := if cask a c gd s d = true then (if asked a c.toNatClampNeg gd.toNatClampNeg = true then -2 else nI (fb_sm (shp (addO a c.toNatClampNeg gd.toNatClampNeg s.toNatClampNeg d.toNatClampNeg) gd.toNatClampNeg (tpos (addO a c.toNatClampNeg gd.toNatClampNeg s.toNatClampNeg d.toNatClampNeg) gd.toNatClampNeg (a 0 4))) (AgN (addO a c.toNatClampNeg gd.toNatClampNeg s.toNatClampNeg d.toNatClampNeg) gd.toNatClampNeg))) else -1
/-- whether an order has all by so many days less of its customer's life -/
noncomputable def fil (a : Sa) (q n : Nat) : Bool := decide (fb_sm (shp (ua a 8 (a 14 q) (a 8 (a 14 q) - n)) (a 15 q) (tpos (ua a 8 (a 14 q) (a 8 (a 14 q) - n)) (a 15 q) q)) (AgN (ua a 8 (a 14 q) (a 8 (a 14 q) - n)) (a 15 q)) = a 16 q)
noncomputable def A_slack (a : Sa) (y : Int32) : Int32 := if opn a y = true then (if fa_first (fil a y.toNatClampNeg) (a 8 (a 14 y.toNatClampNeg) + 1) < a 8 (a 14 y.toNatClampNeg) + 1 then nI (fa_first (fil a y.toNatClampNeg) (a 8 (a 14 y.toNatClampNeg) + 1)) else -2) else -1
theorem asked_f {a : Sa} {c gd : Nat} (h : ∀ i, i < a 0 4 → ¬ (a 14 i = c ∧ a 15 i = gd ∧ a 18 i = 0)) : asked a c gd = false := by
  refine decide_eq_false (fun z => ?_)
  rw [fb_ct_zero.mpr (fun k hk => decide_eq_false (h k hk))] at z
  exact Nat.lt_irrefl 0 z
theorem asked_t {a : Sa} {c gd i : Nat} (hi : i < a 0 4) (h : a 14 i = c ∧ a 15 i = gd ∧ a 18 i = 0) : asked a c gd = true :=
  decide_eq_true (fb_ct_pos.mpr ⟨i, hi, decide_eq_true h⟩)
theorem asked_no {a : Sa} {c gd : Nat} (h : asked a c gd = false) : ∀ i, i < a 0 4 → ¬ (a 14 i = c ∧ a 15 i = gd ∧ a 18 i = 0) := by
  intro i hi z
  rw [asked_t hi z] at h
  exact absurd h (by decide)
theorem nm_tpos {a b : Sa} {gd x y : Nat} {i : Nat} (h : ∀ i, i < TuN b gd → (nm a (Tu b gd i) = y ↔ Tu b gd i = x)) (hi : i < TuN b gd) (hy : nm a (Tu b gd i) = y) (hf : ∀ j, j < i → ¬ nm a (Tu b gd j) = y) : tpos b gd x = i :=
  first_eq hi (decide_eq_true ((h i hi).mp hy)) (fun j hj => decide_eq_false (fun z => hf j hj ((h j (by omega)).mpr z)))
theorem A_now_at {a : Sa} {sm tp k : Nat} (h : k < 12) : A_now a sm tp (nI k) = nI (nw a sm tp k) := by
  unfold A_now; rw [if_pos (inr_nI h (by decide)), nI_clamp (by omega)]
theorem A_now_no {a : Sa} {sm tp : Nat} {x : Int32} (h : inr x 12 = false) : A_now a sm tp x = -1 := by
  unfold A_now; rw [if_neg (by rw [h]; decide)]
theorem inr_out {x : Int32} {N : Nat} (h : inr x N = false) : x.toInt < 0 ∨ (N : Int) - 1 < x.toInt := by
  have := of_decide_eq_false h
  omega
theorem isin_inr5 {x : Int32} {k : Nat} (hk : k < 65536) : isin x (nI 0) (nI k) = inr x (k + 1) := by
  unfold isin inr
  have e0 : (nI 0).toInt = 0 := rfl
  rw [decide_eq_decide, fa_le, fa_le, e0, nI_toInt (by omega)]
  omega
theorem A_res_at {a : Sa} {p q : Nat} (hp : p < a 0 3) (hq : q < a 0 4) (h3 : a 0 3 ≤ 24) (h4 : a 0 4 ≤ 40) : A_res a (nI p) (nI q) = nI (res a p q) := by
  unfold A_res; rw [if_pos ⟨inr_nI hp (by omega), inr_nI hq (by omega)⟩, nI_clamp (by omega), nI_clamp (by omega)]
theorem A_res_no {a : Sa} {x y : Int32} (h : inr x (a 0 3) = false ∨ inr y (a 0 4) = false) : A_res a x y = -1 := by
  unfold A_res; rw [if_neg]; rintro ⟨h1, h2⟩
  rcases h with h | h
  · rw [h] at h1; exact absurd h1 (by decide)
  · rw [h] at h2; exact absurd h2 (by decide)
theorem A_cus_no {a : Sa} {x y : Int32} (h : inr x (a 0 2) = false) : A_cus a x y = -1 := by
  unfold A_cus; rw [if_neg (by rw [h]; decide)]
theorem A_cus_l {a : Sa} {c : Nat} {y : Int32} (hc : c < a 0 2) (h6 : a 0 2 ≤ 6) (hy : y = -1) : A_cus a (nI c) y = nI (a 8 c) := by
  unfold A_cus; rw [if_pos (inr_nI hc (by omega)), if_pos hy, nI_clamp (by omega)]
theorem A_cus_g {a : Sa} {c gd : Nat} (hc : c < a 0 2) (h6 : a 0 2 ≤ 6) (hg : gd < a 0 1) (h4 : a 0 1 ≤ 4) : A_cus a (nI c) (nI gd) = nI (a 9 (c * 4 + gd)) - 1 := by
  unfold A_cus; rw [if_pos (inr_nI hc (by omega)), if_neg (nI_nm1 (by omega)), if_pos (inr_nI hg (by omega)), nI_clamp (by omega), nI_clamp (by omega)]
theorem A_cus_n {a : Sa} {c : Nat} {y : Int32} (hc : c < a 0 2) (h6 : a 0 2 ≤ 6) (hy : ¬ y = -1) (h : inr y (a 0 1) = false) : A_cus a (nI c) y = -1 := by
  unfold A_cus; rw [if_pos (inr_nI hc (by omega)), if_neg hy, if_neg (by rw [h]; decide)]
theorem A_suits_at {a : Sa} {p q : Nat} (hp : p < a 0 3) (h3 : a 0 3 ≤ 24) (hq : q < 65536) (ho : opn a (nI q) = true) : A_suits a (nI p) (nI q) = fit a p q := by
  unfold A_suits; rw [inr_nI hp (by omega), ho, nI_clamp (by omega), nI_clamp (by omega)]; rfl
theorem A_plan_no {a : Sa} {x y : Int32} (h : (¬ x = -1 ∧ inr x (a 0 3) = false) ∨ opn a y = false) : A_plan a x y = -1 := by
  unfold A_plan; rw [if_neg]; rintro ⟨h1, h2⟩
  rcases h with ⟨z1, z2⟩ | h
  · rcases h1 with h1 | h1
    · exact z1 h1
    · rw [z2] at h1; exact absurd h1 (by decide)
  · rw [h] at h2; exact absurd h2 (by decide)
theorem A_plan_all {a : Sa} {x : Int32} {q : Nat} (hx : x = -1) (hq : q < 65536) (ho : opn a (nI q) = true) : A_plan a x (nI q) = nI (fb_sm (shp a (a 15 q) (tpos a (a 15 q) q)) (AgN a (a 15 q))) := by
  unfold A_plan; rw [if_pos ⟨Or.inl hx, ho⟩, if_pos hx, nI_clamp (by omega)]
theorem A_plan_one {a : Sa} {p q : Nat} (hp : p < a 0 3) (h3 : a 0 3 ≤ 24) (hq : q < 65536) (ho : opn a (nI q) = true) : A_plan a (nI p) (nI q) = nI (if apos a (a 15 q) p < AgN a (a 15 q) then shp a (a 15 q) (tpos a (a 15 q) q) (apos a (a 15 q) p) else 0) := by
  unfold A_plan; rw [if_pos ⟨Or.inr (inr_nI hp (by omega)), ho⟩, if_neg (nI_nm1 (by omega)), nI_clamp (by omega), nI_clamp (by omega)]
theorem A_waste_no {a : Sa} {x d : Int32} (h : (inr x (a 0 1) && ahead a d) = false) : A_waste a x d = -1 := by
  unfold A_waste; rw [if_neg]; rintro ⟨h1, h2⟩; rw [h1, h2] at h; exact absurd h (by decide)
theorem A_least_no {a : Sa} {x d : Int32} (h : (inr x (a 0 1) && ahead a d) = false) : A_least a x d = -1 := by
  unfold A_least; rw [if_neg]; rintro ⟨h1, h2⟩; rw [h1, h2] at h; exact absurd h (by decide)
theorem A_waste_at {a : Sa} {gd d : Nat} (h1 : inr (nI gd) (a 0 1) = true) (h2 : ahead a (nI d) = true) (hg : gd < 65536) (hd : d < 65536) : A_waste a (nI gd) (nI d) = nI (fb_sm (fun p => if a 10 p = gd ∧ a 11 p ≤ d then a 12 p - rof a p else 0) (a 0 3)) := by
  unfold A_waste; rw [if_pos ⟨h1, h2⟩, nI_clamp (by omega), nI_clamp (by omega)]
theorem A_least_at {a : Sa} {gd d : Nat} (h1 : inr (nI gd) (a 0 1) = true) (h2 : ahead a (nI d) = true) (hg : gd < 65536) (hd : d < 65536) : A_least a (nI gd) (nI d) = nI (fb_sm (fun k => if a 11 (Ag a gd k) ≤ d then prp a gd (TuN a gd) k else 0) (AgN a gd)) := by
  unfold A_least; rw [if_pos ⟨h1, h2⟩, nI_clamp (by omega), nI_clamp (by omega)]
theorem wok {a : Sa} {x d : Int32} (h : (inr x (a 0 1) && ahead a d) = true) : ∃ gd j : Nat, gd < a 0 1 ∧ x = nI gd ∧ a 0 0 ≤ j ∧ j ≤ a 0 0 + 99 ∧ d = nI j ∧ inr x (a 0 1) = true ∧ ahead a d = true := by
  rw [Bool.and_eq_true] at h
  obtain ⟨gd, h1, h2⟩ := inr_of h.1
  obtain ⟨j, h3, h4, h5⟩ := ahead_of h.2
  exact ⟨gd, j, h1, h2, h3, h4, h5, h.1, h.2⟩
