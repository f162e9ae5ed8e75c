theorem RP_addO {B B' : Nat → Nat → Int32} {a : Sa} {c gd s d : Nat} (hS : RP B a) (h41 : a 0 4 < 41) (hk : ∀ j i, j < 20 → ¬ (j = 0 ∧ i = 4) → ¬ (14 ≤ j ∧ j < 20 ∧ i = a 0 4) → B' j i = B j i) (v0 : B' 0 4 = nI (a 0 4 + 1)) (v14 : B' 14 (a 0 4) = nI c) (v15 : B' 15 (a 0 4) = nI gd) (v16 : B' 16 (a 0 4) = nI s) (v17 : B' 17 (a 0 4) = nI d) (v18 : B' 18 (a 0 4) = nI 0) (v19 : B' 19 (a 0 4) = nI 0) : RP B' (addO a c gd s d) := by
  have b2 := hS.c6
  have b3 := hS.l24
  refine ⟨fun k hk' => ?_, fun c hc => ?_, fun i hi => ?_, fun j h1 h2 l hl => ?_, fun j h1 h2 o ho => ?_, ?_, ?_, ?_⟩
  · by_cases z : k = 4
    · subst z; rw [v0, addO_04]
    · rw [hk 0 k (by omega) (by omega) (by omega), addO_keep (by omega) (by omega)]; exact hS.sc hk'
  · rw [addO_keep (by omega) (by omega)] at hc
    rw [hk 8 c (by omega) (by omega) (by omega), addO_keep (by omega) (by omega)]; exact hS.life hc
  · rw [hk 9 i (by omega) (by omega) (by omega), addO_keep (by omega) (by omega)]; exact hS.latest hi
  · rw [addO_keep (by omega) (by omega)] at hl
    rw [hk j l (by omega) (by omega) (by omega), addO_keep (by omega) (by omega)]; exact hS.lot h1 h2 hl
  · rw [addO_04] at ho
    by_cases z : o = a 0 4
    · subst z
      rcases (show j = 14 ∨ j = 15 ∨ j = 16 ∨ j = 17 ∨ j = 18 ∨ j = 19 by omega) with rfl | rfl | rfl | rfl | rfl | rfl
      · rw [v14, addO_14]
      · rw [v15, addO_15]
      · rw [v16, addO_16]
      · rw [v17, addO_17]
      · rw [v18, addO_18]
      · rw [v19, addO_19]
    · rw [hk j o (by omega) (by omega) (by omega), addO_keep (by omega) (by omega)]; exact hS.ord h1 h2 (by omega)
  · rw [addO_keep (by omega) (by omega)]; exact b2
  · rw [addO_keep (by omega) (by omega)]; exact b3
  · rw [addO_04]; omega
theorem RP_addL {B B' : Nat → Nat → Int32} {a : Sa} {gd e s t : Nat} (hS : RP B a) (h24 : a 0 3 < 24) (hk : ∀ j i, j < 20 → ¬ (j = 0 ∧ i = 3) → ¬ (10 ≤ j ∧ j < 14 ∧ i = a 0 3) → B' j i = B j i) (v0 : B' 0 3 = nI (a 0 3 + 1)) (v10 : B' 10 (a 0 3) = nI gd) (v11 : B' 11 (a 0 3) = nI e) (v12 : B' 12 (a 0 3) = nI s) (v13 : B' 13 (a 0 3) = nI t) : RP B' (addL a gd e s t) := by
  have b2 := hS.c6
  have b4 := hS.o41
  refine ⟨fun k hk' => ?_, fun c hc => ?_, fun i hi => ?_, fun j h1 h2 l hl => ?_, fun j h1 h2 o ho => ?_, ?_, ?_, ?_⟩
  · by_cases z : k = 3
    · subst z; rw [v0, addL_03]
    · rw [hk 0 k (by omega) (by omega) (by omega), addL_keep (by omega) (by omega)]; exact hS.sc hk'
  · rw [addL_keep (by omega) (by omega)] at hc
    rw [hk 8 c (by omega) (by omega) (by omega), addL_keep (by omega) (by omega)]; exact hS.life hc
  · rw [hk 9 i (by omega) (by omega) (by omega), addL_keep (by omega) (by omega)]; exact hS.latest hi
  · rw [addL_03] at hl
    by_cases z : l = a 0 3
    · subst z
      rcases (show j = 10 ∨ j = 11 ∨ j = 12 ∨ j = 13 by omega) with rfl | rfl | rfl | rfl
      · rw [v10, addL_10]
      · rw [v11, addL_11]
      · rw [v12, addL_12]
      · rw [v13, addL_13]
    · rw [hk j l (by omega) (by omega) (by omega), addL_keep (by omega) (by omega)]; exact hS.lot h1 h2 (by omega)
  · rw [addL_keep (by omega) (by omega)] at ho
    rw [hk j o (by omega) (by omega) (by omega), addL_keep (by omega) (by omega)]; exact hS.ord h1 h2 ho
  · rw [addL_keep (by omega) (by omega)]; exact b2
  · rw [addL_03]; omega
  · rw [addL_keep (by omega) (by omega)]; exact b4
theorem RR_addO {B B' : Nat → Nat → Int32} {a : Sa} {c gd s d : Nat} (hR : RR B a) (hr : Ir a) (hB : ∀ i, B' 20 i = B 20 i) : RR B' (addO a c gd s d) := by
  intro l hl c' hc'
  have h40 := hr.2
  rw [hB, hR l hl c' hc']
  congr 1
  unfold rc
  rw [addO_04, fb_sm_succ]
  have e : ∀ p q, res (addO a c gd s d) p q = res a p q := fun p q => addO_keep (by omega) (by omega)
  rw [e l (a 0 4), res_0 hr (by omega) (by omega), show (if addO a c gd s d 14 (a 0 4) = c' ∧ addO a c gd s d 18 (a 0 4) = 0 ∧ addO a c gd s d 15 (a 0 4) = addO a c gd s d 10 l then 0 else 0) = 0 by split <;> rfl]
  show fb_sm _ (a 0 4) = fb_sm _ (a 0 4)
  apply fb_sm_cong
  intro o ho
  rw [e, addO_lo (j := 14) (by omega) (by omega), addO_lo (j := 18) (by omega) (by omega), addO_lo (j := 15) (by omega) (by omega), addO_lo (j := 10) (by omega) (by omega)]
theorem RR_addL {B B' : Nat → Nat → Int32} {a : Sa} {gd e s t : Nat} (hR : RR B a) (hr : Ir a) (hB : ∀ i, B' 20 i = B 20 i) : RR B' (addL a gd e s t) := by
  intro l hl c' hc'
  have h40 := hr.2
  rw [hB, hR l hl c' hc']
  congr 1
  unfold rc
  rw [addL_keep (j := 0) (i := 4) (by omega) (by omega)]
  apply fb_sm_cong
  intro o ho
  have er : res (addL a gd e s t) l o = res a l o := addL_keep (by omega) (by omega)
  rw [er, addL_keep (j := 14) (by omega) (by omega), addL_keep (j := 18) (by omega) (by omega), addL_keep (j := 15) (by omega) (by omega)]
  by_cases z : l = a 0 3
  · rw [res_0 hr (p := l) (q := o) (by omega) (by omega)]
    split <;> split <;> rfl
  · rw [addL_keep (j := 10) (by omega) (by omega)]
theorem nI_half {x : Nat} (h : x < 65536) : nI x / nI 2 = nI (x / 2) := by
  rw [fa_eq, Int32.toInt_div_of_ne_right _ _ (by decide), nI_toInt (n := x) (by omega), nI_toInt (n := 2) (by omega), nI_toInt (n := x / 2) (by omega), Int.tdiv_eq_ediv_of_nonneg (by omega)]
  omega
