theorem first_cong {p q : Nat → Bool} : ∀ {n : Nat}, (∀ i, i < n → p i = q i) → fa_first p n = fa_first q n
  | 0, _ => rfl
  | n + 1, h => by
    have ih := first_cong (p := p) (q := q) (n := n) (fun i hi => h i (by omega))
    unfold fa_first
    rw [ih, h n (by omega)]
section AO
variable {a : Sa} {c gd s d : Nat}
theorem addO_keep {j i : Nat} (h : ¬ (j = 0 ∧ i = 4)) (h2 : ¬ (14 ≤ j ∧ j < 20 ∧ i = a 0 4)) : addO a c gd s d j i = a j i := by
  unfold addO
  rw [ua_ne (by omega), ua_ne (by omega), ua_ne (by omega), ua_ne (by omega), ua_ne (by omega), ua_ne (by omega), ua_ne (by omega)]
theorem addO_04 : addO a c gd s d 0 4 = a 0 4 + 1 := by unfold addO; rw [ua_eq]
theorem addO_14 : addO a c gd s d 14 (a 0 4) = c := by
  unfold addO
  rw [ua_ne (by omega), ua_ne (by omega), ua_ne (by omega), ua_ne (by omega), ua_ne (by omega), ua_ne (by omega), ua_eq]
theorem addO_15 : addO a c gd s d 15 (a 0 4) = gd := by
  unfold addO
  rw [ua_ne (by omega), ua_ne (by omega), ua_ne (by omega), ua_ne (by omega), ua_ne (by omega), ua_eq]
theorem addO_16 : addO a c gd s d 16 (a 0 4) = s := by
  unfold addO
  rw [ua_ne (by omega), ua_ne (by omega), ua_ne (by omega), ua_ne (by omega), ua_eq]
theorem addO_17 : addO a c gd s d 17 (a 0 4) = d := by
  unfold addO
  rw [ua_ne (by omega), ua_ne (by omega), ua_ne (by omega), ua_eq]
theorem addO_18 : addO a c gd s d 18 (a 0 4) = 0 := by
  unfold addO
  rw [ua_ne (by omega), ua_ne (by omega), ua_eq]
theorem addO_19 : addO a c gd s d 19 (a 0 4) = 0 := by
  unfold addO
  rw [ua_ne (by omega), ua_eq]
theorem addO_lo {j i : Nat} (h : ¬ (j = 0 ∧ i = 4)) (h2 : i < a 0 4 ∨ j < 14 ∨ 20 ≤ j) : addO a c gd s d j i = a j i := addO_keep h (by omega)
theorem Iv_addO (h : Iv a) (h40 : a 0 4 ≤ 40) (hc : c < a 0 2) (hg : gd < a 0 1) (hs1 : 1 ≤ s) (hs : s ≤ 99) (hd : d ≤ 999) (hno : asked a c gd = false) : Iv (addO a c gd s d) := by
  refine ⟨?_, ?_, ?_, ?_, ?_, ?_, fun c' hc' => ?_, fun i => ?_, fun l hl => ?_, fun o ho => ?_, fun o o' ho ho' h1 h2 h3 h4 => ?_⟩
  · rw [addO_lo (by omega) (by omega)]; exact h.today
  · rw [addO_lo (by omega) (by omega)]; exact h.g1
  · rw [addO_lo (by omega) (by omega)]; exact h.g4
  · rw [addO_lo (by omega) (by omega)]; exact h.c6
  · rw [addO_lo (by omega) (by omega)]; exact h.l24
  · rw [addO_04]; omega
  · rw [addO_lo (by omega) (by omega)] at hc'; rw [addO_lo (by omega) (by omega)]; exact h.life hc'
  · rw [addO_lo (by omega) (by omega)]; exact h.latest i
  · rw [addO_lo (by omega) (by omega)] at hl
    rw [addO_lo (by omega) (by omega), addO_lo (j := 0) (by omega) (by omega), addO_lo (by omega) (by omega), addO_lo (by omega) (by omega), addO_lo (by omega) (by omega)]; exact h.lot hl
  · rw [addO_04] at ho
    rw [addO_lo (j := 0) (i := 2) (by omega) (by omega), addO_lo (j := 0) (i := 1) (by omega) (by omega)]
    by_cases e : o = a 0 4
    · subst e
      rw [addO_14, addO_15, addO_16, addO_17, addO_18]
      exact ⟨hc, hg, hs1, hs, hd, by omega⟩
    · rw [addO_lo (by omega) (by omega), addO_lo (by omega) (by omega), addO_lo (by omega) (by omega), addO_lo (by omega) (by omega), addO_lo (by omega) (by omega)]; exact h.ord (by omega)
  · rw [addO_04] at ho ho'
    have hno' := asked_no hno
    by_cases e : o = a 0 4
    · by_cases e' : o' = a 0 4
      · omega
      · subst e
        rw [addO_14, addO_lo (by omega) (by omega)] at h3
        rw [addO_15, addO_lo (by omega) (by omega)] at h4
        rw [addO_lo (by omega) (by omega)] at h2
        exact absurd ⟨h3.symm, h4.symm, h2⟩ (hno' o' (by omega))
    · by_cases e' : o' = a 0 4
      · subst e'
        rw [addO_14, addO_lo (by omega) (by omega)] at h3
        rw [addO_15, addO_lo (by omega) (by omega)] at h4
        rw [addO_lo (by omega) (by omega)] at h1
        exact absurd ⟨h3, h4, h1⟩ (hno' o (by omega))
      · rw [addO_lo (by omega) (by omega), addO_lo (by omega) (by omega)] at h3 h4
        rw [addO_lo (by omega) (by omega)] at h1 h2
        exact h.one (by omega) (by omega) h1 h2 h3 h4
theorem EfB_addO (h : Iv a) (h40 : a 0 4 ≤ 40) (hc : c < a 0 2) (hg : gd < a 0 1) (hs1 : 1 ≤ s) (hs : s ≤ 99) (hd : d ≤ 999) (hno : asked a c gd = false) : EfB a (addO a c gd s d) gd (-1) 0 true c s d := by
  refine ⟨addO_lo (by omega) (by omega), fun j l h1 h2 => addO_lo (by omega) (by omega), fun i => addO_lo (by omega) (by omega), by rw [addO_04]; rfl, fun q j hq h1 h2 => addO_lo (by omega) (by omega), fun _ => ⟨addO_14, addO_15, addO_16, addO_17, addO_18, addO_lo (by omega) (by omega), hc⟩, fun q hq _ _ => ?_, Iv_addO h h40 hc hg hs1 hs hd hno⟩
  rw [if_neg (nI_nm1 (by omega)), addO_lo (by omega) (by omega)]
theorem tpos_addO (h40 : a 0 4 ≤ 40) : fa_first (fun i => decide (nm a (Tu (addO a c gd s d) gd i) = 40)) (TuN (addO a c gd s d) gd) = tpos (addO a c gd s d) gd (a 0 4) := by
  refine first_cong (fun i hi => ?_)
  have h1 := (Tu_in hi).1
  rw [addO_04] at h1
  rw [decide_eq_decide]
  unfold nm
  split <;> omega
theorem nm_in {q : Nat} (h : q < a 0 4) : nm a q = q := if_pos h
theorem nm_lt {q : Nat} (h : a 0 4 ≤ 41) : nm a q < 65536 := by unfold nm; split <;> omega
theorem cask_of {x y z w : Int32} (h : cask a x y z w = true) : ∃ c gd s d : Nat, x = nI c ∧ y = nI gd ∧ z = nI s ∧ w = nI d ∧ c < a 0 2 ∧ gd < a 0 1 ∧ 1 ≤ s ∧ s ≤ 99 ∧ a 0 0 ≤ d ∧ d ≤ a 0 0 + 99 := by
  unfold cask at h
  rw [Bool.and_eq_true, Bool.and_eq_true, Bool.and_eq_true] at h
  obtain ⟨⟨⟨h1, h2⟩, h3⟩, h4⟩ := h
  obtain ⟨c, hc, rfl⟩ := inr_of h1
  obtain ⟨gd, hg, rfl⟩ := inr_of h2
  obtain ⟨s, hs1, hs2, rfl⟩ := isin_of (by decide) (by decide) h3
  obtain ⟨d, hd1, hd2, rfl⟩ := ahead_of h4
  exact ⟨c, gd, s, d, rfl, rfl, rfl, rfl, hc, hg, hs1, hs2, hd1, hd2⟩
theorem Iv_life {v : Nat} (h : Iv a) (hv : v ≤ 99) : Iv (ua a 8 c v) := by
  have e : ∀ j i, j ≠ 8 → ua a 8 c v j i = a j i := fun j i hj => ua_ne (by omega)
  refine ⟨?_, ?_, ?_, ?_, ?_, ?_, fun c hc => ?_, fun i => ?_, fun l hll => ?_, fun o ho => ?_, fun o o' ho ho' h1 h2 h3 h4 => ?_⟩
  · rw [e 0 0 (by omega)]; exact h.today
  · rw [e 0 1 (by omega)]; exact h.g1
  · rw [e 0 1 (by omega)]; exact h.g4
  · rw [e 0 2 (by omega)]; exact h.c6
  · rw [e 0 3 (by omega)]; exact h.l24
  · rw [e 0 4 (by omega)]; exact h.o41
  · rw [e 0 2 (by omega)] at hc; have := h.life hc; rw [ua_at]; split <;> omega
  · rw [e 9 i (by omega)]; exact h.latest i
  · rw [e 0 3 (by omega)] at hll; rw [e 10 l (by omega), e 0 1 (by omega), e 11 l (by omega), e 12 l (by omega), e 13 l (by omega)]; exact h.lot hll
  · rw [e 0 4 (by omega)] at ho; rw [e 14 o (by omega), e 0 2 (by omega), e 15 o (by omega), e 0 1 (by omega), e 16 o (by omega), e 17 o (by omega), e 18 o (by omega)]; exact h.ord ho
  · rw [e 0 4 (by omega)] at ho ho'; rw [e 18 _ (by omega)] at h1 h2; rw [e 14 _ (by omega), e 14 _ (by omega)] at h3; rw [e 15 _ (by omega), e 15 _ (by omega)] at h4; exact h.one ho ho' h1 h2 h3 h4
theorem EfB_life {q n : Nat} (h : Iv a) (hq : q < a 0 4) (h18 : a 18 q = 0) : EfB a (ua a 8 (a 14 q) (a 8 (a 14 q) - n)) (a 15 q) (nI q) (a 8 (a 14 q) - n) false 0 0 0 := by
  have hl := h.life (h.ord hq).1
  have h41 := h.o41
  refine ⟨ua_ne (by omega), fun j l h1 h2 => ua_ne (by omega), fun i => ua_ne (by omega), ua_ne (by omega), fun q j _ h1 h2 => ua_ne (by omega), fun z => absurd z (by decide), fun q' hq' h18' h15' => ?_, Iv_life h (by omega)⟩
  by_cases e : q' = q
  · subst e; rw [if_pos rfl, ua_eq]
  · rw [if_neg (fun z => e ((nI_eq (by omega) (by omega)).mp z)), ua_ne (fun z => e (h.one hq' hq h18' h18 z.2 h15'))]
end AO
theorem A_slack_no {a : Sa} {y : Int32} (h : opn a y = false) : A_slack a y = -1 := by unfold A_slack; rw [if_neg (by rw [h]; decide)]
theorem A_slack_at {a : Sa} {q n : Nat} (h : opn a (nI q) = true) (hq : q < 65536) (hn : n < a 8 (a 14 q) + 1) (hf : fil a q n = true) (hb : ∀ i, i < n → ¬ fil a q i = true) : A_slack a (nI q) = nI n := by
  have e := first_eq (p := fil a q) hn hf (fun i hi => Bool.eq_false_iff.mpr (hb i hi))
  unfold A_slack
  rw [if_pos h, nI_clamp (by omega), e, if_pos hn]
theorem A_slack_none {a : Sa} {q : Nat} (h : opn a (nI q) = true) (hq : q < 65536) (hb : ∀ i, i < a 8 (a 14 q) + 1 → ¬ fil a q i = true) : A_slack a (nI q) = -2 := by
  unfold A_slack
  rw [if_pos h, nI_clamp (by omega), first_no (fun i hi => Bool.eq_false_iff.mpr (hb i hi)), if_neg (by omega)]
theorem A_would_no {a : Sa} {x y s d : Int32} (h : cask a x y s d = false) : A_would a x y s d = -1 := by unfold A_would; rw [if_neg (by rw [h]; decide)]
theorem A_would_a {a : Sa} {c gd : Nat} {s d : Int32} (h : cask a (nI c) (nI gd) s d = true) (hc : c < 65536) (hg : gd < 65536) (h2 : asked a c gd = true) : A_would a (nI c) (nI gd) s d = -2 := by
  unfold A_would; rw [if_pos h, nI_clamp (by omega), nI_clamp (by omega), if_pos h2]
theorem A_would_at {a : Sa} {c gd s d : Nat} (h : cask a (nI c) (nI gd) (nI s) (nI d) = true) (hc : c < 65536) (hg : gd < 65536) (hs : s < 65536) (hd : d < 65536) (h2 : asked a c gd = false) : A_would a (nI c) (nI gd) (nI s) (nI d) = nI (fb_sm (shp (addO a c gd s d) gd (tpos (addO a c gd s d) gd (a 0 4))) (AgN (addO a c gd s d) gd)) := by
  unfold A_would; rw [if_pos h, nI_clamp (by omega), nI_clamp (by omega), nI_clamp (by omega), nI_clamp (by omega), if_neg (by rw [h2]; decide)]
theorem shp_sum {a : Sa} (hI : Iv a) {gd i n : Nat} : fb_sm (shp a gd i) n ≤ a 16 (Tu a gd i) := by
  have h := ps_sum (fun k => ftp a gd k i) (prp a gd i) (a 16 (Tu a gd i)) n
  have h2 : fb_sm (shp a gd i) n = fb_sm (ps (fun k => ftp a gd k i) (prp a gd i) (a 16 (Tu a gd i))) n := rfl
  omega
