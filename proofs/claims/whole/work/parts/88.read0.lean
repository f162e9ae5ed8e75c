/-! what a text says: the fault of each token wanted, lines, the whole -/
noncomputable def addC (a : Sa) (v : Nat) : Sa := ua (ua a 8 (a 0 2) v) 0 2 (a 0 2 + 1)
noncomputable def gs (gd : Nat) : Sa := ua (fun _ _ => 0) 0 1 gd
abbrev Rd : Type := Nat × Nat × Nat × Sa
def nmF (t : Nat → Nat) (n p lo hx : Nat) : Nat := if tkd t n p = 2 then (if lo ≤ tvl t n p ∧ tvl t n p < hx then 0 else 2) else 1
def spF (t : Nat → Nat) (n p : Nat) : Nat := if tkd t n p = 3 then 0 else 1
def orB (f pl : Nat) (a : Sa) (k : Rd) : Rd := if f = 0 then k else (f, pl, 0, a)
theorem orB_ok {f pl : Nat} {a : Sa} {k : Rd} (h : f = 0) : orB f pl a k = k := if_pos h
theorem orB_no {f pl : Nat} {a : Sa} {k : Rd} (h : f ≠ 0) : orB f pl a k = (f, pl, 0, a) := if_neg h
def tx (t : Nat → Nat) (n p : Nat) : Nat → Nat
  | 0 => p
  | k + 1 => tnx t n (tx t n p k)
theorem nmF_1 {t : Nat → Nat} {n p lo hx : Nat} (h : ¬ tkd t n p = 2) : nmF t n p lo hx = 1 := if_neg h
theorem nmF_2 {t : Nat → Nat} {n p lo hx : Nat} (h : tkd t n p = 2) (h2 : ¬ (lo ≤ tvl t n p ∧ tvl t n p < hx)) : nmF t n p lo hx = 2 := by unfold nmF; rw [if_pos h, if_neg h2]
theorem nmF_0 {t : Nat → Nat} {n p lo hx : Nat} (h : tkd t n p = 2) (h2 : lo ≤ tvl t n p ∧ tvl t n p < hx) : nmF t n p lo hx = 0 := by unfold nmF; rw [if_pos h, if_pos h2]
theorem nmF_of {t : Nat → Nat} {n p lo hx : Nat} (h : nmF t n p lo hx = 0) : tkd t n p = 2 ∧ lo ≤ tvl t n p ∧ tvl t n p < hx := by
  unfold nmF at h
  split at h
  · split at h
    · next h1 h2 => exact ⟨h1, h2⟩
    · omega
  · omega
theorem spF_of {t : Nat → Nat} {n p : Nat} (h : spF t n p = 0) : tkd t n p = 3 := by
  unfold spF at h
  split at h
  · assumption
  · omega
theorem spF_0 {t : Nat → Nat} {n p : Nat} (h : tkd t n p = 3) : spF t n p = 0 := if_pos h
theorem spF_1 {t : Nat → Nat} {n p : Nat} (h : ¬ tkd t n p = 3) : spF t n p = 1 := if_neg h
noncomputable def rC (t : Nat → Nat) (n p : Nat) (a : Sa) : Rd := orB (nmF t n (tx t n p 0) 0 100) (tpc t n (tx t n p 0)) a (orB (spF t n (tx t n p 1)) (tpc t n (tx t n p 1)) a (0, 0, tx t n p 2, addC a (tvl t n (tx t n p 0))))
noncomputable def rL (t : Nat → Nat) (n p : Nat) (a : Sa) : Rd := orB (nmF t n (tx t n p 0) 0 (a 0 1)) (tpc t n (tx t n p 0)) a (orB (nmF t n (tx t n p 1) 0 100) (tpc t n (tx t n p 1)) a (orB (nmF t n (tx t n p 2) 1 100) (tpc t n (tx t n p 2)) a (orB (nmF t n (tx t n p 3) 0 100) (tpc t n (tx t n p 3)) a (orB (spF t n (tx t n p 4)) (tpc t n (tx t n p 4)) a (0, 0, tx t n p 5, addL a (tvl t n (tx t n p 0)) (tvl t n (tx t n p 1)) (tvl t n (tx t n p 2)) (tvl t n (tx t n p 3)))))))
noncomputable def akF (a : Sa) (c gd : Nat) : Nat := if asked a c gd then 2 else 0
theorem akF_0 {a : Sa} {c gd : Nat} (h : asked a c gd = false) : akF a c gd = 0 := if_neg (by rw [h]; decide)
theorem akF_2 {a : Sa} {c gd : Nat} (h : asked a c gd = true) : akF a c gd = 2 := if_pos h
noncomputable def rO (t : Nat → Nat) (n p : Nat) (a : Sa) : Rd := orB (nmF t n (tx t n p 0) 0 (a 0 2)) (tpc t n (tx t n p 0)) a (orB (nmF t n (tx t n p 1) 0 (a 0 1)) (tpc t n (tx t n p 1)) a (orB (akF a (tvl t n (tx t n p 0)) (tvl t n (tx t n p 1))) (tpc t n (tx t n p 1)) a (orB (nmF t n (tx t n p 2) 1 100) (tpc t n (tx t n p 2)) a (orB (nmF t n (tx t n p 3) 0 100) (tpc t n (tx t n p 3)) a (orB (spF t n (tx t n p 4)) (tpc t n (tx t n p 4)) a (0, 0, tx t n p 5, addO a (tvl t n (tx t n p 0)) (tvl t n (tx t n p 1)) (tvl t n (tx t n p 2)) (tvl t n (tx t n p 3))))))))
/-- the line that begins at p -/
noncomputable def rLn (t : Nat → Nat) (n p : Nat) (a : Sa) : Rd :=
  if tkd t n p = 5 then (if a 0 2 < 6 then rC t n (tnx t n p) a else (3, tpc t n p, 0, a))
  else if tkd t n p = 6 then (if a 0 3 < 12 then rL t n (tnx t n p) a else (3, tpc t n p, 0, a))
  else (if a 0 4 < 12 then rO t n (tnx t n p) a else (3, tpc t n p, 0, a))
/-- the lines from p on: fault, place, lines, state -/
noncomputable def rF (t : Nat → Nat) (n : Nat) : Nat → Nat → Nat → Nat → Sa → Rd
  | 0, _, p, ln, a => (1, tpc t n p, ln, a)
  | f + 1, least, p, ln, a => if tkd t n p = 0 then (0, 0, ln, a) else if tkd t n p < least then (1, tpc t n p, ln, a) else if (rLn t n p a).1 = 0 then rF t n f (tkd t n p) (rLn t n p a).2.2.1 (ln + 1) (rLn t n p a).2.2.2 else ((rLn t n p a).1, (rLn t n p a).2.1, ln, a)
def cnt (a : Sa) : Nat := a 0 2 + a 0 3 + a 0 4
def Lm (a : Sa) : Prop := a 0 2 ≤ 6 ∧ a 0 3 ≤ 12 ∧ a 0 4 ≤ 12
noncomputable def rFF (t : Nat → Nat) (n least p ln : Nat) (a : Sa) : Rd := rF t n (31 - cnt a) least p ln a
theorem rFF_u {t : Nat → Nat} {n least p ln : Nat} {a : Sa} (h : Lm a) : rFF t n least p ln a = if tkd t n p = 0 then (0, 0, ln, a) else if tkd t n p < least then (1, tpc t n p, ln, a) else if (rLn t n p a).1 = 0 then rF t n (30 - cnt a) (tkd t n p) (rLn t n p a).2.2.1 (ln + 1) (rLn t n p a).2.2.2 else ((rLn t n p a).1, (rLn t n p a).2.1, ln, a) := by
  unfold rFF
  have e : 31 - cnt a = (30 - cnt a) + 1 := by unfold cnt; obtain ⟨h1, h2, h3⟩ := h; omega
  rw [e]
  rfl
theorem addC_02 {a : Sa} {v : Nat} : addC a v 0 2 = a 0 2 + 1 := by unfold addC; rw [ua_eq]
theorem addC_8 {a : Sa} {v : Nat} : addC a v 8 (a 0 2) = v := by unfold addC; rw [ua_ne (by omega), ua_eq]
theorem addC_keep {a : Sa} {v j i : Nat} (h : ¬ (j = 0 ∧ i = 2)) (h2 : ¬ (j = 8 ∧ i = a 0 2)) : addC a v j i = a j i := by unfold addC; rw [ua_ne h, ua_ne h2]
theorem rC_st {t : Nat → Nat} {n p : Nat} {a : Sa} (h : (rC t n p a).1 = 0) : nmF t n (tx t n p 0) 0 100 = 0 ∧ spF t n (tx t n p 1) = 0 := by
  unfold rC at h
  by_cases z : nmF t n (tx t n p 0) 0 100 = 0
  · refine ⟨z, ?_⟩
    rw [orB_ok z] at h
    by_cases z2 : spF t n (tx t n p 1) = 0
    · exact z2
    · rw [orB_no z2] at h; exact absurd h z2
  · rw [orB_no z] at h; exact absurd h z
theorem rC_ok {t : Nat → Nat} {n p : Nat} {a : Sa} (h : (rC t n p a).1 = 0) : (rC t n p a).2.2.2 = addC a (tvl t n (tx t n p 0)) ∧ tvl t n (tx t n p 0) < 100 := by
  obtain ⟨h1, h2⟩ := rC_st h
  unfold rC
  rw [orB_ok h1, orB_ok h2]
  exact ⟨rfl, (nmF_of h1).2.2⟩
theorem orB_st {f pl : Nat} {a : Sa} {k : Rd} (h : (orB f pl a k).1 = 0) : f = 0 ∧ k.1 = 0 := by
  by_cases z : f = 0
  · rw [orB_ok z] at h; exact ⟨z, h⟩
  · rw [orB_no z] at h; exact absurd h z
theorem rL_ok {t : Nat → Nat} {n p : Nat} {a : Sa} (h : (rL t n p a).1 = 0) : ∃ g e s d, (rL t n p a).2.2.2 = addL a g e s d ∧ g < a 0 1 ∧ e < 100 ∧ s < 100 ∧ d < 100 := by
  unfold rL at h ⊢
  obtain ⟨h0, h⟩ := orB_st h
  obtain ⟨h1, h⟩ := orB_st h
  obtain ⟨h2, h⟩ := orB_st h
  obtain ⟨h3, h⟩ := orB_st h
  obtain ⟨h4, h⟩ := orB_st h
  rw [orB_ok h0, orB_ok h1, orB_ok h2, orB_ok h3, orB_ok h4]
  exact ⟨_, _, _, _, rfl, (nmF_of h0).2.2, (nmF_of h1).2.2, (nmF_of h2).2.2, (nmF_of h3).2.2⟩
theorem rO_ok {t : Nat → Nat} {n p : Nat} {a : Sa} (h : (rO t n p a).1 = 0) : ∃ c g s d, (rO t n p a).2.2.2 = addO a c g s d ∧ c < a 0 2 ∧ g < a 0 1 ∧ 1 ≤ s ∧ s < 100 ∧ d < 100 ∧ asked a c g = false := by
  unfold rO at h ⊢
  obtain ⟨h0, h⟩ := orB_st h
  obtain ⟨h1, h⟩ := orB_st h
  obtain ⟨hk, h⟩ := orB_st h
  obtain ⟨h2, h⟩ := orB_st h
  obtain ⟨h3, h⟩ := orB_st h
  obtain ⟨h4, h⟩ := orB_st h
  rw [orB_ok h0, orB_ok h1, orB_ok hk, orB_ok h2, orB_ok h3, orB_ok h4]
  refine ⟨_, _, _, _, rfl, (nmF_of h0).2.2, (nmF_of h1).2.2, (nmF_of h2).2.1, (nmF_of h2).2.2, (nmF_of h3).2.2, ?_⟩
  cases z : asked a (tvl t n (tx t n p 0)) (tvl t n (tx t n p 1)) with
  | false => rfl
  | true => rw [akF_2 z] at hk; omega
theorem rLn_cnt {t : Nat → Nat} {n p : Nat} {a : Sa} (hl : Lm a) (h : (rLn t n p a).1 = 0) : cnt (rLn t n p a).2.2.2 = cnt a + 1 ∧ Lm (rLn t n p a).2.2.2 := by
  obtain ⟨l1, l2, l3⟩ := hl
  unfold rLn at h ⊢
  split at h
  · next k =>
    rw [if_pos k]
    split at h
    · next z =>
      rw [if_pos z, (rC_ok h).1]
      unfold cnt Lm
      rw [addC_02, addC_keep (by omega) (by omega), addC_keep (by omega) (by omega)]
      omega
    · exact absurd h (by show ¬ 3 = 0; omega)
  · next k =>
    rw [if_neg k]
    split at h
    · next k2 =>
      rw [if_pos k2]
      split at h
      · next z =>
        obtain ⟨g, e, s, d, h1, _⟩ := rL_ok h
        rw [if_pos z, h1]
        unfold cnt Lm
        rw [addL_03, addL_keep (by omega) (by omega), addL_keep (by omega) (by omega)]
        omega
      · exact absurd h (by show ¬ 3 = 0; omega)
    · next k2 =>
      rw [if_neg k2]
      split at h
      · next z =>
        obtain ⟨g, e, s, d, h1, _⟩ := rO_ok h
        rw [if_pos z, h1]
        unfold cnt Lm
        rw [addO_04, addO_keep (by omega) (by omega), addO_keep (by omega) (by omega)]
        omega
      · exact absurd h (by show ¬ 3 = 0; omega)
theorem rFF_end {t : Nat → Nat} {n least p ln : Nat} {a : Sa} (h : Lm a) (h0 : tkd t n p = 0) : rFF t n least p ln a = (0, 0, ln, a) := by rw [rFF_u h, if_pos h0]
theorem rFF_low {t : Nat → Nat} {n least p ln : Nat} {a : Sa} (h : Lm a) (h0 : ¬ tkd t n p = 0) (h1 : tkd t n p < least) : rFF t n least p ln a = (1, tpc t n p, ln, a) := by rw [rFF_u h, if_neg h0, if_pos h1]
theorem rFF_bad {t : Nat → Nat} {n least p ln : Nat} {a : Sa} (h : Lm a) (h0 : ¬ tkd t n p = 0) (h1 : least ≤ tkd t n p) (h2 : ¬ (rLn t n p a).1 = 0) : rFF t n least p ln a = ((rLn t n p a).1, (rLn t n p a).2.1, ln, a) := by rw [rFF_u h, if_neg h0, if_neg (by omega), if_neg h2]
theorem rFF_ok {t : Nat → Nat} {n least p ln : Nat} {a : Sa} (h : Lm a) (h0 : ¬ tkd t n p = 0) (h1 : least ≤ tkd t n p) (h2 : (rLn t n p a).1 = 0) : rFF t n least p ln a = rFF t n (tkd t n p) (rLn t n p a).2.2.1 (ln + 1) (rLn t n p a).2.2.2 := by
  rw [rFF_u h, if_neg h0, if_neg (by omega), if_pos h2]
  unfold rFF
  rw [(rLn_cnt h h2).1, show 31 - (cnt a + 1) = 30 - cnt a by omega]
theorem rFF_up {t : Nat → Nat} {n least p ln : Nat} {a : Sa} (h : Lm a) (h1 : tkd t n p ≠ least) : rFF t n least p ln a = rFF t n (least + 1) p ln a := by
  rw [rFF_u h, rFF_u h]
  by_cases z : tkd t n p = 0
  · rw [if_pos z, if_pos z]
  · rw [if_neg z, if_neg z]
    by_cases z2 : tkd t n p < least
    · rw [if_pos z2, if_pos (by omega)]
    · rw [if_neg z2, if_neg (show ¬ tkd t n p < least + 1 by omega)]
theorem tkd_le {t : Nat → Nat} {n p : Nat} : tkd t n p ≤ 7 := by
  unfold tkd wkd
  repeat' split
  all_goals omega
/-- the line of goods, the whole text -/
noncomputable def rG (t : Nat → Nat) (n : Nat) : Rd :=
  if tkd t n 0 = 4 then orB (nmF t n (tx t n 0 1) 1 5) (tpc t n (tx t n 0 1)) (gs 0) (orB (spF t n (tx t n 0 2)) (tpc t n (tx t n 0 2)) (gs 0) (0, 0, tx t n 0 3, gs (tvl t n (tx t n 0 1)))) else (1, tpc t n 0, 0, gs 0)
theorem rG_1 {t : Nat → Nat} {n : Nat} (h : ¬ tkd t n 0 = 4) : rG t n = (1, tpc t n 0, 0, gs 0) := if_neg h
theorem rG_4 {t : Nat → Nat} {n : Nat} (h : tkd t n 0 = 4) : rG t n = orB (nmF t n (tx t n 0 1) 1 5) (tpc t n (tx t n 0 1)) (gs 0) (orB (spF t n (tx t n 0 2)) (tpc t n (tx t n 0 2)) (gs 0) (0, 0, tx t n 0 3, gs (tvl t n (tx t n 0 1)))) := if_pos h
noncomputable def rT (t : Nat → Nat) (n : Nat) : Rd := if (rG t n).1 = 0 then rFF t n 5 (rG t n).2.2.1 1 (rG t n).2.2.2 else rG t n
theorem rT_no {t : Nat → Nat} {n : Nat} (h : ¬ (rG t n).1 = 0) : rT t n = rG t n := if_neg h
theorem rT_ok {t : Nat → Nat} {n : Nat} (h : (rG t n).1 = 0) : rT t n = rFF t n 5 (rG t n).2.2.1 1 (rG t n).2.2.2 := if_pos h
theorem rLn_C {t : Nat → Nat} {n p : Nat} {a : Sa} (h : tkd t n p = 5) (hc : a 0 2 < 6) : rLn t n p a = rC t n (tnx t n p) a := by unfold rLn; rw [if_pos h, if_pos hc]
theorem rLn_C3 {t : Nat → Nat} {n p : Nat} {a : Sa} (h : tkd t n p = 5) (hc : ¬ a 0 2 < 6) : rLn t n p a = (3, tpc t n p, 0, a) := by unfold rLn; rw [if_pos h, if_neg hc]
theorem rLn_L {t : Nat → Nat} {n p : Nat} {a : Sa} (h : tkd t n p = 6) (hc : a 0 3 < 12) : rLn t n p a = rL t n (tnx t n p) a := by unfold rLn; rw [if_neg (by omega), if_pos h, if_pos hc]
theorem rLn_L3 {t : Nat → Nat} {n p : Nat} {a : Sa} (h : tkd t n p = 6) (hc : ¬ a 0 3 < 12) : rLn t n p a = (3, tpc t n p, 0, a) := by unfold rLn; rw [if_neg (by omega), if_pos h, if_neg hc]
theorem rLn_O {t : Nat → Nat} {n p : Nat} {a : Sa} (h : tkd t n p = 7) (hc : a 0 4 < 12) : rLn t n p a = rO t n (tnx t n p) a := by unfold rLn; rw [if_neg (by omega), if_neg (by omega), if_pos hc]
theorem rLn_O3 {t : Nat → Nat} {n p : Nat} {a : Sa} (h : tkd t n p = 7) (hc : ¬ a 0 4 < 12) : rLn t n p a = (3, tpc t n p, 0, a) := by unfold rLn; rw [if_neg (by omega), if_neg (by omega), if_neg hc]
theorem tvl_le {t : Nat → Nat} {n p : Nat} (h : tkd t n p = 2) : tvl t n p ≤ 99 := by
  by_cases z1 : 600 < n ∧ 600 ≤ tpl t n p
  · rw [(tk_600 z1.1 z1.2).1] at h; omega
  by_cases z2 : n ≤ tpl t n p
  · rw [(tk_end z1 z2).1] at h; omega
  by_cases z3 : t (tpl t n p) = 59
  · rw [(tk_stop z1 (by omega) z3).1] at h; omega
  rw [(tk_run z1 (by omega) z3).1] at h
  obtain ⟨h1, h2, h3⟩ := kdr_2 h
  unfold tvl
  generalize tpl t n p = q at *
  have hr := run_in (t := t) (n := n) (q := q)
  unfold nLt at h1; unfold nDg at h2 h3
  generalize hm : ren t n q - q = m at *
  have hd := dg_all hr h1
  have hl := run_len hr
  rcases (show m = 1 ∨ m = 2 by omega) with rfl | rfl
  · rw [if_pos rfl]
    have := of_decide_eq_true (hd 0 (by omega))
    rw [Nat.add_zero] at this
    omega
  · rw [if_neg (by omega)]
    have e0 := of_decide_eq_true (hd 0 (by omega))
    have e1 := of_decide_eq_true (hd 1 (by omega))
    rw [Nat.add_zero] at e0
    omega
theorem nI_le_m1 {e f : Nat} (he : e < 65536) (hf : f < 65536) : nI e ≤ nI f - 1 ↔ e < f := by
  have e1 : (nI f - 1).toInt = (f : Int) - 1 := by
    have := pk_sub_toInt (a := f) (b := 1) (by omega) (by omega)
    exact this
  rw [fa_le, e1, nI_toInt (by omega)]
  omega
/-- states that a text begins with -/
theorem gs_at {gd j i : Nat} : gs gd j i = if j = 0 ∧ i = 1 then gd else 0 := by unfold gs; rw [ua_at]
theorem gs_0 {gd j i : Nat} (h : ¬ (j = 0 ∧ i = 1)) : gs gd j i = 0 := by rw [gs_at, if_neg h]
theorem gs_1 {gd : Nat} : gs gd 0 1 = gd := by rw [gs_at, if_pos ⟨rfl, rfl⟩]
theorem gs_Lm {gd : Nat} : Lm (gs gd) := by unfold Lm; rw [gs_0 (by omega), gs_0 (by omega), gs_0 (by omega)]; omega
theorem gs_Ok {gd : Nat} (h1 : 1 ≤ gd) (h2 : gd ≤ 4) : Ok (gs gd) := by
  refine ⟨⟨by rw [gs_0 (by omega)]; omega, by rw [gs_1]; exact h1, by rw [gs_1]; exact h2, by rw [gs_0 (by omega)]; omega, by rw [gs_0 (by omega)]; omega, by rw [gs_0 (by omega)]; omega, fun c hc => ?_, fun i => by rw [gs_0 (by omega)]; omega, fun l hl => ?_, fun o ho => ?_, fun o o' ho => ?_⟩, ⟨fun p q hq hr => ?_, by rw [gs_0 (by omega)]; omega⟩, fun p hp => ?_⟩
  · rw [gs_0 (by omega)] at hc; omega
  · rw [gs_0 (by omega)] at hl; omega
  · rw [gs_0 (by omega)] at ho; omega
  · rw [gs_0 (by omega)] at ho; omega
  · unfold res at hr; rw [gs_0 (by omega)] at hr; omega
  · rw [gs_0 (by omega)] at hp; omega
theorem gs_RP {B : Nat → Nat → Int32} {gd : Nat} (h0 : ∀ k, k < 7 → B 0 k = if k = 1 then nI gd else nI 0) (h9 : ∀ i, i < 24 → B 9 i = -1) : RP B (gs gd) := by
  refine ⟨fun k hk => ?_, fun c hc => ?_, fun i hi => ?_, fun j _ _ l hl => ?_, fun j _ _ o ho => ?_, by rw [gs_0 (by omega)]; omega, by rw [gs_0 (by omega)]; omega, by rw [gs_0 (by omega)]; omega⟩
  · rw [h0 k hk, gs_at]; by_cases z : k = 1
    · rw [if_pos z, if_pos ⟨rfl, z⟩]
    · rw [if_neg z, if_neg (by omega)]
  · rw [gs_0 (by omega)] at hc; omega
  · rw [h9 i hi, gs_0 (by omega)]; rfl
  · rw [gs_0 (by omega)] at hl; omega
  · rw [gs_0 (by omega)] at ho; omega
theorem gs_RR {B : Nat → Nat → Int32} {gd : Nat} (h : ∀ i, i < 144 → B 20 i = nI 0) : RR B (gs gd) := by
  intro l hl c hc
  rw [h _ (by omega)]
  unfold rc
  rw [show gs gd 0 4 = 0 from gs_0 (by omega)]
  rfl
theorem gs_RM {N : Nat → Int32} {gd : Nat} (h : ∀ i, i < 1333 → N i = if i = 1 then nI gd else nI 0) : RM N (gs gd) := by
  refine ⟨fun k hk => ?_, fun c hc => ?_, fun c g hc hg => ?_, fun p j hp hj => ?_, fun q j hq hj => ?_, fun p q hp hq => ?_, by rw [gs_0 (by omega)]; omega, by rw [gs_0 (by omega)]; omega, by rw [gs_0 (by omega)]; omega⟩
  · rw [h k (by omega), gs_at]; by_cases z : k = 1
    · rw [if_pos z, if_pos ⟨rfl, z⟩]
    · rw [if_neg z, if_neg (by omega)]
  · rw [gs_0 (by omega)] at hc; omega
  · rw [h _ (by omega), if_neg (by omega), gs_0 (by omega)]
  · rw [gs_0 (by omega)] at hp; omega
  · rw [gs_0 (by omega)] at hq; omega
  · unfold res; rw [h _ (by omega), if_neg (by omega), gs_0 (by omega)]
/-- a customer more -/
theorem RP_addC {B B' : Nat → Nat → Int32} {a : Sa} {v : Nat} (hS : RP B a) (h6 : a 0 2 < 6) (hk : ∀ j i, j < 20 → ¬ (j = 0 ∧ i = 2) → ¬ (j = 8 ∧ i = a 0 2) → B' j i = B j i) (v0 : B' 0 2 = nI (a 0 2 + 1)) (v8 : B' 8 (a 0 2) = nI v) : RP B' (addC a v) := by
  have b3 := hS.l24
  have b4 := hS.o41
  refine ⟨fun k hk' => ?_, fun c hc => ?_, fun i hi => ?_, fun j h1 h2 l hl => ?_, fun j h1 h2 o ho => ?_, by rw [addC_02]; omega, by rw [addC_keep (by omega) (by omega)]; exact b3, by rw [addC_keep (by omega) (by omega)]; exact b4⟩
  · by_cases z : k = 2
    · subst z; rw [v0, addC_02]
    · rw [hk _ _ (by omega) (by omega) (by omega), addC_keep (by omega) (by omega)]; exact hS.sc hk'
  · rw [addC_02] at hc
    by_cases z : c = a 0 2
    · subst z; rw [v8, addC_8]
    · rw [hk _ _ (by omega) (by omega) (by omega), addC_keep (by omega) (by omega)]; exact hS.life (by omega)
  · rw [hk _ _ (by omega) (by omega) (by omega), addC_keep (by omega) (by omega)]; exact hS.latest hi
  · rw [addC_keep (by omega) (by omega)] at hl
    rw [hk _ _ (by omega) (by omega) (by omega), addC_keep (by omega) (by omega)]; exact hS.lot h1 h2 hl
  · rw [addC_keep (by omega) (by omega)] at ho
    rw [hk _ _ (by omega) (by omega) (by omega), addC_keep (by omega) (by omega)]; exact hS.ord h1 h2 ho
theorem rc_addC {a : Sa} {v p c : Nat} : rc (addC a v) p c = rc a p c := by
  unfold rc res
  rw [show addC a v 0 4 = a 0 4 from addC_keep (by omega) (by omega)]
  congr 1
  funext o
  rw [addC_keep (by omega) (by omega), addC_keep (by omega) (by omega), addC_keep (by omega) (by omega), addC_keep (by omega) (by omega), addC_keep (by omega) (by omega)]
theorem RR_addC {B B' : Nat → Nat → Int32} {a : Sa} {v : Nat} (hR : RR B a) (hB : ∀ i, B' 20 i = B 20 i) : RR B' (addC a v) := by
  intro p hp c hc
  rw [hB, rc_addC]
  exact hR p hp c hc
theorem Ok_addC {a : Sa} {v : Nat} (h : Ok a) (h6 : a 0 2 < 6) (hv : v ≤ 99) : Ok (addC a v) := by
  obtain ⟨hI, hr, hs⟩ := h
  have k := fun {j i : Nat} (h1 : ¬ (j = 0 ∧ i = 2)) (h2 : ¬ (j = 8 ∧ i = a 0 2)) => addC_keep (a := a) (v := v) h1 h2
  refine ⟨⟨by rw [k (by omega) (by omega)]; exact hI.today, by rw [k (by omega) (by omega)]; exact hI.g1, by rw [k (by omega) (by omega)]; exact hI.g4, by rw [addC_02]; omega, by rw [k (by omega) (by omega)]; exact hI.l24, by rw [k (by omega) (by omega)]; exact hI.o41, fun c hc => ?_, fun i => by rw [k (by omega) (by omega)]; exact hI.latest i, fun l hl => ?_, fun o ho => ?_, fun o o' ho ho' => ?_⟩, ⟨fun p q hq hrr => ?_, by rw [k (by omega) (by omega)]; exact hr.2⟩, fun p hp => ?_⟩
  · rw [addC_02] at hc
    by_cases z : c = a 0 2
    · subst z; rw [addC_8]; exact hv
    · rw [k (by omega) (by omega)]; exact hI.life (by omega)
  · rw [k (by omega) (by omega)] at hl
    rw [k (by omega) (by omega), k (by omega) (by omega), k (by omega) (by omega), k (by omega) (by omega), k (by omega) (by omega)]; exact hI.lot hl
  · rw [k (by omega) (by omega)] at ho
    rw [addC_02, k (by omega) (by omega), k (by omega) (by omega), k (by omega) (by omega), k (by omega) (by omega), k (by omega) (by omega), k (by omega) (by omega)]
    have := hI.ord ho
    omega
  · rw [k (by omega) (by omega)] at ho ho'
    rw [k (by omega) (by omega), k (by omega) (by omega), k (by omega) (by omega), k (by omega) (by omega), k (by omega) (by omega), k (by omega) (by omega)]
    exact fun h1 h2 h3 h4 => hI.one ho ho' h1 h2 h3 h4
  · unfold res at hrr
    rw [k (by omega) (by omega)] at hrr
    rw [k (by omega) (by omega), k (by omega) (by omega), k (by omega) (by omega), k (by omega) (by omega), k (by omega) (by omega)]
    exact hr.1 p q hq hrr
  · rw [k (by omega) (by omega)] at hp
    rw [k (by omega) (by omega), k (by omega) (by omega), show res (addC a v) p = res a p from funext (fun o => by unfold res; rw [k (by omega) (by omega)])]
    exact hs p hp
theorem RM_addC {N N' : Nat → Int32} {a : Sa} {v : Nat} (hN : RM N a) (h6 : a 0 2 < 6) (hk : ∀ i, i ≠ 2 → i ≠ 7 + 5 * a 0 2 → N' i = N i) (h2 : N' 2 = nI (a 0 2 + 1)) (v0 : N' (7 + 5 * a 0 2) = nI v) : RM N' (addC a v) := by
  have b3 := hN.l24
  have b4 := hN.o40
  refine ⟨fun k hk' => ?_, fun c hc => ?_, fun c gd hc hg => ?_, fun p j hp hj => ?_, fun q j hq hj => ?_, fun p q hp hq => ?_, by rw [addC_02]; omega, by rw [addC_keep (by omega) (by omega)]; exact b3, by rw [addC_keep (by omega) (by omega)]; exact b4⟩
  · by_cases z : k = 2
    · subst z; rw [h2, addC_02]
    · rw [hk _ (by omega) (by omega), addC_keep (by omega) (by omega)]; exact hN.sc hk'
  · rw [addC_02] at hc
    by_cases z : c = a 0 2
    · subst z; rw [v0, addC_8]
    · rw [hk _ (by omega) (by omega), addC_keep (by omega) (by omega)]; exact hN.life (by omega)
  · rw [hk _ (by omega) (by omega), addC_keep (by omega) (by omega)]; exact hN.latest hc hg
  · rw [addC_keep (by omega) (by omega)] at hp
    rw [hk _ (by omega) (by omega), addC_keep (by omega) (by omega)]; exact hN.lot hp hj rfl
  · rw [addC_keep (by omega) (by omega)] at hq
    rw [hk _ (by omega) (by omega), addC_keep (by omega) (by omega)]; exact hN.ord hq hj rfl
  · unfold res; rw [hk _ (by omega) (by omega), addC_keep (by omega) (by omega)]; exact hN.res hp hq
theorem rLn_Ok {t : Nat → Nat} {n p : Nat} {a : Sa} (hl : Lm a) (ho : Ok a) (h : (rLn t n p a).1 = 0) : Ok (rLn t n p a).2.2.2 := by
  obtain ⟨l1, l2, l3⟩ := hl
  unfold rLn at h ⊢
  split at h
  · next k =>
    rw [if_pos k]
    split at h
    · next z =>
      obtain ⟨e, e2⟩ := rC_ok h
      rw [if_pos z, e]
      exact Ok_addC ho z (by omega)
    · exact absurd h (by show ¬ 3 = 0; omega)
  · next k =>
    rw [if_neg k]
    split at h
    · next k2 =>
      rw [if_pos k2]
      split at h
      · next z =>
        obtain ⟨g, e, s, d, h1, h2, h3, h4, h5⟩ := rL_ok h
        rw [if_pos z, h1]
        exact Ok_addL ho (by omega) h2 (by omega) (by omega) (by omega)
      · exact absurd h (by show ¬ 3 = 0; omega)
    · next k2 =>
      rw [if_neg k2]
      split at h
      · next z =>
        obtain ⟨g, e, s, d, h1, h2, h3, h4, h5, h6, h7⟩ := rO_ok h
        rw [if_pos z, h1]
        exact Ok_addO ho (by omega) h2 h3 h4 (by omega) (by omega) h7
      · exact absurd h (by show ¬ 3 = 0; omega)
