/-! what each sort of token says of the whole text -/
theorem TP_A {M M1 : Mm} {t : Nat → Nat} {n k p : Nat} {r : Int32} (hp : p = 0) (hk : k = 0) (hA : TIa M) (h : WdP M t n p 4 0 (gs 0) r M1) : TP M t n k p r M1 := by
  subst hp
  subst hk
  obtain ⟨h1, h2⟩ := h
  by_cases z : tkd t n 0 = 4
  · obtain ⟨e1, e2⟩ := h2 (Or.inl ⟨rfl, z⟩)
    rw [z] at e1 e2
    have hT : rT t n = fnL t n 4 0 (gs 0) (rstL t n 4 (gs 0) (nol 4 - 0) 0 (tnx t n 0) (fun _ => 0)) := rT_fn z
    refine ⟨0, e1, by omega, by rw [e2]; exact (FTk.w.tr FTk.w).tr FTk.w, fun _ => ⟨by omega, Or.inr (Or.inr ⟨4, 0, 0, gs 0, fun _ => 0, ⟨?_, ?_, ?_, ?_, fun i hi => absurd hi (Nat.not_lt_zero i), Nat.zero_le _, fun i hi => absurd hi (Nat.not_lt_zero i), rfl, Or.inl ⟨rfl, rfl, rfl, ?_⟩, hT⟩, by omega⟩)⟩, fun q => absurd rfl q⟩
    · rw [e2, wr_eq]
    · rw [e2, wr_ne (by omega), wr_ne (by omega), wr_ne (by omega)]; exact hA.2.1
    · rw [e2, wr_ne (by omega), wr_ne (by omega), wr_eq]
    · rw [e2, wr_ne (by omega), wr_eq]
    · rw [e2, Fo_1w (by decide), Fo_1w (by decide), Fo_1w (by decide)]; exact hA.2.2
  · obtain ⟨e1, e2⟩ := h1 (by omega)
    refine ⟨1, e1, by omega, by rw [e2]; exact FTk.rf, fun q => absurd q (by omega), fun _ => ?_⟩
    rw [rT_no (by rw [rG_1 z]; show ¬ 1 = 0; omega), rG_1 z]
    exact ⟨rfl, rfl⟩
theorem TP_W {M M1 : Mm} {t : Nat → Nat} {n k p s ln : Nat} {a : Sa} {r : Int32} (hW : TIw M t n p s ln a) (h0 : tkd t n p ≠ 0) (hk : k ≤ 6 * ln) (h : WdP M t n p s ln a r M1) : TP M t n k p r M1 := by
  obtain ⟨w1, w2, w3, w4, w5, w6, w7, w8, w9⟩ := hW
  obtain ⟨h1, h2⟩ := h
  have h7 := tkd_le (t := t) (n := n) (p := p)
  by_cases z : 4 < tkd t n p ∧ s ≤ tkd t n p
  · obtain ⟨e1, e2⟩ := h2 (Or.inr ⟨by omega, z.1, z.2⟩)
    have h5 : 5 ≤ tkd t n p := by omega
    have eR := w9.trans (rFF_fn w7 (show max 5 s ≤ tkd t n p by omega) h5)
    cases z2 : rmS (tkd t n p) a with
    | true =>
      rw [z2] at e1
      have hT : rT t n = fnL t n (tkd t n p) ln a (rstL t n (tkd t n p) a (nol (tkd t n p) - 0) 0 (tnx t n p) (fun _ => 0)) := by rw [eR, rLn_rst (v := fun _ => 0) h5 z2]; rfl
      refine ⟨0, e1, by omega, by rw [e2]; exact (FTk.w.tr FTk.w).tr FTk.w, fun _ => ⟨by omega, Or.inr (Or.inr ⟨tkd t n p, 0, ln, a, fun _ => 0, ⟨?_, ?_, ?_, ?_, fun i hi => absurd hi (Nat.not_lt_zero i), Nat.zero_le _, fun i hi => absurd hi (Nat.not_lt_zero i), z2, Or.inr ⟨by omega, h5, h7, ?_, w7, w8⟩, hT⟩, by omega⟩)⟩, fun q => absurd rfl q⟩
      · rw [e2, wr_eq]
      · rw [e2, wr_ne (by omega), wr_ne (by omega), wr_ne (by omega)]; exact w2
      · rw [e2, wr_ne (by omega), wr_ne (by omega), wr_eq]
      · rw [e2, wr_ne (by omega), wr_eq]
      · rw [e2, Fo_1w (by decide), Fo_1w (by decide), Fo_1w (by decide)]; exact w6
    | false =>
      rw [z2] at e1
      refine ⟨3, e1, by omega, by rw [e2]; exact (FTk.w.tr FTk.w).tr FTk.w, fun q => absurd q (by omega), fun _ => ?_⟩
      rw [eR, rLn_full h5 z2, fnL_no (by omega)]
      exact ⟨rfl, rfl⟩
  · obtain ⟨e1, e2⟩ := h1 (by omega)
    refine ⟨1, e1, by omega, by rw [e2]; exact FTk.rf, fun q => absurd q (by omega), fun _ => ?_⟩
    rw [w9, rFF_low w7 h0 (by omega)]
    exact ⟨rfl, rfl⟩
theorem TP_N {M M1 : Mm} {t : Nat → Nat} {n k p s c ln : Nat} {a : Sa} {v : Nat → Nat} {r : Int32} (hN : TIn M t n p s c ln a v) (hk : k ≤ 6 * ln + c + 1) (hcn : c < nol s) (h : NmP M t n p s c a (v 0) r M1) : TP M t n k p r M1 := by
  obtain ⟨n1, n2, n3, n4, n5, n6, n7, n8, n9, n10⟩ := hN
  obtain ⟨h1, h2⟩ := h
  rw [show nol s - c = (nol s - (c + 1)) + 1 by omega] at n10
  have n10 : rT t n = fnL t n s ln a (orB (nF t n p s c a (v 0)) (tpc t n p) a (rstL t n s a (nol s - (c + 1)) (c + 1) (tnx t n p) (upv v c (tvl t n p)))) := n10
  by_cases z : nF t n p s c a (v 0) = 0
  · obtain ⟨e1, e2⟩ := h2 z
    obtain ⟨k2, kt⟩ := nF_of z
    rw [orB_ok z] at n10
    refine ⟨0, e1, by omega, by rw [e2]; exact FTk.w.tr FTk.w, fun _ => ⟨by omega, Or.inr (Or.inr ⟨s, c + 1, ln, a, upv v c (tvl t n p), ⟨?_, ?_, ?_, ?_, ?_, hcn, ?_, n8, ?_, n10⟩, by omega⟩)⟩, fun q => absurd rfl q⟩
    · rw [e2, wr_ne (by omega), wr_ne (by omega)]; exact n1
    · rw [e2, wr_ne (by omega), wr_ne (by omega)]; exact n2
    · rw [e2, wr_ne (by omega), wr_ne (by omega)]; exact n3
    · rw [e2, wr_eq]
    · intro i hi
      rw [e2, wr_ne (by omega)]
      by_cases zi : i = c
      · subst zi; rw [wr_eq, upv_eq]
      · rw [wr_ne (by omega), upv_ne zi]; exact n5 i (by omega)
    · intro i hi
      by_cases zi : i = c
      · subst zi
        rw [upv_eq]
        refine ⟨?_, tvl_le k2⟩
        by_cases z0 : i = 0
        · subst z0
          rw [tld_0 (w' := v 0)]
          exact kt
        · rw [upv_ne (show 0 ≠ i by omega)]
          exact kt
      · rw [upv_ne zi, upv_ne (show 0 ≠ c by omega)]
        exact n7 i (by omega)
    · rw [e2, Fo_1w (by decide), Fo_1w (by decide)]; exact n9
  · obtain ⟨e1, e2⟩ := h1 z
    rw [orB_no z, fnL_no z] at n10
    have hle := nF_le (t := t) (n := n) (p := p) (s := s) (c := c) (w := v 0) (a := a)
    refine ⟨_, e1, by omega, by rw [e2]; exact FTk.rf, fun q => absurd q z, fun _ => ?_⟩
    rw [n10]
    exact ⟨rfl, rfl⟩
theorem TP_S {M M1 : Mm} {t : Nat → Nat} {n k p s c ln : Nat} {a : Sa} {v : Nat → Nat} {r : Int32} (hN : TIn M t n p s c ln a v) (hk : k ≤ 6 * ln + c + 1) (hcn : nol s ≤ c) (h : SpP M t n p s ln a v r M1) : TP M t n k p r M1 := by
  obtain ⟨n1, n2, n3, n4, n5, n6, n7, n8, n9, n10⟩ := hN
  obtain ⟨h1, h2⟩ := h
  have h4 := nol_le (s := s)
  rw [show nol s - c = 0 by omega] at n10
  have n10 : rT t n = fnL t n s ln a (orB (spF t n p) (tpc t n p) a (0, 0, tnx t n p, addS s a v)) := n10
  by_cases z : tkd t n p = 3
  · rw [orB_ok (spF_0 z), fnL_ok] at n10
    obtain ⟨e1, N, s1, s2, e2⟩ := h2 z
    have hs := DR_s n9
    have hL : Lm (addS s a v) ∧ cnt (addS s a v) + 1 = ln + 1 := by
      rcases n9 with ⟨q1, q2, q3, q4⟩ | ⟨q1, q2, q3, q4, q5, q6⟩
      · subst q2
        show Lm (gs (v 0)) ∧ cnt (gs (v 0)) + 1 = ln + 1
        exact ⟨gs_Lm, by rw [gs_cnt, q1]⟩
      · obtain ⟨y1, y2⟩ := addS_cnt (v := v) q2 q3 q5 n8
        exact ⟨y2, by omega⟩
    refine ⟨0, e1, by omega, by rw [e2]; exact ((FTk.fo s2).tr FTk.w).tr FTk.w, fun _ => ⟨by omega, Or.inr (Or.inl ⟨s, ln + 1, addS s a v, ⟨?_, ?_, ?_, by omega, by omega, ?_, hL.1, hL.2, n10⟩, by omega⟩)⟩, fun q => absurd rfl q⟩
    · rw [e2, wr_ne (by omega), wr_eq]
    · rw [e2, wr_eq]
    · rw [e2, wr_ne (by omega), wr_ne (by omega), s2.1 _ _ _ (by decide)]; exact n3
    · rw [e2, Fo_1w (by decide), Fo_1w (by decide)]; exact s1
  · obtain ⟨e1, e2⟩ := h1 z
    rw [spF_1 z, orB_no (by decide), fnL_no (by decide)] at n10
    refine ⟨1, e1, by omega, by rw [e2]; exact FTk.rf, fun q => absurd q (by omega), fun _ => ?_⟩
    rw [n10]
    exact ⟨rfl, rfl⟩
/-- the loop over tokens -/
def LI (M N : Mm) (t : Nat → Nat) (n k : Nat) : Prop := TC N t n ∧ FM M N ∧ ((N.1 15 0 7 = nI 0 ∧ ∃ p, p ≤ n ∧ N.1 14 0 1 = nI p ∧ TI N t n k p) ∨ (∃ f, f ≠ 0 ∧ f ≤ 3 ∧ N.1 15 0 7 = nI f ∧ (rT t n).1 = f ∧ N.1 15 0 8 = nI (rT t n).2.1))
theorem LI_step {M N2 N3 : Mm} {t : Nat → Nat} {n k p f : Nat} (hT2 : TC N2 t n) (hF2 : FM M N2) (hp : p ≤ n) (an : 2 ≤ tkd t n p → N2.1 14 0 1 = nI (tnx t n p)) (hf3 : f ≤ 3) (hFT : FTk N2 N3) (t0 : f = 0 → 2 ≤ tkd t n p ∧ TI N3 t n (k + 1) (tnx t n p)) (t1 : f ≠ 0 → (rT t n).1 = f ∧ (rT t n).2.1 = tpc t n p) :
    LI M (wr (wr N3 15 0 7 (nI f)) 15 0 8 (nI (tpc t n p))) t n (k + 1) := by
  have hF4 : FM N2 (wr (wr N3 15 0 7 (nI f)) 15 0 8 (nI (tpc t n p))) := (hFT.tr (FTk.w.tr FTk.w)).fm
  refine ⟨hF4.tc hT2, hF2.tr hF4, ?_⟩
  by_cases z : f = 0
  · obtain ⟨q1, q2⟩ := t0 z
    refine Or.inl ⟨?_, tnx t n p, tnx_le hp q1, ?_, ?_⟩
    · rw [wr_ne (by omega), wr_eq, z]
    · rw [wr_ne (by omega), wr_ne (by omega), hFT.1 _ _ _ (by decide) (by decide)]; exact an q1
    · refine TI_cong (M := N3) (fun c i hi => ?_) ?_ q2
      · rw [wr_ne (by omega), wr_ne (by omega)]
      · rw [Fo_1w (by decide), Fo_1w (by decide)]
  · obtain ⟨q1, q2⟩ := t1 z
    exact Or.inr ⟨f, z, hf3, by rw [wr_ne (by omega), wr_eq], q1, by rw [wr_eq, q2]⟩
def AnP (M : Mm) (R : Rd) (r : Int32) (M1 : Mm) : Prop := r = bi (decide (R.1 = 0)) ∧ (R.1 = 0 → SK (M1.1 1) R.2.2.2 ∧ M1.1 15 0 6 = nI R.2.2.1 ∧ M1.1 15 0 7 = nI 0) ∧ (R.1 ≠ 0 → M1.1 15 0 7 = nI R.1 ∧ M1.1 15 0 8 = nI R.2.1) ∧ FM M M1
