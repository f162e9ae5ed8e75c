def l3 (x y z : Int32) : Int64 := (27 : Int64) * ((27 : Int64) * (x.toInt64 - 96) + y.toInt64 - 96) + z.toInt64 - 96
def FRd (M M1 : Mm) : Prop := ∀ o' c' i', ¬ (o' = 18 ∧ (c' = 13 ∨ (c' = 0 ∧ 4 ≤ i' ∧ i' ≤ 9))) → M1.1 o' c' i' = M.1 o' c' i'
theorem FRd.rf {M : Mm} : FRd M M := fun _ _ _ _ => rfl
theorem FRd.tr {M M1 M2 : Mm} (h : FRd M M1) (h2 : FRd M1 M2) : FRd M M2 := fun o' c' i' z => (h2 o' c' i' z).trans (h o' c' i' z)
theorem FG.frd {M M1 : Mm} (h : FG M M1) : FRd M M1 := fun o' c' i' z => h o' c' i' (by omega)
theorem FRd.w8 {M : Mm} {i : Nat} {x : Int32} (h : 4 ≤ i ∧ i ≤ 9) : FRd M (wr M 18 0 i x) := fun o' c' i' z => wr_ne (by omega)
theorem FRd.w13 {M : Mm} {i : Nat} {x : Int32} : FRd M (wr M 18 13 i x) := fun o' c' i' z => wr_ne (by omega)
theorem FRd.ts {M M1 : Mm} {t : Nat → Nat} {n : Nat} (h : FRd M M1) (hT : TS M t n) : TS M1 t n := ⟨(h _ _ _ (by omega)).trans hT.1, fun i hi => (h _ _ _ (by omega)).trans (hT.2 i hi)⟩
def Z45 (N : Nat → Int32) : Prop := ∀ q, q < 40 → N (133 + 6 * q + 4) = nI 0 ∧ N (133 + 6 * q + 5) = nI 0
theorem wr13 {M : Mm} {x i : Nat} {v : Int32} : (wr M 18 13 x v).1 18 13 i = if i = x then v else M.1 18 13 i := by
  rw [wr_at]
  by_cases z : i = x
  · rw [if_pos ⟨rfl, rfl, z⟩, if_pos z]
  · rw [if_neg (by omega), if_neg z]
theorem isin_nm {v lo hx : Nat} (h1 : v < 65536) (h2 : lo < 65536) (h3 : hx < 65536) : isin (nI v) (nI lo) (nI hx - 1) = decide (lo ≤ v ∧ v < hx) := by
  unfold isin
  rw [decide_eq_decide, nI_le_m1 h1 h3, fa_le, nI_toInt (by omega), nI_toInt (by omega)]
  omega

set_option maxHeartbeats 4000000 in
set_option maxRecDepth 100000 in
theorem c_X7_three {l : Launch} {D : va_G} {g : Nat → Nat → Nat} {ca : Nat → ClassId} {M : Mm} (x y z : Int32) : Ct l D g ca md_X7_three [.int x, .int y, .int z] M (Rl (fun r M1 => r = l3 x y z ∧ M1 = M)) := by
  refine Ct.of (by decide) rfl (Nat.le_of_ble_eq_true rfl) ?_
  show G l D g ca md_X7_three 0 [(0, .int x), (1, .int y), (2, .int z)] [] M _
  refine g_ldc2 3 (27) dX7_three_0 rfl lX7_48 ?_
  refine g_ldc2 6 (27) dX7_three_3 rfl lX7_48 ?_
  refine g_iload_n 7 0 dX7_three_6 rfl rfl ?_
  refine g_i2l 8 ((x).toInt64) dX7_three_7 rfl rfl ?_
  refine g_ldc2 11 (96) dX7_three_8 rfl lX7_50 ?_
  refine g_lsub 12 (((x).toInt64) - 96) dX7_three_11 rfl rfl ?_
  refine g_lmul 13 (27 * (((x).toInt64) - 96)) dX7_three_12 rfl rfl ?_
  refine g_iload_n 14 1 dX7_three_13 rfl rfl ?_
  refine g_i2l 15 ((y).toInt64) dX7_three_14 rfl rfl ?_
  refine g_ladd 16 ((27 * (((x).toInt64) - 96)) + ((y).toInt64)) dX7_three_15 rfl rfl ?_
  refine g_ldc2 19 (96) dX7_three_16 rfl lX7_50 ?_
  refine g_lsub 20 (((27 * (((x).toInt64) - 96)) + ((y).toInt64)) - 96) dX7_three_19 rfl rfl ?_
  refine g_lmul 21 (27 * (((27 * (((x).toInt64) - 96)) + ((y).toInt64)) - 96)) dX7_three_20 rfl rfl ?_
  refine g_iload_n 22 2 dX7_three_21 rfl rfl ?_
  refine g_i2l 23 ((z).toInt64) dX7_three_22 rfl rfl ?_
  refine g_ladd 24 ((27 * (((27 * (((x).toInt64) - 96)) + ((y).toInt64)) - 96)) + ((z).toInt64)) dX7_three_23 rfl rfl ?_
  refine g_ldc2 27 (96) dX7_three_24 rfl lX7_50 ?_
  refine g_lsub 28 (((27 * (((27 * (((x).toInt64) - 96)) + ((y).toInt64)) - 96)) + ((z).toInt64)) - 96) dX7_three_27 rfl rfl ?_
  exact g_lret rfl dX7_three_28 ⟨rfl, rfl⟩

set_option maxHeartbeats 4000000 in
set_option maxRecDepth 100000 in
theorem c_X7_isWord {l : Launch} {D : va_G} {g : Nat → Nat → Nat} {ca : Nat → ClassId} {M : Mm} {t : Nat → Nat} {n p : Nat} (hK : HK M t n p) (k : Nat) (h4 : 4 ≤ k) (h7 : k ≤ 7) : Ct l D g ca md_X7_isWord [.ref (g 18 0), .long (Wn8 k)] M (Ri (fun r M1 => r = bi (decide (tkd t n p = k)) ∧ M1 = M)) := by
  refine Ct.of (by decide) rfl (Nat.le_of_ble_eq_true rfl) ?_
  obtain ⟨hK5, hK4, hK7, s, hs, hs4, hs0, hs3, hs9, hs1, hsw⟩ := hK
  show G l D g ca md_X7_isWord 0 [(0, .ref (g 18 0)), (1, .long (Wn8 k))] [] M _
  refine g_aload_n 1 0 dX7_isWord_0 rfl rfl ?_
  refine g_get 4 (nI s) dX7_isWord_1 rfl fX7_27 rfl (by decide) rfl hs ?_
  refine g_iconst 5 (nI 2) dX7_isWord_4 rfl rfl ?_
  refine g_icmpN_ne 21 8 dX7_isWord_5 rfl rfl (by omega) (by omega) (fun c5 => ?_) (fun c5 => ?_)
  · refine g_iconst 22 (nI 0) dX7_isWord_21 rfl rfl ?_
    exact g_zret rfl dX7_isWord_22 rfl ⟨by rw [decide_eq_false (fun z => by have h9 := (hsw k h4 h7).mpr z; first | exact c5 h9.1 | exact c14 ((lg_cmp_eq _ _).mpr h9.2))]; rfl, rfl⟩
  · refine g_aload_n 9 0 dX7_isWord_8 rfl rfl ?_
    refine g_getl 12 ((M.2)) dX7_isWord_9 rfl fX7_37 rfl (by decide) rfl rfl ?_
    refine g_lload_n 13 1 dX7_isWord_12 rfl rfl ?_
    refine g_lcmp 14 (lg_cmp (M.2) (Wn8 k)) dX7_isWord_13 rfl rfl ?_
    refine g_if_ne 21 17 dX7_isWord_14 rfl rfl (fun c14 => ?_) (fun c14 => ?_)
    · refine g_iconst 22 (nI 0) dX7_isWord_21 rfl rfl ?_
      exact g_zret rfl dX7_isWord_22 rfl ⟨by rw [decide_eq_false (fun z => by have h9 := (hsw k h4 h7).mpr z; first | exact c5 h9.1 | exact c14 ((lg_cmp_eq _ _).mpr h9.2))]; rfl, rfl⟩
    · refine g_iconst 18 (nI 1) dX7_isWord_17 rfl rfl ?_
      refine g_goto 22 dX7_isWord_18 rfl ?_
      exact g_zret rfl dX7_isWord_22 rfl ⟨by rw [decide_eq_true ((hsw k h4 h7).mp ⟨c5, (lg_cmp_eq _ _).mp c14⟩)]; rfl, rfl⟩

set_option maxHeartbeats 4000000 in
set_option maxRecDepth 100000 in
theorem c_X7_bad {l : Launch} {D : va_G} {g : Nat → Nat → Nat} {ca : Nat → ClassId} {M : Mm} {t : Nat → Nat} {n p : Nat} (hK : HK M t n p) (f : Nat) (hf : f = 1 ∨ tkd t n p ≠ 1) : Ct l D g ca md_X7_bad [.ref (g 18 0), .int (nI f)] M (Ri (fun r M1 => r = bi false ∧ M1.1 18 0 8 = nI f ∧ M1.1 18 0 9 = nI (tpc t n p) ∧ (∀ o' c' i', ¬ (o' = 18 ∧ c' = 0 ∧ (i' = 8 ∨ i' = 9)) → M1.1 o' c' i' = M.1 o' c' i'))) := by
  refine Ct.of (by decide) rfl (Nat.le_of_ble_eq_true rfl) ?_
  obtain ⟨hK5, hK4, hK7, s, hs, hs4, hs0, hs3, hs9, hs1, hsw⟩ := hK
  show G l D g ca md_X7_bad 0 [(0, .ref (g 18 0)), (1, .int (nI f))] [] M _
  refine g_aload_n 1 0 dX7_bad_0 rfl rfl ?_
  refine g_aload_n 2 0 dX7_bad_1 rfl rfl ?_
  refine g_get 5 (nI s) dX7_bad_2 rfl fX7_27 rfl (by decide) rfl hs ?_
  refine g_iconst 6 (nI 1) dX7_bad_5 rfl rfl ?_
  refine g_icmpN_ne 13 9 dX7_bad_6 rfl rfl (by omega) (by omega) (fun c6 => ?_) (fun c6 => ?_)
  · refine g_iload_n 14 1 dX7_bad_13 rfl rfl ?_
    refine g_put 17 dX7_bad_14 rfl fX7_52 pX7_8 rfl (by decide) rfl ?_
    refine g_aload_n 18 0 dX7_bad_17 rfl rfl ?_
    refine g_aload_n 19 0 dX7_bad_18 rfl rfl ?_
    refine g_get 22 (nI (tpc t n p)) dX7_bad_19 rfl fX7_24 rfl (by decide) rfl ((wr_ne (by omega)).trans hK5) ?_
    refine g_put 25 dX7_bad_22 rfl fX7_55 pX7_9 rfl (by decide) rfl ?_
    refine g_iconst 26 (nI 0) dX7_bad_25 rfl rfl ?_
    exact g_zret rfl dX7_bad_26 rfl ⟨rfl, (wr_ne (by omega)).trans wr_eq, wr_eq, fun o' c' i' z => (wr_ne (by omega)).trans (wr_ne (by omega))⟩
  · refine g_iconst 10 (nI 1) dX7_bad_9 rfl rfl ?_
    refine g_goto 14 dX7_bad_10 rfl ?_
    refine g_put 17 dX7_bad_14 rfl fX7_52 pX7_8 rfl (by decide) rfl ?_
    refine g_aload_n 18 0 dX7_bad_17 rfl rfl ?_
    refine g_aload_n 19 0 dX7_bad_18 rfl rfl ?_
    refine g_get 22 (nI (tpc t n p)) dX7_bad_19 rfl fX7_24 rfl (by decide) rfl ((wr_ne (by omega)).trans hK5) ?_
    refine g_put 25 dX7_bad_22 rfl fX7_55 pX7_9 rfl (by decide) rfl ?_
    refine g_iconst 26 (nI 0) dX7_bad_25 rfl rfl ?_
    have hf1 : f = 1 := by
      rcases hf with h9 | h9
      · exact h9
      · exact absurd (hs1 c6) h9
    exact g_zret rfl dX7_bad_26 rfl ⟨rfl, (wr_ne (by omega)).trans (by rw [hf1]; exact wr_eq), wr_eq, fun o' c' i' z => (wr_ne (by omega)).trans (wr_ne (by omega))⟩

theorem frd_bad {M M1 : Mm} (h : ∀ o' c' i', ¬ (o' = 18 ∧ c' = 0 ∧ (i' = 8 ∨ i' = 9)) → M1.1 o' c' i' = M.1 o' c' i') : FRd M M1 := fun o' c' i' z => h o' c' i' (by omega)

set_option maxHeartbeats 4000000 in
set_option maxRecDepth 100000 in
theorem c_X7_told {l : Launch} {D : va_G} {g : Nat → Nat → Nat} {ca : Nat → ClassId} {M : Mm} {t : Nat → Nat} {n p : Nat} (hT : TS M t n) (hB : Tb t n) (hK : HK M t n p) (hp : p ≤ n) (at' : Nat) (hat : at' < 1333) (lo hx : Nat) (hlo : lo ≤ 100) (hhx : hx ≤ 100) : Ct l D g ca md_X7_told [.ref (g 18 0), .int (nI (at')), .int (nI lo), .int (nI hx - 1)] M (Ri (fun r M1 => (nmF t n p lo hx = 0 → r = bi true ∧ HK M1 t n (tnx t n p) ∧ (∀ i, M1.1 18 13 i = if i = at' then nI (tvl t n p) else M.1 18 13 i) ∧ M1.1 18 0 8 = M.1 18 0 8) ∧ (nmF t n p lo hx ≠ 0 → r = bi false ∧ M1.1 18 0 8 = nI (nmF t n p lo hx) ∧ M1.1 18 0 9 = nI (tpc t n p)) ∧ FRd M M1)) := by
  refine Ct.of (by decide) rfl (Nat.le_of_ble_eq_true rfl) ?_
  have hK0 := hK
  obtain ⟨hK5, hK4, hK7, s, hs, hs4, hs0, hs3, hs9, hs1, hsw⟩ := hK
  show G l D g ca md_X7_told 0 [(0, .ref (g 18 0)), (1, .int (nI (at'))), (2, .int (nI lo)), (3, .int (nI hx - 1))] [] M _
  refine g_aload_n 1 0 dX7_told_0 rfl rfl ?_
  refine g_get 4 (nI s) dX7_told_1 rfl fX7_27 rfl (by decide) rfl hs ?_
  refine g_iconst 5 (nI 3) dX7_told_4 rfl rfl ?_
  refine g_icmpN_eq 14 8 dX7_told_5 rfl rfl (by omega) (by omega) (fun c5 => ?_) (fun c5 => ?_)
  · have hv9 := tvl_le (hs3.mp c5)
    refine g_aload_n 15 0 dX7_told_14 rfl rfl ?_
    refine g_get 18 (nI (tvl t n p)) dX7_told_15 rfl fX7_41 rfl (by decide) rfl (hK7 (hs3.mp c5)) ?_
    refine g_iload_n 19 2 dX7_told_18 rfl rfl ?_
    refine g_iload_n 20 3 dX7_told_19 rfl rfl ?_
    refine g_callSi 23 md_X7_isIn [.int (nI (tvl t n p)), .int (nI lo), .int (nI hx - 1)] [] dX7_told_20 rfl e_X7_told_101 rfl rfl (Nat.le_of_ble_eq_true rfl) (c_X7_isIn (nI (tvl t n p)) (nI lo) (nI hx - 1)) (fun r20 M20 h20 => ?_)
    obtain ⟨rfl, h20⟩ := h20
    have h20 := h20.symm
    subst h20
    refine g_ifB_ne 32 26 dX7_told_23 rfl rfl (fun c23 => ?_) (fun c23 => ?_)
    · have hin := c23
      rw [isin_nm (by omega) (by omega) (by omega)] at hin
      have hin := of_decide_eq_true hin
      refine g_aload_n 33 0 dX7_told_32 rfl rfl ?_
      refine g_geta 36 13 dX7_told_33 rfl fX7_67 rfl (by decide) rfl rfl ?_
      refine g_iload_n 37 1 dX7_told_36 rfl rfl ?_
      refine g_aload_n 38 0 dX7_told_37 rfl rfl ?_
      refine g_get 41 (nI (tvl t n p)) dX7_told_38 rfl fX7_41 rfl (by decide) rfl (hK7 (hs3.mp c5)) ?_
      refine g_iast 42 dX7_told_41 rfl rfl (by decide) rfl (by decide) (by omega) ?_
      refine g_aload_n 43 0 dX7_told_42 rfl rfl ?_
      refine g_callVv 46 md_X7_go [] [] dX7_told_43 rfl e_X7_told_105 rfl (by decide) rfl rfl (Nat.le_of_ble_eq_true rfl) (c_X7_go ((FRd.w13 (M := M)).ts hT) hB ((wr_ne (by omega)).trans (hK4 (by have := hs3.mp c5; omega))) (tnx_le hp (by have := hs3.mp c5; omega))) (fun N h43 => ?_)
      obtain ⟨gK, gF⟩ := h43
      refine g_iconst 47 (nI 1) dX7_told_46 rfl rfl ?_
      exact g_zret rfl dX7_told_47 rfl (by rw [nmF_0 (hs3.mp c5) hin]; exact ⟨fun _ => ⟨rfl, gK, fun i => by rw [gF _ _ _ (by omega), wr13], by rw [gF _ _ _ (by omega), wr_ne (by omega)]⟩, fun z => absurd rfl z, FRd.w13.tr gF.frd⟩)
    · refine g_aload_n 27 0 dX7_told_26 rfl rfl ?_
      refine g_iconst 28 (nI 2) dX7_told_27 rfl rfl ?_
      refine g_callVi 31 md_X7_bad [.int (nI 2)] [] dX7_told_28 rfl e_X7_told_98 rfl (by decide) rfl rfl (Nat.le_of_ble_eq_true rfl) (c_X7_bad hK0 2 (Or.inr (by have := hs3.mp c5; omega))) (fun r28 N28 h28 => ?_)
      obtain ⟨rfl, b8, b9, bF⟩ := h28
      exact g_zret rfl dX7_told_31 (bi_nar _) (by rw [nmF_2 (hs3.mp c5) (fun z => by rw [isin_nm (by omega) (by omega) (by omega), decide_eq_true z] at c23; exact absurd c23 (by decide))]; exact ⟨fun z => absurd z (by decide), fun _ => ⟨rfl, b8, b9⟩, frd_bad bF⟩)
  · refine g_aload_n 9 0 dX7_told_8 rfl rfl ?_
    refine g_iconst 10 (nI 1) dX7_told_9 rfl rfl ?_
    refine g_callVi 13 md_X7_bad [.int (nI 1)] [] dX7_told_10 rfl e_X7_told_98 rfl (by decide) rfl rfl (Nat.le_of_ble_eq_true rfl) (c_X7_bad hK0 1 (Or.inl rfl)) (fun r10 N10 h10 => ?_)
    obtain ⟨rfl, b8, b9, bF⟩ := h10
    exact g_zret rfl dX7_told_13 (bi_nar _) (by rw [nmF_1 (fun z => c5 (hs3.mpr z))]; exact ⟨fun z => absurd z (by decide), fun _ => ⟨rfl, b8, b9⟩, frd_bad bF⟩)

theorem c_X7_tell {l : Launch} {D : va_G} {g : Nat → Nat → Nat} {ca : Nat → ClassId} {M : Mm} {x : Int32} {t : Nat → Nat} {n p : Nat} (hT : TS M t n) (hB : Tb t n) (hK : HK M t n p) (hp : p ≤ n) (at' : Nat) (hat : at' < 1333) (lo hx : Nat) (hlo : lo ≤ 100) (hhx : hx ≤ 100) (ex : nI hx - 1 = x) : Ct l D g ca md_X7_told [.ref (g 18 0), .int (nI at'), .int (nI lo), .int x] M (Ri (fun r M1 => (nmF t n p lo hx = 0 → r = bi true ∧ HK M1 t n (tnx t n p) ∧ (∀ i, M1.1 18 13 i = if i = at' then nI (tvl t n p) else M.1 18 13 i) ∧ M1.1 18 0 8 = M.1 18 0 8) ∧ (nmF t n p lo hx ≠ 0 → r = bi false ∧ M1.1 18 0 8 = nI (nmF t n p lo hx) ∧ M1.1 18 0 9 = nI (tpc t n p)) ∧ FRd M M1)) := by
  subst ex
  exact c_X7_told hT hB hK hp at' hat lo hx hlo hhx

set_option maxHeartbeats 4000000 in
set_option maxRecDepth 100000 in
theorem c_X7_readEnd {l : Launch} {D : va_G} {g : Nat → Nat → Nat} {ca : Nat → ClassId} {M : Mm} {t : Nat → Nat} {n p : Nat} (hT : TS M t n) (hB : Tb t n) (hK : HK M t n p) (hp : p ≤ n) : Ct l D g ca md_X7_readEnd [.ref (g 18 0)] M (Ri (fun r M1 => r = bi (decide (spF t n p = 0)) ∧ (spF t n p = 0 → HK M1 t n (tnx t n p) ∧ M1.1 18 0 8 = M.1 18 0 8) ∧ (spF t n p ≠ 0 → M1.1 18 0 8 = nI (spF t n p) ∧ M1.1 18 0 9 = nI (tpc t n p)) ∧ (∀ i, M1.1 18 13 i = M.1 18 13 i) ∧ FRd M M1)) := by
  refine Ct.of (by decide) rfl (Nat.le_of_ble_eq_true rfl) ?_
  have hK0 := hK
  obtain ⟨hK5, hK4, hK7, s, hs, hs4, hs0, hs3, hs9, hs1, hsw⟩ := hK
  show G l D g ca md_X7_readEnd 0 [(0, .ref (g 18 0))] [] M _
  refine g_aload_n 1 0 dX7_readEnd_0 rfl rfl ?_
  refine g_get 4 (nI s) dX7_readEnd_1 rfl fX7_27 rfl (by decide) rfl hs ?_
  refine g_iconst 5 (nI 4) dX7_readEnd_4 rfl rfl ?_
  refine g_icmpN_eq 14 8 dX7_readEnd_5 rfl rfl (by omega) (by omega) (fun c5 => ?_) (fun c5 => ?_)
  · refine g_aload_n 15 0 dX7_readEnd_14 rfl rfl ?_
    refine g_callVv 18 md_X7_go [] [] dX7_readEnd_15 rfl e_X7_readEnd_105 rfl (by decide) rfl rfl (Nat.le_of_ble_eq_true rfl) (c_X7_go hT hB (hK4 (by have := hs9.mp c5; omega)) (tnx_le hp (by have := hs9.mp c5; omega))) (fun N h15 => ?_)
    obtain ⟨gK, gF⟩ := h15
    refine g_iconst 19 (nI 1) dX7_readEnd_18 rfl rfl ?_
    exact g_zret rfl dX7_readEnd_19 rfl (by rw [spF_0 (hs9.mp c5)]; exact ⟨rfl, fun _ => ⟨gK, gF _ _ _ (by omega)⟩, fun z => absurd rfl z, fun i => gF _ _ _ (by omega), gF.frd⟩)
  · refine g_aload_n 9 0 dX7_readEnd_8 rfl rfl ?_
    refine g_iconst 10 (nI 1) dX7_readEnd_9 rfl rfl ?_
    refine g_callVi 13 md_X7_bad [.int (nI 1)] [] dX7_readEnd_10 rfl e_X7_readEnd_98 rfl (by decide) rfl rfl (Nat.le_of_ble_eq_true rfl) (c_X7_bad hK0 1 (Or.inl rfl)) (fun r10 N10 h10 => ?_)
    obtain ⟨rfl, b8, b9, bF⟩ := h10
    exact g_zret rfl dX7_readEnd_13 (bi_nar _) (by rw [spF_1 (fun z => c5 (hs9.mpr z))]; exact ⟨rfl, fun z => absurd z (by decide), fun _ => ⟨b8, b9⟩, fun i => bF _ _ _ (by omega), frd_bad bF⟩)

def RnP (M : Mm) (t : Nat → Nat) (n : Nat) (R : Rd) (r : Int32) (M1 : Mm) : Prop := r = bi (decide (R.1 = 0)) ∧ (R.1 = 0 → RM (M1.1 18 13) R.2.2.2 ∧ Z45 (M1.1 18 13) ∧ HK M1 t n R.2.2.1 ∧ R.2.2.1 ≤ n ∧ M1.1 18 0 8 = M.1 18 0 8) ∧ (R.1 ≠ 0 → M1.1 18 0 8 = nI R.1 ∧ M1.1 18 0 9 = nI R.2.1) ∧ FRd M M1
theorem RnP_no {M : Mm} {t : Nat → Nat} {n f pl x : Nat} {a : Sa} {r : Int32} {M1 : Mm} (hf : f ≠ 0) (hr : r = nI 0) (h3 : M1.1 18 0 8 = nI f) (h4 : M1.1 18 0 9 = nI pl) (hF : FRd M M1) : RnP M t n (f, pl, x, a) r M1 :=
  ⟨by rw [hr, show decide ((f, pl, x, a).1 = 0) = false from decide_eq_false hf]; rfl, fun z => absurd z hf, fun _ => ⟨h3, h4⟩, hF⟩
theorem RnP_ok {M : Mm} {t : Nat → Nat} {n pl x : Nat} {a : Sa} {r : Int32} {M1 : Mm} (hr : r = nI 1) (h1 : RM (M1.1 18 13) a) (hz : Z45 (M1.1 18 13)) (h2 : HK M1 t n x) (h3 : x ≤ n) (h4 : M1.1 18 0 8 = M.1 18 0 8) (hF : FRd M M1) : RnP M t n (0, pl, x, a) r M1 :=
  ⟨hr, fun _ => ⟨h1, hz, h2, h3, h4⟩, fun z => absurd rfl z, hF⟩
theorem RM_out {N N' : Nat → Int32} {a : Sa} {x : Nat} {v : Int32} (h : RM N a) (hx : 133 + 6 * a 0 4 ≤ x) (hx2 : x < 373) (e : ∀ i, N' i = if i = x then v else N i) : RM N' a := by
  have b2 := h.c6
  have b3 := h.l24
  have b4 := h.o40
  refine ⟨fun k hk => ?_, fun c hc => ?_, fun c gd hc hg => ?_, fun p j hp hj => ?_, fun q j hq hj => ?_, fun p q hp hq => ?_, h.c6, h.l24, h.o40⟩
  · rw [e, if_neg (by omega)]; exact h.sc hk
  · rw [e, if_neg (by omega)]; exact h.life hc
  · rw [e, if_neg (by omega)]; exact h.latest hc hg
  · rw [e, if_neg (by omega)]; exact h.lot hp hj rfl
  · rw [e, if_neg (by omega)]; exact h.ord hq hj rfl
  · rw [e, if_neg (by omega)]; exact h.res hp hq
theorem HKw {M : Mm} {t : Nat → Nat} {n p i : Nat} {x : Int32} (h : HK M t n p) : HK (wr M 18 13 i x) t n p := by
  obtain ⟨h5, h4, h7, s, hs, h⟩ := h
  refine ⟨(wr_ne (by omega)).trans h5, fun z => (wr_ne (by omega)).trans (h4 z), fun z => (wr_ne (by omega)).trans (h7 z), s, (wr_ne (by omega)).trans hs, ?_⟩
  rw [wr_lg]
  exact h

set_option maxHeartbeats 4000000 in
set_option maxRecDepth 100000 in
theorem c_X7_readCustomer {l : Launch} {D : va_G} {g : Nat → Nat → Nat} {ca : Nat → ClassId} {M : Mm} {t : Nat → Nat} {n p : Nat} (hT : TS M t n) (hB : Tb t n) (hK : HK M t n p) (hp : p ≤ n) {a : Sa} (hM : RM (M.1 18 13) a) (hZ : Z45 (M.1 18 13)) (hO : Ok a) (hL : Lm a) (hk : tkd t n p = 5) : Ct l D g ca md_X7_readCustomer [.ref (g 18 0)] M (Ri (fun r M1 => RnP M t n (rLn t n p a) r M1)) := by
  refine Ct.of (by decide) rfl (Nat.le_of_ble_eq_true rfl) ?_
  have hn := hB.1
  obtain ⟨l1, l2, l3⟩ := hL
  have g1 := hO.1.g1
  have g4 := hO.1.g4
  have hp0 : tnx t n p ≤ n := tnx_le hp (by omega)
  show G l D g ca md_X7_readCustomer 0 [(0, .ref (g 18 0))] [] M _
  refine g_aload_n 1 0 dX7_readCustomer_0 rfl rfl ?_
  refine g_geta 4 13 dX7_readCustomer_1 rfl fX7_67 rfl (by decide) rfl rfl ?_
  refine g_iconst 5 (nI 2) dX7_readCustomer_4 rfl rfl ?_
  refine g_iald 6 (nI (a 0 2)) dX7_readCustomer_5 rfl rfl (by decide) rfl (by decide) (by omega) (hM.sc (by decide)) ?_
  refine g_bipush 8 (nI 6) dX7_readCustomer_6 rfl rfl ?_
  refine g_icmpN_ne 17 11 dX7_readCustomer_8 rfl rfl (by omega) (by omega) (fun c8 => ?_) (fun c8 => ?_)
  · refine g_aload_n 18 0 dX7_readCustomer_17 rfl rfl ?_
    refine g_callVv 21 md_X7_go [] [] dX7_readCustomer_18 rfl e_X7_readCustomer_105 rfl (by decide) rfl rfl (Nat.le_of_ble_eq_true rfl) (c_X7_go hT hB (hK.2.1 (by omega)) hp0) (fun G9 h18 => ?_)
    obtain ⟨hK_G9, gF⟩ := h18
    have hT_G9 := gF.ts hT
    have hF_G9 := gF.frd
    have hp_G9 : tx t n (tnx t n p) 0 ≤ n := hp0
    have hq_G9 : G9.1 18 0 8 = M.1 18 0 8 := gF _ _ _ (by omega)
    have hM_G9 : RM (G9.1 18 13) a := RM_eq (fun i _ => gF _ _ _ (by omega)) hM
    refine g_aload_n 22 0 dX7_readCustomer_21 rfl rfl ?_
    refine g_bipush 24 (nI 7) dX7_readCustomer_22 rfl rfl ?_
    refine g_iconst 25 (nI 5) dX7_readCustomer_24 rfl rfl ?_
    refine g_aload_n 26 0 dX7_readCustomer_25 rfl rfl ?_
    refine g_geta 29 13 dX7_readCustomer_26 rfl fX7_67 rfl (by decide) rfl rfl ?_
    refine g_iconst 30 (nI 2) dX7_readCustomer_29 rfl rfl ?_
    refine g_iald 31 (nI (a 0 2)) dX7_readCustomer_30 rfl rfl (by decide) rfl (by decide) (by omega) (hM_G9.sc (by decide)) ?_
    refine g_imul 32 (nI (5 * (a 0 2))) dX7_readCustomer_31 rfl (pk_mul 5 (a 0 2)) ?_
    refine g_iadd 33 (nI (7 + (5 * (a 0 2)))) dX7_readCustomer_32 rfl (nI_add 7 (5 * (a 0 2))) ?_
    refine g_iconst 34 (nI 0) dX7_readCustomer_33 rfl rfl ?_
    refine g_bipush 36 (nI 99) dX7_readCustomer_34 rfl rfl ?_
    refine g_callVi 39 md_X7_told [.int (nI (7 + (5 * (a 0 2)))), .int (nI 0), .int (nI 99)] [] dX7_readCustomer_36 rfl e_X7_readCustomer_122 rfl (by decide) rfl rfl (Nat.le_of_ble_eq_true rfl) (c_X7_tell (p := tx t n (tnx t n p) 0) hT_G9 hB hK_G9 hp_G9 (7 + (5 * (a 0 2))) (by omega) 0 100 (by omega) (by omega) (by decide)) (fun r36 N36 h36 => ?_)
    obtain ⟨y36, w36, f36⟩ := h36
    have hF_N36 := hF_G9.tr f36
    by_cases z36 : nmF t n (tx t n (tnx t n p) 0) 0 100 = 0
    · obtain ⟨rfl, hK_N36, e36, hq36⟩ := y36 z36
      have hK_N36 : HK N36 t n (tx t n (tnx t n p) 1) := hK_N36
      have hT_N36 := f36.ts hT_G9
      have hq_N36 := hq36.trans hq_G9
      have hp_N36 : tx t n (tnx t n p) 1 ≤ n := nmF_le hp_G9 z36
      have v36 := nmF_of z36
      refine g_ifB_ne 44 42 dX7_readCustomer_39 rfl rfl (fun c39 => ?_) (fun c39 => ?_)
      · refine g_aload_n 45 0 dX7_readCustomer_44 rfl rfl ?_
        refine g_geta 48 13 dX7_readCustomer_45 rfl fX7_67 rfl (by decide) rfl rfl ?_
        refine g_iconst 49 (nI 2) dX7_readCustomer_48 rfl rfl ?_
        refine g_dup2 50 dX7_readCustomer_49 rfl rfl rfl ?_
        refine g_iald 51 (nI (a 0 2)) dX7_readCustomer_50 rfl rfl (by decide) rfl (by decide) (by omega) ((e36 _).trans ((if_neg (by omega)).trans (hM_G9.sc (by decide)))) ?_
        refine g_iconst 52 (nI 1) dX7_readCustomer_51 rfl rfl ?_
        refine g_iadd 53 (nI ((a 0 2) + 1)) dX7_readCustomer_52 rfl (nI_add (a 0 2) 1) ?_
        refine g_iast 54 dX7_readCustomer_53 rfl rfl (by decide) rfl (by decide) (by omega) ?_
        refine g_aload_n 55 0 dX7_readCustomer_54 rfl rfl ?_
        refine g_callVi 58 md_X7_readEnd [] [] dX7_readCustomer_55 rfl e_X7_readCustomer_125 rfl (by decide) rfl rfl (Nat.le_of_ble_eq_true rfl) (c_X7_readEnd (p := tx t n (tnx t n p) 1) ((FRd.w13 (M := N36)).ts hT_N36) hB (HKw hK_N36) hp_N36) (fun r55 N55 h55 => ?_)
        obtain ⟨rfl, y55, w55, e55, f55⟩ := h55
        have hF_N55 := (hF_N36.tr FRd.w13).tr f55
        by_cases z55 : spF t n (tx t n (tnx t n p) 1) = 0
        · rw [decide_eq_true z55]
          obtain ⟨hK_N55, hq55⟩ := y55 z55
          have hq_N55 := hq55.trans ((wr_ne (by omega)).trans hq_N36)
          have hp_N55 : tx t n (tnx t n p) 2 ≤ n := spF_le hp_N36 z55
          exact g_zret rfl dX7_readCustomer_58 (bi_nar _) (by rw [rLn_C hk (by omega)]; unfold rC; rw [orB_ok z36, orB_ok z55]; exact RnP_ok rfl (RM_addC hM (by omega) (fun i h1 h2 => by rw [e55, wr_ne (by omega), e36, if_neg (by omega), gF _ _ _ (by omega)]) (by rw [e55, wr_eq]) (by rw [e55, wr_ne (by omega), e36, if_pos (by omega)])) (fun q hq => ⟨by rw [e55, wr_ne (by omega), e36, if_neg (by omega), gF _ _ _ (by omega)]; exact (hZ q hq).1, by rw [e55, wr_ne (by omega), e36, if_neg (by omega), gF _ _ _ (by omega)]; exact (hZ q hq).2⟩) hK_N55 hp_N55 hq_N55 hF_N55)
        · rw [decide_eq_false z55]
          obtain ⟨hk_N55, hl_N55⟩ := w55 z55
          exact g_zret rfl dX7_readCustomer_58 (bi_nar _) (by rw [rLn_C hk (by omega)]; unfold rC; rw [orB_ok z36, orB_no z55]; exact RnP_no z55 rfl hk_N55 hl_N55 hF_N55)
      · exact absurd c39 (by decide)
    · obtain ⟨rfl, hk_N36, hl_N36⟩ := w36 z36
      refine g_ifB_ne 44 42 dX7_readCustomer_39 rfl rfl (fun c39 => ?_) (fun c39 => ?_)
      · exact absurd c39 (by decide)
      · refine g_iconst 43 (nI 0) dX7_readCustomer_42 rfl rfl ?_
        exact g_zret rfl dX7_readCustomer_43 rfl (by rw [rLn_C hk (by omega)]; unfold rC; rw [orB_no z36]; exact RnP_no z36 rfl hk_N36 hl_N36 hF_N36)
  · refine g_aload_n 12 0 dX7_readCustomer_11 rfl rfl ?_
    refine g_iconst 13 (nI 3) dX7_readCustomer_12 rfl rfl ?_
    refine g_callVi 16 md_X7_bad [.int (nI 3)] [] dX7_readCustomer_13 rfl e_X7_readCustomer_98 rfl (by decide) rfl rfl (Nat.le_of_ble_eq_true rfl) (c_X7_bad hK 3 (Or.inr (by omega))) (fun r13 N13 h13 => ?_)
    obtain ⟨rfl, b8, b9, bF⟩ := h13
    exact g_zret rfl dX7_readCustomer_16 (bi_nar _) (by rw [rLn_C3 hk (by omega)]; exact RnP_no (by decide) rfl b8 b9 (frd_bad bF))

set_option maxHeartbeats 4000000 in
set_option maxRecDepth 100000 in
theorem c_X7_readLot {l : Launch} {D : va_G} {g : Nat → Nat → Nat} {ca : Nat → ClassId} {M : Mm} {t : Nat → Nat} {n p : Nat} (hT : TS M t n) (hB : Tb t n) (hK : HK M t n p) (hp : p ≤ n) {a : Sa} (hM : RM (M.1 18 13) a) (hZ : Z45 (M.1 18 13)) (hO : Ok a) (hL : Lm a) (hk : tkd t n p = 6) : Ct l D g ca md_X7_readLot [.ref (g 18 0)] M (Ri (fun r M1 => RnP M t n (rLn t n p a) r M1)) := by
  refine Ct.of (by decide) rfl (Nat.le_of_ble_eq_true rfl) ?_
  have hn := hB.1
  obtain ⟨l1, l2, l3⟩ := hL
  have g1 := hO.1.g1
  have g4 := hO.1.g4
  have hp0 : tnx t n p ≤ n := tnx_le hp (by omega)
  show G l D g ca md_X7_readLot 0 [(0, .ref (g 18 0))] [] M _
  refine g_aload_n 1 0 dX7_readLot_0 rfl rfl ?_
  refine g_geta 4 13 dX7_readLot_1 rfl fX7_67 rfl (by decide) rfl rfl ?_
  refine g_iconst 5 (nI 3) dX7_readLot_4 rfl rfl ?_
  refine g_iald 6 (nI (a 0 3)) dX7_readLot_5 rfl rfl (by decide) rfl (by decide) (by omega) (hM.sc (by decide)) ?_
  refine g_bipush 8 (nI 12) dX7_readLot_6 rfl rfl ?_
  refine g_icmpN_ne 17 11 dX7_readLot_8 rfl rfl (by omega) (by omega) (fun c8 => ?_) (fun c8 => ?_)
  · refine g_aload_n 18 0 dX7_readLot_17 rfl rfl ?_
    refine g_callVv 21 md_X7_go [] [] dX7_readLot_18 rfl e_X7_readLot_105 rfl (by decide) rfl rfl (Nat.le_of_ble_eq_true rfl) (c_X7_go hT hB (hK.2.1 (by omega)) hp0) (fun G9 h18 => ?_)
    obtain ⟨hK_G9, gF⟩ := h18
    have hT_G9 := gF.ts hT
    have hF_G9 := gF.frd
    have hp_G9 : tx t n (tnx t n p) 0 ≤ n := hp0
    have hq_G9 : G9.1 18 0 8 = M.1 18 0 8 := gF _ _ _ (by omega)
    have hM_G9 : RM (G9.1 18 13) a := RM_eq (fun i _ => gF _ _ _ (by omega)) hM
    refine g_bipush 23 (nI 37) dX7_readLot_21 rfl rfl ?_
    refine g_iconst 24 (nI 4) dX7_readLot_23 rfl rfl ?_
    refine g_aload_n 25 0 dX7_readLot_24 rfl rfl ?_
    refine g_geta 28 13 dX7_readLot_25 rfl fX7_67 rfl (by decide) rfl rfl ?_
    refine g_iconst 29 (nI 3) dX7_readLot_28 rfl rfl ?_
    refine g_iald 30 (nI (a 0 3)) dX7_readLot_29 rfl rfl (by decide) rfl (by decide) (by omega) (hM_G9.sc (by decide)) ?_
    refine g_imul 31 (nI (4 * (a 0 3))) dX7_readLot_30 rfl (pk_mul 4 (a 0 3)) ?_
    refine g_iadd 32 (nI (37 + (4 * (a 0 3)))) dX7_readLot_31 rfl (nI_add 37 (4 * (a 0 3))) ?_
    refine g_istore_n 33 [(1, .int (nI (37 + (4 * (a 0 3))))), (0, .ref (g 18 0))] dX7_readLot_32 rfl (by decide) rfl ?_
    refine g_aload_n 34 1 dX7_readLot_33 rfl rfl ?_
    refine g_iload_n 35 0 dX7_readLot_34 rfl rfl ?_
    refine g_iconst 36 (nI 0) dX7_readLot_35 rfl rfl ?_
    refine g_iadd 37 (nI ((37 + (4 * (a 0 3))) + 0)) dX7_readLot_36 rfl (nI_add (37 + (4 * (a 0 3))) 0) ?_
    refine g_iconst 38 (nI 0) dX7_readLot_37 rfl rfl ?_
    refine g_aload_n 39 1 dX7_readLot_38 rfl rfl ?_
    refine g_geta 42 13 dX7_readLot_39 rfl fX7_67 rfl (by decide) rfl rfl ?_
    refine g_iconst 43 (nI 1) dX7_readLot_42 rfl rfl ?_
    refine g_iald 44 (nI (a 0 1)) dX7_readLot_43 rfl rfl (by decide) rfl (by decide) (by omega) (hM_G9.sc (by decide)) ?_
    refine g_iconst 45 (nI 1) dX7_readLot_44 rfl rfl ?_
    refine g_isub 46 ((nI (a 0 1)) - (nI 1)) dX7_readLot_45 rfl rfl ?_
    refine g_callVi 49 md_X7_told [.int (nI ((37 + (4 * (a 0 3))) + 0)), .int (nI 0), .int ((nI (a 0 1)) - (nI 1))] [] dX7_readLot_46 rfl e_X7_readLot_122 rfl (by decide) rfl rfl (Nat.le_of_ble_eq_true rfl) (c_X7_tell (p := tx t n (tnx t n p) 0) hT_G9 hB hK_G9 hp_G9 ((37 + (4 * (a 0 3))) + 0) (by omega) 0 (a 0 1) (by omega) (by omega) rfl) (fun r46 N46 h46 => ?_)
    obtain ⟨y46, w46, f46⟩ := h46
    have hF_N46 := hF_G9.tr f46
    by_cases z46 : nmF t n (tx t n (tnx t n p) 0) 0 (a 0 1) = 0
    · obtain ⟨rfl, hK_N46, e46, hq46⟩ := y46 z46
      have hK_N46 : HK N46 t n (tx t n (tnx t n p) 1) := hK_N46
      have hT_N46 := f46.ts hT_G9
      have hq_N46 := hq46.trans hq_G9
      have hp_N46 : tx t n (tnx t n p) 1 ≤ n := nmF_le hp_G9 z46
      have v46 := nmF_of z46
      refine g_ifB_eq 91 52 dX7_readLot_49 rfl rfl (fun c49 => ?_) (fun c49 => ?_)
      · exact absurd c49 (by decide)
      · refine g_aload_n 53 1 dX7_readLot_52 rfl rfl ?_
        refine g_iload_n 54 0 dX7_readLot_53 rfl rfl ?_
        refine g_iconst 55 (nI 1) dX7_readLot_54 rfl rfl ?_
        refine g_iadd 56 (nI ((37 + (4 * (a 0 3))) + 1)) dX7_readLot_55 rfl (nI_add (37 + (4 * (a 0 3))) 1) ?_
        refine g_iconst 57 (nI 0) dX7_readLot_56 rfl rfl ?_
        refine g_bipush 59 (nI 99) dX7_readLot_57 rfl rfl ?_
        refine g_callVi 62 md_X7_told [.int (nI ((37 + (4 * (a 0 3))) + 1)), .int (nI 0), .int (nI 99)] [] dX7_readLot_59 rfl e_X7_readLot_122 rfl (by decide) rfl rfl (Nat.le_of_ble_eq_true rfl) (c_X7_tell (p := tx t n (tnx t n p) 1) hT_N46 hB hK_N46 hp_N46 ((37 + (4 * (a 0 3))) + 1) (by omega) 0 100 (by omega) (by omega) (by decide)) (fun r59 N59 h59 => ?_)
        obtain ⟨y59, w59, f59⟩ := h59
        have hF_N59 := hF_N46.tr f59
        by_cases z59 : nmF t n (tx t n (tnx t n p) 1) 0 100 = 0
        · obtain ⟨rfl, hK_N59, e59, hq59⟩ := y59 z59
          have hK_N59 : HK N59 t n (tx t n (tnx t n p) 2) := hK_N59
          have hT_N59 := f59.ts hT_N46
          have hq_N59 := hq59.trans hq_N46
          have hp_N59 : tx t n (tnx t n p) 2 ≤ n := nmF_le hp_N46 z59
          have v59 := nmF_of z59
          refine g_ifB_eq 91 65 dX7_readLot_62 rfl rfl (fun c62 => ?_) (fun c62 => ?_)
          · exact absurd c62 (by decide)
          · refine g_aload_n 66 1 dX7_readLot_65 rfl rfl ?_
            refine g_iload_n 67 0 dX7_readLot_66 rfl rfl ?_
            refine g_iconst 68 (nI 2) dX7_readLot_67 rfl rfl ?_
            refine g_iadd 69 (nI ((37 + (4 * (a 0 3))) + 2)) dX7_readLot_68 rfl (nI_add (37 + (4 * (a 0 3))) 2) ?_
            refine g_iconst 70 (nI 1) dX7_readLot_69 rfl rfl ?_
            refine g_bipush 72 (nI 99) dX7_readLot_70 rfl rfl ?_
            refine g_callVi 75 md_X7_told [.int (nI ((37 + (4 * (a 0 3))) + 2)), .int (nI 1), .int (nI 99)] [] dX7_readLot_72 rfl e_X7_readLot_122 rfl (by decide) rfl rfl (Nat.le_of_ble_eq_true rfl) (c_X7_tell (p := tx t n (tnx t n p) 2) hT_N59 hB hK_N59 hp_N59 ((37 + (4 * (a 0 3))) + 2) (by omega) 1 100 (by omega) (by omega) (by decide)) (fun r72 N72 h72 => ?_)
            obtain ⟨y72, w72, f72⟩ := h72
            have hF_N72 := hF_N59.tr f72
            by_cases z72 : nmF t n (tx t n (tnx t n p) 2) 1 100 = 0
            · obtain ⟨rfl, hK_N72, e72, hq72⟩ := y72 z72
              have hK_N72 : HK N72 t n (tx t n (tnx t n p) 3) := hK_N72
              have hT_N72 := f72.ts hT_N59
              have hq_N72 := hq72.trans hq_N59
              have hp_N72 : tx t n (tnx t n p) 3 ≤ n := nmF_le hp_N59 z72
              have v72 := nmF_of z72
              refine g_ifB_eq 91 78 dX7_readLot_75 rfl rfl (fun c75 => ?_) (fun c75 => ?_)
              · exact absurd c75 (by decide)
              · refine g_aload_n 79 1 dX7_readLot_78 rfl rfl ?_
                refine g_iload_n 80 0 dX7_readLot_79 rfl rfl ?_
                refine g_iconst 81 (nI 3) dX7_readLot_80 rfl rfl ?_
                refine g_iadd 82 (nI ((37 + (4 * (a 0 3))) + 3)) dX7_readLot_81 rfl (nI_add (37 + (4 * (a 0 3))) 3) ?_
                refine g_iconst 83 (nI 0) dX7_readLot_82 rfl rfl ?_
                refine g_bipush 85 (nI 99) dX7_readLot_83 rfl rfl ?_
                refine g_callVi 88 md_X7_told [.int (nI ((37 + (4 * (a 0 3))) + 3)), .int (nI 0), .int (nI 99)] [] dX7_readLot_85 rfl e_X7_readLot_122 rfl (by decide) rfl rfl (Nat.le_of_ble_eq_true rfl) (c_X7_tell (p := tx t n (tnx t n p) 3) hT_N72 hB hK_N72 hp_N72 ((37 + (4 * (a 0 3))) + 3) (by omega) 0 100 (by omega) (by omega) (by decide)) (fun r85 N85 h85 => ?_)
                obtain ⟨y85, w85, f85⟩ := h85
                have hF_N85 := hF_N72.tr f85
                by_cases z85 : nmF t n (tx t n (tnx t n p) 3) 0 100 = 0
                · obtain ⟨rfl, hK_N85, e85, hq85⟩ := y85 z85
                  have hK_N85 : HK N85 t n (tx t n (tnx t n p) 4) := hK_N85
                  have hT_N85 := f85.ts hT_N72
                  have hq_N85 := hq85.trans hq_N72
                  have hp_N85 : tx t n (tnx t n p) 4 ≤ n := nmF_le hp_N72 z85
                  have v85 := nmF_of z85
                  refine g_ifB_ne 93 91 dX7_readLot_88 rfl rfl (fun c88 => ?_) (fun c88 => ?_)
                  · refine g_aload_n 94 1 dX7_readLot_93 rfl rfl ?_
                    refine g_geta 97 13 dX7_readLot_94 rfl fX7_67 rfl (by decide) rfl rfl ?_
                    refine g_iconst 98 (nI 3) dX7_readLot_97 rfl rfl ?_
                    refine g_dup2 99 dX7_readLot_98 rfl rfl rfl ?_
                    refine g_iald 100 (nI (a 0 3)) dX7_readLot_99 rfl rfl (by decide) rfl (by decide) (by omega) ((e85 _).trans ((if_neg (by omega)).trans ((e72 _).trans ((if_neg (by omega)).trans ((e59 _).trans ((if_neg (by omega)).trans ((e46 _).trans ((if_neg (by omega)).trans (hM_G9.sc (by decide)))))))))) ?_
                    refine g_iconst 101 (nI 1) dX7_readLot_100 rfl rfl ?_
                    refine g_iadd 102 (nI ((a 0 3) + 1)) dX7_readLot_101 rfl (nI_add (a 0 3) 1) ?_
                    refine g_iast 103 dX7_readLot_102 rfl rfl (by decide) rfl (by decide) (by omega) ?_
                    refine g_aload_n 104 1 dX7_readLot_103 rfl rfl ?_
                    refine g_callVi 107 md_X7_readEnd [] [] dX7_readLot_104 rfl e_X7_readLot_125 rfl (by decide) rfl rfl (Nat.le_of_ble_eq_true rfl) (c_X7_readEnd (p := tx t n (tnx t n p) 4) ((FRd.w13 (M := N85)).ts hT_N85) hB (HKw hK_N85) hp_N85) (fun r104 N104 h104 => ?_)
                    obtain ⟨rfl, y104, w104, e104, f104⟩ := h104
                    have hF_N104 := (hF_N85.tr FRd.w13).tr f104
                    by_cases z104 : spF t n (tx t n (tnx t n p) 4) = 0
                    · rw [decide_eq_true z104]
                      obtain ⟨hK_N104, hq104⟩ := y104 z104
                      have hq_N104 := hq104.trans ((wr_ne (by omega)).trans hq_N85)
                      have hp_N104 : tx t n (tnx t n p) 5 ≤ n := spF_le hp_N85 z104
                      exact g_zret rfl dX7_readLot_107 (bi_nar _) (by rw [rLn_L hk (by omega)]; unfold rL; rw [orB_ok z46, orB_ok z59, orB_ok z72, orB_ok z85, orB_ok z104]; exact RnP_ok rfl (RM_addL hM (by omega) (fun i h1 h2 => by rw [e104, wr_ne (by omega), e85, if_neg (by omega), e72, if_neg (by omega), e59, if_neg (by omega), e46, if_neg (by omega), gF _ _ _ (by omega)]) (by rw [e104, wr_eq]) (by rw [e104, wr_ne (by omega), e85, if_neg (by omega), e72, if_neg (by omega), e59, if_neg (by omega), e46, if_pos (by omega)]) (by rw [e104, wr_ne (by omega), e85, if_neg (by omega), e72, if_neg (by omega), e59, if_pos (by omega)]) (by rw [e104, wr_ne (by omega), e85, if_neg (by omega), e72, if_pos (by omega)]) (by rw [e104, wr_ne (by omega), e85, if_pos (by omega)])) (fun q hq => ⟨by rw [e104, wr_ne (by omega), e85, if_neg (by omega), e72, if_neg (by omega), e59, if_neg (by omega), e46, if_neg (by omega), gF _ _ _ (by omega)]; exact (hZ q hq).1, by rw [e104, wr_ne (by omega), e85, if_neg (by omega), e72, if_neg (by omega), e59, if_neg (by omega), e46, if_neg (by omega), gF _ _ _ (by omega)]; exact (hZ q hq).2⟩) hK_N104 hp_N104 hq_N104 hF_N104)
                    · rw [decide_eq_false z104]
                      obtain ⟨hk_N104, hl_N104⟩ := w104 z104
                      exact g_zret rfl dX7_readLot_107 (bi_nar _) (by rw [rLn_L hk (by omega)]; unfold rL; rw [orB_ok z46, orB_ok z59, orB_ok z72, orB_ok z85, orB_no z104]; exact RnP_no z104 rfl hk_N104 hl_N104 hF_N104)
                  · exact absurd c88 (by decide)
                · obtain ⟨rfl, hk_N85, hl_N85⟩ := w85 z85
                  refine g_ifB_ne 93 91 dX7_readLot_88 rfl rfl (fun c88 => ?_) (fun c88 => ?_)
                  · exact absurd c88 (by decide)
                  · refine g_iconst 92 (nI 0) dX7_readLot_91 rfl rfl ?_
                    exact g_zret rfl dX7_readLot_92 rfl (by rw [rLn_L hk (by omega)]; unfold rL; rw [orB_ok z46, orB_ok z59, orB_ok z72, orB_no z85]; exact RnP_no z85 rfl hk_N85 hl_N85 hF_N85)
            · obtain ⟨rfl, hk_N72, hl_N72⟩ := w72 z72
              refine g_ifB_eq 91 78 dX7_readLot_75 rfl rfl (fun c75 => ?_) (fun c75 => ?_)
              · refine g_iconst 92 (nI 0) dX7_readLot_91 rfl rfl ?_
                exact g_zret rfl dX7_readLot_92 rfl (by rw [rLn_L hk (by omega)]; unfold rL; rw [orB_ok z46, orB_ok z59, orB_no z72]; exact RnP_no z72 rfl hk_N72 hl_N72 hF_N72)
              · exact absurd c75 (by decide)
        · obtain ⟨rfl, hk_N59, hl_N59⟩ := w59 z59
          refine g_ifB_eq 91 65 dX7_readLot_62 rfl rfl (fun c62 => ?_) (fun c62 => ?_)
          · refine g_iconst 92 (nI 0) dX7_readLot_91 rfl rfl ?_
            exact g_zret rfl dX7_readLot_92 rfl (by rw [rLn_L hk (by omega)]; unfold rL; rw [orB_ok z46, orB_no z59]; exact RnP_no z59 rfl hk_N59 hl_N59 hF_N59)
          · exact absurd c62 (by decide)
    · obtain ⟨rfl, hk_N46, hl_N46⟩ := w46 z46
      refine g_ifB_eq 91 52 dX7_readLot_49 rfl rfl (fun c49 => ?_) (fun c49 => ?_)
      · refine g_iconst 92 (nI 0) dX7_readLot_91 rfl rfl ?_
        exact g_zret rfl dX7_readLot_92 rfl (by rw [rLn_L hk (by omega)]; unfold rL; rw [orB_no z46]; exact RnP_no z46 rfl hk_N46 hl_N46 hF_N46)
      · exact absurd c49 (by decide)
  · refine g_aload_n 12 0 dX7_readLot_11 rfl rfl ?_
    refine g_iconst 13 (nI 3) dX7_readLot_12 rfl rfl ?_
    refine g_callVi 16 md_X7_bad [.int (nI 3)] [] dX7_readLot_13 rfl e_X7_readLot_98 rfl (by decide) rfl rfl (Nat.le_of_ble_eq_true rfl) (c_X7_bad hK 3 (Or.inr (by omega))) (fun r13 N13 h13 => ?_)
    obtain ⟨rfl, b8, b9, bF⟩ := h13
    exact g_zret rfl dX7_readLot_16 (bi_nar _) (by rw [rLn_L3 hk (by omega)]; exact RnP_no (by decide) rfl b8 b9 (frd_bad bF))

set_option maxHeartbeats 4000000 in
set_option maxRecDepth 100000 in
theorem c_X7_readOrder {l : Launch} {D : va_G} {g : Nat → Nat → Nat} {ca : Nat → ClassId} {M : Mm} {t : Nat → Nat} {n p : Nat} (hT : TS M t n) (hB : Tb t n) (hK : HK M t n p) (hp : p ≤ n) {a : Sa} (hM : RM (M.1 18 13) a) (hZ : Z45 (M.1 18 13)) (hO : Ok a) (hL : Lm a) (hk : tkd t n p = 7) : Ct l D g ca md_X7_readOrder [.ref (g 18 0)] M (Ri (fun r M1 => RnP M t n (rLn t n p a) r M1)) := by
  refine Ct.of (by decide) rfl (Nat.le_of_ble_eq_true rfl) ?_
  have hn := hB.1
  obtain ⟨l1, l2, l3⟩ := hL
  have g1 := hO.1.g1
  have g4 := hO.1.g4
  have hp0 : tnx t n p ≤ n := tnx_le hp (by omega)
  show G l D g ca md_X7_readOrder 0 [(0, .ref (g 18 0))] [] M _
  refine g_aload_n 1 0 dX7_readOrder_0 rfl rfl ?_
  refine g_geta 4 13 dX7_readOrder_1 rfl fX7_67 rfl (by decide) rfl rfl ?_
  refine g_iconst 5 (nI 4) dX7_readOrder_4 rfl rfl ?_
  refine g_iald 6 (nI (a 0 4)) dX7_readOrder_5 rfl rfl (by decide) rfl (by decide) (by omega) (hM.sc (by decide)) ?_
  refine g_bipush 8 (nI 12) dX7_readOrder_6 rfl rfl ?_
  refine g_icmpN_ne 17 11 dX7_readOrder_8 rfl rfl (by omega) (by omega) (fun c8 => ?_) (fun c8 => ?_)
  · refine g_aload_n 18 0 dX7_readOrder_17 rfl rfl ?_
    refine g_callVv 21 md_X7_go [] [] dX7_readOrder_18 rfl e_X7_readOrder_105 rfl (by decide) rfl rfl (Nat.le_of_ble_eq_true rfl) (c_X7_go hT hB (hK.2.1 (by omega)) hp0) (fun G9 h18 => ?_)
    obtain ⟨hK_G9, gF⟩ := h18
    have hT_G9 := gF.ts hT
    have hF_G9 := gF.frd
    have hp_G9 : tx t n (tnx t n p) 0 ≤ n := hp0
    have hq_G9 : G9.1 18 0 8 = M.1 18 0 8 := gF _ _ _ (by omega)
    have hM_G9 : RM (G9.1 18 13) a := RM_eq (fun i _ => gF _ _ _ (by omega)) hM
    refine g_sipush 24 (nI 133) dX7_readOrder_21 rfl rfl ?_
    refine g_bipush 26 (nI 6) dX7_readOrder_24 rfl rfl ?_
    refine g_aload_n 27 0 dX7_readOrder_26 rfl rfl ?_
    refine g_geta 30 13 dX7_readOrder_27 rfl fX7_67 rfl (by decide) rfl rfl ?_
    refine g_iconst 31 (nI 4) dX7_readOrder_30 rfl rfl ?_
    refine g_iald 32 (nI (a 0 4)) dX7_readOrder_31 rfl rfl (by decide) rfl (by decide) (by omega) (hM_G9.sc (by decide)) ?_
    refine g_imul 33 (nI (6 * (a 0 4))) dX7_readOrder_32 rfl (pk_mul 6 (a 0 4)) ?_
    refine g_iadd 34 (nI (133 + (6 * (a 0 4)))) dX7_readOrder_33 rfl (nI_add 133 (6 * (a 0 4))) ?_
    refine g_istore_n 35 [(1, .int (nI (133 + (6 * (a 0 4))))), (0, .ref (g 18 0))] dX7_readOrder_34 rfl (by decide) rfl ?_
    refine g_aload_n 36 1 dX7_readOrder_35 rfl rfl ?_
    refine g_iload_n 37 0 dX7_readOrder_36 rfl rfl ?_
    refine g_iconst 38 (nI 0) dX7_readOrder_37 rfl rfl ?_
    refine g_iadd 39 (nI ((133 + (6 * (a 0 4))) + 0)) dX7_readOrder_38 rfl (nI_add (133 + (6 * (a 0 4))) 0) ?_
    refine g_iconst 40 (nI 0) dX7_readOrder_39 rfl rfl ?_
    refine g_aload_n 41 1 dX7_readOrder_40 rfl rfl ?_
    refine g_geta 44 13 dX7_readOrder_41 rfl fX7_67 rfl (by decide) rfl rfl ?_
    refine g_iconst 45 (nI 2) dX7_readOrder_44 rfl rfl ?_
    refine g_iald 46 (nI (a 0 2)) dX7_readOrder_45 rfl rfl (by decide) rfl (by decide) (by omega) (hM_G9.sc (by decide)) ?_
    refine g_iconst 47 (nI 1) dX7_readOrder_46 rfl rfl ?_
    refine g_isub 48 ((nI (a 0 2)) - (nI 1)) dX7_readOrder_47 rfl rfl ?_
    refine g_callVi 51 md_X7_told [.int (nI ((133 + (6 * (a 0 4))) + 0)), .int (nI 0), .int ((nI (a 0 2)) - (nI 1))] [] dX7_readOrder_48 rfl e_X7_readOrder_122 rfl (by decide) rfl rfl (Nat.le_of_ble_eq_true rfl) (c_X7_tell (p := tx t n (tnx t n p) 0) hT_G9 hB hK_G9 hp_G9 ((133 + (6 * (a 0 4))) + 0) (by omega) 0 (a 0 2) (by omega) (by omega) rfl) (fun r48 N48 h48 => ?_)
    obtain ⟨y48, w48, f48⟩ := h48
    have hF_N48 := hF_G9.tr f48
    by_cases z48 : nmF t n (tx t n (tnx t n p) 0) 0 (a 0 2) = 0
    · obtain ⟨rfl, hK_N48, e48, hq48⟩ := y48 z48
      have hK_N48 : HK N48 t n (tx t n (tnx t n p) 1) := hK_N48
      have hT_N48 := f48.ts hT_G9
      have hq_N48 := hq48.trans hq_G9
      have hp_N48 : tx t n (tnx t n p) 1 ≤ n := nmF_le hp_G9 z48
      have v48 := nmF_of z48
      refine g_ifB_ne 56 54 dX7_readOrder_51 rfl rfl (fun c51 => ?_) (fun c51 => ?_)
      · have hKs := hK_N48
        obtain ⟨hK5, hK4, hK7, s, hs, hs4, hs0, hs3, hs9, hs1, hsw⟩ := hKs
        refine g_aload_n 57 1 dX7_readOrder_56 rfl rfl ?_
        refine g_get 60 (nI s) dX7_readOrder_57 rfl fX7_27 rfl (by decide) rfl hs ?_
        refine g_iconst 61 (nI 3) dX7_readOrder_60 rfl rfl ?_
        refine g_icmpN_eq 70 64 dX7_readOrder_61 rfl rfl (by omega) (by omega) (fun c61 => ?_) (fun c61 => ?_)
        · have hv9 := tvl_le (hs3.mp c61)
          refine g_aload_n 71 1 dX7_readOrder_70 rfl rfl ?_
          refine g_get 74 (nI (tvl t n (tx t n (tnx t n p) 1))) dX7_readOrder_71 rfl fX7_41 rfl (by decide) rfl (hK7 (hs3.mp c61)) ?_
          refine g_aload_n 75 1 dX7_readOrder_74 rfl rfl ?_
          refine g_geta 78 13 dX7_readOrder_75 rfl fX7_67 rfl (by decide) rfl rfl ?_
          refine g_iconst 79 (nI 1) dX7_readOrder_78 rfl rfl ?_
          refine g_iald 80 (nI (a 0 1)) dX7_readOrder_79 rfl rfl (by decide) rfl (by decide) (by omega) ((e48 _).trans ((if_neg (by omega)).trans (hM_G9.sc (by decide)))) ?_
          refine g_icmpN_ge 106 83 dX7_readOrder_80 rfl rfl (by omega) (by omega) (fun c80 => ?_) (fun c80 => ?_)
          · refine g_aload_n 107 1 dX7_readOrder_106 rfl rfl ?_
            refine g_iconst 108 (nI 2) dX7_readOrder_107 rfl rfl ?_
            refine g_callVi 111 md_X7_bad [.int (nI 2)] [] dX7_readOrder_108 rfl e_X7_readOrder_98 rfl (by decide) rfl rfl (Nat.le_of_ble_eq_true rfl) (c_X7_bad hK_N48 2 (Or.inr (by have := hs3.mp c61; omega))) (fun r108 N108 h108 => ?_)
            obtain ⟨rfl, b8, b9, bF⟩ := h108
            exact g_zret rfl dX7_readOrder_111 (bi_nar _) (by rw [rLn_O hk (by omega)]; unfold rO; rw [orB_ok z48, nmF_2 (hs3.mp c61) (fun z => by omega), orB_no (by decide)]; exact RnP_no (by decide) rfl b8 b9 (hF_N48.tr (frd_bad bF)))
          · refine g_aload_n 84 1 dX7_readOrder_83 rfl rfl ?_
            refine g_aload_n 85 1 dX7_readOrder_84 rfl rfl ?_
            refine g_geta 88 13 dX7_readOrder_85 rfl fX7_67 rfl (by decide) rfl rfl ?_
            refine g_aload_n 89 1 dX7_readOrder_88 rfl rfl ?_
            refine g_geta 92 13 dX7_readOrder_89 rfl fX7_67 rfl (by decide) rfl rfl ?_
            refine g_iload_n 93 0 dX7_readOrder_92 rfl rfl ?_
            refine g_iconst 94 (nI 0) dX7_readOrder_93 rfl rfl ?_
            refine g_iadd 95 (nI ((133 + (6 * (a 0 4))) + 0)) dX7_readOrder_94 rfl (nI_add (133 + (6 * (a 0 4))) 0) ?_
            refine g_iald 96 (nI (tvl t n (tx t n (tnx t n p) 0))) dX7_readOrder_95 rfl rfl (by decide) rfl (by decide) (by omega) ((e48 _).trans (if_pos (by omega))) ?_
            refine g_aload_n 97 1 dX7_readOrder_96 rfl rfl ?_
            refine g_get 100 (nI (tvl t n (tx t n (tnx t n p) 1))) dX7_readOrder_97 rfl fX7_41 rfl (by decide) rfl (hK7 (hs3.mp c61)) ?_
            refine g_callVi 103 md_X7_isAskedFor [.ref (g 18 13), .int (nI (tvl t n (tx t n (tnx t n p) 0))), .int (nI (tvl t n (tx t n (tnx t n p) 1)))] [] dX7_readOrder_100 rfl e_X7_readOrder_129 rfl (by decide) rfl rfl (Nat.le_of_ble_eq_true rfl) (c_X7_isAskedFor13 (RM_out hM_G9 (by omega) (by omega) e48) (fun q hq => by have := hO.1.ord hq; have := hO.1.c6; omega) (tvl t n (tx t n (tnx t n p) 0)) (tvl t n (tx t n (tnx t n p) 1)) (by omega) (by omega)) (fun r100 M100 h100 => ?_)
            obtain ⟨rfl, h100⟩ := h100
            have h100 := h100.symm
            subst h100
            refine g_ifB_eq 112 106 dX7_readOrder_103 rfl rfl (fun c103 => ?_) (fun c103 => ?_)
            · have z70 : nmF t n (tx t n (tnx t n p) 1) 0 (a 0 1) = 0 := nmF_0 (hs3.mp c61) ⟨Nat.zero_le _, by omega⟩
              have zk : akF a (tvl t n (tx t n (tnx t n p) 0)) (tvl t n (tx t n (tnx t n p) 1)) = 0 := akF_0 c103
              refine g_aload_n 113 1 dX7_readOrder_112 rfl rfl ?_
              refine g_geta 116 13 dX7_readOrder_113 rfl fX7_67 rfl (by decide) rfl rfl ?_
              refine g_iload_n 117 0 dX7_readOrder_116 rfl rfl ?_
              refine g_iconst 118 (nI 1) dX7_readOrder_117 rfl rfl ?_
              refine g_iadd 119 (nI ((133 + (6 * (a 0 4))) + 1)) dX7_readOrder_118 rfl (nI_add (133 + (6 * (a 0 4))) 1) ?_
              refine g_aload_n 120 1 dX7_readOrder_119 rfl rfl ?_
              refine g_get 123 (nI (tvl t n (tx t n (tnx t n p) 1))) dX7_readOrder_120 rfl fX7_41 rfl (by decide) rfl (hK7 (hs3.mp c61)) ?_
              refine g_iast 124 dX7_readOrder_123 rfl rfl (by decide) rfl (by decide) (by omega) ?_
              refine g_aload_n 125 1 dX7_readOrder_124 rfl rfl ?_
              refine g_callVv 128 md_X7_go [] [] dX7_readOrder_125 rfl e_X7_readOrder_105 rfl (by decide) rfl rfl (Nat.le_of_ble_eq_true rfl) (c_X7_go (p := tnx t n (tx t n (tnx t n p) 1)) ((FRd.w13 (M := N48)).ts hT_N48) hB ((wr_ne (by omega)).trans (hK4 (by have := hs3.mp c61; omega))) (nmF_le hp_N48 z70)) (fun N125 h125 => ?_)
              obtain ⟨hK_N125, gF2⟩ := h125
              have hT_N125 := gF2.ts ((FRd.w13 (M := N48)).ts hT_N48)
              have hF_N125 := (hF_N48.tr FRd.w13).tr gF2.frd
              have hp_N125 : tx t n (tnx t n p) 2 ≤ n := nmF_le hp_N48 z70
              have hq_N125 : N125.1 18 0 8 = M.1 18 0 8 := (gF2 _ _ _ (by omega)).trans ((wr_ne (by omega)).trans hq_N48)
              have v70 := nmF_of z70
              have e125 : ∀ i, N125.1 18 13 i = if i = (133 + (6 * (a 0 4))) + 1 then nI (tvl t n (tx t n (tnx t n p) 1)) else N48.1 18 13 i := fun i => (gF2 _ _ _ (by omega)).trans wr13
              refine g_aload_n 129 1 dX7_readOrder_128 rfl rfl ?_
              refine g_iload_n 130 0 dX7_readOrder_129 rfl rfl ?_
              refine g_iconst 131 (nI 2) dX7_readOrder_130 rfl rfl ?_
              refine g_iadd 132 (nI ((133 + (6 * (a 0 4))) + 2)) dX7_readOrder_131 rfl (nI_add (133 + (6 * (a 0 4))) 2) ?_
              refine g_iconst 133 (nI 1) dX7_readOrder_132 rfl rfl ?_
              refine g_bipush 135 (nI 99) dX7_readOrder_133 rfl rfl ?_
              refine g_callVi 138 md_X7_told [.int (nI ((133 + (6 * (a 0 4))) + 2)), .int (nI 1), .int (nI 99)] [] dX7_readOrder_135 rfl e_X7_readOrder_122 rfl (by decide) rfl rfl (Nat.le_of_ble_eq_true rfl) (c_X7_tell (p := tx t n (tnx t n p) 2) hT_N125 hB hK_N125 hp_N125 ((133 + (6 * (a 0 4))) + 2) (by omega) 1 100 (by omega) (by omega) (by decide)) (fun r135 N135 h135 => ?_)
              obtain ⟨y135, w135, f135⟩ := h135
              have hF_N135 := hF_N125.tr f135
              by_cases z135 : nmF t n (tx t n (tnx t n p) 2) 1 100 = 0
              · obtain ⟨rfl, hK_N135, e135, hq135⟩ := y135 z135
                have hK_N135 : HK N135 t n (tx t n (tnx t n p) 3) := hK_N135
                have hT_N135 := f135.ts hT_N125
                have hq_N135 := hq135.trans hq_N125
                have hp_N135 : tx t n (tnx t n p) 3 ≤ n := nmF_le hp_N125 z135
                have v135 := nmF_of z135
                refine g_ifB_eq 154 141 dX7_readOrder_138 rfl rfl (fun c138 => ?_) (fun c138 => ?_)
                · exact absurd c138 (by decide)
                · refine g_aload_n 142 1 dX7_readOrder_141 rfl rfl ?_
                  refine g_iload_n 143 0 dX7_readOrder_142 rfl rfl ?_
                  refine g_iconst 144 (nI 3) dX7_readOrder_143 rfl rfl ?_
                  refine g_iadd 145 (nI ((133 + (6 * (a 0 4))) + 3)) dX7_readOrder_144 rfl (nI_add (133 + (6 * (a 0 4))) 3) ?_
                  refine g_iconst 146 (nI 0) dX7_readOrder_145 rfl rfl ?_
                  refine g_bipush 148 (nI 99) dX7_readOrder_146 rfl rfl ?_
                  refine g_callVi 151 md_X7_told [.int (nI ((133 + (6 * (a 0 4))) + 3)), .int (nI 0), .int (nI 99)] [] dX7_readOrder_148 rfl e_X7_readOrder_122 rfl (by decide) rfl rfl (Nat.le_of_ble_eq_true rfl) (c_X7_tell (p := tx t n (tnx t n p) 3) hT_N135 hB hK_N135 hp_N135 ((133 + (6 * (a 0 4))) + 3) (by omega) 0 100 (by omega) (by omega) (by decide)) (fun r148 N148 h148 => ?_)
                  obtain ⟨y148, w148, f148⟩ := h148
                  have hF_N148 := hF_N135.tr f148
                  by_cases z148 : nmF t n (tx t n (tnx t n p) 3) 0 100 = 0
                  · obtain ⟨rfl, hK_N148, e148, hq148⟩ := y148 z148
                    have hK_N148 : HK N148 t n (tx t n (tnx t n p) 4) := hK_N148
                    have hT_N148 := f148.ts hT_N135
                    have hq_N148 := hq148.trans hq_N135
                    have hp_N148 : tx t n (tnx t n p) 4 ≤ n := nmF_le hp_N135 z148
                    have v148 := nmF_of z148
                    refine g_ifB_ne 156 154 dX7_readOrder_151 rfl rfl (fun c151 => ?_) (fun c151 => ?_)
                    · refine g_aload_n 157 1 dX7_readOrder_156 rfl rfl ?_
                      refine g_geta 160 13 dX7_readOrder_157 rfl fX7_67 rfl (by decide) rfl rfl ?_
                      refine g_iconst 161 (nI 4) dX7_readOrder_160 rfl rfl ?_
                      refine g_dup2 162 dX7_readOrder_161 rfl rfl rfl ?_
                      refine g_iald 163 (nI (a 0 4)) dX7_readOrder_162 rfl rfl (by decide) rfl (by decide) (by omega) ((e148 _).trans ((if_neg (by omega)).trans ((e135 _).trans ((if_neg (by omega)).trans ((e125 _).trans ((if_neg (by omega)).trans ((e48 _).trans ((if_neg (by omega)).trans (hM_G9.sc (by decide)))))))))) ?_
                      refine g_iconst 164 (nI 1) dX7_readOrder_163 rfl rfl ?_
                      refine g_iadd 165 (nI ((a 0 4) + 1)) dX7_readOrder_164 rfl (nI_add (a 0 4) 1) ?_
                      refine g_iast 166 dX7_readOrder_165 rfl rfl (by decide) rfl (by decide) (by omega) ?_
                      refine g_aload_n 167 1 dX7_readOrder_166 rfl rfl ?_
                      refine g_callVi 170 md_X7_readEnd [] [] dX7_readOrder_167 rfl e_X7_readOrder_125 rfl (by decide) rfl rfl (Nat.le_of_ble_eq_true rfl) (c_X7_readEnd (p := tx t n (tnx t n p) 4) ((FRd.w13 (M := N148)).ts hT_N148) hB (HKw hK_N148) hp_N148) (fun r167 N167 h167 => ?_)
                      obtain ⟨rfl, y167, w167, e167, f167⟩ := h167
                      have hF_N167 := (hF_N148.tr FRd.w13).tr f167
                      by_cases z167 : spF t n (tx t n (tnx t n p) 4) = 0
                      · rw [decide_eq_true z167]
                        obtain ⟨hK_N167, hq167⟩ := y167 z167
                        have hq_N167 := hq167.trans ((wr_ne (by omega)).trans hq_N148)
                        have hp_N167 : tx t n (tnx t n p) 5 ≤ n := spF_le hp_N148 z167
                        exact g_zret rfl dX7_readOrder_170 (bi_nar _) (by rw [rLn_O hk (by omega)]; unfold rO; rw [orB_ok z48, orB_ok z70, orB_ok zk, orB_ok z135, orB_ok z148, orB_ok z167]; exact RnP_ok rfl (RM_addO hM (by omega) (fun i h1 h2 => by rw [e167, wr_ne (by omega), e148, if_neg (by omega), e135, if_neg (by omega), e125, if_neg (by omega), e48, if_neg (by omega), gF _ _ _ (by omega)]) (by rw [e167, wr_eq]) (by rw [e167, wr_ne (by omega), e148, if_neg (by omega), e135, if_neg (by omega), e125, if_neg (by omega), e48, if_pos (by omega)]) (by rw [e167, wr_ne (by omega), e148, if_neg (by omega), e135, if_neg (by omega), e125, if_pos (by omega)]) (by rw [e167, wr_ne (by omega), e148, if_neg (by omega), e135, if_pos (by omega)]) (by rw [e167, wr_ne (by omega), e148, if_pos (by omega)]) (by rw [e167, wr_ne (by omega), e148, if_neg (by omega), e135, if_neg (by omega), e125, if_neg (by omega), e48, if_neg (by omega), gF _ _ _ (by omega)]; exact (hZ _ (by omega)).1) (by rw [e167, wr_ne (by omega), e148, if_neg (by omega), e135, if_neg (by omega), e125, if_neg (by omega), e48, if_neg (by omega), gF _ _ _ (by omega)]; exact (hZ _ (by omega)).2)) (fun q hq => ⟨by rw [e167, wr_ne (by omega), e148, if_neg (by omega), e135, if_neg (by omega), e125, if_neg (by omega), e48, if_neg (by omega), gF _ _ _ (by omega)]; exact (hZ q hq).1, by rw [e167, wr_ne (by omega), e148, if_neg (by omega), e135, if_neg (by omega), e125, if_neg (by omega), e48, if_neg (by omega), gF _ _ _ (by omega)]; exact (hZ q hq).2⟩) hK_N167 hp_N167 hq_N167 hF_N167)
                      · rw [decide_eq_false z167]
                        obtain ⟨hk_N167, hl_N167⟩ := w167 z167
                        exact g_zret rfl dX7_readOrder_170 (bi_nar _) (by rw [rLn_O hk (by omega)]; unfold rO; rw [orB_ok z48, orB_ok z70, orB_ok zk, orB_ok z135, orB_ok z148, orB_no z167]; exact RnP_no z167 rfl hk_N167 hl_N167 hF_N167)
                    · exact absurd c151 (by decide)
                  · obtain ⟨rfl, hk_N148, hl_N148⟩ := w148 z148
                    refine g_ifB_ne 156 154 dX7_readOrder_151 rfl rfl (fun c151 => ?_) (fun c151 => ?_)
                    · exact absurd c151 (by decide)
                    · refine g_iconst 155 (nI 0) dX7_readOrder_154 rfl rfl ?_
                      exact g_zret rfl dX7_readOrder_155 rfl (by rw [rLn_O hk (by omega)]; unfold rO; rw [orB_ok z48, orB_ok z70, orB_ok zk, orB_ok z135, orB_no z148]; exact RnP_no z148 rfl hk_N148 hl_N148 hF_N148)
              · obtain ⟨rfl, hk_N135, hl_N135⟩ := w135 z135
                refine g_ifB_eq 154 141 dX7_readOrder_138 rfl rfl (fun c138 => ?_) (fun c138 => ?_)
                · refine g_iconst 155 (nI 0) dX7_readOrder_154 rfl rfl ?_
                  exact g_zret rfl dX7_readOrder_155 rfl (by rw [rLn_O hk (by omega)]; unfold rO; rw [orB_ok z48, orB_ok z70, orB_ok zk, orB_no z135]; exact RnP_no z135 rfl hk_N135 hl_N135 hF_N135)
                · exact absurd c138 (by decide)
            · refine g_aload_n 107 1 dX7_readOrder_106 rfl rfl ?_
              refine g_iconst 108 (nI 2) dX7_readOrder_107 rfl rfl ?_
              refine g_callVi 111 md_X7_bad [.int (nI 2)] [] dX7_readOrder_108 rfl e_X7_readOrder_98 rfl (by decide) rfl rfl (Nat.le_of_ble_eq_true rfl) (c_X7_bad hK_N48 2 (Or.inr (by have := hs3.mp c61; omega))) (fun r108 N108 h108 => ?_)
              obtain ⟨rfl, b8, b9, bF⟩ := h108
              exact g_zret rfl dX7_readOrder_111 (bi_nar _) (by rw [rLn_O hk (by omega)]; unfold rO; rw [orB_ok z48, orB_ok (nmF_0 (hs3.mp c61) ⟨Nat.zero_le _, by omega⟩), akF_2 c103, orB_no (by decide)]; exact RnP_no (by decide) rfl b8 b9 (hF_N48.tr (frd_bad bF)))
        · refine g_aload_n 65 1 dX7_readOrder_64 rfl rfl ?_
          refine g_iconst 66 (nI 1) dX7_readOrder_65 rfl rfl ?_
          refine g_callVi 69 md_X7_bad [.int (nI 1)] [] dX7_readOrder_66 rfl e_X7_readOrder_98 rfl (by decide) rfl rfl (Nat.le_of_ble_eq_true rfl) (c_X7_bad hK_N48 1 (Or.inl rfl)) (fun r66 N66 h66 => ?_)
          obtain ⟨rfl, b8, b9, bF⟩ := h66
          exact g_zret rfl dX7_readOrder_69 (bi_nar _) (by rw [rLn_O hk (by omega)]; unfold rO; rw [orB_ok z48, nmF_1 (fun z => c61 (hs3.mpr z)), orB_no (by decide)]; exact RnP_no (by decide) rfl b8 b9 (hF_N48.tr (frd_bad bF)))
      · exact absurd c51 (by decide)
    · obtain ⟨rfl, hk_N48, hl_N48⟩ := w48 z48
      refine g_ifB_ne 56 54 dX7_readOrder_51 rfl rfl (fun c51 => ?_) (fun c51 => ?_)
      · exact absurd c51 (by decide)
      · refine g_iconst 55 (nI 0) dX7_readOrder_54 rfl rfl ?_
        exact g_zret rfl dX7_readOrder_55 rfl (by rw [rLn_O hk (by omega)]; unfold rO; rw [orB_no z48]; exact RnP_no z48 rfl hk_N48 hl_N48 hF_N48)
  · refine g_aload_n 12 0 dX7_readOrder_11 rfl rfl ?_
    refine g_iconst 13 (nI 3) dX7_readOrder_12 rfl rfl ?_
    refine g_callVi 16 md_X7_bad [.int (nI 3)] [] dX7_readOrder_13 rfl e_X7_readOrder_98 rfl (by decide) rfl rfl (Nat.le_of_ble_eq_true rfl) (c_X7_bad hK 3 (Or.inr (by omega))) (fun r13 N13 h13 => ?_)
    obtain ⟨rfl, b8, b9, bF⟩ := h13
    exact g_zret rfl dX7_readOrder_16 (bi_nar _) (by rw [rLn_O3 hk (by omega)]; exact RnP_no (by decide) rfl b8 b9 (frd_bad bF))
