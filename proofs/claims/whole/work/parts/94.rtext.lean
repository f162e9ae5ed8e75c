set_option maxHeartbeats 4000000 in
set_option maxRecDepth 100000 in
theorem c_X7_isSort {l : Launch} {D : va_G} {g : Nat → Nat → Nat} {ca : Nat → ClassId} {M : Mm} {t : Nat → Nat} {n p : Nat} (hK : HK M t n p) (k : Nat) (hk3 : k < 3) : Ct l D g ca md_X7_isSort [.ref (g 18 0), .int (nI k)] M (Ri (fun r M1 => r = bi (decide (tkd t n p = 5 + k)) ∧ M1 = M)) := by
  refine Ct.of (by decide) rfl (Nat.le_of_ble_eq_true rfl) ?_
  show G l D g ca md_X7_isSort 0 [(0, .ref (g 18 0)), (1, .int (nI k))] [] M _
  refine g_iload_n 1 1 dX7_isSort_0 rfl rfl ?_
  refine g_ifN_ne 44 4 dX7_isSort_1 rfl rfl (by omega) (fun c1 => ?_) (fun c1 => ?_)
  · refine g_iload_n 45 1 dX7_isSort_44 rfl rfl ?_
    refine g_iconst 46 (nI 1) dX7_isSort_45 rfl rfl ?_
    refine g_icmpN_ne 65 49 dX7_isSort_46 rfl rfl (by omega) (by omega) (fun c46 => ?_) (fun c46 => ?_)
    · refine g_aload_n 66 0 dX7_isSort_65 rfl rfl ?_
      refine g_ldc2 69 (729) dX7_isSort_66 rfl lX7_108 ?_
      refine g_bipush 71 (nI 111) dX7_isSort_69 rfl rfl ?_
      refine g_bipush 73 (nI 114) dX7_isSort_71 rfl rfl ?_
      refine g_bipush 75 (nI 100) dX7_isSort_73 rfl rfl ?_
      refine g_callSl 78 md_X7_three [.int (nI 111), .int (nI 114), .int (nI 100)] [.long 729, .ref (g 18 0)] dX7_isSort_75 rfl e_X7_isSort_110 rfl rfl (Nat.le_of_ble_eq_true rfl) (c_X7_three (nI 111) (nI 114) (nI 100)) (fun r75 M75 h75 => ?_)
      obtain ⟨rfl, h75⟩ := h75
      have h75 := h75.symm
      subst h75
      refine g_lmul 79 (729 * (l3 (nI 111) (nI 114) (nI 100))) dX7_isSort_78 rfl rfl ?_
      refine g_ldc2 82 (135) dX7_isSort_79 rfl lX7_135 ?_
      refine g_ladd 83 ((729 * (l3 (nI 111) (nI 114) (nI 100))) + 135) dX7_isSort_82 rfl rfl ?_
      refine g_ldc2 86 (18) dX7_isSort_83 rfl lX7_137 ?_
      refine g_ladd 87 (((729 * (l3 (nI 111) (nI 114) (nI 100))) + 135) + 18) dX7_isSort_86 rfl rfl ?_
      rw [show (((729 * (l3 (nI 111) (nI 114) (nI 100))) + 135) + 18 : Int64) = Wn8 7 from by decide +kernel]
      refine g_callVi 90 md_X7_isWord [.long (Wn8 7)] [] dX7_isSort_87 rfl e_X7_isSort_118 rfl (by decide) rfl rfl (Nat.le_of_ble_eq_true rfl) (c_X7_isWord hK 7 (by decide) (by decide)) (fun r87 M87 h87 => ?_)
      obtain ⟨rfl, h87⟩ := h87
      have h87 := h87.symm
      subst h87
      exact g_zret rfl dX7_isSort_90 (bi_nar _) ⟨by rw [show 5 + k = 7 by omega], rfl⟩
    · refine g_aload_n 50 0 dX7_isSort_49 rfl rfl ?_
      refine g_bipush 52 (nI 108) dX7_isSort_50 rfl rfl ?_
      refine g_bipush 54 (nI 111) dX7_isSort_52 rfl rfl ?_
      refine g_bipush 56 (nI 116) dX7_isSort_54 rfl rfl ?_
      refine g_callSl 59 md_X7_three [.int (nI 108), .int (nI 111), .int (nI 116)] [.ref (g 18 0)] dX7_isSort_56 rfl e_X7_isSort_110 rfl rfl (Nat.le_of_ble_eq_true rfl) (c_X7_three (nI 108) (nI 111) (nI 116)) (fun r56 M56 h56 => ?_)
      obtain ⟨rfl, h56⟩ := h56
      have h56 := h56.symm
      subst h56
      rw [show (l3 (nI 108) (nI 111) (nI 116) : Int64) = Wn8 6 from by decide +kernel]
      refine g_callVi 62 md_X7_isWord [.long (Wn8 6)] [] dX7_isSort_59 rfl e_X7_isSort_118 rfl (by decide) rfl rfl (Nat.le_of_ble_eq_true rfl) (c_X7_isWord hK 6 (by decide) (by decide)) (fun r59 M59 h59 => ?_)
      obtain ⟨rfl, h59⟩ := h59
      have h59 := h59.symm
      subst h59
      refine g_goto 90 dX7_isSort_62 rfl ?_
      exact g_zret rfl dX7_isSort_90 (bi_nar _) ⟨by rw [show 5 + k = 6 by omega], rfl⟩
  · refine g_aload_n 5 0 dX7_isSort_4 rfl rfl ?_
    refine g_ldc2 8 (14348907) dX7_isSort_5 rfl lX7_133 ?_
    refine g_bipush 10 (nI 99) dX7_isSort_8 rfl rfl ?_
    refine g_bipush 12 (nI 117) dX7_isSort_10 rfl rfl ?_
    refine g_bipush 14 (nI 115) dX7_isSort_12 rfl rfl ?_
    refine g_callSl 17 md_X7_three [.int (nI 99), .int (nI 117), .int (nI 115)] [.long 14348907, .ref (g 18 0)] dX7_isSort_14 rfl e_X7_isSort_110 rfl rfl (Nat.le_of_ble_eq_true rfl) (c_X7_three (nI 99) (nI 117) (nI 115)) (fun r14 M14 h14 => ?_)
    obtain ⟨rfl, h14⟩ := h14
    have h14 := h14.symm
    subst h14
    refine g_lmul 18 (14348907 * (l3 (nI 99) (nI 117) (nI 115))) dX7_isSort_17 rfl rfl ?_
    refine g_ldc2 21 (729) dX7_isSort_18 rfl lX7_108 ?_
    refine g_bipush 23 (nI 116) dX7_isSort_21 rfl rfl ?_
    refine g_bipush 25 (nI 111) dX7_isSort_23 rfl rfl ?_
    refine g_bipush 27 (nI 109) dX7_isSort_25 rfl rfl ?_
    refine g_callSl 30 md_X7_three [.int (nI 116), .int (nI 111), .int (nI 109)] [.long 729, .long (14348907 * (l3 (nI 99) (nI 117) (nI 115))), .ref (g 18 0)] dX7_isSort_27 rfl e_X7_isSort_110 rfl rfl (Nat.le_of_ble_eq_true rfl) (c_X7_three (nI 116) (nI 111) (nI 109)) (fun r27 M27 h27 => ?_)
    obtain ⟨rfl, h27⟩ := h27
    have h27 := h27.symm
    subst h27
    refine g_lmul 31 (729 * (l3 (nI 116) (nI 111) (nI 109))) dX7_isSort_30 rfl rfl ?_
    refine g_ladd 32 ((14348907 * (l3 (nI 99) (nI 117) (nI 115))) + (729 * (l3 (nI 116) (nI 111) (nI 109)))) dX7_isSort_31 rfl rfl ?_
    refine g_ldc2 35 (135) dX7_isSort_32 rfl lX7_135 ?_
    refine g_ladd 36 (((14348907 * (l3 (nI 99) (nI 117) (nI 115))) + (729 * (l3 (nI 116) (nI 111) (nI 109)))) + 135) dX7_isSort_35 rfl rfl ?_
    refine g_ldc2 39 (18) dX7_isSort_36 rfl lX7_137 ?_
    refine g_ladd 40 ((((14348907 * (l3 (nI 99) (nI 117) (nI 115))) + (729 * (l3 (nI 116) (nI 111) (nI 109)))) + 135) + 18) dX7_isSort_39 rfl rfl ?_
    rw [show ((((14348907 * (l3 (nI 99) (nI 117) (nI 115))) + (729 * (l3 (nI 116) (nI 111) (nI 109)))) + 135) + 18 : Int64) = Wn8 5 from by decide +kernel]
    refine g_callVi 43 md_X7_isWord [.long (Wn8 5)] [] dX7_isSort_40 rfl e_X7_isSort_118 rfl (by decide) rfl rfl (Nat.le_of_ble_eq_true rfl) (c_X7_isWord hK 5 (by decide) (by decide)) (fun r40 M40 h40 => ?_)
    obtain ⟨rfl, h40⟩ := h40
    have h40 := h40.symm
    subst h40
    exact g_zret rfl dX7_isSort_43 (bi_nar _) ⟨by rw [show 5 + k = 5 by omega], rfl⟩

set_option maxHeartbeats 4000000 in
set_option maxRecDepth 100000 in
theorem c_X7_readGoods {l : Launch} {D : va_G} {g : Nat → Nat → Nat} {ca : Nat → ClassId} {M : Mm} {t : Nat → Nat} {n : Nat} (hT : TS M t n) (hB : Tb t n) (hK : HK M t n 0) (hZ0 : ∀ i, i < 1333 → M.1 18 13 i = nI 0) : Ct l D g ca md_X7_readGoods [.ref (g 18 0)] M (Ri (fun r M1 => RnP M t n (rG t n) r M1)) := by
  refine Ct.of (by decide) rfl (Nat.le_of_ble_eq_true rfl) ?_
  show G l D g ca md_X7_readGoods 0 [(0, .ref (g 18 0))] [] M _
  refine g_aload_n 1 0 dX7_readGoods_0 rfl rfl ?_
  refine g_ldc2 4 (729) dX7_readGoods_1 rfl lX7_108 ?_
  refine g_bipush 6 (nI 103) dX7_readGoods_4 rfl rfl ?_
  refine g_bipush 8 (nI 111) dX7_readGoods_6 rfl rfl ?_
  refine g_bipush 10 (nI 111) dX7_readGoods_8 rfl rfl ?_
  refine g_callSl 13 md_X7_three [.int (nI 103), .int (nI 111), .int (nI 111)] [.long 729, .ref (g 18 0)] dX7_readGoods_10 rfl e_X7_readGoods_110 rfl rfl (Nat.le_of_ble_eq_true rfl) (c_X7_three (nI 103) (nI 111) (nI 111)) (fun r10 M10 h10 => ?_)
  obtain ⟨rfl, h10⟩ := h10
  have h10 := h10.symm
  subst h10
  refine g_lmul 14 (729 * (l3 (nI 103) (nI 111) (nI 111))) dX7_readGoods_13 rfl rfl ?_
  refine g_ldc2 17 (108) dX7_readGoods_14 rfl lX7_114 ?_
  refine g_ladd 18 ((729 * (l3 (nI 103) (nI 111) (nI 111))) + 108) dX7_readGoods_17 rfl rfl ?_
  refine g_ldc2 21 (19) dX7_readGoods_18 rfl lX7_116 ?_
  refine g_ladd 22 (((729 * (l3 (nI 103) (nI 111) (nI 111))) + 108) + 19) dX7_readGoods_21 rfl rfl ?_
  rw [show (((729 * (l3 (nI 103) (nI 111) (nI 111))) + 108) + 19 : Int64) = Wn8 4 from by decide +kernel]
  refine g_callVi 25 md_X7_isWord [.long (Wn8 4)] [] dX7_readGoods_22 rfl e_X7_readGoods_118 rfl (by decide) rfl rfl (Nat.le_of_ble_eq_true rfl) (c_X7_isWord hK 4 (by decide) (by decide)) (fun r22 M22 h22 => ?_)
  obtain ⟨rfl, h22⟩ := h22
  have h22 := h22.symm
  subst h22
  refine g_ifB_ne 34 28 dX7_readGoods_25 rfl rfl (fun c25 => ?_) (fun c25 => ?_)
  · refine g_aload_n 35 0 dX7_readGoods_34 rfl rfl ?_
    have c25 := of_decide_eq_true c25
    have hp0 : tx t n 0 1 ≤ n := tnx_le (p := 0) (Nat.zero_le _) (by omega)
    refine g_callVv 38 md_X7_go [] [] dX7_readGoods_35 rfl e_X7_readGoods_105 rfl (by decide) rfl rfl (Nat.le_of_ble_eq_true rfl) (c_X7_go hT hB (hK.2.1 (by omega)) hp0) (fun G9 h35 => ?_)
    obtain ⟨hK_G9, gF⟩ := h35
    have hT_G9 := gF.ts hT
    have hF_G9 := gF.frd
    have hp_G9 : tx t n 0 1 ≤ n := hp0
    have hq_G9 : G9.1 18 0 8 = M.1 18 0 8 := gF _ _ _ (by omega)
    refine g_aload_n 39 0 dX7_readGoods_38 rfl rfl ?_
    refine g_iconst 40 (nI 1) dX7_readGoods_39 rfl rfl ?_
    refine g_iconst 41 (nI 1) dX7_readGoods_40 rfl rfl ?_
    refine g_iconst 42 (nI 4) dX7_readGoods_41 rfl rfl ?_
    refine g_callVi 45 md_X7_told [.int (nI 1), .int (nI 1), .int (nI 4)] [] dX7_readGoods_42 rfl e_X7_readGoods_122 rfl (by decide) rfl rfl (Nat.le_of_ble_eq_true rfl) (c_X7_tell (p := tx t n 0 1) hT_G9 hB hK_G9 hp_G9 1 (by omega) 1 5 (by omega) (by omega) (by decide)) (fun r42 N42 h42 => ?_)
    obtain ⟨y42, w42, f42⟩ := h42
    have hF_N42 := hF_G9.tr f42
    by_cases z42 : nmF t n (tx t n 0 1) 1 5 = 0
    · obtain ⟨rfl, hK_N42, e42, hq42⟩ := y42 z42
      have hK_N42 : HK N42 t n (tx t n 0 2) := hK_N42
      have hT_N42 := f42.ts hT_G9
      have hq_N42 := hq42.trans hq_G9
      have hp_N42 : tx t n 0 2 ≤ n := nmF_le hp_G9 z42
      have v42 := nmF_of z42
      refine g_ifB_eq 59 48 dX7_readGoods_45 rfl rfl (fun c45 => ?_) (fun c45 => ?_)
      · exact absurd c45 (by decide)
      · refine g_aload_n 49 0 dX7_readGoods_48 rfl rfl ?_
        refine g_callVi 52 md_X7_readEnd [] [] dX7_readGoods_49 rfl e_X7_readGoods_125 rfl (by decide) rfl rfl (Nat.le_of_ble_eq_true rfl) (c_X7_readEnd (p := tx t n 0 2) hT_N42 hB hK_N42 hp_N42) (fun r49 N49 h49 => ?_)
        obtain ⟨rfl, y49, w49, e49, f49⟩ := h49
        have hF_N49 := hF_N42.tr f49
        by_cases z49 : spF t n (tx t n 0 2) = 0
        · rw [decide_eq_true z49]
          obtain ⟨hK_N49, hq49⟩ := y49 z49
          have hq_N49 := hq49.trans hq_N42
          have hp_N49 : tx t n 0 3 ≤ n := spF_le hp_N42 z49
          refine g_ifB_eq 59 55 dX7_readGoods_52 rfl rfl (fun c52 => ?_) (fun c52 => ?_)
          · exact absurd c52 (by decide)
          · refine g_iconst 56 (nI 1) dX7_readGoods_55 rfl rfl ?_
            refine g_goto 60 dX7_readGoods_56 rfl ?_
            exact g_zret rfl dX7_readGoods_60 rfl (by rw [rG_4 c25, orB_ok z42, orB_ok z49]; exact RnP_ok rfl (gs_RM (fun i hi => by rw [e49, e42, gF _ _ _ (by omega), hZ0 i hi])) (fun q hq => ⟨by rw [e49, e42, if_neg (by omega), gF _ _ _ (by omega)]; exact hZ0 _ (by omega), by rw [e49, e42, if_neg (by omega), gF _ _ _ (by omega)]; exact hZ0 _ (by omega)⟩) hK_N49 hp_N49 hq_N49 hF_N49)
        · rw [decide_eq_false z49]
          obtain ⟨hk_N49, hl_N49⟩ := w49 z49
          refine g_ifB_eq 59 55 dX7_readGoods_52 rfl rfl (fun c52 => ?_) (fun c52 => ?_)
          · refine g_iconst 60 (nI 0) dX7_readGoods_59 rfl rfl ?_
            exact g_zret rfl dX7_readGoods_60 rfl (by rw [rG_4 c25, orB_ok z42, orB_no z49]; exact RnP_no z49 rfl hk_N49 hl_N49 hF_N49)
          · exact absurd c52 (by decide)
    · obtain ⟨rfl, hk_N42, hl_N42⟩ := w42 z42
      refine g_ifB_eq 59 48 dX7_readGoods_45 rfl rfl (fun c45 => ?_) (fun c45 => ?_)
      · refine g_iconst 60 (nI 0) dX7_readGoods_59 rfl rfl ?_
        exact g_zret rfl dX7_readGoods_60 rfl (by rw [rG_4 c25, orB_no z42]; exact RnP_no z42 rfl hk_N42 hl_N42 hF_N42)
      · exact absurd c45 (by decide)
  · refine g_aload_n 29 0 dX7_readGoods_28 rfl rfl ?_
    refine g_iconst 30 (nI 1) dX7_readGoods_29 rfl rfl ?_
    refine g_callVi 33 md_X7_bad [.int (nI 1)] [] dX7_readGoods_30 rfl e_X7_readGoods_98 rfl (by decide) rfl rfl (Nat.le_of_ble_eq_true rfl) (c_X7_bad hK 1 (Or.inl rfl)) (fun r30 N30 h30 => ?_)
    obtain ⟨rfl, b8, b9, bF⟩ := h30
    exact g_zret rfl dX7_readGoods_33 (bi_nar _) (by rw [rG_1 (of_decide_eq_false c25)]; exact RnP_no (by decide) rfl b8 b9 (frd_bad bF))

def FRe (M M1 : Mm) : Prop := ∀ o' c' i', ¬ (o' = 18 ∧ (c' = 13 ∨ (c' = 0 ∧ ((4 ≤ i' ∧ i' ≤ 9) ∨ i' = 15)))) → M1.1 o' c' i' = M.1 o' c' i'
theorem FRe.rf {M : Mm} : FRe M M := fun _ _ _ _ => rfl
theorem FRe.tr {M M1 M2 : Mm} (h : FRe M M1) (h2 : FRe M1 M2) : FRe M M2 := fun o' c' i' z => (h2 o' c' i' z).trans (h o' c' i' z)
theorem FRd.frl {M M1 : Mm} (h : FRd M M1) : FRe M M1 := fun o' c' i' z => h o' c' i' (by omega)
theorem FRe.w15 {M : Mm} {x : Int32} : FRe M (wr M 18 0 15 x) := fun o' c' i' z => wr_ne (by omega)
theorem FRe.ts {M M1 : Mm} {t : Nat → Nat} {n : Nat} (h : FRe M M1) (hT : TS M t n) : TS M1 t n := ⟨(h _ _ _ (by omega)).trans hT.1, fun i hi => (h _ _ _ (by omega)).trans (hT.2 i hi)⟩
theorem HKl {M : Mm} {t : Nat → Nat} {n p : Nat} {x : Int32} (h : HK M t n p) : HK (wr M 18 0 15 x) t n p := by
  obtain ⟨h5, h4, h7, s, hs, h⟩ := h
  refine ⟨(wr_ne (by omega)).trans h5, fun z => (wr_ne (by omega)).trans (h4 z), fun z => (wr_ne (by omega)).trans (h7 z), s, (wr_ne (by omega)).trans hs, ?_⟩
  rw [wr_lg]
  exact h
theorem RM13 {M : Mm} {a : Sa} {x : Int32} {i : Nat} (h : RM (M.1 18 13) a) : RM ((wr M 18 0 i x).1 18 13) a := RM_eq (fun i _ => wr_ne (by omega)) h
theorem Z13 {M : Mm} {x : Int32} {i : Nat} (h : Z45 (M.1 18 13)) : Z45 ((wr M 18 0 i x).1 18 13) := fun q hq => ⟨(wr_ne (by omega)).trans (h q hq).1, (wr_ne (by omega)).trans (h q hq).2⟩
def AlP (M : Mm) (t : Nat → Nat) (n k p0 ln0 : Nat) (a0 : Sa) (r : Int32) (M1 : Mm) : Prop := ((r = bi true ∧ ∃ p ln a, HK M1 t n p ∧ p ≤ n ∧ RM (M1.1 18 13) a ∧ Z45 (M1.1 18 13) ∧ Ok a ∧ Lm a ∧ M1.1 18 0 15 = nI ln ∧ M1.1 18 0 8 = M.1 18 0 8 ∧ rFF t n (5 + k) p0 ln0 a0 = rFF t n (5 + k) p ln a ∧ tkd t n p ≠ 5 + k) ∨ (r = bi false ∧ (rFF t n (5 + k) p0 ln0 a0).1 ≠ 0 ∧ M1.1 18 0 8 = nI (rFF t n (5 + k) p0 ln0 a0).1 ∧ M1.1 18 0 9 = nI (rFF t n (5 + k) p0 ln0 a0).2.1)) ∧ FRe M M1

set_option maxHeartbeats 4000000 in
set_option maxRecDepth 100000 in
theorem c_X7_readAll {l : Launch} {D : va_G} {g : Nat → Nat → Nat} {ca : Nat → ClassId} {M : Mm} {t : Nat → Nat} {n : Nat} (hT : TS M t n) (hB : Tb t n) {k p0 ln0 : Nat} {a0 : Sa} (hk3 : k < 3) (hK0 : HK M t n p0) (hp0 : p0 ≤ n) (hM0 : RM (M.1 18 13) a0) (hZ0 : Z45 (M.1 18 13)) (hO0 : Ok a0) (hL0 : Lm a0) (hln0 : M.1 18 0 15 = nI ln0) : Ct l D g ca md_X7_readAll [.ref (g 18 0), .int (nI k)] M (Ri (fun r M1 => AlP M t n k p0 ln0 a0 r M1)) := by
  refine Ct.of (by decide) rfl (Nat.le_of_ble_eq_true rfl) ?_
  show G l D g ca md_X7_readAll 0 [(0, .ref (g 18 0)), (1, .int (nI k))] [] M _
  have L0 : ∀ c, c ≤ 30 → ∀ (N : Mm) (p ln : Nat) (a : Sa), cnt a = c → TS N t n → HK N t n p → p ≤ n → RM (N.1 18 13) a → Z45 (N.1 18 13) → Ok a → Lm a → N.1 18 0 15 = nI ln → N.1 18 0 8 = M.1 18 0 8 → rFF t n (5 + k) p0 ln0 a0 = rFF t n (5 + k) p ln a → FRe M N → G l D g ca md_X7_readAll 0 [(0, .ref (g 18 0)), (1, .int (nI k))] [] N (Ri (fun r M1 => AlP M t n k p0 ln0 a0 r M1)) := by
    refine upto ?_
    intro c hc ih0 N p ln a hcn hTN hK hp hM hZ hO hL hln hq hR hF
    refine g_aload_n 1 0 dX7_readAll_0 rfl rfl ?_
    refine g_iload_n 2 1 dX7_readAll_1 rfl rfl ?_
    refine g_callVi 5 md_X7_isSort [.int (nI k)] [] dX7_readAll_2 rfl e_X7_readAll_139 rfl (by decide) rfl rfl (Nat.le_of_ble_eq_true rfl) (c_X7_isSort hK k hk3) (fun r2 M2 h2 => ?_)
    obtain ⟨rfl, h2⟩ := h2
    have h2 := h2.symm
    subst h2
    refine g_ifB_eq 59 8 dX7_readAll_5 rfl rfl (fun c5 => ?_) (fun c5 => ?_)
    · refine g_iconst 60 (nI 1) dX7_readAll_59 rfl rfl ?_
      exact g_zret rfl dX7_readAll_60 rfl ⟨Or.inl ⟨rfl, p, ln, a, hK, hp, hM, hZ, hO, hL, hln, hq, hR, of_decide_eq_false c5⟩, hF⟩
    · have cS : tkd t n p = 5 + k := of_decide_eq_true c5
      refine g_iload_n 9 1 dX7_readAll_8 rfl rfl ?_
      refine g_ifN_ne 22 12 dX7_readAll_9 rfl rfl (by omega) (fun c9 => ?_) (fun c9 => ?_)
      · refine g_iload_n 23 1 dX7_readAll_22 rfl rfl ?_
        refine g_iconst 24 (nI 1) dX7_readAll_23 rfl rfl ?_
        refine g_icmpN_ne 37 27 dX7_readAll_24 rfl rfl (by omega) (by omega) (fun c24 => ?_) (fun c24 => ?_)
        · refine g_aload_n 38 0 dX7_readAll_37 rfl rfl ?_
          refine g_callVi 41 md_X7_readOrder [] [] dX7_readAll_38 rfl e_X7_readAll_148 rfl (by decide) rfl rfl (Nat.le_of_ble_eq_true rfl) (c_X7_readOrder hTN hB hK hp hM hZ hO hL (by omega)) (fun r38 N3 h38 => ?_)
          obtain ⟨rfl, y3, w3, f3⟩ := h38
          refine g_ifB_ne 46 44 dX7_readAll_41 rfl rfl (fun c41 => ?_) (fun c41 => ?_)
          · have cL : (rLn t n p a).1 = 0 := of_decide_eq_true (by assumption)
            obtain ⟨y31, y32, y33, y34, y35⟩ := y3 cL
            refine g_aload_n 47 0 dX7_readAll_46 rfl rfl ?_
            refine g_dup 48 dX7_readAll_47 rfl rfl ?_
            refine g_get 51 (nI ln) dX7_readAll_48 rfl fX7_151 rfl (by decide) rfl ((f3 _ _ _ (by omega)).trans hln) ?_
            refine g_iconst 52 (nI 1) dX7_readAll_51 rfl rfl ?_
            refine g_iadd 53 (nI (ln + 1)) dX7_readAll_52 rfl (nI_add ln 1) ?_
            refine g_put 56 dX7_readAll_53 rfl fX7_151 pX7_15 rfl (by decide) rfl ?_
            refine g_goto 0 dX7_readAll_56 rfl ?_
            exact ih0 (by have := rLn_cnt hL cL; have h9 : cnt (rLn t n p a).2.2.2 ≤ 30 := (by obtain ⟨q1, q2, q3⟩ := this.2; unfold cnt; omega); omega) _ _ _ _ ((rLn_cnt hL cL).1.trans (by omega)) ((FRe.w15 (M := N3)).ts (f3.ts hTN)) (HKl y33) y34 (RM13 y31) (Z13 y32) (rLn_Ok hL hO cL) (rLn_cnt hL cL).2 wr_eq ((wr_ne (by omega)).trans (y35.trans hq)) (hR.trans (by rw [rFF_ok hL (by omega) (by omega) cL, cS])) ((hF.tr f3.frl).tr FRe.w15)
          · refine g_iconst 45 (nI 0) dX7_readAll_44 rfl rfl ?_
            exact g_zret rfl dX7_readAll_45 rfl (by have cL : ¬ (rLn t n p a).1 = 0 := of_decide_eq_false (by assumption); have e9 := hR.trans (rFF_bad hL (by omega) (by omega) cL); exact ⟨Or.inr (by rw [e9]; exact ⟨rfl, cL, (w3 cL).1, (w3 cL).2⟩), hF.tr f3.frl⟩)
        · refine g_aload_n 28 0 dX7_readAll_27 rfl rfl ?_
          refine g_callVi 31 md_X7_readLot [] [] dX7_readAll_28 rfl e_X7_readAll_145 rfl (by decide) rfl rfl (Nat.le_of_ble_eq_true rfl) (c_X7_readLot hTN hB hK hp hM hZ hO hL (by omega)) (fun r28 N3 h28 => ?_)
          obtain ⟨rfl, y3, w3, f3⟩ := h28
          refine g_ifB_eq 44 34 dX7_readAll_31 rfl rfl (fun c31 => ?_) (fun c31 => ?_)
          · refine g_iconst 45 (nI 0) dX7_readAll_44 rfl rfl ?_
            exact g_zret rfl dX7_readAll_45 rfl (by have cL : ¬ (rLn t n p a).1 = 0 := of_decide_eq_false (by assumption); have e9 := hR.trans (rFF_bad hL (by omega) (by omega) cL); exact ⟨Or.inr (by rw [e9]; exact ⟨rfl, cL, (w3 cL).1, (w3 cL).2⟩), hF.tr f3.frl⟩)
          · refine g_goto 46 dX7_readAll_34 rfl ?_
            have cL : (rLn t n p a).1 = 0 := of_decide_eq_true (by assumption)
            obtain ⟨y31, y32, y33, y34, y35⟩ := y3 cL
            refine g_aload_n 47 0 dX7_readAll_46 rfl rfl ?_
            refine g_dup 48 dX7_readAll_47 rfl rfl ?_
            refine g_get 51 (nI ln) dX7_readAll_48 rfl fX7_151 rfl (by decide) rfl ((f3 _ _ _ (by omega)).trans hln) ?_
            refine g_iconst 52 (nI 1) dX7_readAll_51 rfl rfl ?_
            refine g_iadd 53 (nI (ln + 1)) dX7_readAll_52 rfl (nI_add ln 1) ?_
            refine g_put 56 dX7_readAll_53 rfl fX7_151 pX7_15 rfl (by decide) rfl ?_
            refine g_goto 0 dX7_readAll_56 rfl ?_
            exact ih0 (by have := rLn_cnt hL cL; have h9 : cnt (rLn t n p a).2.2.2 ≤ 30 := (by obtain ⟨q1, q2, q3⟩ := this.2; unfold cnt; omega); omega) _ _ _ _ ((rLn_cnt hL cL).1.trans (by omega)) ((FRe.w15 (M := N3)).ts (f3.ts hTN)) (HKl y33) y34 (RM13 y31) (Z13 y32) (rLn_Ok hL hO cL) (rLn_cnt hL cL).2 wr_eq ((wr_ne (by omega)).trans (y35.trans hq)) (hR.trans (by rw [rFF_ok hL (by omega) (by omega) cL, cS])) ((hF.tr f3.frl).tr FRe.w15)
      · refine g_aload_n 13 0 dX7_readAll_12 rfl rfl ?_
        refine g_callVi 16 md_X7_readCustomer [] [] dX7_readAll_13 rfl e_X7_readAll_142 rfl (by decide) rfl rfl (Nat.le_of_ble_eq_true rfl) (c_X7_readCustomer hTN hB hK hp hM hZ hO hL (by omega)) (fun r13 N3 h13 => ?_)
        obtain ⟨rfl, y3, w3, f3⟩ := h13
        refine g_ifB_eq 44 19 dX7_readAll_16 rfl rfl (fun c16 => ?_) (fun c16 => ?_)
        · refine g_iconst 45 (nI 0) dX7_readAll_44 rfl rfl ?_
          exact g_zret rfl dX7_readAll_45 rfl (by have cL : ¬ (rLn t n p a).1 = 0 := of_decide_eq_false (by assumption); have e9 := hR.trans (rFF_bad hL (by omega) (by omega) cL); exact ⟨Or.inr (by rw [e9]; exact ⟨rfl, cL, (w3 cL).1, (w3 cL).2⟩), hF.tr f3.frl⟩)
        · refine g_goto 46 dX7_readAll_19 rfl ?_
          have cL : (rLn t n p a).1 = 0 := of_decide_eq_true (by assumption)
          obtain ⟨y31, y32, y33, y34, y35⟩ := y3 cL
          refine g_aload_n 47 0 dX7_readAll_46 rfl rfl ?_
          refine g_dup 48 dX7_readAll_47 rfl rfl ?_
          refine g_get 51 (nI ln) dX7_readAll_48 rfl fX7_151 rfl (by decide) rfl ((f3 _ _ _ (by omega)).trans hln) ?_
          refine g_iconst 52 (nI 1) dX7_readAll_51 rfl rfl ?_
          refine g_iadd 53 (nI (ln + 1)) dX7_readAll_52 rfl (nI_add ln 1) ?_
          refine g_put 56 dX7_readAll_53 rfl fX7_151 pX7_15 rfl (by decide) rfl ?_
          refine g_goto 0 dX7_readAll_56 rfl ?_
          exact ih0 (by have := rLn_cnt hL cL; have h9 : cnt (rLn t n p a).2.2.2 ≤ 30 := (by obtain ⟨q1, q2, q3⟩ := this.2; unfold cnt; omega); omega) _ _ _ _ ((rLn_cnt hL cL).1.trans (by omega)) ((FRe.w15 (M := N3)).ts (f3.ts hTN)) (HKl y33) y34 (RM13 y31) (Z13 y32) (rLn_Ok hL hO cL) (rLn_cnt hL cL).2 wr_eq ((wr_ne (by omega)).trans (y35.trans hq)) (hR.trans (by rw [rFF_ok hL (by omega) (by omega) cL, cS])) ((hF.tr f3.frl).tr FRe.w15)
  exact L0 (cnt a0) (by obtain ⟨q1, q2, q3⟩ := hL0; unfold cnt; omega) M p0 ln0 a0 rfl hT hK0 hp0 hM0 hZ0 hO0 hL0 hln0 rfl rfl FRe.rf

def RwP (M : Mm) (R : Rd) (r : Int32) (M1 : Mm) : Prop := r = bi (decide (R.1 = 0)) ∧ (R.1 = 0 → RM (M1.1 18 13) R.2.2.2 ∧ M1.1 18 0 15 = nI R.2.2.1 ∧ M1.1 18 0 8 = M.1 18 0 8) ∧ (R.1 ≠ 0 → M1.1 18 0 8 = nI R.1 ∧ M1.1 18 0 9 = nI R.2.1) ∧ FRe M M1
theorem RwP_no {M : Mm} {R : Rd} {r : Int32} {M1 : Mm} (hf : R.1 ≠ 0) (hr : r = nI 0) (h3 : M1.1 18 0 8 = nI R.1) (h4 : M1.1 18 0 9 = nI R.2.1) (hF : FRe M M1) : RwP M R r M1 :=
  ⟨by rw [hr, decide_eq_false hf]; rfl, fun z => absurd z hf, fun _ => ⟨h3, h4⟩, hF⟩
theorem rG_Ok {t : Nat → Nat} {n : Nat} (h : (rG t n).1 = 0) : Ok (rG t n).2.2.2 := by
  by_cases z : tkd t n 0 = 4
  · rw [rG_4 z] at h ⊢
    obtain ⟨h1, h⟩ := orB_st h
    obtain ⟨h2, h⟩ := orB_st h
    rw [orB_ok h1, orB_ok h2]
    have h9 := nmF_of h1
    exact gs_Ok h9.2.1 (by omega)
  · rw [rG_1 z] at h; exact absurd h (by show ¬ 1 = 0; omega)

set_option maxHeartbeats 4000000 in
set_option maxRecDepth 100000 in
theorem c_X7_readWhole {l : Launch} {D : va_G} {g : Nat → Nat → Nat} {ca : Nat → ClassId} {M : Mm} {t : Nat → Nat} {n : Nat} (hT : TS M t n) (hB : Tb t n) (hK : HK M t n 0) (hZ0 : ∀ i, i < 1333 → M.1 18 13 i = nI 0) (hln : M.1 18 0 15 = nI 0) : Ct l D g ca md_X7_readWhole [.ref (g 18 0)] M (Ri (fun r M1 => RwP M (rT t n) r M1)) := by
  refine Ct.of (by decide) rfl (Nat.le_of_ble_eq_true rfl) ?_
  show G l D g ca md_X7_readWhole 0 [(0, .ref (g 18 0))] [] M _
  refine g_aload_n 1 0 dX7_readWhole_0 rfl rfl ?_
  refine g_callVi 4 md_X7_readGoods [] [] dX7_readWhole_1 rfl e_X7_readWhole_154 rfl (by decide) rfl rfl (Nat.le_of_ble_eq_true rfl) (c_X7_readGoods hT hB hK hZ0) (fun r1 N h1 => ?_)
  obtain ⟨rfl, y0, w0, f0⟩ := h1
  refine g_ifB_ne 9 7 dX7_readWhole_4 rfl rfl (fun c4 => ?_) (fun c4 => ?_)
  · have c4 := of_decide_eq_true c4
    obtain ⟨m1, m2, m3, m4, m5⟩ := y0 c4
    have eT := rT_ok c4
    refine g_aload_n 10 0 dX7_readWhole_9 rfl rfl ?_
    refine g_dup 11 dX7_readWhole_10 rfl rfl ?_
    refine g_get 14 (nI 0) dX7_readWhole_11 rfl fX7_151 rfl (by decide) rfl ((f0 _ _ _ (by omega)).trans hln) ?_
    refine g_iconst 15 (nI 1) dX7_readWhole_14 rfl rfl ?_
    refine g_iadd 16 (nI 1) dX7_readWhole_15 rfl rfl ?_
    refine g_put 19 dX7_readWhole_16 rfl fX7_151 pX7_15 rfl (by decide) rfl ?_
    refine g_aload_n 20 0 dX7_readWhole_19 rfl rfl ?_
    refine g_iconst 21 (nI 0) dX7_readWhole_20 rfl rfl ?_
    refine g_callVi 24 md_X7_readAll [.int (nI 0)] [] dX7_readWhole_21 rfl e_X7_readWhole_157 rfl (by decide) rfl rfl (Nat.le_of_ble_eq_true rfl) (c_X7_readAll ((FRe.w15 (M := N)).ts (f0.ts hT)) hB (k := 0) (by decide) (HKl m3) m4 (RM13 m1) (Z13 m2) (rG_Ok c4) rG_Lm.1 wr_eq) (fun r21 A0 h21 => ?_)
    obtain ⟨h21, f1⟩ := h21
    have F0 : FRe M A0 := (f0.frl.tr FRe.w15).tr f1
    rcases h21 with ⟨rfl, p0, ln0, s0, a01, a02, a03, a04, a05, a06, a07, a08, a09, a0t⟩ | ⟨rfl, b1, b2, b3⟩
    · have eT : rT t n = rFF t n (5 + 1) p0 ln0 s0 := eT.trans (a09.trans (rFF_up a06 a0t))
      have q8_0 : A0.1 18 0 8 = M.1 18 0 8 := a08.trans ((wr_ne (by omega)).trans m5)
      refine g_ifB_eq 62 27 dX7_readWhole_24 rfl rfl (fun c24 => ?_) (fun c24 => ?_)
      · exact absurd c24 (by decide)
      · refine g_aload_n 28 0 dX7_readWhole_27 rfl rfl ?_
        refine g_iconst 29 (nI 1) dX7_readWhole_28 rfl rfl ?_
        refine g_callVi 32 md_X7_readAll [.int (nI 1)] [] dX7_readWhole_29 rfl e_X7_readWhole_157 rfl (by decide) rfl rfl (Nat.le_of_ble_eq_true rfl) (c_X7_readAll ((F0).ts hT) hB (k := 1) (by decide) a01 a02 a03 a04 a05 a06 a07) (fun r29 A1 h29 => ?_)
        obtain ⟨h29, f2⟩ := h29
        have F1 : FRe M A1 := F0.tr f2
        rcases h29 with ⟨rfl, p1, ln1, s1, a11, a12, a13, a14, a15, a16, a17, a18, a19, a1t⟩ | ⟨rfl, b1, b2, b3⟩
        · have eT : rT t n = rFF t n (5 + 1 + 1) p1 ln1 s1 := eT.trans (a19.trans (rFF_up a16 a1t))
          have q8_1 : A1.1 18 0 8 = M.1 18 0 8 := a18.trans q8_0
          refine g_ifB_eq 62 35 dX7_readWhole_32 rfl rfl (fun c32 => ?_) (fun c32 => ?_)
          · exact absurd c32 (by decide)
          · refine g_aload_n 36 0 dX7_readWhole_35 rfl rfl ?_
            refine g_iconst 37 (nI 2) dX7_readWhole_36 rfl rfl ?_
            refine g_callVi 40 md_X7_readAll [.int (nI 2)] [] dX7_readWhole_37 rfl e_X7_readWhole_157 rfl (by decide) rfl rfl (Nat.le_of_ble_eq_true rfl) (c_X7_readAll ((F1).ts hT) hB (k := 2) (by decide) a11 a12 a13 a14 a15 a16 a17) (fun r37 A2 h37 => ?_)
            obtain ⟨h37, f3⟩ := h37
            have F2 : FRe M A2 := F1.tr f3
            rcases h37 with ⟨rfl, p2, ln2, s2, a21, a22, a23, a24, a25, a26, a27, a28, a29, a2t⟩ | ⟨rfl, b1, b2, b3⟩
            · have eT : rT t n = rFF t n (5 + 2 + 1) p2 ln2 s2 := eT.trans (a29.trans (rFF_up a26 a2t))
              have q8_2 : A2.1 18 0 8 = M.1 18 0 8 := a28.trans q8_1
              refine g_ifB_eq 62 43 dX7_readWhole_40 rfl rfl (fun c40 => ?_) (fun c40 => ?_)
              · exact absurd c40 (by decide)
              · have hKs := a21
                obtain ⟨hK5, hK4, hK7, s, hs, hs4, hs0, hs3, hs9, hs1, hsw⟩ := hKs
                have hk7 := tkd_le (t := t) (n := n) (p := p2)
                refine g_aload_n 44 0 dX7_readWhole_43 rfl rfl ?_
                refine g_get 47 (nI s) dX7_readWhole_44 rfl fX7_27 rfl (by decide) rfl hs ?_
                refine g_ifN_eq 58 50 dX7_readWhole_47 rfl rfl (by omega) (fun c47 => ?_) (fun c47 => ?_)
                · refine g_iconst 59 (nI 1) dX7_readWhole_58 rfl rfl ?_
                  refine g_goto 63 dX7_readWhole_59 rfl ?_
                  exact g_zret rfl dX7_readWhole_63 rfl (by rw [eT, rFF_end a26 (hs0.mp c47)]; exact ⟨rfl, fun _ => ⟨a23, a27, q8_2⟩, fun z => absurd rfl z, F2⟩)
                · refine g_aload_n 51 0 dX7_readWhole_50 rfl rfl ?_
                  refine g_iconst 52 (nI 1) dX7_readWhole_51 rfl rfl ?_
                  refine g_callVi 55 md_X7_bad [.int (nI 1)] [] dX7_readWhole_52 rfl e_X7_readWhole_98 rfl (by decide) rfl rfl (Nat.le_of_ble_eq_true rfl) (c_X7_bad a21 1 (Or.inl rfl)) (fun r52 N52 h52 => ?_)
                  obtain ⟨rfl, b8, b9, bF⟩ := h52
                  refine g_ifB_eq 62 58 dX7_readWhole_55 rfl rfl (fun c55 => ?_) (fun c55 => ?_)
                  · refine g_iconst 63 (nI 0) dX7_readWhole_62 rfl rfl ?_
                    exact g_zret rfl dX7_readWhole_63 rfl (by have hne : ¬ tkd t n p2 = 0 := (fun z => by have := hs0.mpr z; omega); rw [eT, rFF_low a26 hne (by omega)]; exact RwP_no (R := (1, tpc t n p2, ln2, s2)) (by show 1 ≠ 0; omega) rfl b8 b9 (F2.tr (frd_bad bF).frl))
                  · exact absurd c55 (by decide)
            · have eT : rT t n = rFF t n (5 + 2) _ _ _ := eT
              rw [← eT] at b1 b2 b3
              refine g_ifB_eq 62 43 dX7_readWhole_40 rfl rfl (fun c40 => ?_) (fun c40 => ?_)
              · refine g_iconst 63 (nI 0) dX7_readWhole_62 rfl rfl ?_
                exact g_zret rfl dX7_readWhole_63 rfl (RwP_no b1 rfl b2 b3 F2)
              · exact absurd c40 (by decide)
        · have eT : rT t n = rFF t n (5 + 1) _ _ _ := eT
          rw [← eT] at b1 b2 b3
          refine g_ifB_eq 62 35 dX7_readWhole_32 rfl rfl (fun c32 => ?_) (fun c32 => ?_)
          · refine g_iconst 63 (nI 0) dX7_readWhole_62 rfl rfl ?_
            exact g_zret rfl dX7_readWhole_63 rfl (RwP_no b1 rfl b2 b3 F1)
          · exact absurd c32 (by decide)
    · have eT : rT t n = rFF t n (5 + 0) _ _ _ := eT
      rw [← eT] at b1 b2 b3
      refine g_ifB_eq 62 27 dX7_readWhole_24 rfl rfl (fun c24 => ?_) (fun c24 => ?_)
      · refine g_iconst 63 (nI 0) dX7_readWhole_62 rfl rfl ?_
        exact g_zret rfl dX7_readWhole_63 rfl (RwP_no b1 rfl b2 b3 F0)
      · exact absurd c24 (by decide)
  · refine g_iconst 8 (nI 0) dX7_readWhole_7 rfl rfl ?_
    exact g_zret rfl dX7_readWhole_8 rfl (by have c4 := of_decide_eq_false c4; rw [rT_no c4]; exact RwP_no c4 rfl (w0 c4).1 (w0 c4).2 f0.frl)

def FT1 (M M1 : Mm) : Prop := ∀ o' c' i', ¬ (o' = 18 ∧ (c' = 13 ∨ (c' = 0 ∧ (i' = 0 ∨ (2 ≤ i' ∧ i' ≤ 9) ∨ i' = 15)))) → M1.1 o' c' i' = M.1 o' c' i'
theorem FT1.tr {M M1 M2 : Mm} (h : FT1 M M1) (h2 : FT1 M1 M2) : FT1 M M2 := fun o' c' i' z => (h2 o' c' i' z).trans (h o' c' i' z)
theorem FT1.wr {M : Mm} {i : Nat} {x : Int32} (h : i = 0 ∨ (2 ≤ i ∧ i ≤ 9) ∨ i = 15) : FT1 M (wr M 18 0 i x) := fun o' c' i' z => wr_ne (by omega)
theorem FG.ft {M M1 : Mm} (h : FG M M1) : FT1 M M1 := fun o' c' i' z => h o' c' i' (by omega)
theorem FRe.ft {M M1 : Mm} (h : FRe M M1) : FT1 M M1 := fun o' c' i' z => h o' c' i' (by omega)
def F13 (M M1 : Mm) : Prop := ∀ o' c' i', ¬ (o' = 18 ∧ c' = 13) → M1.1 o' c' i' = M.1 o' c' i'
theorem F13.tr {M M1 M2 : Mm} (h : F13 M M1) (h2 : F13 M1 M2) : F13 M M2 := fun o' c' i' z => (h2 o' c' i' z).trans (h o' c' i' z)
def Cp12 (M N : Mm) (k : Nat) : Prop := (∀ i, N.1 18 12 i = if i < k then M.1 18 13 i else M.1 18 12 i) ∧ (∀ o' c' i', ¬ (o' = 18 ∧ c' = 12) → N.1 o' c' i' = M.1 o' c' i')
theorem Cp12_s {M N : Mm} {k : Nat} (h : Cp12 M N k) : Cp12 M (wr N 18 12 k (N.1 18 13 k)) (k + 1) := by
  refine ⟨fun i => ?_, fun o' c' i' z => by rw [wr_ne (by omega)]; exact h.2 o' c' i' z⟩
  rw [wr_at, h.2 18 13 _ (by omega)]
  by_cases e : i = k
  · rw [if_pos ⟨rfl, rfl, e⟩, if_pos (by omega), e]
  · rw [if_neg (by omega), h.1 i]
    by_cases z : i < k
    · rw [if_pos z, if_pos (by omega)]
    · rw [if_neg z, if_neg (by omega)]

set_option maxHeartbeats 4000000 in
set_option maxRecDepth 100000 in
theorem c_X7_text {l : Launch} {D : va_G} {g : Nat → Nat → Nat} {ca : Nat → ClassId} {M : Mm} {t : Nat → Nat} {n : Nat} (hT : TR M t n) (hB : Tb t n) {a : Sa} {m : Nat} {h : Nat → Sa} (H : MS M a m h) : Ct l D g ca md_X7_text [.ref (g 18 0)] M (Ri (fun r M1 => r = (S_txt t n (a, m, h)).1 ∧ MY M1 (S_txt t n (a, m, h)).2.2 ∧ M1.1 18 0 8 = nI (S_txt t n (a, m, h)).2.1 ∧ TR M1 t 0 ∧ (∀ o' c' i', o' ≠ 18 → M1.1 o' c' i' = M.1 o' c' i'))) := by
  refine Ct.of (by decide) rfl (Nat.le_of_ble_eq_true rfl) ?_
  show G l D g ca md_X7_text 0 [(0, .ref (g 18 0))] [] M _
  refine g_aload_n 1 0 dX7_text_0 rfl rfl ?_
  refine g_iconst 2 (nI 0) dX7_text_1 rfl rfl ?_
  refine g_put 5 dX7_text_2 rfl fX7_1 pX7_0 rfl (by decide) rfl ?_
  refine g_aload_n 6 0 dX7_text_5 rfl rfl ?_
  refine g_aload_n 7 0 dX7_text_6 rfl rfl ?_
  refine g_get 10 (nI n) dX7_text_7 rfl fX7_11 rfl (by decide) rfl ((wr_ne (by omega)).trans hT.1) ?_
  refine g_put 13 dX7_text_10 rfl fX7_18 pX7_3 rfl (by decide) rfl ?_
  refine g_aload_n 14 0 dX7_text_13 rfl rfl ?_
  refine g_iconst 15 (nI 0) dX7_text_14 rfl rfl ?_
  refine g_put 18 dX7_text_15 rfl fX7_11 pX7_2 rfl (by decide) rfl ?_
  refine g_aload_n 19 0 dX7_text_18 rfl rfl ?_
  refine g_iconst 20 (nI 0) dX7_text_19 rfl rfl ?_
  refine g_put 23 dX7_text_20 rfl fX7_52 pX7_8 rfl (by decide) rfl ?_
  refine g_aload_n 24 0 dX7_text_23 rfl rfl ?_
  refine g_iconst 25 (nI 0) dX7_text_24 rfl rfl ?_
  refine g_put 28 dX7_text_25 rfl fX7_21 pX7_4 rfl (by decide) rfl ?_
  refine g_aload_n 29 0 dX7_text_28 rfl rfl ?_
  refine g_iconst 30 (nI 0) dX7_text_29 rfl rfl ?_
  refine g_put 33 dX7_text_30 rfl fX7_151 pX7_15 rfl (by decide) rfl ?_
  have KW : ∀ W : Mm, W.1 18 0 3 = nI n → W.1 18 0 2 = nI 0 → W.1 18 0 8 = nI 0 → W.1 18 0 4 = nI 0 → W.1 18 0 15 = nI 0 → FT1 M W → G l D g ca md_X7_text 33 [(0, .ref (g 18 0))] [] W (Ri (fun r M1 => r = (S_txt t n (a, m, h)).1 ∧ MY M1 (S_txt t n (a, m, h)).2.2 ∧ M1.1 18 0 8 = nI (S_txt t n (a, m, h)).2.1 ∧ TR M1 t 0 ∧ (∀ o' c' i', o' ≠ 18 → M1.1 o' c' i' = M.1 o' c' i'))) := by
    intro W w3 w2 w8 w4 w15 wF
    refine g_iconst 34 (nI 0) dX7_text_33 rfl rfl ?_
    refine g_istore_n 35 [(1, .int (nI 0)), (0, .ref (g 18 0))] dX7_text_34 rfl (by decide) rfl ?_
    have L35 : ∀ k, k ≤ 1333 → ∀ (N : Mm), (∀ i, i < k → N.1 18 13 i = nI 0) → F13 W N → G l D g ca md_X7_text 35 [(1, .int (nI k)), (0, .ref (g 18 0))] [] N (Ri (fun r M1 => r = (S_txt t n (a, m, h)).1 ∧ MY M1 (S_txt t n (a, m, h)).2.2 ∧ M1.1 18 0 8 = nI (S_txt t n (a, m, h)).2.1 ∧ TR M1 t 0 ∧ (∀ o' c' i', o' ≠ 18 → M1.1 o' c' i' = M.1 o' c' i'))) := by
      refine upto ?_
      intro k hk ih35 N hv hF
      refine g_iload_n 36 0 dX7_text_35 rfl rfl ?_
      refine g_sipush 39 (nI 1333) dX7_text_36 rfl rfl ?_
      refine g_icmpN_ge 55 42 dX7_text_39 rfl rfl (by omega) (by omega) (fun c39 => ?_) (fun c39 => ?_)
      · refine g_aload_n 56 1 dX7_text_55 rfl rfl ?_
        have hk9 : k = 1333 := by omega
        subst hk9
        have hTs : TS N t n := ⟨(hF _ _ _ (by omega)).trans w3, fun i hi => (hF _ _ _ (by omega)).trans ((wF _ _ _ (by omega)).trans (hT.2 i hi))⟩
        refine g_callVv 59 md_X7_go [] [] dX7_text_56 rfl e_X7_text_105 rfl (by decide) rfl rfl (Nat.le_of_ble_eq_true rfl) (c_X7_go hTs hB ((hF _ _ _ (by omega)).trans w4) (Nat.zero_le _)) (fun G9 h56 => ?_)
        obtain ⟨gK, gF⟩ := h56
        refine g_aload_n 60 1 dX7_text_59 rfl rfl ?_
        refine g_callVi 63 md_X7_readWhole [] [] dX7_text_60 rfl e_X7_text_160 rfl (by decide) rfl rfl (Nat.le_of_ble_eq_true rfl) (c_X7_readWhole (gF.ts hTs) hB gK (fun i hi => (gF _ _ _ (by omega)).trans (hv i hi)) ((gF _ _ _ (by omega)).trans ((hF _ _ _ (by omega)).trans w15))) (fun r60 Rr h60 => ?_)
        obtain ⟨rfl, y0, w0, f0⟩ := h60
        have F9 : FT1 M Rr := ((wF.tr (fun o' c' i' z => hF o' c' i' (by omega))).tr gF.ft).tr f0.ft
        have w2r : Rr.1 18 0 2 = nI 0 := (f0 _ _ _ (by omega)).trans ((gF _ _ _ (by omega)).trans ((hF _ _ _ (by omega)).trans w2))
        have w8g : G9.1 18 0 8 = nI 0 := (gF _ _ _ (by omega)).trans ((hF _ _ _ (by omega)).trans w8)
        refine g_ifB_ne 73 66 dX7_text_63 rfl rfl (fun c63 => ?_) (fun c63 => ?_)
        · have c63 := of_decide_eq_true c63
          obtain ⟨m1, m2, m3⟩ := y0 c63
          refine g_iconst 74 (nI 0) dX7_text_73 rfl rfl ?_
          refine g_istore_n 75 [(1, .int (nI 0)), (0, .ref (g 18 0))] dX7_text_74 rfl (by decide) rfl ?_
          have L75 : ∀ k, k ≤ 1333 → ∀ (C : Mm), Cp12 Rr C k → G l D g ca md_X7_text 75 [(1, .int (nI k)), (0, .ref (g 18 0))] [] C (Ri (fun r M1 => r = (S_txt t n (a, m, h)).1 ∧ MY M1 (S_txt t n (a, m, h)).2.2 ∧ M1.1 18 0 8 = nI (S_txt t n (a, m, h)).2.1 ∧ TR M1 t 0 ∧ (∀ o' c' i', o' ≠ 18 → M1.1 o' c' i' = M.1 o' c' i'))) := by
            refine upto ?_
            intro k hk ih75 C hC
            refine g_iload_n 76 0 dX7_text_75 rfl rfl ?_
            refine g_sipush 79 (nI 1333) dX7_text_76 rfl rfl ?_
            refine g_icmpN_ge 100 82 dX7_text_79 rfl rfl (by omega) (by omega) (fun c79 => ?_) (fun c79 => ?_)
            · refine g_aload_n 101 1 dX7_text_100 rfl rfl ?_
              refine g_iconst 102 (nI 0) dX7_text_101 rfl rfl ?_
              refine g_put 105 dX7_text_102 rfl fX7_163 pX7_14 rfl (by decide) rfl ?_
              refine g_aload_n 106 1 dX7_text_105 rfl rfl ?_
              refine g_get 109 (nI ((rT t n).2.2.1)) dX7_text_106 rfl fX7_151 rfl (by decide) rfl ((wr_ne (by omega)).trans ((hC.2 _ _ _ (by omega)).trans m2)) ?_
              exact g_iret rfl dX7_text_109 (by have hk8 : k = 1333 := (by omega); subst hk8; rw [S_txt_ok c63]; exact ⟨rfl, ⟨RM_eq (fun i hi => by rw [wr_ne (by omega), hC.1, if_pos hi]) m1, wr_eq, Nat.zero_le _, fun k hk => absurd hk (Nat.not_lt_zero k)⟩, (wr_ne (by omega)).trans ((hC.2 _ _ _ (by omega)).trans (m3.trans w8g)), ⟨(wr_ne (by omega)).trans ((hC.2 _ _ _ (by omega)).trans w2r), fun i hi => absurd hi (Nat.not_lt_zero i)⟩, fun o' c' i' z => (wr_ne (by omega)).trans ((hC.2 _ _ _ (by omega)).trans (F9 o' c' i' (by omega)))⟩)
            · refine g_aload_n 83 1 dX7_text_82 rfl rfl ?_
              refine g_geta 86 12 dX7_text_83 rfl fX7_64 rfl (by decide) rfl rfl ?_
              refine g_iload_n 87 0 dX7_text_86 rfl rfl ?_
              refine g_aload_n 88 1 dX7_text_87 rfl rfl ?_
              refine g_geta 91 13 dX7_text_88 rfl fX7_67 rfl (by decide) rfl rfl ?_
              refine g_iload_n 92 0 dX7_text_91 rfl rfl ?_
              refine g_iald 93 (C.1 18 13 k) dX7_text_92 rfl rfl (by decide) rfl (by decide) (by omega) rfl ?_
              refine g_iast 94 dX7_text_93 rfl rfl (by decide) rfl (by decide) (by omega) ?_
              refine g_iinc 97 (nI (k + 1)) [(1, .int (nI (k + 1))), (0, .ref (g 18 0))] dX7_text_94 rfl 0 rfl (nI_add k 1) (by decide) rfl ?_
              refine g_goto 75 dX7_text_97 rfl ?_
              exact ih75 (by omega) _ (Cp12_s hC)
          exact L75 0 (Nat.zero_le _) Rr ⟨fun i => by rw [if_neg (by omega)], fun _ _ _ _ => rfl⟩
        · refine g_iconst 67 ((-1)) dX7_text_66 rfl rfl ?_
          refine g_aload_n 68 1 dX7_text_67 rfl rfl ?_
          refine g_get 71 (nI ((rT t n).2.1)) dX7_text_68 rfl fX7_55 rfl (by decide) rfl (w0 (of_decide_eq_false c63)).2 ?_
          refine g_isub 72 ((-1) - (nI ((rT t n).2.1))) dX7_text_71 rfl rfl ?_
          exact g_iret rfl dX7_text_72 (by rw [S_txt_no (of_decide_eq_false c63)]; exact ⟨rfl, H.of (F9 _ _ _ (by omega)) (fun i => F9 _ _ _ (by omega)) (RM_eq (fun i _ => F9 _ _ _ (by omega)) H.1), (w0 (of_decide_eq_false c63)).1, ⟨w2r, fun i hi => absurd hi (Nat.not_lt_zero i)⟩, fun o' c' i' z => F9 o' c' i' (by omega)⟩)
      · refine g_aload_n 43 1 dX7_text_42 rfl rfl ?_
        refine g_geta 46 13 dX7_text_43 rfl fX7_67 rfl (by decide) rfl rfl ?_
        refine g_iload_n 47 0 dX7_text_46 rfl rfl ?_
        refine g_iconst 48 (nI 0) dX7_text_47 rfl rfl ?_
        refine g_iast 49 dX7_text_48 rfl rfl (by decide) rfl (by decide) (by omega) ?_
        refine g_iinc 52 (nI (k + 1)) [(1, .int (nI (k + 1))), (0, .ref (g 18 0))] dX7_text_49 rfl 0 rfl (nI_add k 1) (by decide) rfl ?_
        refine g_goto 35 dX7_text_52 rfl ?_
        exact ih35 (by omega) _ (fun i hi => by rw [wr13]; by_cases z : i = k; exact if_pos z; rw [if_neg z]; exact hv i (by omega)) (hF.tr (fun o' c' i' z => wr_ne (by omega)))
    exact L35 0 (Nat.zero_le _) W (fun i h => absurd h (Nat.not_lt_zero i)) (fun _ _ _ _ => rfl)
  exact KW _ ((wr_ne (by omega)).trans ((wr_ne (by omega)).trans ((wr_ne (by omega)).trans ((wr_ne (by omega)).trans wr_eq)))) ((wr_ne (by omega)).trans ((wr_ne (by omega)).trans ((wr_ne (by omega)).trans wr_eq))) ((wr_ne (by omega)).trans ((wr_ne (by omega)).trans wr_eq)) ((wr_ne (by omega)).trans wr_eq) wr_eq ((((((FT1.wr (by omega)).tr (FT1.wr (by omega))).tr (FT1.wr (by omega))).tr (FT1.wr (by omega))).tr (FT1.wr (by omega))).tr (FT1.wr (by omega)))
