set_option maxHeartbeats 4000000 in
set_option maxRecDepth 100000 in
theorem c_X7_snap {l : Launch} {D : va_G} {g : Nat → Nat → Nat} {ca : Nat → ClassId} {M : Mm} {a : Sa} {m : Nat} {h : Nat → Sa} (hS : MS M a m h) : Ct l D g ca md_X7_snap [.ref (g 18 0)] M (Rv (fun M1 => MS M1 a (psm m) (psh h m a) ∧ FS M M1)) := by
  refine Ct.of (by decide) rfl (Nat.le_of_ble_eq_true rfl) ?_
  have b10 := hS.2.2.1
  show G l D g ca md_X7_snap 0 [(0, .ref (g 18 0))] [] M _
  refine g_aload_n 1 0 dX7_snap_0 rfl rfl ?_
  refine g_get 4 (nI m) dX7_snap_1 rfl fX7_163 rfl (by decide) rfl hS.2.1 ?_
  refine g_bipush 6 (nI 10) dX7_snap_4 rfl rfl ?_
  refine g_icmpN_ne 50 9 dX7_snap_6 rfl rfl (by omega) (by omega) (fun c6 => ?_) (fun c6 => ?_)
  · refine g_iconst 51 (nI 0) dX7_snap_50 rfl rfl ?_
    refine g_istore_n 52 [(1, .int (nI 0)), (0, .ref (g 18 0))] dX7_snap_51 rfl (by decide) rfl ?_
    have L52 : ∀ k, k ≤ 1333 → ∀ (B : Mm), I2 M B m m k → G l D g ca md_X7_snap 52 [(1, .int (nI k)), (0, .ref (g 18 0))] [] B (Rv (fun M1 => MS M1 a (psm m) (psh h m a) ∧ FS M M1)) := by
      refine upto ?_
      intro k hk ih52 B hw
      refine g_iload_n 53 0 dX7_snap_52 rfl rfl ?_
      refine g_sipush 56 (nI 1333) dX7_snap_53 rfl rfl ?_
      refine g_icmpN_ge 86 59 dX7_snap_56 rfl rfl (by omega) (by omega) (fun c56 => ?_) (fun c56 => ?_)
      · refine g_aload_n 87 1 dX7_snap_86 rfl rfl ?_
        refine g_dup 88 dX7_snap_87 rfl rfl ?_
        refine g_get 91 (nI m) dX7_snap_88 rfl fX7_163 rfl (by decide) rfl hw.2.1 ?_
        refine g_iconst 92 (nI 1) dX7_snap_91 rfl rfl ?_
        refine g_iadd 93 (nI (m + 1)) dX7_snap_92 rfl (nI_add m 1) ?_
        refine g_put 96 dX7_snap_93 rfl fX7_163 pX7_14 rfl (by decide) rfl ?_
        exact g_vret rfl dX7_snap_96 (MS_snap (k := k) hS (if_neg (by omega)).symm (by omega) hw)
      · refine g_aload_n 60 1 dX7_snap_59 rfl rfl ?_
        refine g_geta 63 14 dX7_snap_60 rfl fX7_70 rfl (by decide) rfl rfl ?_
        refine g_sipush 66 (nI 1333) dX7_snap_63 rfl rfl ?_
        refine g_aload_n 67 1 dX7_snap_66 rfl rfl ?_
        refine g_get 70 (nI m) dX7_snap_67 rfl fX7_163 rfl (by decide) rfl hw.2.1 ?_
        refine g_imul 71 (nI (1333 * m)) dX7_snap_70 rfl (pk_mul 1333 m) ?_
        refine g_iload_n 72 0 dX7_snap_71 rfl rfl ?_
        refine g_iadd 73 (nI ((1333 * m) + k)) dX7_snap_72 rfl (nI_add (1333 * m) k) ?_
        refine g_aload_n 74 1 dX7_snap_73 rfl rfl ?_
        refine g_geta 77 12 dX7_snap_74 rfl fX7_64 rfl (by decide) rfl rfl ?_
        refine g_iload_n 78 0 dX7_snap_77 rfl rfl ?_
        refine g_iald 79 ((B.1 18 12 k)) dX7_snap_78 rfl rfl (by decide) rfl (by decide) (by omega) rfl ?_
        refine g_iast 80 dX7_snap_79 rfl rfl (by decide) rfl (by decide) (by omega) ?_
        refine g_iinc 83 (nI (k + 1)) [(1, .int (nI (k + 1))), (0, .ref (g 18 0))] dX7_snap_80 rfl 0 rfl (nI_add k 1) (by decide) rfl ?_
        refine g_goto 52 dX7_snap_83 rfl ?_
        exact ih52 (by omega) _ (I2_s hw)
    exact L52 0 (Nat.zero_le _) _ (I2_a (by omega) hS.2.1)
  · refine g_iconst 10 (nI 0) dX7_snap_9 rfl rfl ?_
    refine g_istore_n 11 [(1, .int (nI 0)), (0, .ref (g 18 0))] dX7_snap_10 rfl (by decide) rfl ?_
    have L11 : ∀ k, k ≤ 11997 → ∀ (N : Mm), I1 M N k → G l D g ca md_X7_snap 11 [(1, .int (nI k)), (0, .ref (g 18 0))] [] N (Rv (fun M1 => MS M1 a (psm m) (psh h m a) ∧ FS M M1)) := by
      refine upto ?_
      intro k hk ih11 N hv
      refine g_iload_n 12 0 dX7_snap_11 rfl rfl ?_
      refine g_sipush 15 (nI 11997) dX7_snap_12 rfl rfl ?_
      refine g_icmpN_ge 40 18 dX7_snap_15 rfl rfl (by omega) (by omega) (fun c15 => ?_) (fun c15 => ?_)
      · refine g_aload_n 41 1 dX7_snap_40 rfl rfl ?_
        refine g_dup 42 dX7_snap_41 rfl rfl ?_
        refine g_get 45 (nI m) dX7_snap_42 rfl fX7_163 rfl (by decide) rfl ((hv.2.1 18 0 14 (by omega)).trans hS.2.1) ?_
        refine g_iconst 46 (nI 1) dX7_snap_45 rfl rfl ?_
        refine g_isub 47 (nI 9) dX7_snap_46 rfl (by rw [show m = 10 by omega]; rfl) ?_
        refine g_put 50 dX7_snap_47 rfl fX7_163 pX7_14 rfl (by decide) rfl ?_
        refine g_iconst 51 (nI 0) dX7_snap_50 rfl rfl ?_
        refine g_istore_n 52 [(1, .int (nI 0)), (0, .ref (g 18 0))] dX7_snap_51 rfl (by decide) rfl ?_
        have L52 : ∀ k, k ≤ 1333 → ∀ (B : Mm), I2 M B m 9 k → G l D g ca md_X7_snap 52 [(1, .int (nI k)), (0, .ref (g 18 0))] [] B (Rv (fun M1 => MS M1 a (psm m) (psh h m a) ∧ FS M M1)) := by
          refine upto ?_
          intro k hk ih52 B hw
          refine g_iload_n 53 0 dX7_snap_52 rfl rfl ?_
          refine g_sipush 56 (nI 1333) dX7_snap_53 rfl rfl ?_
          refine g_icmpN_ge 86 59 dX7_snap_56 rfl rfl (by omega) (by omega) (fun c56 => ?_) (fun c56 => ?_)
          · refine g_aload_n 87 1 dX7_snap_86 rfl rfl ?_
            refine g_dup 88 dX7_snap_87 rfl rfl ?_
            refine g_get 91 (nI 9) dX7_snap_88 rfl fX7_163 rfl (by decide) rfl hw.2.1 ?_
            refine g_iconst 92 (nI 1) dX7_snap_91 rfl rfl ?_
            refine g_iadd 93 (nI 10) dX7_snap_92 rfl rfl ?_
            refine g_put 96 dX7_snap_93 rfl fX7_163 pX7_14 rfl (by decide) rfl ?_
            exact g_vret rfl dX7_snap_96 (MS_snap (k := k) hS (if_pos (by omega)).symm (by omega) hw)
          · refine g_aload_n 60 1 dX7_snap_59 rfl rfl ?_
            refine g_geta 63 14 dX7_snap_60 rfl fX7_70 rfl (by decide) rfl rfl ?_
            refine g_sipush 66 (nI 1333) dX7_snap_63 rfl rfl ?_
            refine g_aload_n 67 1 dX7_snap_66 rfl rfl ?_
            refine g_get 70 (nI 9) dX7_snap_67 rfl fX7_163 rfl (by decide) rfl hw.2.1 ?_
            refine g_imul 71 (nI 11997) dX7_snap_70 rfl rfl ?_
            refine g_iload_n 72 0 dX7_snap_71 rfl rfl ?_
            refine g_iadd 73 (nI (11997 + k)) dX7_snap_72 rfl (nI_add 11997 k) ?_
            refine g_aload_n 74 1 dX7_snap_73 rfl rfl ?_
            refine g_geta 77 12 dX7_snap_74 rfl fX7_64 rfl (by decide) rfl rfl ?_
            refine g_iload_n 78 0 dX7_snap_77 rfl rfl ?_
            refine g_iald 79 ((B.1 18 12 k)) dX7_snap_78 rfl rfl (by decide) rfl (by decide) (by omega) rfl ?_
            refine g_iast 80 dX7_snap_79 rfl rfl (by decide) rfl (by decide) (by omega) ?_
            refine g_iinc 83 (nI (k + 1)) [(1, .int (nI (k + 1))), (0, .ref (g 18 0))] dX7_snap_80 rfl 0 rfl (nI_add k 1) (by decide) rfl ?_
            refine g_goto 52 dX7_snap_83 rfl ?_
            exact ih52 (by omega) _ (I2_s hw)
        exact L52 0 (Nat.zero_le _) _ (I2_b (by omega) (by omega) hv)
      · refine g_aload_n 19 1 dX7_snap_18 rfl rfl ?_
        refine g_geta 22 14 dX7_snap_19 rfl fX7_70 rfl (by decide) rfl rfl ?_
        refine g_iload_n 23 0 dX7_snap_22 rfl rfl ?_
        refine g_aload_n 24 1 dX7_snap_23 rfl rfl ?_
        refine g_geta 27 14 dX7_snap_24 rfl fX7_70 rfl (by decide) rfl rfl ?_
        refine g_iload_n 28 0 dX7_snap_27 rfl rfl ?_
        refine g_sipush 31 (nI 1333) dX7_snap_28 rfl rfl ?_
        refine g_iadd 32 (nI (k + 1333)) dX7_snap_31 rfl (nI_add k 1333) ?_
        refine g_iald 33 ((N.1 18 14 (k + 1333))) dX7_snap_32 rfl rfl (by decide) rfl (by decide) (by omega) rfl ?_
        refine g_iast 34 dX7_snap_33 rfl rfl (by decide) rfl (by decide) (by omega) ?_
        refine g_iinc 37 (nI (k + 1)) [(1, .int (nI (k + 1))), (0, .ref (g 18 0))] dX7_snap_34 rfl 0 rfl (nI_add k 1) (by decide) rfl ?_
        refine g_goto 11 dX7_snap_37 rfl ?_
        exact ih11 (by omega) _ (I1_s hv)
    exact L11 0 (Nat.zero_le _) M I1_0

set_option maxHeartbeats 4000000 in
set_option maxRecDepth 100000 in
theorem c_X7_comes {l : Launch} {D : va_G} {g : Nat → Nat → Nat} {ca : Nat → ClassId} {M : Mm} {a : Sa} {m : Nat} {h : Nat → Sa} (hS : MS M a m h) (hI : Iv a) (x y z w : Int32) : Ct l D g ca md_X7_comes [.ref (g 18 0), .int x, .int y, .int z, .int w] M (Ri (fun r M1 => r = (S_comes (a, m, h) x y z w).1 ∧ MY M1 (S_comes (a, m, h) x y z w).2 ∧ FA M M1)) := by
  refine Ct.of (by decide) rfl (Nat.le_of_ble_eq_true rfl) ?_
  have hN := hS.1
  have b0 := hI.today
  have b1 := hI.g4
  have b2 := hN.c6
  have b3 := hN.l24
  have b4 := hN.o40
  have b10 := hS.2.2.1
  show G l D g ca md_X7_comes 0 [(0, .ref (g 18 0)), (1, .int x), (2, .int y), (3, .int z), (4, .int w)] [] M _
  refine g_aload_n 1 0 dX7_comes_0 rfl rfl ?_
  refine g_iconst 2 (nI 0) dX7_comes_1 rfl rfl ?_
  refine g_put 5 dX7_comes_2 rfl fX7_1 pX7_0 rfl (by decide) rfl ?_
  refine g_aload_n 6 0 dX7_comes_5 rfl rfl ?_
  refine g_iload_n 7 1 dX7_comes_6 rfl rfl ?_
  refine g_callVi 10 md_X7_isGood [.int x] [] dX7_comes_7 rfl e_X7_comes_214 rfl (by decide) rfl rfl (Nat.le_of_ble_eq_true rfl) (c_X7_isGood (RM_w (by decide) hN) hI x) (fun r7 M7 h7 => ?_)
  obtain ⟨rfl, h7⟩ := h7
  have h7 := h7.symm
  subst h7
  refine g_ifB_eq 53 13 dX7_comes_10 rfl rfl (fun c10 => ?_) (fun c10 => ?_)
  · refine g_iconst 54 ((-1)) dX7_comes_53 rfl rfl ?_
    exact g_iret rfl dX7_comes_54 (by rw [S_comes_no (by unfold cokm; first | (rw [c10]; rfl) | (rw [c28, Bool.and_false]; rfl) | (rw [c38, Bool.and_false]; rfl) | (rw [c50, Bool.and_false]))]; exact ⟨rfl, hS.w0, FA.w0⟩)
  · refine g_iload_n 14 2 dX7_comes_13 rfl rfl ?_
    refine g_aload_n 15 0 dX7_comes_14 rfl rfl ?_
    refine g_callVi 18 md_X7_today [] [.int y] dX7_comes_15 rfl e_X7_comes_192 rfl (by decide) rfl rfl (Nat.le_of_ble_eq_true rfl) (c_X7_today (RM_w (by decide) hN) hI) (fun r15 M15 h15 => ?_)
    obtain ⟨rfl, h15⟩ := h15
    have h15 := h15.symm
    subst h15
    refine g_aload_n 19 0 dX7_comes_18 rfl rfl ?_
    refine g_callVi 22 md_X7_today [] [.int (nI (a 0 0)), .int y] dX7_comes_19 rfl e_X7_comes_192 rfl (by decide) rfl rfl (Nat.le_of_ble_eq_true rfl) (c_X7_today (RM_w (by decide) hN) hI) (fun r19 M19 h19 => ?_)
    obtain ⟨rfl, h19⟩ := h19
    have h19 := h19.symm
    subst h19
    refine g_bipush 24 (nI 99) dX7_comes_22 rfl rfl ?_
    refine g_iadd 25 (nI ((a 0 0) + 99)) dX7_comes_24 rfl (nI_add (a 0 0) 99) ?_
    refine g_callSi 28 md_X7_isIn [.int y, .int (nI (a 0 0)), .int (nI ((a 0 0) + 99))] [] dX7_comes_25 rfl e_X7_comes_101 rfl rfl (Nat.le_of_ble_eq_true rfl) (c_X7_isIn (y) (nI (a 0 0)) (nI ((a 0 0) + 99))) (fun r25 M25 h25 => ?_)
    obtain ⟨rfl, h25⟩ := h25
    have h25 := h25.symm
    subst h25
    rw [isin_ahead b0]
    refine g_ifB_eq 53 31 dX7_comes_28 rfl rfl (fun c28 => ?_) (fun c28 => ?_)
    · refine g_iconst 54 ((-1)) dX7_comes_53 rfl rfl ?_
      exact g_iret rfl dX7_comes_54 (by rw [S_comes_no (by unfold cokm; first | (rw [c10]; rfl) | (rw [c28, Bool.and_false]; rfl) | (rw [c38, Bool.and_false]; rfl) | (rw [c50, Bool.and_false]))]; exact ⟨rfl, hS.w0, FA.w0⟩)
    · refine g_iload_n 32 3 dX7_comes_31 rfl rfl ?_
      refine g_iconst 33 (nI 1) dX7_comes_32 rfl rfl ?_
      refine g_bipush 35 (nI 99) dX7_comes_33 rfl rfl ?_
      refine g_callSi 38 md_X7_isIn [.int z, .int (nI 1), .int (nI 99)] [] dX7_comes_35 rfl e_X7_comes_101 rfl rfl (Nat.le_of_ble_eq_true rfl) (c_X7_isIn (z) (nI 1) (nI 99)) (fun r35 M35 h35 => ?_)
      obtain ⟨rfl, h35⟩ := h35
      have h35 := h35.symm
      subst h35
      refine g_ifB_eq 53 41 dX7_comes_38 rfl rfl (fun c38 => ?_) (fun c38 => ?_)
      · refine g_iconst 54 ((-1)) dX7_comes_53 rfl rfl ?_
        exact g_iret rfl dX7_comes_54 (by rw [S_comes_no (by unfold cokm; first | (rw [c10]; rfl) | (rw [c28, Bool.and_false]; rfl) | (rw [c38, Bool.and_false]; rfl) | (rw [c50, Bool.and_false]))]; exact ⟨rfl, hS.w0, FA.w0⟩)
      · refine g_iload 43 4 dX7_comes_41 rfl rfl ?_
        refine g_iconst 44 (nI 0) dX7_comes_43 rfl rfl ?_
        refine g_sipush 47 (nI 999) dX7_comes_44 rfl rfl ?_
        refine g_callSi 50 md_X7_isIn [.int w, .int (nI 0), .int (nI 999)] [] dX7_comes_47 rfl e_X7_comes_101 rfl rfl (Nat.le_of_ble_eq_true rfl) (c_X7_isIn (w) (nI 0) (nI 999)) (fun r47 M47 h47 => ?_)
        obtain ⟨rfl, h47⟩ := h47
        have h47 := h47.symm
        subst h47
        refine g_ifB_ne 55 53 dX7_comes_50 rfl rfl (fun c50 => ?_) (fun c50 => ?_)
        · have hok : cokm a x y z w = true := by unfold cokm; rw [c10, c28, c38, c50]; rfl
          obtain ⟨gd, e, s, t, rfl, rfl, rfl, rfl, hg, he1, he2, hs1, hs2, ht⟩ := cok_of hok
          refine g_aload_n 56 0 dX7_comes_55 rfl rfl ?_
          refine g_geta 59 12 dX7_comes_56 rfl fX7_64 rfl (by decide) rfl rfl ?_
          refine g_iconst 60 (nI 3) dX7_comes_59 rfl rfl ?_
          refine g_iald 61 (nI (a 0 3)) dX7_comes_60 rfl rfl (by decide) rfl (by decide) (by omega) ((wr_ne (by omega)).trans (hN.sc (by decide))) ?_
          refine g_bipush 63 (nI 24) dX7_comes_61 rfl rfl ?_
          refine g_icmpN_ne 69 66 dX7_comes_63 rfl rfl (by omega) (by omega) (fun c63 => ?_) (fun c63 => ?_)
          · refine g_aload_n 70 0 dX7_comes_69 rfl rfl ?_
            refine g_callVv 73 md_X7_snap [] [] dX7_comes_70 rfl e_X7_comes_299 rfl (by decide) rfl rfl (Nat.le_of_ble_eq_true rfl) (c_X7_snap hS.w0) (fun N h70 => ?_)
            obtain ⟨hS1, hF1⟩ := h70
            have hN_N := hS1.1
            refine g_bipush 75 (nI 37) dX7_comes_73 rfl rfl ?_
            refine g_iconst 76 (nI 4) dX7_comes_75 rfl rfl ?_
            refine g_aload_n 77 0 dX7_comes_76 rfl rfl ?_
            refine g_geta 80 12 dX7_comes_77 rfl fX7_64 rfl (by decide) rfl rfl ?_
            refine g_iconst 81 (nI 3) dX7_comes_80 rfl rfl ?_
            refine g_iald 82 (nI (a 0 3)) dX7_comes_81 rfl rfl (by decide) rfl (by decide) (by omega) (hN_N.sc (by decide)) ?_
            refine g_imul 83 (nI (4 * (a 0 3))) dX7_comes_82 rfl (pk_mul 4 (a 0 3)) ?_
            refine g_iadd 84 (nI (37 + (4 * (a 0 3)))) dX7_comes_83 rfl (nI_add 37 (4 * (a 0 3))) ?_
            refine g_istore 86 [(5, .int (nI (37 + (4 * (a 0 3))))), (0, .ref (g 18 0)), (1, .int (nI gd)), (2, .int (nI e)), (3, .int (nI s)), (4, .int (nI t))] dX7_comes_84 rfl (by decide) rfl ?_
            refine g_aload_n 87 1 dX7_comes_86 rfl rfl ?_
            refine g_geta 90 12 dX7_comes_87 rfl fX7_64 rfl (by decide) rfl rfl ?_
            refine g_iload 92 0 dX7_comes_90 rfl rfl ?_
            refine g_iconst 93 (nI 0) dX7_comes_92 rfl rfl ?_
            refine g_iadd 94 (nI ((37 + (4 * (a 0 3))) + 0)) dX7_comes_93 rfl (nI_add (37 + (4 * (a 0 3))) 0) ?_
            refine g_iload_n 95 2 dX7_comes_94 rfl rfl ?_
            refine g_iast 96 dX7_comes_95 rfl rfl (by decide) rfl (by decide) (by omega) ?_
            refine g_aload_n 97 1 dX7_comes_96 rfl rfl ?_
            refine g_geta 100 12 dX7_comes_97 rfl fX7_64 rfl (by decide) rfl rfl ?_
            refine g_iload 102 0 dX7_comes_100 rfl rfl ?_
            refine g_iconst 103 (nI 1) dX7_comes_102 rfl rfl ?_
            refine g_iadd 104 (nI ((37 + (4 * (a 0 3))) + 1)) dX7_comes_103 rfl (nI_add (37 + (4 * (a 0 3))) 1) ?_
            refine g_iload_n 105 3 dX7_comes_104 rfl rfl ?_
            refine g_iast 106 dX7_comes_105 rfl rfl (by decide) rfl (by decide) (by omega) ?_
            refine g_aload_n 107 1 dX7_comes_106 rfl rfl ?_
            refine g_geta 110 12 dX7_comes_107 rfl fX7_64 rfl (by decide) rfl rfl ?_
            refine g_iload 112 0 dX7_comes_110 rfl rfl ?_
            refine g_iconst 113 (nI 2) dX7_comes_112 rfl rfl ?_
            refine g_iadd 114 (nI ((37 + (4 * (a 0 3))) + 2)) dX7_comes_113 rfl (nI_add (37 + (4 * (a 0 3))) 2) ?_
            refine g_iload_n 115 4 dX7_comes_114 rfl rfl ?_
            refine g_iast 116 dX7_comes_115 rfl rfl (by decide) rfl (by decide) (by omega) ?_
            refine g_aload_n 117 1 dX7_comes_116 rfl rfl ?_
            refine g_geta 120 12 dX7_comes_117 rfl fX7_64 rfl (by decide) rfl rfl ?_
            refine g_iload 122 0 dX7_comes_120 rfl rfl ?_
            refine g_iconst 123 (nI 3) dX7_comes_122 rfl rfl ?_
            refine g_iadd 124 (nI ((37 + (4 * (a 0 3))) + 3)) dX7_comes_123 rfl (nI_add (37 + (4 * (a 0 3))) 3) ?_
            refine g_iload 126 5 dX7_comes_124 rfl rfl ?_
            refine g_iast 127 dX7_comes_126 rfl rfl (by decide) rfl (by decide) (by omega) ?_
            refine g_aload_n 128 1 dX7_comes_127 rfl rfl ?_
            refine g_geta 131 12 dX7_comes_128 rfl fX7_64 rfl (by decide) rfl rfl ?_
            refine g_iconst 132 (nI 3) dX7_comes_131 rfl rfl ?_
            refine g_dup2 133 dX7_comes_132 rfl rfl rfl ?_
            refine g_iald 134 (nI (a 0 3)) dX7_comes_133 rfl rfl (by decide) rfl (by decide) (by omega) ((wr_ne (by omega)).trans ((wr_ne (by omega)).trans ((wr_ne (by omega)).trans ((wr_ne (by omega)).trans (hN_N.sc (by decide)))))) ?_
            refine g_iconst 135 (nI 1) dX7_comes_134 rfl rfl ?_
            refine g_iadd 136 (nI ((a 0 3) + 1)) dX7_comes_135 rfl (nI_add (a 0 3) 1) ?_
            refine g_iast 137 dX7_comes_136 rfl rfl (by decide) rfl (by decide) (by omega) ?_
            refine g_aload_n 138 1 dX7_comes_137 rfl rfl ?_
            refine g_geta 141 12 dX7_comes_138 rfl fX7_64 rfl (by decide) rfl rfl ?_
            refine g_iconst 142 (nI 3) dX7_comes_141 rfl rfl ?_
            refine g_iald 143 (nI ((a 0 3) + 1)) dX7_comes_142 rfl rfl (by decide) rfl (by decide) (by omega) wr_eq ?_
            refine g_iconst 144 (nI 1) dX7_comes_143 rfl rfl ?_
            refine g_isub 145 (nI (a 0 3)) dX7_comes_144 rfl (pk_sub (by omega)) ?_
            exact g_iret rfl dX7_comes_145 (by rw [S_comes_at (by omega) (by omega) (by omega) (by omega) hok c63]; exact ⟨rfl, hS1.f12 ((((F12.wr.tr F12.wr).tr F12.wr).tr F12.wr).tr F12.wr) (RM_addL hN_N (by omega) (fun i h1 h2 => by rw [wr_ne (by omega), wr_ne (by omega), wr_ne (by omega), wr_ne (by omega), wr_ne (by omega)]) wr_eq (by rw [wr_ne (by omega), wr_ne (by omega), wr_ne (by omega), wr_ne (by omega), wr_eq]) (by rw [wr_ne (by omega), wr_ne (by omega), wr_ne (by omega), wr_eq]) (by rw [wr_ne (by omega), wr_ne (by omega), wr_eq]) (by rw [wr_ne (by omega), wr_eq])), FA.w0.tr (hF1.fa.tr (F12.fa ((((F12.wr.tr F12.wr).tr F12.wr).tr F12.wr).tr F12.wr)))⟩)
          · refine g_bipush 68 ((-2)) dX7_comes_66 rfl rfl ?_
            exact g_iret rfl dX7_comes_68 (by rw [S_comes_full hok c63]; exact ⟨rfl, hS.w0, FA.w0⟩)
        · refine g_iconst 54 ((-1)) dX7_comes_53 rfl rfl ?_
          exact g_iret rfl dX7_comes_54 (by rw [S_comes_no (by unfold cokm; first | (rw [c10]; rfl) | (rw [c28, Bool.and_false]; rfl) | (rw [c38, Bool.and_false]; rfl) | (rw [c50, Bool.and_false]))]; exact ⟨rfl, hS.w0, FA.w0⟩)

set_option maxHeartbeats 4000000 in
set_option maxRecDepth 100000 in
theorem c_X7_asks {l : Launch} {D : va_G} {g : Nat → Nat → Nat} {ca : Nat → ClassId} {M : Mm} {a : Sa} {m : Nat} {h : Nat → Sa} (hS : MS M a m h) (hI : Iv a) (x y z w : Int32) : Ct l D g ca md_X7_asks [.ref (g 18 0), .int x, .int y, .int z, .int w] M (Ri (fun r M1 => r = (S_asks (a, m, h) x y z w).1 ∧ MY M1 (S_asks (a, m, h) x y z w).2 ∧ FA M M1)) := by
  refine Ct.of (by decide) rfl (Nat.le_of_ble_eq_true rfl) ?_
  have hN := hS.1
  have b0 := hI.today
  have b1 := hI.g4
  have b2 := hN.c6
  have b3 := hN.l24
  have b4 := hN.o40
  have b10 := hS.2.2.1
  show G l D g ca md_X7_asks 0 [(0, .ref (g 18 0)), (1, .int x), (2, .int y), (3, .int z), (4, .int w)] [] M _
  refine g_aload_n 1 0 dX7_asks_0 rfl rfl ?_
  refine g_iconst 2 (nI 0) dX7_asks_1 rfl rfl ?_
  refine g_put 5 dX7_asks_2 rfl fX7_1 pX7_0 rfl (by decide) rfl ?_
  refine g_aload_n 6 0 dX7_asks_5 rfl rfl ?_
  refine g_iload_n 7 1 dX7_asks_6 rfl rfl ?_
  refine g_iload_n 8 2 dX7_asks_7 rfl rfl ?_
  refine g_iload_n 9 3 dX7_asks_8 rfl rfl ?_
  refine g_iload 11 4 dX7_asks_9 rfl rfl ?_
  refine g_callVi 14 md_X7_canAsk [.int x, .int y, .int z, .int w] [] dX7_asks_11 rfl e_X7_asks_295 rfl (by decide) rfl rfl (Nat.le_of_ble_eq_true rfl) (c_X7_canAsk (RM_w (by decide) hN) hI x y z w) (fun r11 M11 h11 => ?_)
  obtain ⟨rfl, h11⟩ := h11
  have h11 := h11.symm
  subst h11
  refine g_ifB_ne 19 17 dX7_asks_14 rfl rfl (fun c14 => ?_) (fun c14 => ?_)
  · obtain ⟨c, gd, n, j, rfl, rfl, rfl, rfl, hc, hg, hn1, hn2, hj1, hj2⟩ := cask_of c14
    refine g_aload_n 20 0 dX7_asks_19 rfl rfl ?_
    refine g_aload_n 21 0 dX7_asks_20 rfl rfl ?_
    refine g_geta 24 12 dX7_asks_21 rfl fX7_64 rfl (by decide) rfl rfl ?_
    refine g_iload_n 25 1 dX7_asks_24 rfl rfl ?_
    refine g_iload_n 26 2 dX7_asks_25 rfl rfl ?_
    refine g_callVi 29 md_X7_isAskedFor [.ref (g 18 12), .int (nI c), .int (nI gd)] [] dX7_asks_26 rfl e_X7_asks_129 rfl (by decide) rfl rfl (Nat.le_of_ble_eq_true rfl) (c_X7_isAskedFor12 (RM_w (by decide) hN) (fun q hq => by have := hI.ord hq; omega) c gd (by omega) (by omega)) (fun r26 M26 h26 => ?_)
    obtain ⟨rfl, h26⟩ := h26
    have h26 := h26.symm
    subst h26
    refine g_ifB_eq 35 32 dX7_asks_29 rfl rfl (fun c29 => ?_) (fun c29 => ?_)
    · refine g_aload_n 36 0 dX7_asks_35 rfl rfl ?_
      refine g_geta 39 12 dX7_asks_36 rfl fX7_64 rfl (by decide) rfl rfl ?_
      refine g_iconst 40 (nI 4) dX7_asks_39 rfl rfl ?_
      refine g_iald 41 (nI (a 0 4)) dX7_asks_40 rfl rfl (by decide) rfl (by decide) (by omega) ((wr_ne (by omega)).trans (hN.sc (by decide))) ?_
      refine g_bipush 43 (nI 40) dX7_asks_41 rfl rfl ?_
      refine g_icmpN_ne 49 46 dX7_asks_43 rfl rfl (by omega) (by omega) (fun c43 => ?_) (fun c43 => ?_)
      · refine g_aload_n 50 0 dX7_asks_49 rfl rfl ?_
        refine g_callVv 53 md_X7_snap [] [] dX7_asks_50 rfl e_X7_asks_299 rfl (by decide) rfl rfl (Nat.le_of_ble_eq_true rfl) (c_X7_snap hS.w0) (fun N h50 => ?_)
        obtain ⟨hS1, hF1⟩ := h50
        have hN_N := hS1.1
        refine g_sipush 56 (nI 133) dX7_asks_53 rfl rfl ?_
        refine g_bipush 58 (nI 6) dX7_asks_56 rfl rfl ?_
        refine g_aload_n 59 0 dX7_asks_58 rfl rfl ?_
        refine g_geta 62 12 dX7_asks_59 rfl fX7_64 rfl (by decide) rfl rfl ?_
        refine g_iconst 63 (nI 4) dX7_asks_62 rfl rfl ?_
        refine g_iald 64 (nI (a 0 4)) dX7_asks_63 rfl rfl (by decide) rfl (by decide) (by omega) (hN_N.sc (by decide)) ?_
        refine g_imul 65 (nI (6 * (a 0 4))) dX7_asks_64 rfl (pk_mul 6 (a 0 4)) ?_
        refine g_iadd 66 (nI (133 + (6 * (a 0 4)))) dX7_asks_65 rfl (nI_add 133 (6 * (a 0 4))) ?_
        refine g_istore 68 [(5, .int (nI (133 + (6 * (a 0 4))))), (0, .ref (g 18 0)), (1, .int (nI c)), (2, .int (nI gd)), (3, .int (nI n)), (4, .int (nI j))] dX7_asks_66 rfl (by decide) rfl ?_
        refine g_aload_n 69 1 dX7_asks_68 rfl rfl ?_
        refine g_geta 72 12 dX7_asks_69 rfl fX7_64 rfl (by decide) rfl rfl ?_
        refine g_iload 74 0 dX7_asks_72 rfl rfl ?_
        refine g_iconst 75 (nI 0) dX7_asks_74 rfl rfl ?_
        refine g_iadd 76 (nI ((133 + (6 * (a 0 4))) + 0)) dX7_asks_75 rfl (nI_add (133 + (6 * (a 0 4))) 0) ?_
        refine g_iload_n 77 2 dX7_asks_76 rfl rfl ?_
        refine g_iast 78 dX7_asks_77 rfl rfl (by decide) rfl (by decide) (by omega) ?_
        refine g_aload_n 79 1 dX7_asks_78 rfl rfl ?_
        refine g_geta 82 12 dX7_asks_79 rfl fX7_64 rfl (by decide) rfl rfl ?_
        refine g_iload 84 0 dX7_asks_82 rfl rfl ?_
        refine g_iconst 85 (nI 1) dX7_asks_84 rfl rfl ?_
        refine g_iadd 86 (nI ((133 + (6 * (a 0 4))) + 1)) dX7_asks_85 rfl (nI_add (133 + (6 * (a 0 4))) 1) ?_
        refine g_iload_n 87 3 dX7_asks_86 rfl rfl ?_
        refine g_iast 88 dX7_asks_87 rfl rfl (by decide) rfl (by decide) (by omega) ?_
        refine g_aload_n 89 1 dX7_asks_88 rfl rfl ?_
        refine g_geta 92 12 dX7_asks_89 rfl fX7_64 rfl (by decide) rfl rfl ?_
        refine g_iload 94 0 dX7_asks_92 rfl rfl ?_
        refine g_iconst 95 (nI 2) dX7_asks_94 rfl rfl ?_
        refine g_iadd 96 (nI ((133 + (6 * (a 0 4))) + 2)) dX7_asks_95 rfl (nI_add (133 + (6 * (a 0 4))) 2) ?_
        refine g_iload_n 97 4 dX7_asks_96 rfl rfl ?_
        refine g_iast 98 dX7_asks_97 rfl rfl (by decide) rfl (by decide) (by omega) ?_
        refine g_aload_n 99 1 dX7_asks_98 rfl rfl ?_
        refine g_geta 102 12 dX7_asks_99 rfl fX7_64 rfl (by decide) rfl rfl ?_
        refine g_iload 104 0 dX7_asks_102 rfl rfl ?_
        refine g_iconst 105 (nI 3) dX7_asks_104 rfl rfl ?_
        refine g_iadd 106 (nI ((133 + (6 * (a 0 4))) + 3)) dX7_asks_105 rfl (nI_add (133 + (6 * (a 0 4))) 3) ?_
        refine g_iload 108 5 dX7_asks_106 rfl rfl ?_
        refine g_iast 109 dX7_asks_108 rfl rfl (by decide) rfl (by decide) (by omega) ?_
        refine g_aload_n 110 1 dX7_asks_109 rfl rfl ?_
        refine g_geta 113 12 dX7_asks_110 rfl fX7_64 rfl (by decide) rfl rfl ?_
        refine g_iload 115 0 dX7_asks_113 rfl rfl ?_
        refine g_iconst 116 (nI 4) dX7_asks_115 rfl rfl ?_
        refine g_iadd 117 (nI ((133 + (6 * (a 0 4))) + 4)) dX7_asks_116 rfl (nI_add (133 + (6 * (a 0 4))) 4) ?_
        refine g_iconst 118 (nI 0) dX7_asks_117 rfl rfl ?_
        refine g_iast 119 dX7_asks_118 rfl rfl (by decide) rfl (by decide) (by omega) ?_
        refine g_aload_n 120 1 dX7_asks_119 rfl rfl ?_
        refine g_geta 123 12 dX7_asks_120 rfl fX7_64 rfl (by decide) rfl rfl ?_
        refine g_iload 125 0 dX7_asks_123 rfl rfl ?_
        refine g_iconst 126 (nI 5) dX7_asks_125 rfl rfl ?_
        refine g_iadd 127 (nI ((133 + (6 * (a 0 4))) + 5)) dX7_asks_126 rfl (nI_add (133 + (6 * (a 0 4))) 5) ?_
        refine g_iconst 128 (nI 0) dX7_asks_127 rfl rfl ?_
        refine g_iast 129 dX7_asks_128 rfl rfl (by decide) rfl (by decide) (by omega) ?_
        refine g_aload_n 130 1 dX7_asks_129 rfl rfl ?_
        refine g_geta 133 12 dX7_asks_130 rfl fX7_64 rfl (by decide) rfl rfl ?_
        refine g_iconst 134 (nI 4) dX7_asks_133 rfl rfl ?_
        refine g_dup2 135 dX7_asks_134 rfl rfl rfl ?_
        refine g_iald 136 (nI (a 0 4)) dX7_asks_135 rfl rfl (by decide) rfl (by decide) (by omega) ((wr_ne (by omega)).trans ((wr_ne (by omega)).trans ((wr_ne (by omega)).trans ((wr_ne (by omega)).trans ((wr_ne (by omega)).trans ((wr_ne (by omega)).trans (hN_N.sc (by decide)))))))) ?_
        refine g_iconst 137 (nI 1) dX7_asks_136 rfl rfl ?_
        refine g_iadd 138 (nI ((a 0 4) + 1)) dX7_asks_137 rfl (nI_add (a 0 4) 1) ?_
        refine g_iast 139 dX7_asks_138 rfl rfl (by decide) rfl (by decide) (by omega) ?_
        refine g_aload_n 140 1 dX7_asks_139 rfl rfl ?_
        refine g_geta 143 12 dX7_asks_140 rfl fX7_64 rfl (by decide) rfl rfl ?_
        refine g_iconst 144 (nI 4) dX7_asks_143 rfl rfl ?_
        refine g_iald 145 (nI ((a 0 4) + 1)) dX7_asks_144 rfl rfl (by decide) rfl (by decide) (by omega) wr_eq ?_
        refine g_iconst 146 (nI 1) dX7_asks_145 rfl rfl ?_
        refine g_isub 147 (nI (a 0 4)) dX7_asks_146 rfl (pk_sub (by omega)) ?_
        exact g_iret rfl dX7_asks_147 (by rw [S_asks_at (by omega) (by omega) (by omega) (by omega) c14 c29 c43]; exact ⟨rfl, hS1.f12 ((((((F12.wr.tr F12.wr).tr F12.wr).tr F12.wr).tr F12.wr).tr F12.wr).tr F12.wr) (RM_addO hN_N (by omega) (fun i h1 h2 => by rw [wr_ne (by omega), wr_ne (by omega), wr_ne (by omega), wr_ne (by omega), wr_ne (by omega), wr_ne (by omega), wr_ne (by omega)]) wr_eq (by rw [wr_ne (by omega), wr_ne (by omega), wr_ne (by omega), wr_ne (by omega), wr_ne (by omega), wr_ne (by omega), wr_eq]) (by rw [wr_ne (by omega), wr_ne (by omega), wr_ne (by omega), wr_ne (by omega), wr_ne (by omega), wr_eq]) (by rw [wr_ne (by omega), wr_ne (by omega), wr_ne (by omega), wr_ne (by omega), wr_eq]) (by rw [wr_ne (by omega), wr_ne (by omega), wr_ne (by omega), wr_eq]) (by rw [wr_ne (by omega), wr_ne (by omega), wr_eq]) (by rw [wr_ne (by omega), wr_eq])), FA.w0.tr (hF1.fa.tr (F12.fa ((((((F12.wr.tr F12.wr).tr F12.wr).tr F12.wr).tr F12.wr).tr F12.wr).tr F12.wr)))⟩)
      · refine g_bipush 48 ((-3)) dX7_asks_46 rfl rfl ?_
        exact g_iret rfl dX7_asks_48 (by rw [S_asks_full (by omega) (by omega) c14 c29 c43]; exact ⟨rfl, hS.w0, FA.w0⟩)
    · refine g_bipush 34 ((-2)) dX7_asks_32 rfl rfl ?_
      exact g_iret rfl dX7_asks_34 (by rw [S_asks_a (by omega) (by omega) c14 c29]; exact ⟨rfl, hS.w0, FA.w0⟩)
  · refine g_iconst 18 ((-1)) dX7_asks_17 rfl rfl ?_
    exact g_iret rfl dX7_asks_18 (by rw [S_asks_no c14]; exact ⟨rfl, hS.w0, FA.w0⟩)

set_option maxHeartbeats 4000000 in
set_option maxRecDepth 100000 in
theorem c_X7_frees {l : Launch} {D : va_G} {g : Nat → Nat → Nat} {ca : Nat → ClassId} {M : Mm} {a : Sa} (hN : RM (M.1 18 12) a) (hI : Iv a) (q : Nat) (hq : q < a 0 4) (hz : ∀ p, a 0 3 ≤ p → p < 24 → res a p q = 0) : Ct l D g ca md_X7_frees [.ref (g 18 0), .int (nI q)] M (Ri (fun r M1 => r = nI (ro a q) ∧ RM (M1.1 18 12) (frees a q) ∧ F12 18 M M1)) := by
  refine Ct.of (by decide) rfl (Nat.le_of_ble_eq_true rfl) ?_
  have b0 := hI.today
  have b1 := hI.g4
  have b1' := hI.g1
  have b2 := hN.c6
  have b3 := hN.l24
  have b4 := hN.o40
  show G l D g ca md_X7_frees 0 [(0, .ref (g 18 0)), (1, .int (nI q))] [] M _
  refine g_aload_n 1 0 dX7_frees_0 rfl rfl ?_
  refine g_iload_n 2 1 dX7_frees_1 rfl rfl ?_
  refine g_callVi 5 md_X7_forOrder [.int (nI q)] [] dX7_frees_2 rfl e_X7_frees_208 rfl (by decide) rfl rfl (Nat.le_of_ble_eq_true rfl) (c_X7_forOrder hN hI q (by omega)) (fun r2 M2 h2 => ?_)
  obtain ⟨rfl, h2⟩ := h2
  have h2 := h2.symm
  subst h2
  refine g_istore_n 6 [(2, .int (nI (ro a q))), (0, .ref (g 18 0)), (1, .int (nI q))] dX7_frees_5 rfl (by decide) rfl ?_
  refine g_iconst 7 (nI 0) dX7_frees_6 rfl rfl ?_
  refine g_istore_n 8 [(3, .int (nI 0)), (2, .int (nI (ro a q))), (0, .ref (g 18 0)), (1, .int (nI q))] dX7_frees_7 rfl (by decide) rfl ?_
  have L8 : ∀ k, k ≤ a 0 3 → ∀ (N : Mm), RM (N.1 18 12) (frk a q k) → F12 18 M N → G l D g ca md_X7_frees 8 [(3, .int (nI k)), (2, .int (nI (ro a q))), (0, .ref (g 18 0)), (1, .int (nI q))] [] N (Ri (fun r M1 => r = nI (ro a q) ∧ RM (M1.1 18 12) (frees a q) ∧ F12 18 M M1)) := by
    refine upto ?_
    intro k hk ih8 N hv hF
    refine g_iload_n 9 0 dX7_frees_8 rfl rfl ?_
    refine g_aload_n 10 2 dX7_frees_9 rfl rfl ?_
    refine g_geta 13 12 dX7_frees_10 rfl fX7_64 rfl (by decide) rfl rfl ?_
    refine g_iconst 14 (nI 3) dX7_frees_13 rfl rfl ?_
    refine g_iald 15 (nI (a 0 3)) dX7_frees_14 rfl rfl (by decide) rfl (by decide) (by omega) ((hv.sc (by decide)).trans (congrArg nI (frk_lo a q k 0 3 (by decide)))) ?_
    refine g_icmpN_ge 40 18 dX7_frees_15 rfl rfl (by omega) (by omega) (fun c15 => ?_) (fun c15 => ?_)
    · refine g_iload_n 41 1 dX7_frees_40 rfl rfl ?_
      exact g_iret rfl dX7_frees_41 ⟨rfl, RM_cg hv (fun j i hj => (frees_lo a q j i hj).trans (frk_lo a q k j i hj).symm) (frees_frk (by omega) hz), hF⟩
    · refine g_aload_n 19 2 dX7_frees_18 rfl rfl ?_
      refine g_geta 22 12 dX7_frees_19 rfl fX7_64 rfl (by decide) rfl rfl ?_
      refine g_sipush 25 (nI 373) dX7_frees_22 rfl rfl ?_
      refine g_bipush 27 (nI 40) dX7_frees_25 rfl rfl ?_
      refine g_iload_n 28 0 dX7_frees_27 rfl rfl ?_
      refine g_imul 29 (nI (40 * k)) dX7_frees_28 rfl (pk_mul 40 k) ?_
      refine g_iadd 30 (nI (373 + (40 * k))) dX7_frees_29 rfl (nI_add 373 (40 * k)) ?_
      refine g_iload_n 31 3 dX7_frees_30 rfl rfl ?_
      refine g_iadd 32 (nI ((373 + (40 * k)) + q)) dX7_frees_31 rfl (nI_add (373 + (40 * k)) q) ?_
      refine g_iconst 33 (nI 0) dX7_frees_32 rfl rfl ?_
      refine g_iast 34 dX7_frees_33 rfl rfl (by decide) rfl (by decide) (by omega) ?_
      refine g_iinc 37 (nI (k + 1)) [(3, .int (nI (k + 1))), (2, .int (nI (ro a q))), (0, .ref (g 18 0)), (1, .int (nI q))] dX7_frees_34 rfl 0 rfl (nI_add k 1) (by decide) rfl ?_
      refine g_goto 8 dX7_frees_37 rfl ?_
      exact ih8 (by omega) _ (by rw [← frk_ua (by omega)]; exact RM_set hv (PosR (by omega) (by omega))) (hF.tr F12.wr)
  exact L8 0 (Nat.zero_le _) M (by rw [frk_0]; exact hN) F12.rf

set_option maxHeartbeats 4000000 in
set_option maxRecDepth 100000 in
theorem c_X7_cancel {l : Launch} {D : va_G} {g : Nat → Nat → Nat} {ca : Nat → ClassId} {M : Mm} {a : Sa} {m : Nat} {h : Nat → Sa} (hS : MS M a m h) (hI : Iv a) (hr : Ir a) (y : Int32) : Ct l D g ca md_X7_cancel [.ref (g 18 0), .int y] M (Ri (fun r M1 => r = (S_cancel (a, m, h) y).1 ∧ MY M1 (S_cancel (a, m, h) y).2 ∧ FA M M1)) := by
  refine Ct.of (by decide) rfl (Nat.le_of_ble_eq_true rfl) ?_
  have hN := hS.1
  have b0 := hI.today
  have b1 := hI.g4
  have b2 := hN.c6
  have b3 := hN.l24
  have b4 := hN.o40
  have b10 := hS.2.2.1
  show G l D g ca md_X7_cancel 0 [(0, .ref (g 18 0)), (1, .int y)] [] M _
  refine g_aload_n 1 0 dX7_cancel_0 rfl rfl ?_
  refine g_iconst 2 (nI 0) dX7_cancel_1 rfl rfl ?_
  refine g_put 5 dX7_cancel_2 rfl fX7_1 pX7_0 rfl (by decide) rfl ?_
  refine g_aload_n 6 0 dX7_cancel_5 rfl rfl ?_
  refine g_iload_n 7 1 dX7_cancel_6 rfl rfl ?_
  refine g_callVi 10 md_X7_isOpen [.int y] [] dX7_cancel_7 rfl e_X7_cancel_189 rfl (by decide) rfl rfl (Nat.le_of_ble_eq_true rfl) (c_X7_isOpen (RM_w (by decide) hN) hI y) (fun r7 M7 h7 => ?_)
  obtain ⟨rfl, h7⟩ := h7
  have h7 := h7.symm
  subst h7
  refine g_ifB_ne 15 13 dX7_cancel_10 rfl rfl (fun c10 => ?_) (fun c10 => ?_)
  · obtain ⟨q, hq, rfl, h18⟩ := opn_of c10 (by omega)
    refine g_aload_n 16 0 dX7_cancel_15 rfl rfl ?_
    refine g_callVv 19 md_X7_snap [] [] dX7_cancel_16 rfl e_X7_cancel_299 rfl (by decide) rfl rfl (Nat.le_of_ble_eq_true rfl) (c_X7_snap hS.w0) (fun N h16 => ?_)
    obtain ⟨hS1, hF1⟩ := h16
    have hN_N := hS1.1
    refine g_aload_n 20 0 dX7_cancel_19 rfl rfl ?_
    refine g_geta 23 12 dX7_cancel_20 rfl fX7_64 rfl (by decide) rfl rfl ?_
    refine g_sipush 26 (nI 133) dX7_cancel_23 rfl rfl ?_
    refine g_bipush 28 (nI 6) dX7_cancel_26 rfl rfl ?_
    refine g_iload_n 29 1 dX7_cancel_28 rfl rfl ?_
    refine g_imul 30 (nI (6 * q)) dX7_cancel_29 rfl (pk_mul 6 q) ?_
    refine g_iadd 31 (nI (133 + (6 * q))) dX7_cancel_30 rfl (nI_add 133 (6 * q)) ?_
    refine g_iconst 32 (nI 4) dX7_cancel_31 rfl rfl ?_
    refine g_iadd 33 (nI ((133 + (6 * q)) + 4)) dX7_cancel_32 rfl (nI_add (133 + (6 * q)) 4) ?_
    refine g_iconst 34 (nI 2) dX7_cancel_33 rfl rfl ?_
    refine g_iast 35 dX7_cancel_34 rfl rfl (by decide) rfl (by decide) (by omega) ?_
    refine g_aload_n 36 0 dX7_cancel_35 rfl rfl ?_
    refine g_iload_n 37 1 dX7_cancel_36 rfl rfl ?_
    refine g_callVi 40 md_X7_frees [.int (nI q)] [] dX7_cancel_37 rfl e_X7_cancel_302 rfl (by decide) rfl rfl (Nat.le_of_ble_eq_true rfl) (c_X7_frees (RM_set hN_N (PosO (by omega) (by decide) rfl)) (Iv_ua hI (by omega)) q (by rw [ua_ne (by omega)]; exact hq) (fun p h1 h2 => (ua_ne (by omega)).trans (res_0 hr (by omega) (by rw [ua_ne (by omega)] at h1; omega)))) (fun r37 N2 h37 => ?_)
    obtain ⟨rfl, hR2, hF2⟩ := h37
    rw [ro_18]
    rw [frees_ua] at hR2
    exact g_iret rfl dX7_cancel_40 (by rw [S_cancel_at (by omega) c10]; exact ⟨rfl, hS1.f12 (F12.wr.tr hF2) hR2, FA.w0.tr (hF1.fa.tr (F12.fa (F12.wr.tr hF2)))⟩)
  · refine g_iconst 14 ((-1)) dX7_cancel_13 rfl rfl ?_
    exact g_iret rfl dX7_cancel_14 (by rw [S_cancel_no c10]; exact ⟨rfl, hS.w0, FA.w0⟩)

set_option maxHeartbeats 4000000 in
set_option maxRecDepth 100000 in
theorem c_X7_undo {l : Launch} {D : va_G} {g : Nat → Nat → Nat} {ca : Nat → ClassId} {M : Mm} {a : Sa} {m : Nat} {h : Nat → Sa} (hS : MS M a m h) : Ct l D g ca md_X7_undo [.ref (g 18 0)] M (Ri (fun r M1 => r = (S_undo (a, m, h)).1 ∧ MY M1 (S_undo (a, m, h)).2 ∧ FA M M1)) := by
  refine Ct.of (by decide) rfl (Nat.le_of_ble_eq_true rfl) ?_
  have b10 := hS.2.2.1
  show G l D g ca md_X7_undo 0 [(0, .ref (g 18 0))] [] M _
  refine g_aload_n 1 0 dX7_undo_0 rfl rfl ?_
  refine g_iconst 2 (nI 0) dX7_undo_1 rfl rfl ?_
  refine g_put 5 dX7_undo_2 rfl fX7_1 pX7_0 rfl (by decide) rfl ?_
  refine g_aload_n 6 0 dX7_undo_5 rfl rfl ?_
  refine g_get 9 (nI m) dX7_undo_6 rfl fX7_163 rfl (by decide) rfl ((wr_ne (by omega)).trans hS.2.1) ?_
  refine g_ifN_ne 14 12 dX7_undo_9 rfl rfl (by omega) (fun c9 => ?_) (fun c9 => ?_)
  · obtain ⟨n, rfl⟩ : ∃ n, m = n + 1 := ⟨m - 1, by omega⟩
    refine g_aload_n 15 0 dX7_undo_14 rfl rfl ?_
    refine g_dup 16 dX7_undo_15 rfl rfl ?_
    refine g_get 19 (nI (n + 1)) dX7_undo_16 rfl fX7_163 rfl (by decide) rfl ((wr_ne (by omega)).trans hS.2.1) ?_
    refine g_iconst 20 (nI 1) dX7_undo_19 rfl rfl ?_
    refine g_isub 21 (nI n) dX7_undo_20 rfl (pk_sub (by omega)) ?_
    refine g_put 24 dX7_undo_21 rfl fX7_163 pX7_14 rfl (by decide) rfl ?_
    refine g_iconst 25 (nI 0) dX7_undo_24 rfl rfl ?_
    refine g_istore_n 26 [(1, .int (nI 0)), (0, .ref (g 18 0))] dX7_undo_25 rfl (by decide) rfl ?_
    have L26 : ∀ k, k ≤ 1333 → ∀ (N : Mm), I3 (wr (wr M 18 0 0 (nI 0)) 18 0 14 (nI n)) N n k → G l D g ca md_X7_undo 26 [(1, .int (nI k)), (0, .ref (g 18 0))] [] N (Ri (fun r M1 => r = (S_undo (a, n + 1, h)).1 ∧ MY M1 (S_undo (a, n + 1, h)).2 ∧ FA M M1)) := by
      refine upto ?_
      intro k hk ih26 N hv
      refine g_iload_n 27 0 dX7_undo_26 rfl rfl ?_
      refine g_sipush 30 (nI 1333) dX7_undo_27 rfl rfl ?_
      refine g_icmpN_ge 60 33 dX7_undo_30 rfl rfl (by omega) (by omega) (fun c30 => ?_) (fun c30 => ?_)
      · refine g_aload_n 61 1 dX7_undo_60 rfl rfl ?_
        refine g_get 64 (nI n) dX7_undo_61 rfl fX7_163 rfl (by decide) rfl ((hv.2.1 18 0 14 (by omega)).trans wr_eq) ?_
        exact g_iret rfl dX7_undo_64 (by rw [S_undo_at]; have h9 := MS_back hS.w0 (by omega) hv; exact ⟨rfl, h9.1, FA.w0.tr h9.2⟩)
      · refine g_aload_n 34 1 dX7_undo_33 rfl rfl ?_
        refine g_geta 37 12 dX7_undo_34 rfl fX7_64 rfl (by decide) rfl rfl ?_
        refine g_iload_n 38 0 dX7_undo_37 rfl rfl ?_
        refine g_aload_n 39 1 dX7_undo_38 rfl rfl ?_
        refine g_geta 42 14 dX7_undo_39 rfl fX7_70 rfl (by decide) rfl rfl ?_
        refine g_sipush 45 (nI 1333) dX7_undo_42 rfl rfl ?_
        refine g_aload_n 46 1 dX7_undo_45 rfl rfl ?_
        refine g_get 49 (nI n) dX7_undo_46 rfl fX7_163 rfl (by decide) rfl ((hv.2.1 18 0 14 (by omega)).trans wr_eq) ?_
        refine g_imul 50 (nI (1333 * n)) dX7_undo_49 rfl (pk_mul 1333 n) ?_
        refine g_iload_n 51 0 dX7_undo_50 rfl rfl ?_
        refine g_iadd 52 (nI ((1333 * n) + k)) dX7_undo_51 rfl (nI_add (1333 * n) k) ?_
        refine g_iald 53 ((N.1 18 14 ((1333 * n) + k))) dX7_undo_52 rfl rfl (by decide) rfl (by decide) (by omega) rfl ?_
        refine g_iast 54 dX7_undo_53 rfl rfl (by decide) rfl (by decide) (by omega) ?_
        refine g_iinc 57 (nI (k + 1)) [(1, .int (nI (k + 1))), (0, .ref (g 18 0))] dX7_undo_54 rfl 0 rfl (nI_add k 1) (by decide) rfl ?_
        refine g_goto 26 dX7_undo_57 rfl ?_
        exact ih26 (by omega) _ (I3_s hv)
    exact L26 0 (Nat.zero_le _) _ I3_0
  · refine g_iconst 13 ((-1)) dX7_undo_12 rfl rfl ?_
    exact g_iret rfl dX7_undo_13 (by rw [S_undo_no c9]; exact ⟨rfl, hS.w0, FA.w0⟩)
