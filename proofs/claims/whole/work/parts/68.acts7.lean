set_option maxHeartbeats 4000000 in
set_option maxRecDepth 100000 in
theorem c_X7_snap {l : Launch} {D : va_G} {g : Nat → Nat → Nat} {ca : Nat → ClassId} {M : Mm} {a : Sa} {m : Nat} {h : Nat → Sa} (hS : MS M a m h) : Ct l D g ca md_X7_snap [.ref (g 18 0)] M (Rv (fun M1 => MS M1 a (psm m) (psh h m a) ∧ FS M M1)) := by
  refine Ct.of (by decide) rfl (Nat.le_of_ble_eq_true rfl) ?_
  have b10 := hS.2.2.1
  show G l D g ca md_X7_snap 0 [(0, .ref (g 18 0))] [] M _
  refine g_aload_n 1 0 dX7_snap_0 rfl rfl ?_
  refine g_get 4 (nI m) dX7_snap_1 rfl fX7_163 rfl (by decide) rfl hS.2.1 ?_
  refine g_bipush 6 (nI 10) dX7_snap_4 rfl rfl ?_
  refine g_icmpN_ne 50 9 dX7_snap_6 rfl rfl (by omega) (by omega) (fun c6 => ?_) (fun c6 => ?_)
  · refine g_iconst 51 (nI 0) dX7_snap_50 rfl rfl ?_
    refine g_istore_n 52 [(1, .int (nI 0)), (0, .ref (g 18 0))] dX7_snap_51 rfl (by decide) rfl ?_
    have L52 : ∀ k, k ≤ 1333 → ∀ (B : Mm), I2 M B m m k → G l D g ca md_X7_snap 52 [(1, .int (nI k)), (0, .ref (g 18 0))] [] B (Rv (fun M1 => MS M1 a (psm m) (psh h m a) ∧ FS M M1)) := by
      refine upto ?_
      intro k hk ih52 B hw
      refine g_iload_n 53 0 dX7_snap_52 rfl rfl ?_
      refine g_sipush 56 (nI 1333) dX7_snap_53 rfl rfl ?_
      refine g_icmpN_ge 86 59 dX7_snap_56 rfl rfl (by omega) (by omega) (fun c56 => ?_) (fun c56 => ?_)
      · refine g_aload_n 87 1 dX7_snap_86 rfl rfl ?_
        refine g_dup 88 dX7_snap_87 rfl rfl ?_
        refine g_get 91 (nI m) dX7_snap_88 rfl fX7_163 rfl (by decide) rfl hw.2.1 ?_
        refine g_iconst 92 (nI 1) dX7_snap_91 rfl rfl ?_
        refine g_iadd 93 (nI (m + 1)) dX7_snap_92 rfl (nI_add m 1) ?_
        refine g_put 96 dX7_snap_93 rfl fX7_163 pX7_14 rfl (by decide) rfl ?_
        exact g_vret rfl dX7_snap_96 (MS_snap (k := k) hS (if_neg (by omega)).symm (by omega) hw)
      · refine g_aload_n 60 1 dX7_snap_59 rfl rfl ?_
        refine g_geta 63 14 dX7_snap_60 rfl fX7_70 rfl (by decide) rfl rfl ?_
        refine g_sipush 66 (nI 1333) dX7_snap_63 rfl rfl ?_
        refine g_aload_n 67 1 dX7_snap_66 rfl rfl ?_
        refine g_get 70 (nI m) dX7_snap_67 rfl fX7_163 rfl (by decide) rfl hw.2.1 ?_
        refine g_imul 71 (nI (1333 * m)) dX7_snap_70 rfl (pk_mul 1333 m) ?_
        refine g_iload_n 72 0 dX7_snap_71 rfl rfl ?_
        refine g_iadd 73 (nI ((1333 * m) + k)) dX7_snap_72 rfl (nI_add (1333 * m) k) ?_
        refine g_aload_n 74 1 dX7_snap_73 rfl rfl ?_
        refine g_geta 77 12 dX7_snap_74 rfl fX7_64 rfl (by decide) rfl rfl ?_
        refine g_iload_n 78 0 dX7_snap_77 rfl rfl ?_
        refine g_iald 79 ((B.1 18 12 k)) dX7_snap_78 rfl rfl (by decide) rfl (by decide) (by omega) rfl ?_
        refine g_iast 80 dX7_snap_79 rfl rfl (by decide) rfl (by decide) (by omega) ?_
        refine g_iinc 83 (nI (k + 1)) [(1, .int (nI (k + 1))), (0, .ref (g 18 0))] dX7_snap_80 rfl 0 rfl (nI_add k 1) (by decide) rfl ?_
        refine g_goto 52 dX7_snap_83 rfl ?_
        exact ih52 (by omega) _ (I2_s hw)
    exact L52 0 (Nat.zero_le _) _ (I2_a (by omega) hS.2.1)
  · refine g_iconst 10 (nI 0) dX7_snap_9 rfl rfl ?_
    refine g_istore_n 11 [(1, .int (nI 0)), (0, .ref (g 18 0))] dX7_snap_10 rfl (by decide) rfl ?_
    have L11 : ∀ k, k ≤ 11997 → ∀ (N : Mm), I1 M N k → G l D g ca md_X7_snap 11 [(1, .int (nI k)), (0, .ref (g 18 0))] [] N (Rv (fun M1 => MS M1 a (psm m) (psh h m a) ∧ FS M M1)) := by
      refine upto ?_
      intro k hk ih11 N hv
      refine g_iload_n 12 0 dX7_snap_11 rfl rfl ?_
      refine g_sipush 15 (nI 11997) dX7_snap_12 rfl rfl ?_
      refine g_icmpN_ge 40 18 dX7_snap_15 rfl rfl (by omega) (by omega) (fun c15 => ?_) (fun c15 => ?_)
      · refine g_aload_n 41 1 dX7_snap_40 rfl rfl ?_
        refine g_dup 42 dX7_snap_41 rfl rfl ?_
        refine g_get 45 (nI m) dX7_snap_42 rfl fX7_163 rfl (by decide) rfl ((hv.2.1 18 0 14 (by omega)).trans hS.2.1) ?_
        refine g_iconst 46 (nI 1) dX7_snap_45 rfl rfl ?_
        refine g_isub 47 (nI 9) dX7_snap_46 rfl (by rw [show m = 10 by omega]; rfl) ?_
        refine g_put 50 dX7_snap_47 rfl fX7_163 pX7_14 rfl (by decide) rfl ?_
        refine g_iconst 51 (nI 0) dX7_snap_50 rfl rfl ?_
        refine g_istore_n 52 [(1, .int (nI 0)), (0, .ref (g 18 0))] dX7_snap_51 rfl (by decide) rfl ?_
        have L52 : ∀ k, k ≤ 1333 → ∀ (B : Mm), I2 M B m 9 k → G l D g ca md_X7_snap 52 [(1, .int (nI k)), (0, .ref (g 18 0))] [] B (Rv (fun M1 => MS M1 a (psm m) (psh h m a) ∧ FS M M1)) := by
          refine upto ?_
          intro k hk ih52 B hw
          refine g_iload_n 53 0 dX7_snap_52 rfl rfl ?_
          refine g_sipush 56 (nI 1333) dX7_snap_53 rfl rfl ?_
          refine g_icmpN_ge 86 59 dX7_snap_56 rfl rfl (by omega) (by omega) (fun c56 => ?_) (fun c56 => ?_)
          · refine g_aload_n 87 1 dX7_snap_86 rfl rfl ?_
            refine g_dup 88 dX7_snap_87 rfl rfl ?_
            refine g_get 91 (nI 9) dX7_snap_88 rfl fX7_163 rfl (by decide) rfl hw.2.1 ?_
            refine g_iconst 92 (nI 1) dX7_snap_91 rfl rfl ?_
            refine g_iadd 93 (nI 10) dX7_snap_92 rfl rfl ?_
            refine g_put 96 dX7_snap_93 rfl fX7_163 pX7_14 rfl (by decide) rfl ?_
            exact g_vret rfl dX7_snap_96 (MS_snap (k := k) hS (if_pos (by omega)).symm (by omega) hw)
          · refine g_aload_n 60 1 dX7_snap_59 rfl rfl ?_
            refine g_geta 63 14 dX7_snap_60 rfl fX7_70 rfl (by decide) rfl rfl ?_
            refine g_sipush 66 (nI 1333) dX7_snap_63 rfl rfl ?_
            refine g_aload_n 67 1 dX7_snap_66 rfl rfl ?_
            refine g_get 70 (nI 9) dX7_snap_67 rfl fX7_163 rfl (by decide) rfl hw.2.1 ?_
            refine g_imul 71 (nI 11997) dX7_snap_70 rfl rfl ?_
            refine g_iload_n 72 0 dX7_snap_71 rfl rfl ?_
            refine g_iadd 73 (nI (11997 + k)) dX7_snap_72 rfl (nI_add 11997 k) ?_
            refine g_aload_n 74 1 dX7_snap_73 rfl rfl ?_
            refine g_geta 77 12 dX7_snap_74 rfl fX7_64 rfl (by decide) rfl rfl ?_
            refine g_iload_n 78 0 dX7_snap_77 rfl rfl ?_
            refine g_iald 79 ((B.1 18 12 k)) dX7_snap_78 rfl rfl (by decide) rfl (by decide) (by omega) rfl ?_
            refine g_iast 80 dX7_snap_79 rfl rfl (by decide) rfl (by decide) (by omega) ?_
            refine g_iinc 83 (nI (k + 1)) [(1, .int (nI (k + 1))), (0, .ref (g 18 0))] dX7_snap_80 rfl 0 rfl (nI_add k 1) (by decide) rfl ?_
            refine g_goto 52 dX7_snap_83 rfl ?_
            exact ih52 (by omega) _ (I2_s hw)
        exact L52 0 (Nat.zero_le _) _ (I2_b (by omega) (by omega) hv)
      · refine g_aload_n 19 1 dX7_snap_18 rfl rfl ?_
        refine g_geta 22 14 dX7_snap_19 rfl fX7_70 rfl (by decide) rfl rfl ?_
        refine g_iload_n 23 0 dX7_snap_22 rfl rfl ?_
        refine g_aload_n 24 1 dX7_snap_23 rfl rfl ?_
        refine g_geta 27 14 dX7_snap_24 rfl fX7_70 rfl (by decide) rfl rfl ?_
        refine g_iload_n 28 0 dX7_snap_27 rfl rfl ?_
        refine g_sipush 31 (nI 1333) dX7_snap_28 rfl rfl ?_
        refine g_iadd 32 (nI (k + 1333)) dX7_snap_31 rfl (nI_add k 1333) ?_
        refine g_iald 33 ((N.1 18 14 (k + 1333))) dX7_snap_32 rfl rfl (by decide) rfl (by decide) (by omega) rfl ?_
        refine g_iast 34 dX7_snap_33 rfl rfl (by decide) rfl (by decide) (by omega) ?_
        refine g_iinc 37 (nI (k + 1)) [(1, .int (nI (k + 1))), (0, .ref (g 18 0))] dX7_snap_34 rfl 0 rfl (nI_add k 1) (by decide) rfl ?_
        refine g_goto 11 dX7_snap_37 rfl ?_
        exact ih11 (by omega) _ (I1_s hv)
    exact L11 0 (Nat.zero_le _) M I1_0
