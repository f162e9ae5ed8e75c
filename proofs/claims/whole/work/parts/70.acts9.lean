set_option maxHeartbeats 4000000 in
set_option maxRecDepth 100000 in
theorem c_X7_reserve {l : Launch} {D : va_G} {g : Nat → Nat → Nat} {ca : Nat → ClassId} {M : Mm} {a : Sa} {m : Nat} {h : Nat → Sa} (hS : MS M a m h) (hI : Iv a) (hib : Ib a) (x : Int32) : Ct l D g ca md_X7_reserve [.ref (g 18 0), .int x] M (Ri (fun r M1 => r = (S_reserve (a, m, h) x).1 ∧ MY M1 (S_reserve (a, m, h) x).2 ∧ FA M M1)) := by
  refine Ct.of (by decide) rfl (Nat.le_of_ble_eq_true rfl) ?_
  have hN := hS.1
  have b0 := hI.today
  have b1 := hI.g4
  have b2 := hN.c6
  have b3 := hN.l24
  have b4 := hN.o40
  have b10 := hS.2.2.1
  show G l D g ca md_X7_reserve 0 [(0, .ref (g 18 0)), (1, .int x)] [] M _
  refine g_aload_n 1 0 dX7_reserve_0 rfl rfl ?_
  refine g_iconst 2 (nI 0) dX7_reserve_1 rfl rfl ?_
  refine g_put 5 dX7_reserve_2 rfl fX7_1 pX7_0 rfl (by decide) rfl ?_
  refine g_aload_n 6 0 dX7_reserve_5 rfl rfl ?_
  refine g_iload_n 7 1 dX7_reserve_6 rfl rfl ?_
  refine g_callVi 10 md_X7_isGood [.int x] [] dX7_reserve_7 rfl e_X7_reserve_214 rfl (by decide) rfl rfl (Nat.le_of_ble_eq_true rfl) (c_X7_isGood (RM_w (by decide) hN) hI x) (fun r7 M7 h7 => ?_)
  obtain ⟨rfl, h7⟩ := h7
  have h7 := h7.symm
  subst h7
  refine g_ifB_ne 15 13 dX7_reserve_10 rfl rfl (fun c10 => ?_) (fun c10 => ?_)
  · obtain ⟨gd, hg, rfl⟩ := inr_of c10
    refine g_aload_n 16 0 dX7_reserve_15 rfl rfl ?_
    refine g_iload_n 17 1 dX7_reserve_16 rfl rfl ?_
    refine g_callVv 20 md_X7_plansNow [.int (nI gd)] [] dX7_reserve_17 rfl e_X7_reserve_283 rfl (by decide) rfl rfl (Nat.le_of_ble_eq_true rfl) (c_X7_plansNow (RM_w (by decide) hN) hI gd hg) (fun N0 h17 => ?_)
    obtain ⟨⟨hP0, hT0⟩, hF0⟩ := h17
    have htn := TuN_le hI (gd := gd)
    have hag := AgN_le (a := a) (gd := gd)
    refine g_aload_n 21 0 dX7_reserve_20 rfl rfl ?_
    refine g_callVv 24 md_X7_snap [] [] dX7_reserve_21 rfl e_X7_reserve_299 rfl (by decide) rfl rfl (Nat.le_of_ble_eq_true rfl) (c_X7_snap (hS.w0.fpn hF0)) (fun N h21 => ?_)
    obtain ⟨hS1, hF1⟩ := h21
    have hN_N := hS1.1
    have hPN := PMd_mem hP0 (M1 := N) (fun c i hc => hF1.1 _ _ _ (by omega))
    have hTN : ∀ i, i < TuN a gd → N.1 18 17 i = nI (Tu a gd i) := fun i hi => (hF1.1 _ _ _ (by omega)).trans ((hT0 i hi).trans (congrArg nI (nm_in (Tu_in hi).1)))
    refine g_iconst 25 (nI 0) dX7_reserve_24 rfl rfl ?_
    refine g_istore_n 26 [(2, .int (nI 0)), (0, .ref (g 18 0)), (1, .int (nI gd))] dX7_reserve_25 rfl (by decide) rfl ?_
    refine g_iconst 27 (nI 0) dX7_reserve_26 rfl rfl ?_
    refine g_istore_n 28 [(3, .int (nI 0)), (2, .int (nI 0)), (0, .ref (g 18 0)), (1, .int (nI gd))] dX7_reserve_27 rfl (by decide) rfl ?_
    have L28 : ∀ k, k ≤ AgN a gd → ∀ (B : Mm) (n : Nat), RM (B.1 18 12) (rout a gd k).1 → n = (rout a gd k).2 → F12 18 N B → G l D g ca md_X7_reserve 28 [(3, .int (nI k)), (2, .int (nI n)), (0, .ref (g 18 0)), (1, .int (nI gd))] [] B (Ri (fun r M1 => r = (S_reserve (a, m, h) (nI gd)).1 ∧ MY M1 (S_reserve (a, m, h) (nI gd)).2 ∧ FA M M1)) := by
      refine upto ?_
      intro k hk ih28 B n hR hv hF
      have hPB := PMd_mem hPN (M1 := B) (fun c i hc => hF.1 _ _ _ (by omega))
      have hTB : ∀ i, i < TuN a gd → B.1 18 17 i = nI (Tu a gd i) := fun i hi => (hF.1 _ _ _ (by omega)).trans (hTN i hi)
      refine g_iload_n 29 0 dX7_reserve_28 rfl rfl ?_
      refine g_aload_n 30 2 dX7_reserve_29 rfl rfl ?_
      refine g_get 33 (nI (AgN a gd)) dX7_reserve_30 rfl fX7_224 rfl (by decide) rfl hPB.am_ ?_
      refine g_icmpN_ge 131 36 dX7_reserve_33 rfl rfl (by omega) (by omega) (fun c33 => ?_) (fun c33 => ?_)
      · refine g_iload_n 132 1 dX7_reserve_131 rfl rfl ?_
        exact g_iret rfl dX7_reserve_132 (by rw [S_reserve_at (by omega) c10]; unfold rsv; rw [← show k = AgN a gd by omega]; exact ⟨congrArg nI hv, hS1.f12 hF hR, FA.w0.tr (hF0.fa.tr (hF1.fa.tr hF.fa))⟩)
      · refine g_iconst 37 (nI 0) dX7_reserve_36 rfl rfl ?_
        refine g_istore 39 [(4, .int (nI 0)), (3, .int (nI k)), (2, .int (nI n)), (0, .ref (g 18 0)), (1, .int (nI gd))] dX7_reserve_37 rfl (by decide) rfl ?_
        have L39 : ∀ i, i ≤ TuN a gd → ∀ (C : Mm) (n : Nat), RM (C.1 18 12) (rin a gd k (rout a gd k) i).1 → n = (rin a gd k (rout a gd k) i).2 → F12 18 N C → G l D g ca md_X7_reserve 39 [(4, .int (nI i)), (3, .int (nI k)), (2, .int (nI n)), (0, .ref (g 18 0)), (1, .int (nI gd))] [] C (Ri (fun r M1 => r = (S_reserve (a, m, h) (nI gd)).1 ∧ MY M1 (S_reserve (a, m, h) (nI gd)).2 ∧ FA M M1)) := by
          refine upto ?_
          intro i hi ih39 C n hR hv hF
          have hPB := PMd_mem hPN (M1 := C) (fun c i hc => hF.1 _ _ _ (by omega))
          have hTB : ∀ i, i < TuN a gd → C.1 18 17 i = nI (Tu a gd i) := fun i hi => (hF.1 _ _ _ (by omega)).trans (hTN i hi)
          refine g_iload 41 0 dX7_reserve_39 rfl rfl ?_
          refine g_aload_n 42 3 dX7_reserve_41 rfl rfl ?_
          refine g_get 45 (nI (TuN a gd)) dX7_reserve_42 rfl fX7_221 rfl (by decide) rfl hPB.tn_ ?_
          refine g_icmpN_ge 125 48 dX7_reserve_45 rfl rfl (by omega) (by omega) (fun c45 => ?_) (fun c45 => ?_)
          · refine g_iinc 128 (nI (k + 1)) [(3, .int (nI (k + 1))), (4, .int (nI i)), (2, .int (nI n)), (0, .ref (g 18 0)), (1, .int (nI gd))] dX7_reserve_125 rfl 1 rfl (nI_add k 1) (by decide) rfl ?_
            refine g_goto 28 dX7_reserve_128 rfl ?_
            refine g_lv [0, 2, 3, 4] rfl ?_
            exact ih28 (by omega) _ _ (by show RM _ (rin a gd k (rout a gd k) (TuN a gd)).1; rw [← show i = TuN a gd by omega]; exact hR) (by show n = (rin a gd k (rout a gd k) (TuN a gd)).2; rw [← show i = TuN a gd by omega]; exact hv) hF
          · have hA1 := (Ag_in (a := a) (gd := gd) (k := k) (by omega)).1
            have hT1 := (Tu_in (a := a) (gd := gd) (i := i) (by omega)).1
            have hsh := shp_le hI (gd := gd) (i := i) (k := k) (by omega)
            have hrb := hib (Ag a gd k) (Tu a gd i) (by omega)
            refine g_sipush 51 (nI 373) dX7_reserve_48 rfl rfl ?_
            refine g_bipush 53 (nI 40) dX7_reserve_51 rfl rfl ?_
            refine g_aload_n 54 3 dX7_reserve_53 rfl rfl ?_
            refine g_geta 57 18 dX7_reserve_54 rfl fX7_76 rfl (by decide) rfl rfl ?_
            refine g_iload_n 58 1 dX7_reserve_57 rfl rfl ?_
            refine g_iald 59 (nI (Ag a gd k)) dX7_reserve_58 rfl rfl (by decide) rfl (by decide) (by omega) (hPB.age (by omega)) ?_
            refine g_imul 60 (nI (40 * (Ag a gd k))) dX7_reserve_59 rfl (pk_mul 40 (Ag a gd k)) ?_
            refine g_iadd 61 (nI (373 + (40 * (Ag a gd k)))) dX7_reserve_60 rfl (nI_add 373 (40 * (Ag a gd k))) ?_
            refine g_aload_n 62 3 dX7_reserve_61 rfl rfl ?_
            refine g_geta 65 17 dX7_reserve_62 rfl fX7_73 rfl (by decide) rfl rfl ?_
            refine g_iload 67 0 dX7_reserve_65 rfl rfl ?_
            refine g_iald 68 (nI (Tu a gd i)) dX7_reserve_67 rfl rfl (by decide) rfl (by decide) (by omega) (hTB _ (by omega)) ?_
            refine g_iadd 69 (nI ((373 + (40 * (Ag a gd k))) + (Tu a gd i))) dX7_reserve_68 rfl (nI_add (373 + (40 * (Ag a gd k))) (Tu a gd i)) ?_
            refine g_istore 71 [(5, .int (nI ((373 + (40 * (Ag a gd k))) + (Tu a gd i)))), (4, .int (nI i)), (3, .int (nI k)), (2, .int (nI n)), (0, .ref (g 18 0)), (1, .int (nI gd))] dX7_reserve_69 rfl (by decide) rfl ?_
            refine g_aload_n 72 4 dX7_reserve_71 rfl rfl ?_
            refine g_geta 75 20 dX7_reserve_72 rfl fX7_82 rfl (by decide) rfl rfl ?_
            refine g_bipush 77 (nI 8) dX7_reserve_75 rfl rfl ?_
            refine g_iload_n 78 2 dX7_reserve_77 rfl rfl ?_
            refine g_imul 79 (nI (8 * k)) dX7_reserve_78 rfl (pk_mul 8 k) ?_
            refine g_iload 81 1 dX7_reserve_79 rfl rfl ?_
            refine g_iadd 82 (nI ((8 * k) + i)) dX7_reserve_81 rfl (nI_add (8 * k) i) ?_
            refine g_iald 83 (nI (shp a gd i k)) dX7_reserve_82 rfl rfl (by decide) rfl (by decide) (by omega) (hPB.much (by omega) (by omega)) ?_
            refine g_istore 85 [(6, .int (nI (shp a gd i k))), (5, .int (nI ((373 + (40 * (Ag a gd k))) + (Tu a gd i)))), (4, .int (nI i)), (3, .int (nI k)), (2, .int (nI n)), (0, .ref (g 18 0)), (1, .int (nI gd))] dX7_reserve_83 rfl (by decide) rfl ?_
            refine g_aload_n 86 5 dX7_reserve_85 rfl rfl ?_
            refine g_geta 89 12 dX7_reserve_86 rfl fX7_64 rfl (by decide) rfl rfl ?_
            refine g_iload 91 1 dX7_reserve_89 rfl rfl ?_
            refine g_iald 92 (nI (res a (Ag a gd k) (Tu a gd i))) dX7_reserve_91 rfl rfl (by decide) rfl (by decide) (by omega) ((hR.res (by omega) (by omega)).trans (congrArg nI (rin_at b4 (by omega) (by omega)))) ?_
            refine g_iload 94 0 dX7_reserve_92 rfl rfl ?_
            refine g_icmpN_le 110 97 dX7_reserve_94 rfl rfl (by omega) (by omega) (fun c94 => ?_) (fun c94 => ?_)
            · refine g_aload_n 111 5 dX7_reserve_110 rfl rfl ?_
              refine g_geta 114 12 dX7_reserve_111 rfl fX7_64 rfl (by decide) rfl rfl ?_
              refine g_iload 116 1 dX7_reserve_114 rfl rfl ?_
              refine g_iload 118 0 dX7_reserve_116 rfl rfl ?_
              refine g_iast 119 dX7_reserve_118 rfl rfl (by decide) rfl (by decide) (by omega) ?_
              refine g_iinc 122 (nI (i + 1)) [(4, .int (nI (i + 1))), (6, .int (nI (shp a gd i k))), (5, .int (nI ((373 + (40 * (Ag a gd k))) + (Tu a gd i)))), (3, .int (nI k)), (2, .int (nI n)), (0, .ref (g 18 0)), (1, .int (nI gd))] dX7_reserve_119 rfl 2 rfl (nI_add i 1) (by decide) rfl ?_
              refine g_goto 39 dX7_reserve_122 rfl ?_
              refine g_lv [0, 3, 4, 5, 6] rfl ?_
              exact ih39 (by omega) _ _ (RM_set (v := shp a gd i k) hR (PosR (by omega) (by omega))) (by show _ = (rin a gd k (rout a gd k) i).2 + (res (rin a gd k (rout a gd k) i).1 (Ag a gd k) (Tu a gd i) - shp a gd i k); rw [rin_at b4 (by omega) (by omega), ← hv] <;> omega) (hF.tr F12.wr)
            · refine g_iload_n 98 4 dX7_reserve_97 rfl rfl ?_
              refine g_aload_n 99 5 dX7_reserve_98 rfl rfl ?_
              refine g_geta 102 12 dX7_reserve_99 rfl fX7_64 rfl (by decide) rfl rfl ?_
              refine g_iload 104 1 dX7_reserve_102 rfl rfl ?_
              refine g_iald 105 (nI (res a (Ag a gd k) (Tu a gd i))) dX7_reserve_104 rfl rfl (by decide) rfl (by decide) (by omega) ((hR.res (by omega) (by omega)).trans (congrArg nI (rin_at b4 (by omega) (by omega)))) ?_
              refine g_iload 107 0 dX7_reserve_105 rfl rfl ?_
              refine g_isub 108 (nI (res a (Ag a gd k) (Tu a gd i) - shp a gd i k)) dX7_reserve_107 rfl (pk_sub (by omega)) ?_
              refine g_iadd 109 (nI (n + (res a (Ag a gd k) (Tu a gd i) - shp a gd i k))) dX7_reserve_108 rfl (nI_add n (res a (Ag a gd k) (Tu a gd i) - shp a gd i k)) ?_
              refine g_istore_n 110 [(2, .int (nI (n + (res a (Ag a gd k) (Tu a gd i) - shp a gd i k)))), (6, .int (nI (shp a gd i k))), (5, .int (nI ((373 + (40 * (Ag a gd k))) + (Tu a gd i)))), (4, .int (nI i)), (3, .int (nI k)), (0, .ref (g 18 0)), (1, .int (nI gd))] dX7_reserve_109 rfl (by decide) rfl ?_
              refine g_aload_n 111 5 dX7_reserve_110 rfl rfl ?_
              refine g_geta 114 12 dX7_reserve_111 rfl fX7_64 rfl (by decide) rfl rfl ?_
              refine g_iload 116 2 dX7_reserve_114 rfl rfl ?_
              refine g_iload 118 1 dX7_reserve_116 rfl rfl ?_
              refine g_iast 119 dX7_reserve_118 rfl rfl (by decide) rfl (by decide) (by omega) ?_
              refine g_iinc 122 (nI (i + 1)) [(4, .int (nI (i + 1))), (2, .int (nI (n + (res a (Ag a gd k) (Tu a gd i) - shp a gd i k)))), (6, .int (nI (shp a gd i k))), (5, .int (nI ((373 + (40 * (Ag a gd k))) + (Tu a gd i)))), (3, .int (nI k)), (0, .ref (g 18 0)), (1, .int (nI gd))] dX7_reserve_119 rfl 3 rfl (nI_add i 1) (by decide) rfl ?_
              refine g_goto 39 dX7_reserve_122 rfl ?_
              refine g_lv [0, 4, 1, 5, 6] rfl ?_
              exact ih39 (by omega) _ _ (RM_set (v := shp a gd i k) hR (PosR (by omega) (by omega))) (by show _ = (rin a gd k (rout a gd k) i).2 + (res (rin a gd k (rout a gd k) i).1 (Ag a gd k) (Tu a gd i) - shp a gd i k); rw [rin_at b4 (by omega) (by omega), ← hv] <;> omega) (hF.tr F12.wr)
        exact L39 0 (Nat.zero_le _) B n hR hv hF
    exact L28 0 (Nat.zero_le _) N 0 hN_N rfl F12.rf
  · refine g_iconst 14 ((-1)) dX7_reserve_13 rfl rfl ?_
    exact g_iret rfl dX7_reserve_14 (by rw [S_reserve_no c10]; exact ⟨rfl, hS.w0, FA.w0⟩)
