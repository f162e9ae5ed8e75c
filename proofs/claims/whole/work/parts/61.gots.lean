set_option maxHeartbeats 4000000 in
set_option maxRecDepth 100000 in
theorem c_X7_laysGots {l : Launch} {D : va_G} {g : Nat → Nat → Nat} {ca : Nat → ClassId} {M : Mm} {a : Sa} (hN : RM (M.1 18 12) a) (hI : Iv a) {b : Sa} (gd : Nat) (ot : Int32) (lf : Nat) (mo : Bool) (c sm dy : Nat) (hE : EfB a b gd ot lf mo c sm dy) (hgd : gd < a 0 1) (hlf : lf < 65536) (hdy : dy < 65536) (hsm : sm < 65536) : Ct l D g ca md_X7_laysGots [.ref (g 18 0), .int (nI gd), .int ot, .int (nI lf), .int (bi mo), .int (nI c), .int (nI sm), .int (nI dy)] M (Rv (fun M1 => LG M1 a b gd ∧ FPn M M1)) := by
  refine Ct.of (by decide) rfl (Nat.le_of_ble_eq_true rfl) ?_
  have b0 := hI.today
  have b1 := hI.g4
  have b1' := hI.g1
  have b2 := hN.c6
  have b3 := hN.l24
  have b4 := hN.o40
  have hIb := hE.2.2.2.2.2.2.2
  have htn := TuN_le hIb (gd := gd)
  have hag := AgN_le (a := b) (gd := gd)
  have hb6 := hIb.c6
  have hb24 := hIb.l24
  show G l D g ca md_X7_laysGots 0 [(0, .ref (g 18 0)), (1, .int (nI gd)), (2, .int ot), (3, .int (nI lf)), (4, .int (bi mo)), (5, .int (nI c)), (6, .int (nI sm)), (7, .int (nI dy))] [] M _
  refine g_aload_n 1 0 dX7_laysGots_0 rfl rfl ?_
  refine g_iload_n 2 1 dX7_laysGots_1 rfl rfl ?_
  refine g_iload_n 3 2 dX7_laysGots_2 rfl rfl ?_
  refine g_iload_n 4 3 dX7_laysGots_3 rfl rfl ?_
  refine g_iload 6 4 dX7_laysGots_4 rfl rfl ?_
  refine g_iload 8 5 dX7_laysGots_6 rfl rfl ?_
  refine g_iload 10 6 dX7_laysGots_8 rfl rfl ?_
  refine g_iload 12 7 dX7_laysGots_10 rfl rfl ?_
  refine g_callVv 15 md_X7_laysRows [.int (nI gd), .int ot, .int (nI lf), .int (bi mo), .int (nI c), .int (nI sm), .int (nI dy)] [] dX7_laysGots_12 rfl e_X7_laysGots_264 rfl (by decide) rfl rfl (Nat.le_of_ble_eq_true rfl) (c_X7_laysRows hN hI gd ot lf mo c sm dy hE hgd hlf hdy hsm) (fun N0 h12 => ?_)
  obtain ⟨⟨g1, g2, g3, g4, g5, g6, g7⟩, hF0⟩ := h12
  refine g_iconst 16 (nI 0) dX7_laysGots_15 rfl rfl ?_
  refine g_istore 18 [(8, .int (nI 0)), (0, .ref (g 18 0)), (1, .int (nI gd)), (2, .int ot), (3, .int (nI lf)), (4, .int (bi mo)), (5, .int (nI c)), (6, .int (nI sm)), (7, .int (nI dy))] dX7_laysGots_16 rfl (by decide) rfl ?_
  have L18 : ∀ j, j ≤ TuN b gd → ∀ (N : Mm), PMd N (AgN b gd) (TuN b gd) (Ag b gd) (ftp b gd) (msb b gd j 0) → (∀ i, i < TuN b gd → N.1 18 17 i = nI (nm a (Tu b gd i))) → (∀ i, i < TuN b gd → N.1 18 19 i = nI (b 16 (Tu b gd i))) → FPn M N → G l D g ca md_X7_laysGots 18 [(8, .int (nI j)), (0, .ref (g 18 0)), (1, .int (nI gd)), (2, .int ot), (3, .int (nI lf)), (4, .int (bi mo)), (5, .int (nI c)), (6, .int (nI sm)), (7, .int (nI dy))] [] N (Rv (fun M1 => LG M1 a b gd ∧ FPn M M1)) := by
    refine upto ?_
    intro j hj ih18 N hP hT hW hF
    have hN_N := hF.rm hN
    refine g_iload 20 0 dX7_laysGots_18 rfl rfl ?_
    refine g_aload_n 21 1 dX7_laysGots_20 rfl rfl ?_
    refine g_get 24 (nI (TuN b gd)) dX7_laysGots_21 rfl fX7_221 rfl (by decide) rfl hP.tn_ ?_
    refine g_icmpN_ge 68 27 dX7_laysGots_24 rfl rfl (by omega) (by omega) (fun c24 => ?_) (fun c24 => ?_)
    · exact g_vret rfl dX7_laysGots_68 ⟨⟨PMd_cg hP (fun k q hk hq => by show shp b gd q k = msb b gd j 0 k q; rw [show j = TuN b gd by omega]; exact (if_pos hq).symm), hT⟩, hF⟩
    · refine g_iconst 28 (nI 1) dX7_laysGots_27 rfl rfl ?_
      refine g_istore 30 [(9, .int (nI 1)), (8, .int (nI j)), (0, .ref (g 18 0)), (1, .int (nI gd)), (2, .int ot), (3, .int (nI lf)), (4, .int (bi mo)), (5, .int (nI c)), (6, .int (nI sm)), (7, .int (nI dy))] dX7_laysGots_28 rfl (by decide) rfl ?_
      have E30 : ∀ (t : Nat) (N : Mm), t ≤ b 16 (Tu b gd j) → PMd N (AgN b gd) (TuN b gd) (Ag b gd) (ftp b gd) (msb b gd j t) → (∀ i, i < TuN b gd → N.1 18 17 i = nI (nm a (Tu b gd i))) → (∀ i, i < TuN b gd → N.1 18 19 i = nI (b 16 (Tu b gd i))) → FPn M N → ¬ fst (ftp b gd) (lfb b gd) (wnb b gd) (AgN b gd) j t < AgN b gd → G l D g ca md_X7_laysGots 30 [(9, .int (nI 0)), (8, .int (nI j)), (0, .ref (g 18 0)), (1, .int (nI gd)), (2, .int ot), (3, .int (nI lf)), (4, .int (bi mo)), (5, .int (nI c)), (6, .int (nI sm)), (7, .int (nI dy))] [] N (Rv (fun M1 => LG M1 a b gd ∧ FPn M M1)) := by
        intro t N ht hP hT hW hF hfs
        have hN_N := hF.rm hN
        refine g_iload 32 0 dX7_laysGots_30 rfl rfl ?_
        refine g_ifN_eq 62 35 dX7_laysGots_32 rfl rfl (by omega) (fun c32 => ?_) (fun c32 => ?_)
        · refine g_iinc 65 (nI (j + 1)) [(8, .int (nI (j + 1))), (9, .int (nI 0)), (0, .ref (g 18 0)), (1, .int (nI gd)), (2, .int ot), (3, .int (nI lf)), (4, .int (bi mo)), (5, .int (nI c)), (6, .int (nI sm)), (7, .int (nI dy))] dX7_laysGots_62 rfl 1 rfl (nI_add j 1) (by decide) rfl ?_
          refine g_goto 18 dX7_laysGots_65 rfl ?_
          refine g_lv [0, 2, 3, 4, 5, 6, 7, 8, 9] rfl ?_
          exact ih18 (by omega) _ (PMd_cg hP (fun k q hk hq => mus_end hfs ht hk)) hT hW hF
        · exact absurd c32 (by omega)
      have L30 : ∀ t, t ≤ b 16 (Tu b gd j) → ∀ (N : Mm), PMd N (AgN b gd) (TuN b gd) (Ag b gd) (ftp b gd) (msb b gd j t) → (∀ i, i < TuN b gd → N.1 18 17 i = nI (nm a (Tu b gd i))) → (∀ i, i < TuN b gd → N.1 18 19 i = nI (b 16 (Tu b gd i))) → FPn M N → pw (fun k => ftp b gd k j) (pr (ftp b gd) (lfb b gd) (wnb b gd) j) t (AgN b gd) = 0 → G l D g ca md_X7_laysGots 30 [(9, .int (nI 1)), (8, .int (nI j)), (0, .ref (g 18 0)), (1, .int (nI gd)), (2, .int ot), (3, .int (nI lf)), (4, .int (bi mo)), (5, .int (nI c)), (6, .int (nI sm)), (7, .int (nI dy))] [] N (Rv (fun M1 => LG M1 a b gd ∧ FPn M M1)) := by
        refine upto ?_
        intro t ht ih30 N hP hT hW hF hpw
        have hN_N := hF.rm hN
        have hgot : fb_sm (fun k => msb b gd j t k j) (AgN b gd) = t := by rw [mus_got]; omega
        refine g_iload 32 0 dX7_laysGots_30 rfl rfl ?_
        refine g_ifN_eq 62 35 dX7_laysGots_32 rfl rfl (by omega) (fun c32 => ?_) (fun c32 => ?_)
        · exact absurd c32 (by omega)
        · refine g_aload_n 36 2 dX7_laysGots_35 rfl rfl ?_
          refine g_iload 38 1 dX7_laysGots_36 rfl rfl ?_
          refine g_callVi 41 md_X7_hasGot [.int (nI j)] [] dX7_laysGots_38 rfl e_X7_laysGots_268 rfl (by decide) rfl rfl (Nat.le_of_ble_eq_true rfl) (c_X7_hasGot hP j (by omega)) (fun r38 M38 h38 => ?_)
          obtain ⟨rfl, h38⟩ := h38
          have h38 := h38.symm
          subst h38
          rw [hgot]
          refine g_aload_n 42 2 dX7_laysGots_41 rfl rfl ?_
          refine g_geta 45 19 dX7_laysGots_42 rfl fX7_79 rfl (by decide) rfl rfl ?_
          refine g_iload 47 1 dX7_laysGots_45 rfl rfl ?_
          refine g_iald 48 (nI (b 16 (Tu b gd j))) dX7_laysGots_47 rfl rfl (by decide) rfl (by decide) (by omega) (hW _ (by omega)) ?_
          refine g_icmpN_ge 62 51 dX7_laysGots_48 rfl rfl (by have := hIb.ord (Tu_in (a := b) (gd := gd) (i := j) (by omega)).1; omega) (by have := hIb.ord (Tu_in (a := b) (gd := gd) (i := j) (by omega)).1; omega) (fun c48 => ?_) (fun c48 => ?_)
          · refine g_iinc 65 (nI (j + 1)) [(8, .int (nI (j + 1))), (9, .int (nI 1)), (0, .ref (g 18 0)), (1, .int (nI gd)), (2, .int ot), (3, .int (nI lf)), (4, .int (bi mo)), (5, .int (nI c)), (6, .int (nI sm)), (7, .int (nI dy))] dX7_laysGots_62 rfl 1 rfl (nI_add j 1) (by decide) rfl ?_
            refine g_goto 18 dX7_laysGots_65 rfl ?_
            refine g_lv [0, 2, 3, 4, 5, 6, 7, 8, 9] rfl ?_
            exact ih18 (by omega) _ (PMd_cg hP (fun k q hk hq => mus_full.symm.trans (congrArg (fun w => mus (ftp b gd) (lfb b gd) (wnb b gd) j w k q) (show b 16 (Tu b gd j) = t by omega)))) hT hW hF
          · refine g_aload_n 52 2 dX7_laysGots_51 rfl rfl ?_
            refine g_iload 54 1 dX7_laysGots_52 rfl rfl ?_
            refine g_callVi 57 md_X7_getsOne [.int (nI j)] [] dX7_laysGots_54 rfl e_X7_laysGots_271 rfl (by decide) rfl rfl (Nat.le_of_ble_eq_true rfl) (c_X7_getsOne hP hN_N hI (fun k hk => by rw [← hE.1]; exact (Ag_in hk).1) (sp := spr (ftp b gd) (lfb b gd) (wnb b gd) j t) (fun k hk => by rw [mus_used (by omega)]; exact hE.2.1 12 _ (by omega) (by omega)) j (by omega) (fun hA => gets_Z Mono_ftp (by omega) hA)) (fun r54 N9 h54 => ?_)
            obtain ⟨rfl, hP9, hF9⟩ := h54
            refine g_istore 59 [(9, .int (bi (decide (fa_first (fun k => ftp b gd k j && decide (0 < spr (ftp b gd) (lfb b gd) (wnb b gd) j t k)) (AgN b gd) < AgN b gd)))), (8, .int (nI j)), (0, .ref (g 18 0)), (1, .int (nI gd)), (2, .int ot), (3, .int (nI lf)), (4, .int (bi mo)), (5, .int (nI c)), (6, .int (nI sm)), (7, .int (nI dy))] dX7_laysGots_57 rfl (by decide) rfl ?_
            refine g_goto 30 dX7_laysGots_59 rfl ?_
            by_cases hfs : fst (ftp b gd) (lfb b gd) (wnb b gd) (AgN b gd) j t < AgN b gd
            · rw [show decide (fa_first (fun k => ftp b gd k j && decide (0 < spr (ftp b gd) (lfb b gd) (wnb b gd) j t k)) (AgN b gd) < AgN b gd) = true from decide_eq_true hfs, bi_t']
              exact ih30 (by omega) N9 (PMd_cg hP9 (fun k q hk hq => mus_more hfs hk)) (fun i hi => (hF9.1 _ _ _ (by omega)).trans (hT i hi)) (fun i hi => (hF9.1 _ _ _ (by omega)).trans (hW i hi)) (hF.tr hF9.fp) (pw_more hfs)
            · rw [show decide (fa_first (fun k => ftp b gd k j && decide (0 < spr (ftp b gd) (lfb b gd) (wnb b gd) j t k)) (AgN b gd) < AgN b gd) = false from decide_eq_false hfs, bi_f']
              exact E30 t N9 (by omega) (PMd_cg hP9 (fun k q hk hq => by show msb b gd j t k q = (if k = fst (ftp b gd) (lfb b gd) (wnb b gd) (AgN b gd) j t ∧ q = j then msb b gd j t k q + 1 else msb b gd j t k q); rw [if_neg (fun z => hfs (by rw [← z.1]; exact hk))])) (fun i hi => (hF9.1 _ _ _ (by omega)).trans (hT i hi)) (fun i hi => (hF9.1 _ _ _ (by omega)).trans (hW i hi)) (hF.tr hF9.fp) hfs
      exact L30 0 (Nat.zero_le _) N hP hT hW hF (by rw [pw_cum]; omega)
  exact L18 0 (Nat.zero_le _) N0 ⟨g1, g2, g4, fun k i hk hi => g6 k i hk hi, fun k i hk hi => (g7 k i hk hi).trans (congrArg nI mus_0.symm), by omega, by omega⟩ g3 g5 hF0

set_option maxHeartbeats 4000000 in
set_option maxRecDepth 100000 in
theorem c_X7_plansNow {l : Launch} {D : va_G} {g : Nat → Nat → Nat} {ca : Nat → ClassId} {M : Mm} {a : Sa} (hN : RM (M.1 18 12) a) (hI : Iv a) (gd : Nat) (hgd : gd < a 0 1) : Ct l D g ca md_X7_plansNow [.ref (g 18 0), .int (nI gd)] M (Rv (fun M1 => LG M1 a a gd ∧ FPn M M1)) := by
  refine Ct.of (by decide) rfl (Nat.le_of_ble_eq_true rfl) ?_
  have b0 := hI.today
  have b1 := hI.g4
  have b1' := hI.g1
  have b2 := hN.c6
  have b3 := hN.l24
  have b4 := hN.o40
  have htn := TuN_le hI (gd := gd)
  have hag := AgN_le (a := a) (gd := gd)
  show G l D g ca md_X7_plansNow 0 [(0, .ref (g 18 0)), (1, .int (nI gd))] [] M _
  refine g_aload_n 1 0 dX7_plansNow_0 rfl rfl ?_
  refine g_iload_n 2 1 dX7_plansNow_1 rfl rfl ?_
  refine g_iconst 3 ((-1)) dX7_plansNow_2 rfl rfl ?_
  refine g_iconst 4 (nI 0) dX7_plansNow_3 rfl rfl ?_
  refine g_iconst 5 (nI 0) dX7_plansNow_4 rfl rfl ?_
  refine g_iconst 6 (nI 0) dX7_plansNow_5 rfl rfl ?_
  refine g_iconst 7 (nI 0) dX7_plansNow_6 rfl rfl ?_
  refine g_iconst 8 (nI 0) dX7_plansNow_7 rfl rfl ?_
  refine g_callVv 11 md_X7_laysGots [.int (nI gd), .int (-1), .int (nI 0), .int (bi false), .int (nI 0), .int (nI 0), .int (nI 0)] [] dX7_plansNow_8 rfl e_X7_plansNow_274 rfl (by decide) rfl rfl (Nat.le_of_ble_eq_true rfl) (c_X7_laysGots hN hI gd (-1) 0 false 0 0 0 (EfB_same hI gd) hgd (by decide) (by decide) (by decide)) (fun N0 h8 => ?_)
  obtain ⟨⟨hP0, hT0⟩, hF0⟩ := h8
  refine g_iconst 12 (nI 0) dX7_plansNow_11 rfl rfl ?_
  refine g_istore_n 13 [(2, .int (nI 0)), (0, .ref (g 18 0)), (1, .int (nI gd))] dX7_plansNow_12 rfl (by decide) rfl ?_
  have L13 : ∀ k, k ≤ AgN a gd → ∀ (N : Mm), PMd N (AgN a gd) (TuN a gd) (Ag a gd) (ftp a gd) (fun k j => shp a gd j k) → (∀ i, i < TuN a gd → N.1 18 17 i = nI (nm a (Tu a gd i))) → FPn M N → G l D g ca md_X7_plansNow 13 [(2, .int (nI k)), (0, .ref (g 18 0)), (1, .int (nI gd))] [] N (Rv (fun M1 => LG M1 a a gd ∧ FPn M M1)) := by
    refine upto ?_
    intro k hk ih13 N hP hT hF
    have hN_N := hF.rm hN
    refine g_iload_n 14 0 dX7_plansNow_13 rfl rfl ?_
    refine g_aload_n 15 1 dX7_plansNow_14 rfl rfl ?_
    refine g_get 18 (nI (AgN a gd)) dX7_plansNow_15 rfl fX7_224 rfl (by decide) rfl hP.am_ ?_
    refine g_icmpN_ge 42 21 dX7_plansNow_18 rfl rfl (by omega) (by omega) (fun c18 => ?_) (fun c18 => ?_)
    · refine g_iconst 43 (nI 0) dX7_plansNow_42 rfl rfl ?_
      refine g_istore_n 44 [(2, .int (nI 0)), (0, .ref (g 18 0)), (1, .int (nI gd))] dX7_plansNow_43 rfl (by decide) rfl ?_
      have L44 : ∀ i, i ≤ TuN a gd → ∀ (N : Mm), PMd N (AgN a gd) (TuN a gd) (Ag a gd) (ftp a gd) (fun k j => shp a gd j k) → (∀ i, i < TuN a gd → N.1 18 17 i = nI (nm a (Tu a gd i))) → FPn M N → G l D g ca md_X7_plansNow 44 [(2, .int (nI i)), (0, .ref (g 18 0)), (1, .int (nI gd))] [] N (Rv (fun M1 => LG M1 a a gd ∧ FPn M M1)) := by
        refine upto ?_
        intro i hi ih44 N hP hT hF
        have hN_N := hF.rm hN
        refine g_iload_n 45 0 dX7_plansNow_44 rfl rfl ?_
        refine g_aload_n 46 1 dX7_plansNow_45 rfl rfl ?_
        refine g_get 49 (nI (TuN a gd)) dX7_plansNow_46 rfl fX7_221 rfl (by decide) rfl hP.tn_ ?_
        refine g_icmpN_ge 93 52 dX7_plansNow_49 rfl rfl (by omega) (by omega) (fun c49 => ?_) (fun c49 => ?_)
        · exact g_vret rfl dX7_plansNow_93 ⟨⟨hP, hT⟩, hF⟩
        · refine g_iconst 53 (nI 0) dX7_plansNow_52 rfl rfl ?_
          refine g_istore_n 54 [(3, .int (nI 0)), (2, .int (nI i)), (0, .ref (g 18 0)), (1, .int (nI gd))] dX7_plansNow_53 rfl (by decide) rfl ?_
          have L54 : ∀ k, k ≤ AgN a gd → ∀ (N : Mm), PMd N (AgN a gd) (TuN a gd) (Ag a gd) (ftp a gd) (fun k j => shp a gd j k) → (∀ i, i < TuN a gd → N.1 18 17 i = nI (nm a (Tu a gd i))) → FPn M N → G l D g ca md_X7_plansNow 54 [(3, .int (nI k)), (2, .int (nI i)), (0, .ref (g 18 0)), (1, .int (nI gd))] [] N (Rv (fun M1 => LG M1 a a gd ∧ FPn M M1)) := by
            refine upto ?_
            intro k hk ih54 N hP hT hF
            have hN_N := hF.rm hN
            refine g_iload_n 55 0 dX7_plansNow_54 rfl rfl ?_
            refine g_aload_n 56 2 dX7_plansNow_55 rfl rfl ?_
            refine g_get 59 (nI (AgN a gd)) dX7_plansNow_56 rfl fX7_224 rfl (by decide) rfl hP.am_ ?_
            refine g_icmpN_ge 87 62 dX7_plansNow_59 rfl rfl (by omega) (by omega) (fun c59 => ?_) (fun c59 => ?_)
            · refine g_iinc 90 (nI (i + 1)) [(2, .int (nI (i + 1))), (3, .int (nI k)), (0, .ref (g 18 0)), (1, .int (nI gd))] dX7_plansNow_87 rfl 1 rfl (nI_add i 1) (by decide) rfl ?_
              refine g_goto 44 dX7_plansNow_90 rfl ?_
              refine g_lv [0, 2, 3] rfl ?_
              exact ih44 (by omega) _ hP hT hF
            · refine g_iconst 63 (nI 1) dX7_plansNow_62 rfl rfl ?_
              refine g_istore 65 [(4, .int (nI 1)), (3, .int (nI k)), (2, .int (nI i)), (0, .ref (g 18 0)), (1, .int (nI gd))] dX7_plansNow_63 rfl (by decide) rfl ?_
              refine g_iload 67 0 dX7_plansNow_65 rfl rfl ?_
              refine g_ifN_eq 81 70 dX7_plansNow_67 rfl rfl (by omega) (fun c67 => ?_) (fun c67 => ?_)
              · exact absurd c67 (by omega)
              · refine g_aload_n 71 3 dX7_plansNow_70 rfl rfl ?_
                refine g_iload_n 72 1 dX7_plansNow_71 rfl rfl ?_
                refine g_iload_n 73 2 dX7_plansNow_72 rfl rfl ?_
                refine g_callVi 76 md_X7_turnsOne [.int (nI k), .int (nI i)] [] dX7_plansNow_73 rfl e_X7_plansNow_280 rfl (by decide) rfl rfl (Nat.le_of_ble_eq_true rfl) (c_X7_turnsOne (PMd_cg hP (mu' := msb a gd (TuN a gd) 0) (fun k q hk hq => mus_fin hq)) (fun k q hk hq => Nat.le_trans (Nat.le_of_eq (mus_fin hq)) (shp_le hI hq)) k i (by omega) (by omega) (fun hf hex q h1 h2 => by obtain ⟨m, m1, m2, m3⟩ := hex; exact (G1 m3 m1 hf).2 q h1)) (fun r73 N2 h73 => ?_)
                obtain ⟨rfl, hF2⟩ := h73
                refine g_istore 78 [(4, .int (nI 0)), (3, .int (nI k)), (2, .int (nI i)), (0, .ref (g 18 0)), (1, .int (nI gd))] dX7_plansNow_76 rfl (by decide) rfl ?_
                refine g_goto 65 dX7_plansNow_78 rfl ?_
                refine g_iload 67 0 dX7_plansNow_65 rfl rfl ?_
                refine g_ifN_eq 81 70 dX7_plansNow_67 rfl rfl (by omega) (fun c67 => ?_) (fun c67 => ?_)
                · refine g_iinc 84 (nI (k + 1)) [(3, .int (nI (k + 1))), (4, .int (nI 0)), (2, .int (nI i)), (0, .ref (g 18 0)), (1, .int (nI gd))] dX7_plansNow_81 rfl 1 rfl (nI_add k 1) (by decide) rfl ?_
                  refine g_goto 54 dX7_plansNow_84 rfl ?_
                  refine g_lv [0, 2, 3, 4] rfl ?_
                  exact ih54 (by omega) _ (hF2.pm hP) (fun i hi => (hF2.1 _ _ _ (by omega)).trans (hT i hi)) (hF.tr hF2.fn)
                · exact absurd c67 (by omega)
          exact L54 0 (Nat.zero_le _) N hP hT hF
      exact L44 0 (Nat.zero_le _) N hP hT hF
    · refine g_iconst 22 (nI 1) dX7_plansNow_21 rfl rfl ?_
      refine g_istore_n 23 [(3, .int (nI 1)), (2, .int (nI k)), (0, .ref (g 18 0)), (1, .int (nI gd))] dX7_plansNow_22 rfl (by decide) rfl ?_
      refine g_iload_n 24 0 dX7_plansNow_23 rfl rfl ?_
      refine g_ifN_eq 36 27 dX7_plansNow_24 rfl rfl (by omega) (fun c24 => ?_) (fun c24 => ?_)
      · exact absurd c24 (by omega)
      · refine g_aload_n 28 2 dX7_plansNow_27 rfl rfl ?_
        refine g_iload_n 29 1 dX7_plansNow_28 rfl rfl ?_
        refine g_callVi 32 md_X7_usesOne [.int (nI k)] [] dX7_plansNow_29 rfl e_X7_plansNow_277 rfl (by decide) rfl rfl (Nat.le_of_ble_eq_true rfl) (c_X7_usesOne (PMd_cg hP (mu' := msb a gd (TuN a gd) 0) (fun k q hk hq => mus_fin hq)) hN_N hI (fun k hk => (Ag_in hk).1) (sp := spr (ftp a gd) (lfb a gd) (wnb a gd) (TuN a gd) 0) (fun k hk => fin_used) k (by omega) (fun hs => uses_Z Mono_ftp (by omega) hs)) (fun r29 N2 h29 => ?_)
        obtain ⟨rfl, hF2⟩ := h29
        refine g_istore_n 33 [(3, .int (nI 0)), (2, .int (nI k)), (0, .ref (g 18 0)), (1, .int (nI gd))] dX7_plansNow_32 rfl (by decide) rfl ?_
        refine g_goto 23 dX7_plansNow_33 rfl ?_
        refine g_iload_n 24 0 dX7_plansNow_23 rfl rfl ?_
        refine g_ifN_eq 36 27 dX7_plansNow_24 rfl rfl (by omega) (fun c24 => ?_) (fun c24 => ?_)
        · refine g_iinc 39 (nI (k + 1)) [(2, .int (nI (k + 1))), (3, .int (nI 0)), (0, .ref (g 18 0)), (1, .int (nI gd))] dX7_plansNow_36 rfl 1 rfl (nI_add k 1) (by decide) rfl ?_
          refine g_goto 13 dX7_plansNow_39 rfl ?_
          refine g_lv [0, 2, 3] rfl ?_
          exact ih13 (by omega) _ (hF2.pm hP) (fun i hi => (hF2.1 _ _ _ (by omega)).trans (hT i hi)) (hF.tr hF2.fn)
        · exact absurd c24 (by omega)
  exact L13 0 (Nat.zero_le _) N0 hP0 hT0 hF0
