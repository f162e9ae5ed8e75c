set_option maxHeartbeats 4000000 in
set_option maxRecDepth 100000 in
theorem c_X7_laysRows {l : Launch} {D : va_G} {g : Nat → Nat → Nat} {ca : Nat → ClassId} {M : Mm} {a : Sa} (hN : RM (M.1 18 12) a) (hI : Iv a) {b : Sa} (gd : Nat) (ot : Int32) (lf : Nat) (mo : Bool) (c sm dy : Nat) (hE : EfB a b gd ot lf mo c sm dy) (hgd : gd < a 0 1) (hlf : lf < 65536) (hdy : dy < 65536) (hsm : sm < 65536) : Ct l D g ca md_X7_laysRows [.ref (g 18 0), .int (nI gd), .int ot, .int (nI lf), .int (bi mo), .int (nI c), .int (nI sm), .int (nI dy)] M (Rv (fun M1 => LR M1 a b gd ∧ FPn M M1)) := by
  refine Ct.of (by decide) rfl (Nat.le_of_ble_eq_true rfl) ?_
  have b0 := hI.today
  have b1 := hI.g4
  have b1' := hI.g1
  have b2 := hN.c6
  have b3 := hN.l24
  have b4 := hN.o40
  show G l D g ca md_X7_laysRows 0 [(0, .ref (g 18 0)), (1, .int (nI gd)), (2, .int ot), (3, .int (nI lf)), (4, .int (bi mo)), (5, .int (nI c)), (6, .int (nI sm)), (7, .int (nI dy))] [] M _
  refine g_aload_n 1 0 dX7_laysRows_0 rfl rfl ?_
  refine g_iconst 2 (nI 0) dX7_laysRows_1 rfl rfl ?_
  refine g_put 5 dX7_laysRows_2 rfl fX7_221 pX7_24 rfl (by decide) rfl ?_
  refine g_aload_n 6 0 dX7_laysRows_5 rfl rfl ?_
  refine g_iconst 7 (nI 0) dX7_laysRows_6 rfl rfl ?_
  refine g_put 10 dX7_laysRows_7 rfl fX7_224 pX7_25 rfl (by decide) rfl ?_
  refine g_iconst 11 (nI 0) dX7_laysRows_10 rfl rfl ?_
  refine g_istore 13 [(8, .int (nI 0)), (0, .ref (g 18 0)), (1, .int (nI gd)), (2, .int ot), (3, .int (nI lf)), (4, .int (bi mo)), (5, .int (nI c)), (6, .int (nI sm)), (7, .int (nI dy))] dX7_laysRows_11 rfl (by decide) rfl ?_
  have L13 : ∀ k, k ≤ a 0 4 → ∀ (N : Mm), N.1 18 0 24 = nI (gat (a 17) (osel a gd) k).1 → N.1 18 0 25 = nI 0 → (∀ i, i < (gat (a 17) (osel a gd) k).1 → N.1 18 17 i = nI ((gat (a 17) (osel a gd) k).2 i) ∧ (gat (a 17) (osel a gd) k).2 i < a 0 4) → FPn M N → G l D g ca md_X7_laysRows 13 [(8, .int (nI k)), (0, .ref (g 18 0)), (1, .int (nI gd)), (2, .int ot), (3, .int (nI lf)), (4, .int (bi mo)), (5, .int (nI c)), (6, .int (nI sm)), (7, .int (nI dy))] [] N (Rv (fun M1 => LR M1 a b gd ∧ FPn M M1)) := by
    refine upto ?_
    intro k hk ih13 N p1 p2 p3 hF
    have hN_N := hF.rm hN
    refine g_iload 15 0 dX7_laysRows_13 rfl rfl ?_
    refine g_aload_n 16 1 dX7_laysRows_15 rfl rfl ?_
    refine g_geta 19 12 dX7_laysRows_16 rfl fX7_64 rfl (by decide) rfl rfl ?_
    refine g_iconst 20 (nI 4) dX7_laysRows_19 rfl rfl ?_
    refine g_iald 21 (nI (a 0 4)) dX7_laysRows_20 rfl rfl (by decide) rfl (by decide) (by omega) (hN_N.sc (by decide)) ?_
    refine g_icmpN_ge 63 24 dX7_laysRows_21 rfl rfl (by omega) (by omega) (fun c21 => ?_) (fun c21 => ?_)
    · have hk4 : k = a 0 4 := by omega
      refine g_iload 65 5 dX7_laysRows_63 rfl rfl ?_
      refine g_ifB_eq 76 68 dX7_laysRows_65 rfl rfl (fun c65 => ?_) (fun c65 => ?_)
      · rw [hk4] at p1 p3
        obtain ⟨v1, v2⟩ := hE.no c65
        obtain ⟨N3, eN3⟩ : ∃ N3, N3 = N := ⟨_, rfl⟩
        have w1 : N3.1 18 0 24 = nI (TuN b gd) := by rw [v1, eN3]; exact p1
        have w3 : ∀ i, i < TuN b gd → N3.1 18 17 i = nI (nm a (Tu b gd i)) := fun i hi => by rw [v1] at hi; rw [eN3, (p3 i hi).1, v2]; unfold nm; rw [if_pos (p3 i hi).2]
        have w2 : N3.1 18 0 25 = nI 0 := by rw [eN3]; exact p2
        have wF : FPn M N3 := by rw [eN3]; exact hF
        rw [← eN3]
        refine g_iconst 77 (nI 0) dX7_laysRows_76 rfl rfl ?_
        refine g_istore 79 [(8, .int (nI 0)), (0, .ref (g 18 0)), (1, .int (nI gd)), (2, .int ot), (3, .int (nI lf)), (4, .int (bi mo)), (5, .int (nI c)), (6, .int (nI sm)), (7, .int (nI dy))] dX7_laysRows_77 rfl (by decide) rfl ?_
        have L79 : ∀ k, k ≤ a 0 3 → ∀ (N4 : Mm), N4.1 18 0 24 = nI (TuN b gd) → N4.1 18 0 25 = nI (gat (a 11) (lsel a gd) k).1 → (∀ i, i < TuN b gd → N4.1 18 17 i = nI (nm a (Tu b gd i))) → (∀ i, i < (gat (a 11) (lsel a gd) k).1 → N4.1 18 18 i = nI ((gat (a 11) (lsel a gd) k).2 i) ∧ (gat (a 11) (lsel a gd) k).2 i < a 0 3) → FPn M N4 → G l D g ca md_X7_laysRows 79 [(8, .int (nI k)), (0, .ref (g 18 0)), (1, .int (nI gd)), (2, .int ot), (3, .int (nI lf)), (4, .int (bi mo)), (5, .int (nI c)), (6, .int (nI sm)), (7, .int (nI dy))] [] N4 (Rv (fun M1 => LR M1 a b gd ∧ FPn M M1)) := by
          refine upto ?_
          intro k hk ih79 N4 r1 r2 r3 r4 hF
          have hN_N := hF.rm hN
          have hN_N4 := hN_N
          refine g_iload 81 0 dX7_laysRows_79 rfl rfl ?_
          refine g_aload_n 82 1 dX7_laysRows_81 rfl rfl ?_
          refine g_geta 85 12 dX7_laysRows_82 rfl fX7_64 rfl (by decide) rfl rfl ?_
          refine g_iconst 86 (nI 3) dX7_laysRows_85 rfl rfl ?_
          refine g_iald 87 (nI (a 0 3)) dX7_laysRows_86 rfl rfl (by decide) rfl (by decide) (by omega) (hN_N4.sc (by decide)) ?_
          refine g_icmpN_ge 113 90 dX7_laysRows_87 rfl rfl (by omega) (by omega) (fun c87 => ?_) (fun c87 => ?_)
          · rw [show k = a 0 3 by omega, hE.lots] at r2 r4
            refine g_iconst 114 (nI 0) dX7_laysRows_113 rfl rfl ?_
            refine g_istore 116 [(8, .int (nI 0)), (0, .ref (g 18 0)), (1, .int (nI gd)), (2, .int ot), (3, .int (nI lf)), (4, .int (bi mo)), (5, .int (nI c)), (6, .int (nI sm)), (7, .int (nI dy))] dX7_laysRows_114 rfl (by decide) rfl ?_
            have L116 : ∀ j, j ≤ TuN b gd → ∀ (N : Mm), N.1 18 0 24 = nI (TuN b gd) → N.1 18 0 25 = nI (AgN b gd) → (∀ i, i < TuN b gd → N.1 18 17 i = nI (nm a (Tu b gd i))) → (∀ i, i < AgN b gd → N.1 18 18 i = nI (Ag b gd i)) → (∀ i, i < j → N.1 18 19 i = nI (b 16 (Tu b gd i))) → (∀ k i, k < AgN b gd → i < j → N.1 18 24 (8 * k + i) = bi (ftp b gd k i) ∧ N.1 18 20 (8 * k + i) = nI 0) → FPn M N → G l D g ca md_X7_laysRows 116 [(8, .int (nI j)), (0, .ref (g 18 0)), (1, .int (nI gd)), (2, .int ot), (3, .int (nI lf)), (4, .int (bi mo)), (5, .int (nI c)), (6, .int (nI sm)), (7, .int (nI dy))] [] N (Rv (fun M1 => LR M1 a b gd ∧ FPn M M1)) := by
              refine upto ?_
              intro j hj ih116 N q1 q2 q3 q4 q5 q6 hF
              have hN_N := hF.rm hN
              have htn := TuN_le hE.2.2.2.2.2.2.2 (gd := gd)
              have hag := AgN_le (a := b) (gd := gd)
              have hb6 := hE.2.2.2.2.2.2.2.c6
              have hb24 := hE.2.2.2.2.2.2.2.l24
              refine g_iload 118 0 dX7_laysRows_116 rfl rfl ?_
              refine g_aload_n 119 1 dX7_laysRows_118 rfl rfl ?_
              refine g_get 122 (nI (TuN b gd)) dX7_laysRows_119 rfl fX7_221 rfl (by decide) rfl q1 ?_
              refine g_icmpN_ge 292 125 dX7_laysRows_122 rfl rfl (by omega) (by omega) (fun c122 => ?_) (fun c122 => ?_)
              · exact g_vret rfl dX7_laysRows_292 ⟨⟨q1, q2, q3, q4, fun i hi => q5 i (by omega), fun k i hk hi => (q6 k i hk (by omega)).1, fun k i hk hi => (q6 k i hk (by omega)).2⟩, hF⟩
              · refine g_aload_n 126 1 dX7_laysRows_125 rfl rfl ?_
                refine g_geta 129 17 dX7_laysRows_126 rfl fX7_73 rfl (by decide) rfl rfl ?_
                refine g_iload 131 0 dX7_laysRows_129 rfl rfl ?_
                refine g_iald 132 (nI (nm a (Tu b gd j))) dX7_laysRows_131 rfl rfl (by decide) rfl (by decide) (by omega) (q3 _ (by omega)) ?_
                refine g_istore 134 [(9, .int (nI (nm a (Tu b gd j)))), (8, .int (nI j)), (0, .ref (g 18 0)), (1, .int (nI gd)), (2, .int ot), (3, .int (nI lf)), (4, .int (bi mo)), (5, .int (nI c)), (6, .int (nI sm)), (7, .int (nI dy))] dX7_laysRows_132 rfl (by decide) rfl ?_
                have hwho := hE.who (i := j) (by omega)
                obtain ⟨y, ey⟩ : ∃ y, y = nm a (Tu b gd j) := ⟨_, rfl⟩
                rw [← ey] at hwho ⊢
                obtain ⟨t, et⟩ : ∃ t, t = Tu b gd j := ⟨_, rfl⟩
                rw [← et] at hwho
                have hy41 : y < 41 := by omega
                refine g_aload_n 135 2 dX7_laysRows_134 rfl rfl ?_
                refine g_geta 138 19 dX7_laysRows_135 rfl fX7_79 rfl (by decide) rfl rfl ?_
                refine g_iload 140 1 dX7_laysRows_138 rfl rfl ?_
                refine g_iload 142 0 dX7_laysRows_140 rfl rfl ?_
                refine g_bipush 144 (nI 40) dX7_laysRows_142 rfl rfl ?_
                refine g_icmpN_ne 152 147 dX7_laysRows_144 rfl rfl (by omega) (by omega) (fun c144 => ?_) (fun c144 => ?_)
                · refine g_aload_n 153 2 dX7_laysRows_152 rfl rfl ?_
                  refine g_iload 155 0 dX7_laysRows_153 rfl rfl ?_
                  refine g_iconst 156 (nI 2) dX7_laysRows_155 rfl rfl ?_
                  refine g_callVi 159 md_X7_ordered [.int (nI y), .int (nI 2)] [.int (nI j), .ref (g 18 19)] dX7_laysRows_156 rfl e_X7_laysRows_169 rfl (by decide) rfl rfl (Nat.le_of_ble_eq_true rfl) (c_X7_ordered hN_N hI y 2 16 (by omega) (by decide) rfl) (fun r156 M156 h156 => ?_)
                  obtain ⟨rfl, h156⟩ := h156
                  have h156 := h156.symm
                  subst h156
                  refine g_iast 160 dX7_laysRows_159 rfl rfl (by decide) rfl (by decide) (by omega) ?_
                  refine g_iconst 161 (nI 0) dX7_laysRows_160 rfl rfl ?_
                  refine g_istore 163 [(10, .int (nI 0)), (9, .int (nI y)), (8, .int (nI j)), (0, .ref (g 18 0)), (1, .int (nI gd)), (2, .int ot), (3, .int (nI lf)), (4, .int (bi mo)), (5, .int (nI c)), (6, .int (nI sm)), (7, .int (nI dy))] dX7_laysRows_161 rfl (by decide) rfl ?_
                  have hw19 : nI (a 16 y) = nI (b 16 (Tu b gd j)) := by rcases hwho with z | z <;> first | omega | (rw [← et, z.1, hE.2.2.2.2.1 t 16 z.2.1 (by omega) (by omega)])
                  have L163 : ∀ k, k ≤ AgN b gd → ∀ (N : Mm), N.1 18 0 24 = nI (TuN b gd) → N.1 18 0 25 = nI (AgN b gd) → (∀ i, i < TuN b gd → N.1 18 17 i = nI (nm a (Tu b gd i))) → (∀ i, i < AgN b gd → N.1 18 18 i = nI (Ag b gd i)) → (∀ i, i < j + 1 → N.1 18 19 i = nI (b 16 (Tu b gd i))) → (∀ k i, k < AgN b gd → i < j → N.1 18 24 (8 * k + i) = bi (ftp b gd k i) ∧ N.1 18 20 (8 * k + i) = nI 0) → (∀ k2, k2 < k → N.1 18 24 (8 * k2 + j) = bi (ftp b gd k2 j) ∧ N.1 18 20 (8 * k2 + j) = nI 0) → FPn M N → G l D g ca md_X7_laysRows 163 [(10, .int (nI k)), (9, .int (nI y)), (8, .int (nI j)), (0, .ref (g 18 0)), (1, .int (nI gd)), (2, .int ot), (3, .int (nI lf)), (4, .int (bi mo)), (5, .int (nI c)), (6, .int (nI sm)), (7, .int (nI dy))] [] N (Rv (fun M1 => LR M1 a b gd ∧ FPn M M1)) := by
                    refine upto ?_
                    intro k hk ih163 N q1 q2 q3 q4 q5 q6 q7 hF
                    have hN_N := hF.rm hN
                    have hak := fun (h : k < AgN b gd) => (Ag_in h).1
                    refine g_iload 165 0 dX7_laysRows_163 rfl rfl ?_
                    refine g_aload_n 166 3 dX7_laysRows_165 rfl rfl ?_
                    refine g_get 169 (nI (AgN b gd)) dX7_laysRows_166 rfl fX7_224 rfl (by decide) rfl q2 ?_
                    refine g_icmpN_ge 286 172 dX7_laysRows_169 rfl rfl (by omega) (by omega) (fun c169 => ?_) (fun c169 => ?_)
                    · refine g_iinc 289 (nI (j + 1)) [(8, .int (nI (j + 1))), (10, .int (nI k)), (9, .int (nI y)), (0, .ref (g 18 0)), (1, .int (nI gd)), (2, .int ot), (3, .int (nI lf)), (4, .int (bi mo)), (5, .int (nI c)), (6, .int (nI sm)), (7, .int (nI dy))] dX7_laysRows_286 rfl 2 rfl (nI_add j 1) (by decide) rfl ?_
                      refine g_goto 116 dX7_laysRows_289 rfl ?_
                      refine g_lv [0, 3, 4, 5, 6, 7, 8, 9, 10] rfl ?_
                      exact ih116 (by omega) _ q1 q2 q3 q4 q5 (fun k2 i hk2 hi => by rcases (show i = j ∨ i < j by omega) with rfl | e <;> first | exact q7 k2 (by omega) | exact q6 k2 i hk2 e) hF
                    · refine g_aload_n 173 3 dX7_laysRows_172 rfl rfl ?_
                      refine g_geta 176 20 dX7_laysRows_173 rfl fX7_82 rfl (by decide) rfl rfl ?_
                      refine g_bipush 178 (nI 8) dX7_laysRows_176 rfl rfl ?_
                      refine g_iload 180 0 dX7_laysRows_178 rfl rfl ?_
                      refine g_imul 181 (nI (8 * k)) dX7_laysRows_180 rfl (pk_mul 8 k) ?_
                      refine g_iload 183 2 dX7_laysRows_181 rfl rfl ?_
                      refine g_iadd 184 (nI ((8 * k) + j)) dX7_laysRows_183 rfl (nI_add (8 * k) j) ?_
                      refine g_iconst 185 (nI 0) dX7_laysRows_184 rfl rfl ?_
                      refine g_iast 186 dX7_laysRows_185 rfl rfl (by decide) rfl (by decide) (by omega) ?_
                      refine g_aload_n 187 3 dX7_laysRows_186 rfl rfl ?_
                      refine g_geta 190 24 dX7_laysRows_187 rfl fX7_94 rfl (by decide) rfl rfl ?_
                      refine g_bipush 192 (nI 8) dX7_laysRows_190 rfl rfl ?_
                      refine g_iload 194 0 dX7_laysRows_192 rfl rfl ?_
                      refine g_imul 195 (nI (8 * k)) dX7_laysRows_194 rfl (pk_mul 8 k) ?_
                      refine g_iload 197 2 dX7_laysRows_195 rfl rfl ?_
                      refine g_iadd 198 (nI ((8 * k) + j)) dX7_laysRows_197 rfl (nI_add (8 * k) j) ?_
                      refine g_iload 200 1 dX7_laysRows_198 rfl rfl ?_
                      refine g_bipush 202 (nI 40) dX7_laysRows_200 rfl rfl ?_
                      refine g_icmpN_ne 230 205 dX7_laysRows_202 rfl rfl (by omega) (by omega) (fun c202 => ?_) (fun c202 => ?_)
                      · refine g_iload 232 1 dX7_laysRows_230 rfl rfl ?_
                        refine g_iload_n 233 5 dX7_laysRows_232 rfl rfl ?_
                        refine g_icmp_ne 266 236 dX7_laysRows_233 rfl rfl (fun c233 => ?_) (fun c233 => ?_)
                        · refine g_aload_n 267 3 dX7_laysRows_266 rfl rfl ?_
                          refine g_aload_n 268 3 dX7_laysRows_267 rfl rfl ?_
                          refine g_geta 271 18 dX7_laysRows_268 rfl fX7_76 rfl (by decide) rfl rfl ?_
                          refine g_iload 273 0 dX7_laysRows_271 rfl rfl ?_
                          refine g_iald 274 (nI (Ag b gd k)) dX7_laysRows_273 rfl rfl (by decide) rfl (by decide) (by omega) ((wr_ne (by omega)).trans (q4 _ (by omega))) ?_
                          refine g_iload 276 1 dX7_laysRows_274 rfl rfl ?_
                          have hak2 := hak (by omega)
                          rw [hE.1] at hak2
                          refine g_callVi 279 md_X7_isFit [.int (nI (Ag b gd k)), .int (nI y)] [.int (nI ((8 * k) + j)), .ref (g 18 24)] dX7_laysRows_276 rfl e_X7_laysRows_217 rfl (by decide) rfl rfl (Nat.le_of_ble_eq_true rfl) (c_X7_isFit (RM_w (by decide) hN_N) hI (Ag b gd k) y hak2 (by omega)) (fun r276 M276 h276 => ?_)
                          obtain ⟨rfl, h276⟩ := h276
                          have h276 := h276.symm
                          subst h276
                          have hfit : fit a (Ag b gd k) y = ftp b gd k j := by rcases hwho with z | z <;> first | omega | (rw [hE.fitN (by omega) (by rw [z.1]; exact z.2.2.1) (by rw [z.1]; exact z.2.2.2) c233]; unfold ftp; rw [← et, z.1])
                          refine g_zast 280 dX7_laysRows_279 rfl rfl (by decide) rfl (by decide) (by omega) (bi_01 _) ?_
                          refine g_iinc 283 (nI (k + 1)) [(10, .int (nI (k + 1))), (9, .int (nI y)), (8, .int (nI j)), (0, .ref (g 18 0)), (1, .int (nI gd)), (2, .int ot), (3, .int (nI lf)), (4, .int (bi mo)), (5, .int (nI c)), (6, .int (nI sm)), (7, .int (nI dy))] dX7_laysRows_280 rfl 0 rfl (nI_add k 1) (by decide) rfl ?_
                          refine g_goto 163 dX7_laysRows_283 rfl ?_
                          exact ih163 (by omega) _ ((wr_ne (by omega)).trans ((wr_ne (by omega)).trans q1)) ((wr_ne (by omega)).trans ((wr_ne (by omega)).trans q2)) (fun i hi => (wr_ne (by omega)).trans ((wr_ne (by omega)).trans (q3 i hi))) (fun i hi => (wr_ne (by omega)).trans ((wr_ne (by omega)).trans (q4 i hi))) (fun i hi => (wr_ne (by omega)).trans ((wr_ne (by omega)).trans (q5 i hi))) (fun k2 i hk2 hi => ⟨(wr_ne (by omega)).trans ((wr_ne (by omega)).trans (q6 k2 i hk2 hi).1), (wr_ne (by omega)).trans ((wr_ne (by omega)).trans (q6 k2 i hk2 hi).2)⟩) (fun k2 hk2 => by rcases (show k2 = k ∨ k2 < k by omega) with rfl | e <;> first | exact ⟨wr_eq.trans (congrArg bi hfit), (wr_ne (by omega)).trans wr_eq⟩ | exact ⟨(wr_ne (by omega)).trans ((wr_ne (by omega)).trans (q7 k2 e).1), (wr_ne (by omega)).trans ((wr_ne (by omega)).trans (q7 k2 e).2)⟩) (hF.tr ((FPn.wr (by omega)).tr (FPn.wr (by omega))))
                        · refine g_aload_n 237 3 dX7_laysRows_236 rfl rfl ?_
                          refine g_aload_n 238 3 dX7_laysRows_237 rfl rfl ?_
                          refine g_geta 241 18 dX7_laysRows_238 rfl fX7_76 rfl (by decide) rfl rfl ?_
                          refine g_iload 243 0 dX7_laysRows_241 rfl rfl ?_
                          refine g_iald 244 (nI (Ag b gd k)) dX7_laysRows_243 rfl rfl (by decide) rfl (by decide) (by omega) ((wr_ne (by omega)).trans (q4 _ (by omega))) ?_
                          refine g_aload_n 245 3 dX7_laysRows_244 rfl rfl ?_
                          refine g_iload 247 1 dX7_laysRows_245 rfl rfl ?_
                          refine g_iconst 248 (nI 0) dX7_laysRows_247 rfl rfl ?_
                          refine g_callVi 251 md_X7_ordered [.int (nI y), .int (nI 0)] [.int (nI (Ag b gd k)), .ref (g 18 0), .int (nI ((8 * k) + j)), .ref (g 18 24)] dX7_laysRows_248 rfl e_X7_laysRows_169 rfl (by decide) rfl rfl (Nat.le_of_ble_eq_true rfl) (c_X7_ordered (RM_w (by decide) hN_N) hI y 0 14 (by omega) (by decide) rfl) (fun r248 M248 h248 => ?_)
                          obtain ⟨rfl, h248⟩ := h248
                          have h248 := h248.symm
                          subst h248
                          refine g_iload_n 252 4 dX7_laysRows_251 rfl rfl ?_
                          refine g_aload_n 253 3 dX7_laysRows_252 rfl rfl ?_
                          refine g_iload 255 1 dX7_laysRows_253 rfl rfl ?_
                          refine g_iconst 256 (nI 3) dX7_laysRows_255 rfl rfl ?_
                          refine g_callVi 259 md_X7_ordered [.int (nI y), .int (nI 3)] [.int (nI gd), .int (nI (a 14 y)), .int (nI (Ag b gd k)), .ref (g 18 0), .int (nI ((8 * k) + j)), .ref (g 18 24)] dX7_laysRows_256 rfl e_X7_laysRows_169 rfl (by decide) rfl rfl (Nat.le_of_ble_eq_true rfl) (c_X7_ordered (RM_w (by decide) hN_N) hI y 3 17 (by omega) (by decide) rfl) (fun r256 M256 h256 => ?_)
                          obtain ⟨rfl, h256⟩ := h256
                          have h256 := h256.symm
                          subst h256
                          refine g_iload_n 260 6 dX7_laysRows_259 rfl rfl ?_
                          have hak2 := hak (by omega)
                          rw [hE.1] at hak2
                          refine g_callVi 263 md_X7_isFor [.int (nI (Ag b gd k)), .int (nI (a 14 y)), .int (nI gd), .int (nI (a 17 y)), .int (nI lf)] [.int (nI ((8 * k) + j)), .ref (g 18 24)] dX7_laysRows_260 rfl e_X7_laysRows_182 rfl (by decide) rfl rfl (Nat.le_of_ble_eq_true rfl) (c_X7_isFor (RM_w (by decide) hN_N) hI (Ag b gd k) (a 14 y) gd (a 17 y) lf hak2 (by have := (hI.ord (o := y) (by omega)).1; omega) (by omega) (by have := hI.ord (o := y) (by omega); omega) (by omega)) (fun r260 M260 h260 => ?_)
                          obtain ⟨rfl, h260⟩ := h260
                          have h260 := h260.symm
                          subst h260
                          have hfit : isfor a (Ag b gd k) (a 14 y) gd (a 17 y) lf = ftp b gd k j := by rcases hwho with z | z <;> first | omega | (rw [hE.fitO (by omega) (by rw [z.1]; exact z.2.2.1) (by rw [z.1]; exact z.2.2.2) c233]; unfold ftp; rw [← et, z.1])
                          refine g_goto 279 dX7_laysRows_263 rfl ?_
                          refine g_zast 280 dX7_laysRows_279 rfl rfl (by decide) rfl (by decide) (by omega) (bi_01 _) ?_
                          refine g_iinc 283 (nI (k + 1)) [(10, .int (nI (k + 1))), (9, .int (nI y)), (8, .int (nI j)), (0, .ref (g 18 0)), (1, .int (nI gd)), (2, .int ot), (3, .int (nI lf)), (4, .int (bi mo)), (5, .int (nI c)), (6, .int (nI sm)), (7, .int (nI dy))] dX7_laysRows_280 rfl 0 rfl (nI_add k 1) (by decide) rfl ?_
                          refine g_goto 163 dX7_laysRows_283 rfl ?_
                          exact ih163 (by omega) _ ((wr_ne (by omega)).trans ((wr_ne (by omega)).trans q1)) ((wr_ne (by omega)).trans ((wr_ne (by omega)).trans q2)) (fun i hi => (wr_ne (by omega)).trans ((wr_ne (by omega)).trans (q3 i hi))) (fun i hi => (wr_ne (by omega)).trans ((wr_ne (by omega)).trans (q4 i hi))) (fun i hi => (wr_ne (by omega)).trans ((wr_ne (by omega)).trans (q5 i hi))) (fun k2 i hk2 hi => ⟨(wr_ne (by omega)).trans ((wr_ne (by omega)).trans (q6 k2 i hk2 hi).1), (wr_ne (by omega)).trans ((wr_ne (by omega)).trans (q6 k2 i hk2 hi).2)⟩) (fun k2 hk2 => by rcases (show k2 = k ∨ k2 < k by omega) with rfl | e <;> first | exact ⟨wr_eq.trans (congrArg bi hfit), (wr_ne (by omega)).trans wr_eq⟩ | exact ⟨(wr_ne (by omega)).trans ((wr_ne (by omega)).trans (q7 k2 e).1), (wr_ne (by omega)).trans ((wr_ne (by omega)).trans (q7 k2 e).2)⟩) (hF.tr ((FPn.wr (by omega)).tr (FPn.wr (by omega))))
                      · refine g_aload_n 206 3 dX7_laysRows_205 rfl rfl ?_
                        refine g_aload_n 207 3 dX7_laysRows_206 rfl rfl ?_
                        refine g_geta 210 18 dX7_laysRows_207 rfl fX7_76 rfl (by decide) rfl rfl ?_
                        refine g_iload 212 0 dX7_laysRows_210 rfl rfl ?_
                        refine g_iald 213 (nI (Ag b gd k)) dX7_laysRows_212 rfl rfl (by decide) rfl (by decide) (by omega) ((wr_ne (by omega)).trans (q4 _ (by omega))) ?_
                        refine g_iload 215 8 dX7_laysRows_213 rfl rfl ?_
                        refine g_iload_n 216 4 dX7_laysRows_215 rfl rfl ?_
                        refine g_iload 218 10 dX7_laysRows_216 rfl rfl ?_
                        refine g_aload_n 219 3 dX7_laysRows_218 rfl rfl ?_
                        refine g_iload 221 8 dX7_laysRows_219 rfl rfl ?_
                        refine g_callVi 224 md_X7_lifeOf [.int (nI c)] [.int (nI dy), .int (nI gd), .int (nI c), .int (nI (Ag b gd k)), .ref (g 18 0), .int (nI ((8 * k) + j)), .ref (g 18 24)] dX7_laysRows_221 rfl e_X7_laysRows_179 rfl (by decide) rfl rfl (Nat.le_of_ble_eq_true rfl) (c_X7_lifeOf (RM_w (by decide) hN_N) hI c (hE.2.2.2.2.2.1 (by rcases hwho with z | z <;> first | omega | exact z.2.2)).2.2.2.2.2.2) (fun r221 M221 h221 => ?_)
                        obtain ⟨rfl, h221⟩ := h221
                        have h221 := h221.symm
                        subst h221
                        have hak2 := hak (by omega)
                        rw [hE.1] at hak2
                        have hcx := (hE.2.2.2.2.2.1 (by rcases hwho with z | z <;> first | omega | exact z.2.2)).2.2.2.2.2.2
                        refine g_callVi 227 md_X7_isFor [.int (nI (Ag b gd k)), .int (nI c), .int (nI gd), .int (nI dy), .int (nI (a 8 c))] [.int (nI ((8 * k) + j)), .ref (g 18 24)] dX7_laysRows_224 rfl e_X7_laysRows_182 rfl (by decide) rfl rfl (Nat.le_of_ble_eq_true rfl) (c_X7_isFor (RM_w (by decide) hN_N) hI (Ag b gd k) c gd dy (a 8 c) hak2 (by omega) (by omega) (by omega) (by have := hI.life hcx; omega)) (fun r224 M224 h224 => ?_)
                        obtain ⟨rfl, h224⟩ := h224
                        have h224 := h224.symm
                        subst h224
                        have hfit : isfor a (Ag b gd k) c gd dy (a 8 c) = ftp b gd k j := by rcases hwho with z | z <;> first | omega | (rw [hE.fitX z.2.2]; unfold ftp; rw [← et, z.2.1])
                        refine g_goto 279 dX7_laysRows_227 rfl ?_
                        refine g_zast 280 dX7_laysRows_279 rfl rfl (by decide) rfl (by decide) (by omega) (bi_01 _) ?_
                        refine g_iinc 283 (nI (k + 1)) [(10, .int (nI (k + 1))), (9, .int (nI y)), (8, .int (nI j)), (0, .ref (g 18 0)), (1, .int (nI gd)), (2, .int ot), (3, .int (nI lf)), (4, .int (bi mo)), (5, .int (nI c)), (6, .int (nI sm)), (7, .int (nI dy))] dX7_laysRows_280 rfl 0 rfl (nI_add k 1) (by decide) rfl ?_
                        refine g_goto 163 dX7_laysRows_283 rfl ?_
                        exact ih163 (by omega) _ ((wr_ne (by omega)).trans ((wr_ne (by omega)).trans q1)) ((wr_ne (by omega)).trans ((wr_ne (by omega)).trans q2)) (fun i hi => (wr_ne (by omega)).trans ((wr_ne (by omega)).trans (q3 i hi))) (fun i hi => (wr_ne (by omega)).trans ((wr_ne (by omega)).trans (q4 i hi))) (fun i hi => (wr_ne (by omega)).trans ((wr_ne (by omega)).trans (q5 i hi))) (fun k2 i hk2 hi => ⟨(wr_ne (by omega)).trans ((wr_ne (by omega)).trans (q6 k2 i hk2 hi).1), (wr_ne (by omega)).trans ((wr_ne (by omega)).trans (q6 k2 i hk2 hi).2)⟩) (fun k2 hk2 => by rcases (show k2 = k ∨ k2 < k by omega) with rfl | e <;> first | exact ⟨wr_eq.trans (congrArg bi hfit), (wr_ne (by omega)).trans wr_eq⟩ | exact ⟨(wr_ne (by omega)).trans ((wr_ne (by omega)).trans (q7 k2 e).1), (wr_ne (by omega)).trans ((wr_ne (by omega)).trans (q7 k2 e).2)⟩) (hF.tr ((FPn.wr (by omega)).tr (FPn.wr (by omega))))
                  exact L163 0 (Nat.zero_le _) _ ((wr_ne (by omega)).trans q1) ((wr_ne (by omega)).trans q2) (fun i hi => (wr_ne (by omega)).trans (q3 i hi)) (fun i hi => (wr_ne (by omega)).trans (q4 i hi)) (fun i hi => by rcases (show i = j ∨ i < j by omega) with rfl | e <;> first | exact wr_eq.trans hw19 | exact (wr_ne (by omega)).trans (q5 i e)) (fun k2 i hk2 hi => ⟨(wr_ne (by omega)).trans (q6 k2 i hk2 hi).1, (wr_ne (by omega)).trans (q6 k2 i hk2 hi).2⟩) (fun k2 h => absurd h (Nat.not_lt_zero k2)) (hF.tr (FPn.wr (by omega)))
                · refine g_iload 149 8 dX7_laysRows_147 rfl rfl ?_
                  refine g_goto 159 dX7_laysRows_149 rfl ?_
                  refine g_iast 160 dX7_laysRows_159 rfl rfl (by decide) rfl (by decide) (by omega) ?_
                  refine g_iconst 161 (nI 0) dX7_laysRows_160 rfl rfl ?_
                  refine g_istore 163 [(10, .int (nI 0)), (9, .int (nI y)), (8, .int (nI j)), (0, .ref (g 18 0)), (1, .int (nI gd)), (2, .int ot), (3, .int (nI lf)), (4, .int (bi mo)), (5, .int (nI c)), (6, .int (nI sm)), (7, .int (nI dy))] dX7_laysRows_161 rfl (by decide) rfl ?_
                  have hw19 : nI sm = nI (b 16 (Tu b gd j)) := by rcases hwho with z | z <;> first | omega | (rw [← et, z.2.1, (hE.2.2.2.2.2.1 z.2.2).2.2.1])
                  have L163 : ∀ k, k ≤ AgN b gd → ∀ (N : Mm), N.1 18 0 24 = nI (TuN b gd) → N.1 18 0 25 = nI (AgN b gd) → (∀ i, i < TuN b gd → N.1 18 17 i = nI (nm a (Tu b gd i))) → (∀ i, i < AgN b gd → N.1 18 18 i = nI (Ag b gd i)) → (∀ i, i < j + 1 → N.1 18 19 i = nI (b 16 (Tu b gd i))) → (∀ k i, k < AgN b gd → i < j → N.1 18 24 (8 * k + i) = bi (ftp b gd k i) ∧ N.1 18 20 (8 * k + i) = nI 0) → (∀ k2, k2 < k → N.1 18 24 (8 * k2 + j) = bi (ftp b gd k2 j) ∧ N.1 18 20 (8 * k2 + j) = nI 0) → FPn M N → G l D g ca md_X7_laysRows 163 [(10, .int (nI k)), (9, .int (nI y)), (8, .int (nI j)), (0, .ref (g 18 0)), (1, .int (nI gd)), (2, .int ot), (3, .int (nI lf)), (4, .int (bi mo)), (5, .int (nI c)), (6, .int (nI sm)), (7, .int (nI dy))] [] N (Rv (fun M1 => LR M1 a b gd ∧ FPn M M1)) := by
                    refine upto ?_
                    intro k hk ih163 N q1 q2 q3 q4 q5 q6 q7 hF
                    have hN_N := hF.rm hN
                    have hak := fun (h : k < AgN b gd) => (Ag_in h).1
                    refine g_iload 165 0 dX7_laysRows_163 rfl rfl ?_
                    refine g_aload_n 166 3 dX7_laysRows_165 rfl rfl ?_
                    refine g_get 169 (nI (AgN b gd)) dX7_laysRows_166 rfl fX7_224 rfl (by decide) rfl q2 ?_
                    refine g_icmpN_ge 286 172 dX7_laysRows_169 rfl rfl (by omega) (by omega) (fun c169 => ?_) (fun c169 => ?_)
                    · refine g_iinc 289 (nI (j + 1)) [(8, .int (nI (j + 1))), (10, .int (nI k)), (9, .int (nI y)), (0, .ref (g 18 0)), (1, .int (nI gd)), (2, .int ot), (3, .int (nI lf)), (4, .int (bi mo)), (5, .int (nI c)), (6, .int (nI sm)), (7, .int (nI dy))] dX7_laysRows_286 rfl 2 rfl (nI_add j 1) (by decide) rfl ?_
                      refine g_goto 116 dX7_laysRows_289 rfl ?_
                      refine g_lv [0, 3, 4, 5, 6, 7, 8, 9, 10] rfl ?_
                      exact ih116 (by omega) _ q1 q2 q3 q4 q5 (fun k2 i hk2 hi => by rcases (show i = j ∨ i < j by omega) with rfl | e <;> first | exact q7 k2 (by omega) | exact q6 k2 i hk2 e) hF
                    · refine g_aload_n 173 3 dX7_laysRows_172 rfl rfl ?_
                      refine g_geta 176 20 dX7_laysRows_173 rfl fX7_82 rfl (by decide) rfl rfl ?_
                      refine g_bipush 178 (nI 8) dX7_laysRows_176 rfl rfl ?_
                      refine g_iload 180 0 dX7_laysRows_178 rfl rfl ?_
                      refine g_imul 181 (nI (8 * k)) dX7_laysRows_180 rfl (pk_mul 8 k) ?_
                      refine g_iload 183 2 dX7_laysRows_181 rfl rfl ?_
                      refine g_iadd 184 (nI ((8 * k) + j)) dX7_laysRows_183 rfl (nI_add (8 * k) j) ?_
                      refine g_iconst 185 (nI 0) dX7_laysRows_184 rfl rfl ?_
                      refine g_iast 186 dX7_laysRows_185 rfl rfl (by decide) rfl (by decide) (by omega) ?_
                      refine g_aload_n 187 3 dX7_laysRows_186 rfl rfl ?_
                      refine g_geta 190 24 dX7_laysRows_187 rfl fX7_94 rfl (by decide) rfl rfl ?_
                      refine g_bipush 192 (nI 8) dX7_laysRows_190 rfl rfl ?_
                      refine g_iload 194 0 dX7_laysRows_192 rfl rfl ?_
                      refine g_imul 195 (nI (8 * k)) dX7_laysRows_194 rfl (pk_mul 8 k) ?_
                      refine g_iload 197 2 dX7_laysRows_195 rfl rfl ?_
                      refine g_iadd 198 (nI ((8 * k) + j)) dX7_laysRows_197 rfl (nI_add (8 * k) j) ?_
                      refine g_iload 200 1 dX7_laysRows_198 rfl rfl ?_
                      refine g_bipush 202 (nI 40) dX7_laysRows_200 rfl rfl ?_
                      refine g_icmpN_ne 230 205 dX7_laysRows_202 rfl rfl (by omega) (by omega) (fun c202 => ?_) (fun c202 => ?_)
                      · refine g_iload 232 1 dX7_laysRows_230 rfl rfl ?_
                        refine g_iload_n 233 5 dX7_laysRows_232 rfl rfl ?_
                        refine g_icmp_ne 266 236 dX7_laysRows_233 rfl rfl (fun c233 => ?_) (fun c233 => ?_)
                        · refine g_aload_n 267 3 dX7_laysRows_266 rfl rfl ?_
                          refine g_aload_n 268 3 dX7_laysRows_267 rfl rfl ?_
                          refine g_geta 271 18 dX7_laysRows_268 rfl fX7_76 rfl (by decide) rfl rfl ?_
                          refine g_iload 273 0 dX7_laysRows_271 rfl rfl ?_
                          refine g_iald 274 (nI (Ag b gd k)) dX7_laysRows_273 rfl rfl (by decide) rfl (by decide) (by omega) ((wr_ne (by omega)).trans (q4 _ (by omega))) ?_
                          refine g_iload 276 1 dX7_laysRows_274 rfl rfl ?_
                          have hak2 := hak (by omega)
                          rw [hE.1] at hak2
                          refine g_callVi 279 md_X7_isFit [.int (nI (Ag b gd k)), .int (nI y)] [.int (nI ((8 * k) + j)), .ref (g 18 24)] dX7_laysRows_276 rfl e_X7_laysRows_217 rfl (by decide) rfl rfl (Nat.le_of_ble_eq_true rfl) (c_X7_isFit (RM_w (by decide) hN_N) hI (Ag b gd k) y hak2 (by omega)) (fun r276 M276 h276 => ?_)
                          obtain ⟨rfl, h276⟩ := h276
                          have h276 := h276.symm
                          subst h276
                          have hfit : fit a (Ag b gd k) y = ftp b gd k j := by rcases hwho with z | z <;> first | omega | (rw [hE.fitN (by omega) (by rw [z.1]; exact z.2.2.1) (by rw [z.1]; exact z.2.2.2) c233]; unfold ftp; rw [← et, z.1])
                          refine g_zast 280 dX7_laysRows_279 rfl rfl (by decide) rfl (by decide) (by omega) (bi_01 _) ?_
                          refine g_iinc 283 (nI (k + 1)) [(10, .int (nI (k + 1))), (9, .int (nI y)), (8, .int (nI j)), (0, .ref (g 18 0)), (1, .int (nI gd)), (2, .int ot), (3, .int (nI lf)), (4, .int (bi mo)), (5, .int (nI c)), (6, .int (nI sm)), (7, .int (nI dy))] dX7_laysRows_280 rfl 0 rfl (nI_add k 1) (by decide) rfl ?_
                          refine g_goto 163 dX7_laysRows_283 rfl ?_
                          exact ih163 (by omega) _ ((wr_ne (by omega)).trans ((wr_ne (by omega)).trans q1)) ((wr_ne (by omega)).trans ((wr_ne (by omega)).trans q2)) (fun i hi => (wr_ne (by omega)).trans ((wr_ne (by omega)).trans (q3 i hi))) (fun i hi => (wr_ne (by omega)).trans ((wr_ne (by omega)).trans (q4 i hi))) (fun i hi => (wr_ne (by omega)).trans ((wr_ne (by omega)).trans (q5 i hi))) (fun k2 i hk2 hi => ⟨(wr_ne (by omega)).trans ((wr_ne (by omega)).trans (q6 k2 i hk2 hi).1), (wr_ne (by omega)).trans ((wr_ne (by omega)).trans (q6 k2 i hk2 hi).2)⟩) (fun k2 hk2 => by rcases (show k2 = k ∨ k2 < k by omega) with rfl | e <;> first | exact ⟨wr_eq.trans (congrArg bi hfit), (wr_ne (by omega)).trans wr_eq⟩ | exact ⟨(wr_ne (by omega)).trans ((wr_ne (by omega)).trans (q7 k2 e).1), (wr_ne (by omega)).trans ((wr_ne (by omega)).trans (q7 k2 e).2)⟩) (hF.tr ((FPn.wr (by omega)).tr (FPn.wr (by omega))))
                        · refine g_aload_n 237 3 dX7_laysRows_236 rfl rfl ?_
                          refine g_aload_n 238 3 dX7_laysRows_237 rfl rfl ?_
                          refine g_geta 241 18 dX7_laysRows_238 rfl fX7_76 rfl (by decide) rfl rfl ?_
                          refine g_iload 243 0 dX7_laysRows_241 rfl rfl ?_
                          refine g_iald 244 (nI (Ag b gd k)) dX7_laysRows_243 rfl rfl (by decide) rfl (by decide) (by omega) ((wr_ne (by omega)).trans (q4 _ (by omega))) ?_
                          refine g_aload_n 245 3 dX7_laysRows_244 rfl rfl ?_
                          refine g_iload 247 1 dX7_laysRows_245 rfl rfl ?_
                          refine g_iconst 248 (nI 0) dX7_laysRows_247 rfl rfl ?_
                          refine g_callVi 251 md_X7_ordered [.int (nI y), .int (nI 0)] [.int (nI (Ag b gd k)), .ref (g 18 0), .int (nI ((8 * k) + j)), .ref (g 18 24)] dX7_laysRows_248 rfl e_X7_laysRows_169 rfl (by decide) rfl rfl (Nat.le_of_ble_eq_true rfl) (c_X7_ordered (RM_w (by decide) hN_N) hI y 0 14 (by omega) (by decide) rfl) (fun r248 M248 h248 => ?_)
                          obtain ⟨rfl, h248⟩ := h248
                          have h248 := h248.symm
                          subst h248
                          refine g_iload_n 252 4 dX7_laysRows_251 rfl rfl ?_
                          refine g_aload_n 253 3 dX7_laysRows_252 rfl rfl ?_
                          refine g_iload 255 1 dX7_laysRows_253 rfl rfl ?_
                          refine g_iconst 256 (nI 3) dX7_laysRows_255 rfl rfl ?_
                          refine g_callVi 259 md_X7_ordered [.int (nI y), .int (nI 3)] [.int (nI gd), .int (nI (a 14 y)), .int (nI (Ag b gd k)), .ref (g 18 0), .int (nI ((8 * k) + j)), .ref (g 18 24)] dX7_laysRows_256 rfl e_X7_laysRows_169 rfl (by decide) rfl rfl (Nat.le_of_ble_eq_true rfl) (c_X7_ordered (RM_w (by decide) hN_N) hI y 3 17 (by omega) (by decide) rfl) (fun r256 M256 h256 => ?_)
                          obtain ⟨rfl, h256⟩ := h256
                          have h256 := h256.symm
                          subst h256
                          refine g_iload_n 260 6 dX7_laysRows_259 rfl rfl ?_
                          have hak2 := hak (by omega)
                          rw [hE.1] at hak2
                          refine g_callVi 263 md_X7_isFor [.int (nI (Ag b gd k)), .int (nI (a 14 y)), .int (nI gd), .int (nI (a 17 y)), .int (nI lf)] [.int (nI ((8 * k) + j)), .ref (g 18 24)] dX7_laysRows_260 rfl e_X7_laysRows_182 rfl (by decide) rfl rfl (Nat.le_of_ble_eq_true rfl) (c_X7_isFor (RM_w (by decide) hN_N) hI (Ag b gd k) (a 14 y) gd (a 17 y) lf hak2 (by have := (hI.ord (o := y) (by omega)).1; omega) (by omega) (by have := hI.ord (o := y) (by omega); omega) (by omega)) (fun r260 M260 h260 => ?_)
                          obtain ⟨rfl, h260⟩ := h260
                          have h260 := h260.symm
                          subst h260
                          have hfit : isfor a (Ag b gd k) (a 14 y) gd (a 17 y) lf = ftp b gd k j := by rcases hwho with z | z <;> first | omega | (rw [hE.fitO (by omega) (by rw [z.1]; exact z.2.2.1) (by rw [z.1]; exact z.2.2.2) c233]; unfold ftp; rw [← et, z.1])
                          refine g_goto 279 dX7_laysRows_263 rfl ?_
                          refine g_zast 280 dX7_laysRows_279 rfl rfl (by decide) rfl (by decide) (by omega) (bi_01 _) ?_
                          refine g_iinc 283 (nI (k + 1)) [(10, .int (nI (k + 1))), (9, .int (nI y)), (8, .int (nI j)), (0, .ref (g 18 0)), (1, .int (nI gd)), (2, .int ot), (3, .int (nI lf)), (4, .int (bi mo)), (5, .int (nI c)), (6, .int (nI sm)), (7, .int (nI dy))] dX7_laysRows_280 rfl 0 rfl (nI_add k 1) (by decide) rfl ?_
                          refine g_goto 163 dX7_laysRows_283 rfl ?_
                          exact ih163 (by omega) _ ((wr_ne (by omega)).trans ((wr_ne (by omega)).trans q1)) ((wr_ne (by omega)).trans ((wr_ne (by omega)).trans q2)) (fun i hi => (wr_ne (by omega)).trans ((wr_ne (by omega)).trans (q3 i hi))) (fun i hi => (wr_ne (by omega)).trans ((wr_ne (by omega)).trans (q4 i hi))) (fun i hi => (wr_ne (by omega)).trans ((wr_ne (by omega)).trans (q5 i hi))) (fun k2 i hk2 hi => ⟨(wr_ne (by omega)).trans ((wr_ne (by omega)).trans (q6 k2 i hk2 hi).1), (wr_ne (by omega)).trans ((wr_ne (by omega)).trans (q6 k2 i hk2 hi).2)⟩) (fun k2 hk2 => by rcases (show k2 = k ∨ k2 < k by omega) with rfl | e <;> first | exact ⟨wr_eq.trans (congrArg bi hfit), (wr_ne (by omega)).trans wr_eq⟩ | exact ⟨(wr_ne (by omega)).trans ((wr_ne (by omega)).trans (q7 k2 e).1), (wr_ne (by omega)).trans ((wr_ne (by omega)).trans (q7 k2 e).2)⟩) (hF.tr ((FPn.wr (by omega)).tr (FPn.wr (by omega))))
                      · refine g_aload_n 206 3 dX7_laysRows_205 rfl rfl ?_
                        refine g_aload_n 207 3 dX7_laysRows_206 rfl rfl ?_
                        refine g_geta 210 18 dX7_laysRows_207 rfl fX7_76 rfl (by decide) rfl rfl ?_
                        refine g_iload 212 0 dX7_laysRows_210 rfl rfl ?_
                        refine g_iald 213 (nI (Ag b gd k)) dX7_laysRows_212 rfl rfl (by decide) rfl (by decide) (by omega) ((wr_ne (by omega)).trans (q4 _ (by omega))) ?_
                        refine g_iload 215 8 dX7_laysRows_213 rfl rfl ?_
                        refine g_iload_n 216 4 dX7_laysRows_215 rfl rfl ?_
                        refine g_iload 218 10 dX7_laysRows_216 rfl rfl ?_
                        refine g_aload_n 219 3 dX7_laysRows_218 rfl rfl ?_
                        refine g_iload 221 8 dX7_laysRows_219 rfl rfl ?_
                        refine g_callVi 224 md_X7_lifeOf [.int (nI c)] [.int (nI dy), .int (nI gd), .int (nI c), .int (nI (Ag b gd k)), .ref (g 18 0), .int (nI ((8 * k) + j)), .ref (g 18 24)] dX7_laysRows_221 rfl e_X7_laysRows_179 rfl (by decide) rfl rfl (Nat.le_of_ble_eq_true rfl) (c_X7_lifeOf (RM_w (by decide) hN_N) hI c (hE.2.2.2.2.2.1 (by rcases hwho with z | z <;> first | omega | exact z.2.2)).2.2.2.2.2.2) (fun r221 M221 h221 => ?_)
                        obtain ⟨rfl, h221⟩ := h221
                        have h221 := h221.symm
                        subst h221
                        have hak2 := hak (by omega)
                        rw [hE.1] at hak2
                        have hcx := (hE.2.2.2.2.2.1 (by rcases hwho with z | z <;> first | omega | exact z.2.2)).2.2.2.2.2.2
                        refine g_callVi 227 md_X7_isFor [.int (nI (Ag b gd k)), .int (nI c), .int (nI gd), .int (nI dy), .int (nI (a 8 c))] [.int (nI ((8 * k) + j)), .ref (g 18 24)] dX7_laysRows_224 rfl e_X7_laysRows_182 rfl (by decide) rfl rfl (Nat.le_of_ble_eq_true rfl) (c_X7_isFor (RM_w (by decide) hN_N) hI (Ag b gd k) c gd dy (a 8 c) hak2 (by omega) (by omega) (by omega) (by have := hI.life hcx; omega)) (fun r224 M224 h224 => ?_)
                        obtain ⟨rfl, h224⟩ := h224
                        have h224 := h224.symm
                        subst h224
                        have hfit : isfor a (Ag b gd k) c gd dy (a 8 c) = ftp b gd k j := by rcases hwho with z | z <;> first | omega | (rw [hE.fitX z.2.2]; unfold ftp; rw [← et, z.2.1])
                        refine g_goto 279 dX7_laysRows_227 rfl ?_
                        refine g_zast 280 dX7_laysRows_279 rfl rfl (by decide) rfl (by decide) (by omega) (bi_01 _) ?_
                        refine g_iinc 283 (nI (k + 1)) [(10, .int (nI (k + 1))), (9, .int (nI y)), (8, .int (nI j)), (0, .ref (g 18 0)), (1, .int (nI gd)), (2, .int ot), (3, .int (nI lf)), (4, .int (bi mo)), (5, .int (nI c)), (6, .int (nI sm)), (7, .int (nI dy))] dX7_laysRows_280 rfl 0 rfl (nI_add k 1) (by decide) rfl ?_
                        refine g_goto 163 dX7_laysRows_283 rfl ?_
                        exact ih163 (by omega) _ ((wr_ne (by omega)).trans ((wr_ne (by omega)).trans q1)) ((wr_ne (by omega)).trans ((wr_ne (by omega)).trans q2)) (fun i hi => (wr_ne (by omega)).trans ((wr_ne (by omega)).trans (q3 i hi))) (fun i hi => (wr_ne (by omega)).trans ((wr_ne (by omega)).trans (q4 i hi))) (fun i hi => (wr_ne (by omega)).trans ((wr_ne (by omega)).trans (q5 i hi))) (fun k2 i hk2 hi => ⟨(wr_ne (by omega)).trans ((wr_ne (by omega)).trans (q6 k2 i hk2 hi).1), (wr_ne (by omega)).trans ((wr_ne (by omega)).trans (q6 k2 i hk2 hi).2)⟩) (fun k2 hk2 => by rcases (show k2 = k ∨ k2 < k by omega) with rfl | e <;> first | exact ⟨wr_eq.trans (congrArg bi hfit), (wr_ne (by omega)).trans wr_eq⟩ | exact ⟨(wr_ne (by omega)).trans ((wr_ne (by omega)).trans (q7 k2 e).1), (wr_ne (by omega)).trans ((wr_ne (by omega)).trans (q7 k2 e).2)⟩) (hF.tr ((FPn.wr (by omega)).tr (FPn.wr (by omega))))
                  exact L163 0 (Nat.zero_le _) _ ((wr_ne (by omega)).trans q1) ((wr_ne (by omega)).trans q2) (fun i hi => (wr_ne (by omega)).trans (q3 i hi)) (fun i hi => (wr_ne (by omega)).trans (q4 i hi)) (fun i hi => by rcases (show i = j ∨ i < j by omega) with rfl | e <;> first | exact wr_eq.trans hw19 | exact (wr_ne (by omega)).trans (q5 i e)) (fun k2 i hk2 hi => ⟨(wr_ne (by omega)).trans (q6 k2 i hk2 hi).1, (wr_ne (by omega)).trans (q6 k2 i hk2 hi).2⟩) (fun k2 h => absurd h (Nat.not_lt_zero k2)) (hF.tr (FPn.wr (by omega)))
            exact L116 0 (Nat.zero_le _) N4 r1 r2 r3 (fun i hi => (r4 i hi).1) (fun i hi => absurd hi (Nat.not_lt_zero i)) (fun k i _ hi => absurd hi (Nat.not_lt_zero i)) hF
          · refine g_aload_n 91 1 dX7_laysRows_90 rfl rfl ?_
            refine g_iload 93 0 dX7_laysRows_91 rfl rfl ?_
            refine g_iconst 94 (nI 0) dX7_laysRows_93 rfl rfl ?_
            refine g_callVi 97 md_X7_lies [.int (nI k), .int (nI 0)] [] dX7_laysRows_94 rfl e_X7_laysRows_176 rfl (by decide) rfl rfl (Nat.le_of_ble_eq_true rfl) (c_X7_lies hN_N hI k 0 10 (by omega) (by decide) rfl) (fun r94 M94 h94 => ?_)
            obtain ⟨rfl, h94⟩ := h94
            have h94 := h94.symm
            subst h94
            refine g_iload_n 98 2 dX7_laysRows_97 rfl rfl ?_
            refine g_icmpN_ne 107 101 dX7_laysRows_98 rfl rfl (by have := hI.lot (l := k) (by omega); omega) (by omega) (fun c98 => ?_) (fun c98 => ?_)
            · refine g_iinc 110 (nI (k + 1)) [(8, .int (nI (k + 1))), (0, .ref (g 18 0)), (1, .int (nI gd)), (2, .int ot), (3, .int (nI lf)), (4, .int (bi mo)), (5, .int (nI c)), (6, .int (nI sm)), (7, .int (nI dy))] dX7_laysRows_107 rfl 0 rfl (nI_add k 1) (by decide) rfl ?_
              refine g_goto 79 dX7_laysRows_110 rfl ?_
              exact ih79 (by omega) _ r1 (by rw [gat_f (decide_eq_false c98)]; exact r2) r3 (by rw [gat_f (decide_eq_false c98)]; exact r4) hF
            · refine g_aload_n 102 1 dX7_laysRows_101 rfl rfl ?_
              refine g_iload 104 0 dX7_laysRows_102 rfl rfl ?_
              have hg9 := gat_le (a 11) (lsel a gd) k
              refine g_callVv 107 md_X7_putsLot [.int (nI k)] [] dX7_laysRows_104 rfl e_X7_laysRows_231 rfl (by decide) rfl rfl (Nat.le_of_ble_eq_true rfl) (c_X7_putsLot hN_N hI (κ := a 11) r2 r4 (by omega) k (by omega) rfl) (fun N5 h104 => ?_)
              obtain ⟨u1, u2, hF3⟩ := h104
              refine g_iinc 110 (nI (k + 1)) [(8, .int (nI (k + 1))), (0, .ref (g 18 0)), (1, .int (nI gd)), (2, .int ot), (3, .int (nI lf)), (4, .int (bi mo)), (5, .int (nI c)), (6, .int (nI sm)), (7, .int (nI dy))] dX7_laysRows_107 rfl 0 rfl (nI_add k 1) (by decide) rfl ?_
              refine g_goto 79 dX7_laysRows_110 rfl ?_
              exact ih79 (by omega) _ ((hF3.1 _ _ _ (by omega)).trans r1) (by rw [gat_t (decide_eq_true c98)]; exact u1) (fun i hi => (hF3.1 _ _ _ (by omega)).trans (r3 i hi)) (by rw [gat_t (decide_eq_true c98)]; exact fun i hi => ⟨u2 i hi, by have h8 := ((gat_sp (a 11) (lsel a gd) (k + 1)).1 i (by rw [gat_t (decide_eq_true c98)]; exact hi)).1; rw [gat_t (decide_eq_true c98)] at h8; exact Nat.lt_of_lt_of_le h8 (by omega)⟩) (hF.tr hF3.fp)
        exact L79 0 (Nat.zero_le _) N3 w1 w2 w3 (fun i hi => absurd hi (Nat.not_lt_zero i)) wF
      · refine g_aload_n 69 1 dX7_laysRows_68 rfl rfl ?_
        refine g_bipush 71 (nI 40) dX7_laysRows_69 rfl rfl ?_
        refine g_iload 73 8 dX7_laysRows_71 rfl rfl ?_
        rw [hk4] at p1 p3
        have hg9 := gatO_le hI (gd := gd) (m := a 0 4) (Nat.le_refl _)
        refine g_callVv 76 md_X7_puts [.int (nI 40), .int (nI dy)] [] dX7_laysRows_73 rfl e_X7_laysRows_227 rfl (by decide) rfl rfl (Nat.le_of_ble_eq_true rfl) (c_X7_puts hN_N hI (κ := uf (a 17) 40 dy) p1 p3 (by omega) 40 dy (Or.inl rfl) (by omega) (fun y hy => uf_ne (by omega)) uf_eq) (fun N3 h73 => ?_)
        obtain ⟨u1, u2, hF3⟩ := h73
        obtain ⟨v1, v2⟩ := hE.yes c65
        have w1 : N3.1 18 0 24 = nI (TuN b gd) := by rw [v1]; exact u1
        have w3 : ∀ i, i < TuN b gd → N3.1 18 17 i = nI (nm a (Tu b gd i)) := fun i hi => by rw [v1] at hi; rw [u2 i hi, v2 _ (fun y hy => uf_ne (by omega)) uf_eq i hi]
        have w2 := (hF3.1 18 0 25 (by omega)).trans p2
        have wF := hF.tr hF3.fp
        refine g_iconst 77 (nI 0) dX7_laysRows_76 rfl rfl ?_
        refine g_istore 79 [(8, .int (nI 0)), (0, .ref (g 18 0)), (1, .int (nI gd)), (2, .int ot), (3, .int (nI lf)), (4, .int (bi mo)), (5, .int (nI c)), (6, .int (nI sm)), (7, .int (nI dy))] dX7_laysRows_77 rfl (by decide) rfl ?_
        have L79 : ∀ k, k ≤ a 0 3 → ∀ (N4 : Mm), N4.1 18 0 24 = nI (TuN b gd) → N4.1 18 0 25 = nI (gat (a 11) (lsel a gd) k).1 → (∀ i, i < TuN b gd → N4.1 18 17 i = nI (nm a (Tu b gd i))) → (∀ i, i < (gat (a 11) (lsel a gd) k).1 → N4.1 18 18 i = nI ((gat (a 11) (lsel a gd) k).2 i) ∧ (gat (a 11) (lsel a gd) k).2 i < a 0 3) → FPn M N4 → G l D g ca md_X7_laysRows 79 [(8, .int (nI k)), (0, .ref (g 18 0)), (1, .int (nI gd)), (2, .int ot), (3, .int (nI lf)), (4, .int (bi mo)), (5, .int (nI c)), (6, .int (nI sm)), (7, .int (nI dy))] [] N4 (Rv (fun M1 => LR M1 a b gd ∧ FPn M M1)) := by
          refine upto ?_
          intro k hk ih79 N4 r1 r2 r3 r4 hF
          have hN_N := hF.rm hN
          have hN_N4 := hN_N
          refine g_iload 81 0 dX7_laysRows_79 rfl rfl ?_
          refine g_aload_n 82 1 dX7_laysRows_81 rfl rfl ?_
          refine g_geta 85 12 dX7_laysRows_82 rfl fX7_64 rfl (by decide) rfl rfl ?_
          refine g_iconst 86 (nI 3) dX7_laysRows_85 rfl rfl ?_
          refine g_iald 87 (nI (a 0 3)) dX7_laysRows_86 rfl rfl (by decide) rfl (by decide) (by omega) (hN_N4.sc (by decide)) ?_
          refine g_icmpN_ge 113 90 dX7_laysRows_87 rfl rfl (by omega) (by omega) (fun c87 => ?_) (fun c87 => ?_)
          · rw [show k = a 0 3 by omega, hE.lots] at r2 r4
            refine g_iconst 114 (nI 0) dX7_laysRows_113 rfl rfl ?_
            refine g_istore 116 [(8, .int (nI 0)), (0, .ref (g 18 0)), (1, .int (nI gd)), (2, .int ot), (3, .int (nI lf)), (4, .int (bi mo)), (5, .int (nI c)), (6, .int (nI sm)), (7, .int (nI dy))] dX7_laysRows_114 rfl (by decide) rfl ?_
            have L116 : ∀ j, j ≤ TuN b gd → ∀ (N : Mm), N.1 18 0 24 = nI (TuN b gd) → N.1 18 0 25 = nI (AgN b gd) → (∀ i, i < TuN b gd → N.1 18 17 i = nI (nm a (Tu b gd i))) → (∀ i, i < AgN b gd → N.1 18 18 i = nI (Ag b gd i)) → (∀ i, i < j → N.1 18 19 i = nI (b 16 (Tu b gd i))) → (∀ k i, k < AgN b gd → i < j → N.1 18 24 (8 * k + i) = bi (ftp b gd k i) ∧ N.1 18 20 (8 * k + i) = nI 0) → FPn M N → G l D g ca md_X7_laysRows 116 [(8, .int (nI j)), (0, .ref (g 18 0)), (1, .int (nI gd)), (2, .int ot), (3, .int (nI lf)), (4, .int (bi mo)), (5, .int (nI c)), (6, .int (nI sm)), (7, .int (nI dy))] [] N (Rv (fun M1 => LR M1 a b gd ∧ FPn M M1)) := by
              refine upto ?_
              intro j hj ih116 N q1 q2 q3 q4 q5 q6 hF
              have hN_N := hF.rm hN
              have htn := TuN_le hE.2.2.2.2.2.2.2 (gd := gd)
              have hag := AgN_le (a := b) (gd := gd)
              have hb6 := hE.2.2.2.2.2.2.2.c6
              have hb24 := hE.2.2.2.2.2.2.2.l24
              refine g_iload 118 0 dX7_laysRows_116 rfl rfl ?_
              refine g_aload_n 119 1 dX7_laysRows_118 rfl rfl ?_
              refine g_get 122 (nI (TuN b gd)) dX7_laysRows_119 rfl fX7_221 rfl (by decide) rfl q1 ?_
              refine g_icmpN_ge 292 125 dX7_laysRows_122 rfl rfl (by omega) (by omega) (fun c122 => ?_) (fun c122 => ?_)
              · exact g_vret rfl dX7_laysRows_292 ⟨⟨q1, q2, q3, q4, fun i hi => q5 i (by omega), fun k i hk hi => (q6 k i hk (by omega)).1, fun k i hk hi => (q6 k i hk (by omega)).2⟩, hF⟩
              · refine g_aload_n 126 1 dX7_laysRows_125 rfl rfl ?_
                refine g_geta 129 17 dX7_laysRows_126 rfl fX7_73 rfl (by decide) rfl rfl ?_
                refine g_iload 131 0 dX7_laysRows_129 rfl rfl ?_
                refine g_iald 132 (nI (nm a (Tu b gd j))) dX7_laysRows_131 rfl rfl (by decide) rfl (by decide) (by omega) (q3 _ (by omega)) ?_
                refine g_istore 134 [(9, .int (nI (nm a (Tu b gd j)))), (8, .int (nI j)), (0, .ref (g 18 0)), (1, .int (nI gd)), (2, .int ot), (3, .int (nI lf)), (4, .int (bi mo)), (5, .int (nI c)), (6, .int (nI sm)), (7, .int (nI dy))] dX7_laysRows_132 rfl (by decide) rfl ?_
                have hwho := hE.who (i := j) (by omega)
                obtain ⟨y, ey⟩ : ∃ y, y = nm a (Tu b gd j) := ⟨_, rfl⟩
                rw [← ey] at hwho ⊢
                obtain ⟨t, et⟩ : ∃ t, t = Tu b gd j := ⟨_, rfl⟩
                rw [← et] at hwho
                have hy41 : y < 41 := by omega
                refine g_aload_n 135 2 dX7_laysRows_134 rfl rfl ?_
                refine g_geta 138 19 dX7_laysRows_135 rfl fX7_79 rfl (by decide) rfl rfl ?_
                refine g_iload 140 1 dX7_laysRows_138 rfl rfl ?_
                refine g_iload 142 0 dX7_laysRows_140 rfl rfl ?_
                refine g_bipush 144 (nI 40) dX7_laysRows_142 rfl rfl ?_
                refine g_icmpN_ne 152 147 dX7_laysRows_144 rfl rfl (by omega) (by omega) (fun c144 => ?_) (fun c144 => ?_)
                · refine g_aload_n 153 2 dX7_laysRows_152 rfl rfl ?_
                  refine g_iload 155 0 dX7_laysRows_153 rfl rfl ?_
                  refine g_iconst 156 (nI 2) dX7_laysRows_155 rfl rfl ?_
                  refine g_callVi 159 md_X7_ordered [.int (nI y), .int (nI 2)] [.int (nI j), .ref (g 18 19)] dX7_laysRows_156 rfl e_X7_laysRows_169 rfl (by decide) rfl rfl (Nat.le_of_ble_eq_true rfl) (c_X7_ordered hN_N hI y 2 16 (by omega) (by decide) rfl) (fun r156 M156 h156 => ?_)
                  obtain ⟨rfl, h156⟩ := h156
                  have h156 := h156.symm
                  subst h156
                  refine g_iast 160 dX7_laysRows_159 rfl rfl (by decide) rfl (by decide) (by omega) ?_
                  refine g_iconst 161 (nI 0) dX7_laysRows_160 rfl rfl ?_
                  refine g_istore 163 [(10, .int (nI 0)), (9, .int (nI y)), (8, .int (nI j)), (0, .ref (g 18 0)), (1, .int (nI gd)), (2, .int ot), (3, .int (nI lf)), (4, .int (bi mo)), (5, .int (nI c)), (6, .int (nI sm)), (7, .int (nI dy))] dX7_laysRows_161 rfl (by decide) rfl ?_
                  have hw19 : nI (a 16 y) = nI (b 16 (Tu b gd j)) := by rcases hwho with z | z <;> first | omega | (rw [← et, z.1, hE.2.2.2.2.1 t 16 z.2.1 (by omega) (by omega)])
                  have L163 : ∀ k, k ≤ AgN b gd → ∀ (N : Mm), N.1 18 0 24 = nI (TuN b gd) → N.1 18 0 25 = nI (AgN b gd) → (∀ i, i < TuN b gd → N.1 18 17 i = nI (nm a (Tu b gd i))) → (∀ i, i < AgN b gd → N.1 18 18 i = nI (Ag b gd i)) → (∀ i, i < j + 1 → N.1 18 19 i = nI (b 16 (Tu b gd i))) → (∀ k i, k < AgN b gd → i < j → N.1 18 24 (8 * k + i) = bi (ftp b gd k i) ∧ N.1 18 20 (8 * k + i) = nI 0) → (∀ k2, k2 < k → N.1 18 24 (8 * k2 + j) = bi (ftp b gd k2 j) ∧ N.1 18 20 (8 * k2 + j) = nI 0) → FPn M N → G l D g ca md_X7_laysRows 163 [(10, .int (nI k)), (9, .int (nI y)), (8, .int (nI j)), (0, .ref (g 18 0)), (1, .int (nI gd)), (2, .int ot), (3, .int (nI lf)), (4, .int (bi mo)), (5, .int (nI c)), (6, .int (nI sm)), (7, .int (nI dy))] [] N (Rv (fun M1 => LR M1 a b gd ∧ FPn M M1)) := by
                    refine upto ?_
                    intro k hk ih163 N q1 q2 q3 q4 q5 q6 q7 hF
                    have hN_N := hF.rm hN
                    have hak := fun (h : k < AgN b gd) => (Ag_in h).1
                    refine g_iload 165 0 dX7_laysRows_163 rfl rfl ?_
                    refine g_aload_n 166 3 dX7_laysRows_165 rfl rfl ?_
                    refine g_get 169 (nI (AgN b gd)) dX7_laysRows_166 rfl fX7_224 rfl (by decide) rfl q2 ?_
                    refine g_icmpN_ge 286 172 dX7_laysRows_169 rfl rfl (by omega) (by omega) (fun c169 => ?_) (fun c169 => ?_)
                    · refine g_iinc 289 (nI (j + 1)) [(8, .int (nI (j + 1))), (10, .int (nI k)), (9, .int (nI y)), (0, .ref (g 18 0)), (1, .int (nI gd)), (2, .int ot), (3, .int (nI lf)), (4, .int (bi mo)), (5, .int (nI c)), (6, .int (nI sm)), (7, .int (nI dy))] dX7_laysRows_286 rfl 2 rfl (nI_add j 1) (by decide) rfl ?_
                      refine g_goto 116 dX7_laysRows_289 rfl ?_
                      refine g_lv [0, 3, 4, 5, 6, 7, 8, 9, 10] rfl ?_
                      exact ih116 (by omega) _ q1 q2 q3 q4 q5 (fun k2 i hk2 hi => by rcases (show i = j ∨ i < j by omega) with rfl | e <;> first | exact q7 k2 (by omega) | exact q6 k2 i hk2 e) hF
                    · refine g_aload_n 173 3 dX7_laysRows_172 rfl rfl ?_
                      refine g_geta 176 20 dX7_laysRows_173 rfl fX7_82 rfl (by decide) rfl rfl ?_
                      refine g_bipush 178 (nI 8) dX7_laysRows_176 rfl rfl ?_
                      refine g_iload 180 0 dX7_laysRows_178 rfl rfl ?_
                      refine g_imul 181 (nI (8 * k)) dX7_laysRows_180 rfl (pk_mul 8 k) ?_
                      refine g_iload 183 2 dX7_laysRows_181 rfl rfl ?_
                      refine g_iadd 184 (nI ((8 * k) + j)) dX7_laysRows_183 rfl (nI_add (8 * k) j) ?_
                      refine g_iconst 185 (nI 0) dX7_laysRows_184 rfl rfl ?_
                      refine g_iast 186 dX7_laysRows_185 rfl rfl (by decide) rfl (by decide) (by omega) ?_
                      refine g_aload_n 187 3 dX7_laysRows_186 rfl rfl ?_
                      refine g_geta 190 24 dX7_laysRows_187 rfl fX7_94 rfl (by decide) rfl rfl ?_
                      refine g_bipush 192 (nI 8) dX7_laysRows_190 rfl rfl ?_
                      refine g_iload 194 0 dX7_laysRows_192 rfl rfl ?_
                      refine g_imul 195 (nI (8 * k)) dX7_laysRows_194 rfl (pk_mul 8 k) ?_
                      refine g_iload 197 2 dX7_laysRows_195 rfl rfl ?_
                      refine g_iadd 198 (nI ((8 * k) + j)) dX7_laysRows_197 rfl (nI_add (8 * k) j) ?_
                      refine g_iload 200 1 dX7_laysRows_198 rfl rfl ?_
                      refine g_bipush 202 (nI 40) dX7_laysRows_200 rfl rfl ?_
                      refine g_icmpN_ne 230 205 dX7_laysRows_202 rfl rfl (by omega) (by omega) (fun c202 => ?_) (fun c202 => ?_)
                      · refine g_iload 232 1 dX7_laysRows_230 rfl rfl ?_
                        refine g_iload_n 233 5 dX7_laysRows_232 rfl rfl ?_
                        refine g_icmp_ne 266 236 dX7_laysRows_233 rfl rfl (fun c233 => ?_) (fun c233 => ?_)
                        · refine g_aload_n 267 3 dX7_laysRows_266 rfl rfl ?_
                          refine g_aload_n 268 3 dX7_laysRows_267 rfl rfl ?_
                          refine g_geta 271 18 dX7_laysRows_268 rfl fX7_76 rfl (by decide) rfl rfl ?_
                          refine g_iload 273 0 dX7_laysRows_271 rfl rfl ?_
                          refine g_iald 274 (nI (Ag b gd k)) dX7_laysRows_273 rfl rfl (by decide) rfl (by decide) (by omega) ((wr_ne (by omega)).trans (q4 _ (by omega))) ?_
                          refine g_iload 276 1 dX7_laysRows_274 rfl rfl ?_
                          have hak2 := hak (by omega)
                          rw [hE.1] at hak2
                          refine g_callVi 279 md_X7_isFit [.int (nI (Ag b gd k)), .int (nI y)] [.int (nI ((8 * k) + j)), .ref (g 18 24)] dX7_laysRows_276 rfl e_X7_laysRows_217 rfl (by decide) rfl rfl (Nat.le_of_ble_eq_true rfl) (c_X7_isFit (RM_w (by decide) hN_N) hI (Ag b gd k) y hak2 (by omega)) (fun r276 M276 h276 => ?_)
                          obtain ⟨rfl, h276⟩ := h276
                          have h276 := h276.symm
                          subst h276
                          have hfit : fit a (Ag b gd k) y = ftp b gd k j := by rcases hwho with z | z <;> first | omega | (rw [hE.fitN (by omega) (by rw [z.1]; exact z.2.2.1) (by rw [z.1]; exact z.2.2.2) c233]; unfold ftp; rw [← et, z.1])
                          refine g_zast 280 dX7_laysRows_279 rfl rfl (by decide) rfl (by decide) (by omega) (bi_01 _) ?_
                          refine g_iinc 283 (nI (k + 1)) [(10, .int (nI (k + 1))), (9, .int (nI y)), (8, .int (nI j)), (0, .ref (g 18 0)), (1, .int (nI gd)), (2, .int ot), (3, .int (nI lf)), (4, .int (bi mo)), (5, .int (nI c)), (6, .int (nI sm)), (7, .int (nI dy))] dX7_laysRows_280 rfl 0 rfl (nI_add k 1) (by decide) rfl ?_
                          refine g_goto 163 dX7_laysRows_283 rfl ?_
                          exact ih163 (by omega) _ ((wr_ne (by omega)).trans ((wr_ne (by omega)).trans q1)) ((wr_ne (by omega)).trans ((wr_ne (by omega)).trans q2)) (fun i hi => (wr_ne (by omega)).trans ((wr_ne (by omega)).trans (q3 i hi))) (fun i hi => (wr_ne (by omega)).trans ((wr_ne (by omega)).trans (q4 i hi))) (fun i hi => (wr_ne (by omega)).trans ((wr_ne (by omega)).trans (q5 i hi))) (fun k2 i hk2 hi => ⟨(wr_ne (by omega)).trans ((wr_ne (by omega)).trans (q6 k2 i hk2 hi).1), (wr_ne (by omega)).trans ((wr_ne (by omega)).trans (q6 k2 i hk2 hi).2)⟩) (fun k2 hk2 => by rcases (show k2 = k ∨ k2 < k by omega) with rfl | e <;> first | exact ⟨wr_eq.trans (congrArg bi hfit), (wr_ne (by omega)).trans wr_eq⟩ | exact ⟨(wr_ne (by omega)).trans ((wr_ne (by omega)).trans (q7 k2 e).1), (wr_ne (by omega)).trans ((wr_ne (by omega)).trans (q7 k2 e).2)⟩) (hF.tr ((FPn.wr (by omega)).tr (FPn.wr (by omega))))
                        · refine g_aload_n 237 3 dX7_laysRows_236 rfl rfl ?_
                          refine g_aload_n 238 3 dX7_laysRows_237 rfl rfl ?_
                          refine g_geta 241 18 dX7_laysRows_238 rfl fX7_76 rfl (by decide) rfl rfl ?_
                          refine g_iload 243 0 dX7_laysRows_241 rfl rfl ?_
                          refine g_iald 244 (nI (Ag b gd k)) dX7_laysRows_243 rfl rfl (by decide) rfl (by decide) (by omega) ((wr_ne (by omega)).trans (q4 _ (by omega))) ?_
                          refine g_aload_n 245 3 dX7_laysRows_244 rfl rfl ?_
                          refine g_iload 247 1 dX7_laysRows_245 rfl rfl ?_
                          refine g_iconst 248 (nI 0) dX7_laysRows_247 rfl rfl ?_
                          refine g_callVi 251 md_X7_ordered [.int (nI y), .int (nI 0)] [.int (nI (Ag b gd k)), .ref (g 18 0), .int (nI ((8 * k) + j)), .ref (g 18 24)] dX7_laysRows_248 rfl e_X7_laysRows_169 rfl (by decide) rfl rfl (Nat.le_of_ble_eq_true rfl) (c_X7_ordered (RM_w (by decide) hN_N) hI y 0 14 (by omega) (by decide) rfl) (fun r248 M248 h248 => ?_)
                          obtain ⟨rfl, h248⟩ := h248
                          have h248 := h248.symm
                          subst h248
                          refine g_iload_n 252 4 dX7_laysRows_251 rfl rfl ?_
                          refine g_aload_n 253 3 dX7_laysRows_252 rfl rfl ?_
                          refine g_iload 255 1 dX7_laysRows_253 rfl rfl ?_
                          refine g_iconst 256 (nI 3) dX7_laysRows_255 rfl rfl ?_
                          refine g_callVi 259 md_X7_ordered [.int (nI y), .int (nI 3)] [.int (nI gd), .int (nI (a 14 y)), .int (nI (Ag b gd k)), .ref (g 18 0), .int (nI ((8 * k) + j)), .ref (g 18 24)] dX7_laysRows_256 rfl e_X7_laysRows_169 rfl (by decide) rfl rfl (Nat.le_of_ble_eq_true rfl) (c_X7_ordered (RM_w (by decide) hN_N) hI y 3 17 (by omega) (by decide) rfl) (fun r256 M256 h256 => ?_)
                          obtain ⟨rfl, h256⟩ := h256
                          have h256 := h256.symm
                          subst h256
                          refine g_iload_n 260 6 dX7_laysRows_259 rfl rfl ?_
                          have hak2 := hak (by omega)
                          rw [hE.1] at hak2
                          refine g_callVi 263 md_X7_isFor [.int (nI (Ag b gd k)), .int (nI (a 14 y)), .int (nI gd), .int (nI (a 17 y)), .int (nI lf)] [.int (nI ((8 * k) + j)), .ref (g 18 24)] dX7_laysRows_260 rfl e_X7_laysRows_182 rfl (by decide) rfl rfl (Nat.le_of_ble_eq_true rfl) (c_X7_isFor (RM_w (by decide) hN_N) hI (Ag b gd k) (a 14 y) gd (a 17 y) lf hak2 (by have := (hI.ord (o := y) (by omega)).1; omega) (by omega) (by have := hI.ord (o := y) (by omega); omega) (by omega)) (fun r260 M260 h260 => ?_)
                          obtain ⟨rfl, h260⟩ := h260
                          have h260 := h260.symm
                          subst h260
                          have hfit : isfor a (Ag b gd k) (a 14 y) gd (a 17 y) lf = ftp b gd k j := by rcases hwho with z | z <;> first | omega | (rw [hE.fitO (by omega) (by rw [z.1]; exact z.2.2.1) (by rw [z.1]; exact z.2.2.2) c233]; unfold ftp; rw [← et, z.1])
                          refine g_goto 279 dX7_laysRows_263 rfl ?_
                          refine g_zast 280 dX7_laysRows_279 rfl rfl (by decide) rfl (by decide) (by omega) (bi_01 _) ?_
                          refine g_iinc 283 (nI (k + 1)) [(10, .int (nI (k + 1))), (9, .int (nI y)), (8, .int (nI j)), (0, .ref (g 18 0)), (1, .int (nI gd)), (2, .int ot), (3, .int (nI lf)), (4, .int (bi mo)), (5, .int (nI c)), (6, .int (nI sm)), (7, .int (nI dy))] dX7_laysRows_280 rfl 0 rfl (nI_add k 1) (by decide) rfl ?_
                          refine g_goto 163 dX7_laysRows_283 rfl ?_
                          exact ih163 (by omega) _ ((wr_ne (by omega)).trans ((wr_ne (by omega)).trans q1)) ((wr_ne (by omega)).trans ((wr_ne (by omega)).trans q2)) (fun i hi => (wr_ne (by omega)).trans ((wr_ne (by omega)).trans (q3 i hi))) (fun i hi => (wr_ne (by omega)).trans ((wr_ne (by omega)).trans (q4 i hi))) (fun i hi => (wr_ne (by omega)).trans ((wr_ne (by omega)).trans (q5 i hi))) (fun k2 i hk2 hi => ⟨(wr_ne (by omega)).trans ((wr_ne (by omega)).trans (q6 k2 i hk2 hi).1), (wr_ne (by omega)).trans ((wr_ne (by omega)).trans (q6 k2 i hk2 hi).2)⟩) (fun k2 hk2 => by rcases (show k2 = k ∨ k2 < k by omega) with rfl | e <;> first | exact ⟨wr_eq.trans (congrArg bi hfit), (wr_ne (by omega)).trans wr_eq⟩ | exact ⟨(wr_ne (by omega)).trans ((wr_ne (by omega)).trans (q7 k2 e).1), (wr_ne (by omega)).trans ((wr_ne (by omega)).trans (q7 k2 e).2)⟩) (hF.tr ((FPn.wr (by omega)).tr (FPn.wr (by omega))))
                      · refine g_aload_n 206 3 dX7_laysRows_205 rfl rfl ?_
                        refine g_aload_n 207 3 dX7_laysRows_206 rfl rfl ?_
                        refine g_geta 210 18 dX7_laysRows_207 rfl fX7_76 rfl (by decide) rfl rfl ?_
                        refine g_iload 212 0 dX7_laysRows_210 rfl rfl ?_
                        refine g_iald 213 (nI (Ag b gd k)) dX7_laysRows_212 rfl rfl (by decide) rfl (by decide) (by omega) ((wr_ne (by omega)).trans (q4 _ (by omega))) ?_
                        refine g_iload 215 8 dX7_laysRows_213 rfl rfl ?_
                        refine g_iload_n 216 4 dX7_laysRows_215 rfl rfl ?_
                        refine g_iload 218 10 dX7_laysRows_216 rfl rfl ?_
                        refine g_aload_n 219 3 dX7_laysRows_218 rfl rfl ?_
                        refine g_iload 221 8 dX7_laysRows_219 rfl rfl ?_
                        refine g_callVi 224 md_X7_lifeOf [.int (nI c)] [.int (nI dy), .int (nI gd), .int (nI c), .int (nI (Ag b gd k)), .ref (g 18 0), .int (nI ((8 * k) + j)), .ref (g 18 24)] dX7_laysRows_221 rfl e_X7_laysRows_179 rfl (by decide) rfl rfl (Nat.le_of_ble_eq_true rfl) (c_X7_lifeOf (RM_w (by decide) hN_N) hI c (hE.2.2.2.2.2.1 (by rcases hwho with z | z <;> first | omega | exact z.2.2)).2.2.2.2.2.2) (fun r221 M221 h221 => ?_)
                        obtain ⟨rfl, h221⟩ := h221
                        have h221 := h221.symm
                        subst h221
                        have hak2 := hak (by omega)
                        rw [hE.1] at hak2
                        have hcx := (hE.2.2.2.2.2.1 (by rcases hwho with z | z <;> first | omega | exact z.2.2)).2.2.2.2.2.2
                        refine g_callVi 227 md_X7_isFor [.int (nI (Ag b gd k)), .int (nI c), .int (nI gd), .int (nI dy), .int (nI (a 8 c))] [.int (nI ((8 * k) + j)), .ref (g 18 24)] dX7_laysRows_224 rfl e_X7_laysRows_182 rfl (by decide) rfl rfl (Nat.le_of_ble_eq_true rfl) (c_X7_isFor (RM_w (by decide) hN_N) hI (Ag b gd k) c gd dy (a 8 c) hak2 (by omega) (by omega) (by omega) (by have := hI.life hcx; omega)) (fun r224 M224 h224 => ?_)
                        obtain ⟨rfl, h224⟩ := h224
                        have h224 := h224.symm
                        subst h224
                        have hfit : isfor a (Ag b gd k) c gd dy (a 8 c) = ftp b gd k j := by rcases hwho with z | z <;> first | omega | (rw [hE.fitX z.2.2]; unfold ftp; rw [← et, z.2.1])
                        refine g_goto 279 dX7_laysRows_227 rfl ?_
                        refine g_zast 280 dX7_laysRows_279 rfl rfl (by decide) rfl (by decide) (by omega) (bi_01 _) ?_
                        refine g_iinc 283 (nI (k + 1)) [(10, .int (nI (k + 1))), (9, .int (nI y)), (8, .int (nI j)), (0, .ref (g 18 0)), (1, .int (nI gd)), (2, .int ot), (3, .int (nI lf)), (4, .int (bi mo)), (5, .int (nI c)), (6, .int (nI sm)), (7, .int (nI dy))] dX7_laysRows_280 rfl 0 rfl (nI_add k 1) (by decide) rfl ?_
                        refine g_goto 163 dX7_laysRows_283 rfl ?_
                        exact ih163 (by omega) _ ((wr_ne (by omega)).trans ((wr_ne (by omega)).trans q1)) ((wr_ne (by omega)).trans ((wr_ne (by omega)).trans q2)) (fun i hi => (wr_ne (by omega)).trans ((wr_ne (by omega)).trans (q3 i hi))) (fun i hi => (wr_ne (by omega)).trans ((wr_ne (by omega)).trans (q4 i hi))) (fun i hi => (wr_ne (by omega)).trans ((wr_ne (by omega)).trans (q5 i hi))) (fun k2 i hk2 hi => ⟨(wr_ne (by omega)).trans ((wr_ne (by omega)).trans (q6 k2 i hk2 hi).1), (wr_ne (by omega)).trans ((wr_ne (by omega)).trans (q6 k2 i hk2 hi).2)⟩) (fun k2 hk2 => by rcases (show k2 = k ∨ k2 < k by omega) with rfl | e <;> first | exact ⟨wr_eq.trans (congrArg bi hfit), (wr_ne (by omega)).trans wr_eq⟩ | exact ⟨(wr_ne (by omega)).trans ((wr_ne (by omega)).trans (q7 k2 e).1), (wr_ne (by omega)).trans ((wr_ne (by omega)).trans (q7 k2 e).2)⟩) (hF.tr ((FPn.wr (by omega)).tr (FPn.wr (by omega))))
                  exact L163 0 (Nat.zero_le _) _ ((wr_ne (by omega)).trans q1) ((wr_ne (by omega)).trans q2) (fun i hi => (wr_ne (by omega)).trans (q3 i hi)) (fun i hi => (wr_ne (by omega)).trans (q4 i hi)) (fun i hi => by rcases (show i = j ∨ i < j by omega) with rfl | e <;> first | exact wr_eq.trans hw19 | exact (wr_ne (by omega)).trans (q5 i e)) (fun k2 i hk2 hi => ⟨(wr_ne (by omega)).trans (q6 k2 i hk2 hi).1, (wr_ne (by omega)).trans (q6 k2 i hk2 hi).2⟩) (fun k2 h => absurd h (Nat.not_lt_zero k2)) (hF.tr (FPn.wr (by omega)))
                · refine g_iload 149 8 dX7_laysRows_147 rfl rfl ?_
                  refine g_goto 159 dX7_laysRows_149 rfl ?_
                  refine g_iast 160 dX7_laysRows_159 rfl rfl (by decide) rfl (by decide) (by omega) ?_
                  refine g_iconst 161 (nI 0) dX7_laysRows_160 rfl rfl ?_
                  refine g_istore 163 [(10, .int (nI 0)), (9, .int (nI y)), (8, .int (nI j)), (0, .ref (g 18 0)), (1, .int (nI gd)), (2, .int ot), (3, .int (nI lf)), (4, .int (bi mo)), (5, .int (nI c)), (6, .int (nI sm)), (7, .int (nI dy))] dX7_laysRows_161 rfl (by decide) rfl ?_
                  have hw19 : nI sm = nI (b 16 (Tu b gd j)) := by rcases hwho with z | z <;> first | omega | (rw [← et, z.2.1, (hE.2.2.2.2.2.1 z.2.2).2.2.1])
                  have L163 : ∀ k, k ≤ AgN b gd → ∀ (N : Mm), N.1 18 0 24 = nI (TuN b gd) → N.1 18 0 25 = nI (AgN b gd) → (∀ i, i < TuN b gd → N.1 18 17 i = nI (nm a (Tu b gd i))) → (∀ i, i < AgN b gd → N.1 18 18 i = nI (Ag b gd i)) → (∀ i, i < j + 1 → N.1 18 19 i = nI (b 16 (Tu b gd i))) → (∀ k i, k < AgN b gd → i < j → N.1 18 24 (8 * k + i) = bi (ftp b gd k i) ∧ N.1 18 20 (8 * k + i) = nI 0) → (∀ k2, k2 < k → N.1 18 24 (8 * k2 + j) = bi (ftp b gd k2 j) ∧ N.1 18 20 (8 * k2 + j) = nI 0) → FPn M N → G l D g ca md_X7_laysRows 163 [(10, .int (nI k)), (9, .int (nI y)), (8, .int (nI j)), (0, .ref (g 18 0)), (1, .int (nI gd)), (2, .int ot), (3, .int (nI lf)), (4, .int (bi mo)), (5, .int (nI c)), (6, .int (nI sm)), (7, .int (nI dy))] [] N (Rv (fun M1 => LR M1 a b gd ∧ FPn M M1)) := by
                    refine upto ?_
                    intro k hk ih163 N q1 q2 q3 q4 q5 q6 q7 hF
                    have hN_N := hF.rm hN
                    have hak := fun (h : k < AgN b gd) => (Ag_in h).1
                    refine g_iload 165 0 dX7_laysRows_163 rfl rfl ?_
                    refine g_aload_n 166 3 dX7_laysRows_165 rfl rfl ?_
                    refine g_get 169 (nI (AgN b gd)) dX7_laysRows_166 rfl fX7_224 rfl (by decide) rfl q2 ?_
                    refine g_icmpN_ge 286 172 dX7_laysRows_169 rfl rfl (by omega) (by omega) (fun c169 => ?_) (fun c169 => ?_)
                    · refine g_iinc 289 (nI (j + 1)) [(8, .int (nI (j + 1))), (10, .int (nI k)), (9, .int (nI y)), (0, .ref (g 18 0)), (1, .int (nI gd)), (2, .int ot), (3, .int (nI lf)), (4, .int (bi mo)), (5, .int (nI c)), (6, .int (nI sm)), (7, .int (nI dy))] dX7_laysRows_286 rfl 2 rfl (nI_add j 1) (by decide) rfl ?_
                      refine g_goto 116 dX7_laysRows_289 rfl ?_
                      refine g_lv [0, 3, 4, 5, 6, 7, 8, 9, 10] rfl ?_
                      exact ih116 (by omega) _ q1 q2 q3 q4 q5 (fun k2 i hk2 hi => by rcases (show i = j ∨ i < j by omega) with rfl | e <;> first | exact q7 k2 (by omega) | exact q6 k2 i hk2 e) hF
                    · refine g_aload_n 173 3 dX7_laysRows_172 rfl rfl ?_
                      refine g_geta 176 20 dX7_laysRows_173 rfl fX7_82 rfl (by decide) rfl rfl ?_
                      refine g_bipush 178 (nI 8) dX7_laysRows_176 rfl rfl ?_
                      refine g_iload 180 0 dX7_laysRows_178 rfl rfl ?_
                      refine g_imul 181 (nI (8 * k)) dX7_laysRows_180 rfl (pk_mul 8 k) ?_
                      refine g_iload 183 2 dX7_laysRows_181 rfl rfl ?_
                      refine g_iadd 184 (nI ((8 * k) + j)) dX7_laysRows_183 rfl (nI_add (8 * k) j) ?_
                      refine g_iconst 185 (nI 0) dX7_laysRows_184 rfl rfl ?_
                      refine g_iast 186 dX7_laysRows_185 rfl rfl (by decide) rfl (by decide) (by omega) ?_
                      refine g_aload_n 187 3 dX7_laysRows_186 rfl rfl ?_
                      refine g_geta 190 24 dX7_laysRows_187 rfl fX7_94 rfl (by decide) rfl rfl ?_
                      refine g_bipush 192 (nI 8) dX7_laysRows_190 rfl rfl ?_
                      refine g_iload 194 0 dX7_laysRows_192 rfl rfl ?_
                      refine g_imul 195 (nI (8 * k)) dX7_laysRows_194 rfl (pk_mul 8 k) ?_
                      refine g_iload 197 2 dX7_laysRows_195 rfl rfl ?_
                      refine g_iadd 198 (nI ((8 * k) + j)) dX7_laysRows_197 rfl (nI_add (8 * k) j) ?_
                      refine g_iload 200 1 dX7_laysRows_198 rfl rfl ?_
                      refine g_bipush 202 (nI 40) dX7_laysRows_200 rfl rfl ?_
                      refine g_icmpN_ne 230 205 dX7_laysRows_202 rfl rfl (by omega) (by omega) (fun c202 => ?_) (fun c202 => ?_)
                      · refine g_iload 232 1 dX7_laysRows_230 rfl rfl ?_
                        refine g_iload_n 233 5 dX7_laysRows_232 rfl rfl ?_
                        refine g_icmp_ne 266 236 dX7_laysRows_233 rfl rfl (fun c233 => ?_) (fun c233 => ?_)
                        · refine g_aload_n 267 3 dX7_laysRows_266 rfl rfl ?_
                          refine g_aload_n 268 3 dX7_laysRows_267 rfl rfl ?_
                          refine g_geta 271 18 dX7_laysRows_268 rfl fX7_76 rfl (by decide) rfl rfl ?_
                          refine g_iload 273 0 dX7_laysRows_271 rfl rfl ?_
                          refine g_iald 274 (nI (Ag b gd k)) dX7_laysRows_273 rfl rfl (by decide) rfl (by decide) (by omega) ((wr_ne (by omega)).trans (q4 _ (by omega))) ?_
                          refine g_iload 276 1 dX7_laysRows_274 rfl rfl ?_
                          have hak2 := hak (by omega)
                          rw [hE.1] at hak2
                          refine g_callVi 279 md_X7_isFit [.int (nI (Ag b gd k)), .int (nI y)] [.int (nI ((8 * k) + j)), .ref (g 18 24)] dX7_laysRows_276 rfl e_X7_laysRows_217 rfl (by decide) rfl rfl (Nat.le_of_ble_eq_true rfl) (c_X7_isFit (RM_w (by decide) hN_N) hI (Ag b gd k) y hak2 (by omega)) (fun r276 M276 h276 => ?_)
                          obtain ⟨rfl, h276⟩ := h276
                          have h276 := h276.symm
                          subst h276
                          have hfit : fit a (Ag b gd k) y = ftp b gd k j := by rcases hwho with z | z <;> first | omega | (rw [hE.fitN (by omega) (by rw [z.1]; exact z.2.2.1) (by rw [z.1]; exact z.2.2.2) c233]; unfold ftp; rw [← et, z.1])
                          refine g_zast 280 dX7_laysRows_279 rfl rfl (by decide) rfl (by decide) (by omega) (bi_01 _) ?_
                          refine g_iinc 283 (nI (k + 1)) [(10, .int (nI (k + 1))), (9, .int (nI y)), (8, .int (nI j)), (0, .ref (g 18 0)), (1, .int (nI gd)), (2, .int ot), (3, .int (nI lf)), (4, .int (bi mo)), (5, .int (nI c)), (6, .int (nI sm)), (7, .int (nI dy))] dX7_laysRows_280 rfl 0 rfl (nI_add k 1) (by decide) rfl ?_
                          refine g_goto 163 dX7_laysRows_283 rfl ?_
                          exact ih163 (by omega) _ ((wr_ne (by omega)).trans ((wr_ne (by omega)).trans q1)) ((wr_ne (by omega)).trans ((wr_ne (by omega)).trans q2)) (fun i hi => (wr_ne (by omega)).trans ((wr_ne (by omega)).trans (q3 i hi))) (fun i hi => (wr_ne (by omega)).trans ((wr_ne (by omega)).trans (q4 i hi))) (fun i hi => (wr_ne (by omega)).trans ((wr_ne (by omega)).trans (q5 i hi))) (fun k2 i hk2 hi => ⟨(wr_ne (by omega)).trans ((wr_ne (by omega)).trans (q6 k2 i hk2 hi).1), (wr_ne (by omega)).trans ((wr_ne (by omega)).trans (q6 k2 i hk2 hi).2)⟩) (fun k2 hk2 => by rcases (show k2 = k ∨ k2 < k by omega) with rfl | e <;> first | exact ⟨wr_eq.trans (congrArg bi hfit), (wr_ne (by omega)).trans wr_eq⟩ | exact ⟨(wr_ne (by omega)).trans ((wr_ne (by omega)).trans (q7 k2 e).1), (wr_ne (by omega)).trans ((wr_ne (by omega)).trans (q7 k2 e).2)⟩) (hF.tr ((FPn.wr (by omega)).tr (FPn.wr (by omega))))
                        · refine g_aload_n 237 3 dX7_laysRows_236 rfl rfl ?_
                          refine g_aload_n 238 3 dX7_laysRows_237 rfl rfl ?_
                          refine g_geta 241 18 dX7_laysRows_238 rfl fX7_76 rfl (by decide) rfl rfl ?_
                          refine g_iload 243 0 dX7_laysRows_241 rfl rfl ?_
                          refine g_iald 244 (nI (Ag b gd k)) dX7_laysRows_243 rfl rfl (by decide) rfl (by decide) (by omega) ((wr_ne (by omega)).trans (q4 _ (by omega))) ?_
                          refine g_aload_n 245 3 dX7_laysRows_244 rfl rfl ?_
                          refine g_iload 247 1 dX7_laysRows_245 rfl rfl ?_
                          refine g_iconst 248 (nI 0) dX7_laysRows_247 rfl rfl ?_
                          refine g_callVi 251 md_X7_ordered [.int (nI y), .int (nI 0)] [.int (nI (Ag b gd k)), .ref (g 18 0), .int (nI ((8 * k) + j)), .ref (g 18 24)] dX7_laysRows_248 rfl e_X7_laysRows_169 rfl (by decide) rfl rfl (Nat.le_of_ble_eq_true rfl) (c_X7_ordered (RM_w (by decide) hN_N) hI y 0 14 (by omega) (by decide) rfl) (fun r248 M248 h248 => ?_)
                          obtain ⟨rfl, h248⟩ := h248
                          have h248 := h248.symm
                          subst h248
                          refine g_iload_n 252 4 dX7_laysRows_251 rfl rfl ?_
                          refine g_aload_n 253 3 dX7_laysRows_252 rfl rfl ?_
                          refine g_iload 255 1 dX7_laysRows_253 rfl rfl ?_
                          refine g_iconst 256 (nI 3) dX7_laysRows_255 rfl rfl ?_
                          refine g_callVi 259 md_X7_ordered [.int (nI y), .int (nI 3)] [.int (nI gd), .int (nI (a 14 y)), .int (nI (Ag b gd k)), .ref (g 18 0), .int (nI ((8 * k) + j)), .ref (g 18 24)] dX7_laysRows_256 rfl e_X7_laysRows_169 rfl (by decide) rfl rfl (Nat.le_of_ble_eq_true rfl) (c_X7_ordered (RM_w (by decide) hN_N) hI y 3 17 (by omega) (by decide) rfl) (fun r256 M256 h256 => ?_)
                          obtain ⟨rfl, h256⟩ := h256
                          have h256 := h256.symm
                          subst h256
                          refine g_iload_n 260 6 dX7_laysRows_259 rfl rfl ?_
                          have hak2 := hak (by omega)
                          rw [hE.1] at hak2
                          refine g_callVi 263 md_X7_isFor [.int (nI (Ag b gd k)), .int (nI (a 14 y)), .int (nI gd), .int (nI (a 17 y)), .int (nI lf)] [.int (nI ((8 * k) + j)), .ref (g 18 24)] dX7_laysRows_260 rfl e_X7_laysRows_182 rfl (by decide) rfl rfl (Nat.le_of_ble_eq_true rfl) (c_X7_isFor (RM_w (by decide) hN_N) hI (Ag b gd k) (a 14 y) gd (a 17 y) lf hak2 (by have := (hI.ord (o := y) (by omega)).1; omega) (by omega) (by have := hI.ord (o := y) (by omega); omega) (by omega)) (fun r260 M260 h260 => ?_)
                          obtain ⟨rfl, h260⟩ := h260
                          have h260 := h260.symm
                          subst h260
                          have hfit : isfor a (Ag b gd k) (a 14 y) gd (a 17 y) lf = ftp b gd k j := by rcases hwho with z | z <;> first | omega | (rw [hE.fitO (by omega) (by rw [z.1]; exact z.2.2.1) (by rw [z.1]; exact z.2.2.2) c233]; unfold ftp; rw [← et, z.1])
                          refine g_goto 279 dX7_laysRows_263 rfl ?_
                          refine g_zast 280 dX7_laysRows_279 rfl rfl (by decide) rfl (by decide) (by omega) (bi_01 _) ?_
                          refine g_iinc 283 (nI (k + 1)) [(10, .int (nI (k + 1))), (9, .int (nI y)), (8, .int (nI j)), (0, .ref (g 18 0)), (1, .int (nI gd)), (2, .int ot), (3, .int (nI lf)), (4, .int (bi mo)), (5, .int (nI c)), (6, .int (nI sm)), (7, .int (nI dy))] dX7_laysRows_280 rfl 0 rfl (nI_add k 1) (by decide) rfl ?_
                          refine g_goto 163 dX7_laysRows_283 rfl ?_
                          exact ih163 (by omega) _ ((wr_ne (by omega)).trans ((wr_ne (by omega)).trans q1)) ((wr_ne (by omega)).trans ((wr_ne (by omega)).trans q2)) (fun i hi => (wr_ne (by omega)).trans ((wr_ne (by omega)).trans (q3 i hi))) (fun i hi => (wr_ne (by omega)).trans ((wr_ne (by omega)).trans (q4 i hi))) (fun i hi => (wr_ne (by omega)).trans ((wr_ne (by omega)).trans (q5 i hi))) (fun k2 i hk2 hi => ⟨(wr_ne (by omega)).trans ((wr_ne (by omega)).trans (q6 k2 i hk2 hi).1), (wr_ne (by omega)).trans ((wr_ne (by omega)).trans (q6 k2 i hk2 hi).2)⟩) (fun k2 hk2 => by rcases (show k2 = k ∨ k2 < k by omega) with rfl | e <;> first | exact ⟨wr_eq.trans (congrArg bi hfit), (wr_ne (by omega)).trans wr_eq⟩ | exact ⟨(wr_ne (by omega)).trans ((wr_ne (by omega)).trans (q7 k2 e).1), (wr_ne (by omega)).trans ((wr_ne (by omega)).trans (q7 k2 e).2)⟩) (hF.tr ((FPn.wr (by omega)).tr (FPn.wr (by omega))))
                      · refine g_aload_n 206 3 dX7_laysRows_205 rfl rfl ?_
                        refine g_aload_n 207 3 dX7_laysRows_206 rfl rfl ?_
                        refine g_geta 210 18 dX7_laysRows_207 rfl fX7_76 rfl (by decide) rfl rfl ?_
                        refine g_iload 212 0 dX7_laysRows_210 rfl rfl ?_
                        refine g_iald 213 (nI (Ag b gd k)) dX7_laysRows_212 rfl rfl (by decide) rfl (by decide) (by omega) ((wr_ne (by omega)).trans (q4 _ (by omega))) ?_
                        refine g_iload 215 8 dX7_laysRows_213 rfl rfl ?_
                        refine g_iload_n 216 4 dX7_laysRows_215 rfl rfl ?_
                        refine g_iload 218 10 dX7_laysRows_216 rfl rfl ?_
                        refine g_aload_n 219 3 dX7_laysRows_218 rfl rfl ?_
                        refine g_iload 221 8 dX7_laysRows_219 rfl rfl ?_
                        refine g_callVi 224 md_X7_lifeOf [.int (nI c)] [.int (nI dy), .int (nI gd), .int (nI c), .int (nI (Ag b gd k)), .ref (g 18 0), .int (nI ((8 * k) + j)), .ref (g 18 24)] dX7_laysRows_221 rfl e_X7_laysRows_179 rfl (by decide) rfl rfl (Nat.le_of_ble_eq_true rfl) (c_X7_lifeOf (RM_w (by decide) hN_N) hI c (hE.2.2.2.2.2.1 (by rcases hwho with z | z <;> first | omega | exact z.2.2)).2.2.2.2.2.2) (fun r221 M221 h221 => ?_)
                        obtain ⟨rfl, h221⟩ := h221
                        have h221 := h221.symm
                        subst h221
                        have hak2 := hak (by omega)
                        rw [hE.1] at hak2
                        have hcx := (hE.2.2.2.2.2.1 (by rcases hwho with z | z <;> first | omega | exact z.2.2)).2.2.2.2.2.2
                        refine g_callVi 227 md_X7_isFor [.int (nI (Ag b gd k)), .int (nI c), .int (nI gd), .int (nI dy), .int (nI (a 8 c))] [.int (nI ((8 * k) + j)), .ref (g 18 24)] dX7_laysRows_224 rfl e_X7_laysRows_182 rfl (by decide) rfl rfl (Nat.le_of_ble_eq_true rfl) (c_X7_isFor (RM_w (by decide) hN_N) hI (Ag b gd k) c gd dy (a 8 c) hak2 (by omega) (by omega) (by omega) (by have := hI.life hcx; omega)) (fun r224 M224 h224 => ?_)
                        obtain ⟨rfl, h224⟩ := h224
                        have h224 := h224.symm
                        subst h224
                        have hfit : isfor a (Ag b gd k) c gd dy (a 8 c) = ftp b gd k j := by rcases hwho with z | z <;> first | omega | (rw [hE.fitX z.2.2]; unfold ftp; rw [← et, z.2.1])
                        refine g_goto 279 dX7_laysRows_227 rfl ?_
                        refine g_zast 280 dX7_laysRows_279 rfl rfl (by decide) rfl (by decide) (by omega) (bi_01 _) ?_
                        refine g_iinc 283 (nI (k + 1)) [(10, .int (nI (k + 1))), (9, .int (nI y)), (8, .int (nI j)), (0, .ref (g 18 0)), (1, .int (nI gd)), (2, .int ot), (3, .int (nI lf)), (4, .int (bi mo)), (5, .int (nI c)), (6, .int (nI sm)), (7, .int (nI dy))] dX7_laysRows_280 rfl 0 rfl (nI_add k 1) (by decide) rfl ?_
                        refine g_goto 163 dX7_laysRows_283 rfl ?_
                        exact ih163 (by omega) _ ((wr_ne (by omega)).trans ((wr_ne (by omega)).trans q1)) ((wr_ne (by omega)).trans ((wr_ne (by omega)).trans q2)) (fun i hi => (wr_ne (by omega)).trans ((wr_ne (by omega)).trans (q3 i hi))) (fun i hi => (wr_ne (by omega)).trans ((wr_ne (by omega)).trans (q4 i hi))) (fun i hi => (wr_ne (by omega)).trans ((wr_ne (by omega)).trans (q5 i hi))) (fun k2 i hk2 hi => ⟨(wr_ne (by omega)).trans ((wr_ne (by omega)).trans (q6 k2 i hk2 hi).1), (wr_ne (by omega)).trans ((wr_ne (by omega)).trans (q6 k2 i hk2 hi).2)⟩) (fun k2 hk2 => by rcases (show k2 = k ∨ k2 < k by omega) with rfl | e <;> first | exact ⟨wr_eq.trans (congrArg bi hfit), (wr_ne (by omega)).trans wr_eq⟩ | exact ⟨(wr_ne (by omega)).trans ((wr_ne (by omega)).trans (q7 k2 e).1), (wr_ne (by omega)).trans ((wr_ne (by omega)).trans (q7 k2 e).2)⟩) (hF.tr ((FPn.wr (by omega)).tr (FPn.wr (by omega))))
                  exact L163 0 (Nat.zero_le _) _ ((wr_ne (by omega)).trans q1) ((wr_ne (by omega)).trans q2) (fun i hi => (wr_ne (by omega)).trans (q3 i hi)) (fun i hi => (wr_ne (by omega)).trans (q4 i hi)) (fun i hi => by rcases (show i = j ∨ i < j by omega) with rfl | e <;> first | exact wr_eq.trans hw19 | exact (wr_ne (by omega)).trans (q5 i e)) (fun k2 i hk2 hi => ⟨(wr_ne (by omega)).trans (q6 k2 i hk2 hi).1, (wr_ne (by omega)).trans (q6 k2 i hk2 hi).2⟩) (fun k2 h => absurd h (Nat.not_lt_zero k2)) (hF.tr (FPn.wr (by omega)))
            exact L116 0 (Nat.zero_le _) N4 r1 r2 r3 (fun i hi => (r4 i hi).1) (fun i hi => absurd hi (Nat.not_lt_zero i)) (fun k i _ hi => absurd hi (Nat.not_lt_zero i)) hF
          · refine g_aload_n 91 1 dX7_laysRows_90 rfl rfl ?_
            refine g_iload 93 0 dX7_laysRows_91 rfl rfl ?_
            refine g_iconst 94 (nI 0) dX7_laysRows_93 rfl rfl ?_
            refine g_callVi 97 md_X7_lies [.int (nI k), .int (nI 0)] [] dX7_laysRows_94 rfl e_X7_laysRows_176 rfl (by decide) rfl rfl (Nat.le_of_ble_eq_true rfl) (c_X7_lies hN_N hI k 0 10 (by omega) (by decide) rfl) (fun r94 M94 h94 => ?_)
            obtain ⟨rfl, h94⟩ := h94
            have h94 := h94.symm
            subst h94
            refine g_iload_n 98 2 dX7_laysRows_97 rfl rfl ?_
            refine g_icmpN_ne 107 101 dX7_laysRows_98 rfl rfl (by have := hI.lot (l := k) (by omega); omega) (by omega) (fun c98 => ?_) (fun c98 => ?_)
            · refine g_iinc 110 (nI (k + 1)) [(8, .int (nI (k + 1))), (0, .ref (g 18 0)), (1, .int (nI gd)), (2, .int ot), (3, .int (nI lf)), (4, .int (bi mo)), (5, .int (nI c)), (6, .int (nI sm)), (7, .int (nI dy))] dX7_laysRows_107 rfl 0 rfl (nI_add k 1) (by decide) rfl ?_
              refine g_goto 79 dX7_laysRows_110 rfl ?_
              exact ih79 (by omega) _ r1 (by rw [gat_f (decide_eq_false c98)]; exact r2) r3 (by rw [gat_f (decide_eq_false c98)]; exact r4) hF
            · refine g_aload_n 102 1 dX7_laysRows_101 rfl rfl ?_
              refine g_iload 104 0 dX7_laysRows_102 rfl rfl ?_
              have hg9 := gat_le (a 11) (lsel a gd) k
              refine g_callVv 107 md_X7_putsLot [.int (nI k)] [] dX7_laysRows_104 rfl e_X7_laysRows_231 rfl (by decide) rfl rfl (Nat.le_of_ble_eq_true rfl) (c_X7_putsLot hN_N hI (κ := a 11) r2 r4 (by omega) k (by omega) rfl) (fun N5 h104 => ?_)
              obtain ⟨u1, u2, hF3⟩ := h104
              refine g_iinc 110 (nI (k + 1)) [(8, .int (nI (k + 1))), (0, .ref (g 18 0)), (1, .int (nI gd)), (2, .int ot), (3, .int (nI lf)), (4, .int (bi mo)), (5, .int (nI c)), (6, .int (nI sm)), (7, .int (nI dy))] dX7_laysRows_107 rfl 0 rfl (nI_add k 1) (by decide) rfl ?_
              refine g_goto 79 dX7_laysRows_110 rfl ?_
              exact ih79 (by omega) _ ((hF3.1 _ _ _ (by omega)).trans r1) (by rw [gat_t (decide_eq_true c98)]; exact u1) (fun i hi => (hF3.1 _ _ _ (by omega)).trans (r3 i hi)) (by rw [gat_t (decide_eq_true c98)]; exact fun i hi => ⟨u2 i hi, by have h8 := ((gat_sp (a 11) (lsel a gd) (k + 1)).1 i (by rw [gat_t (decide_eq_true c98)]; exact hi)).1; rw [gat_t (decide_eq_true c98)] at h8; exact Nat.lt_of_lt_of_le h8 (by omega)⟩) (hF.tr hF3.fp)
        exact L79 0 (Nat.zero_le _) N3 w1 w2 w3 (fun i hi => absurd hi (Nat.not_lt_zero i)) wF
    · refine g_aload_n 25 1 dX7_laysRows_24 rfl rfl ?_
      refine g_iload 27 0 dX7_laysRows_25 rfl rfl ?_
      refine g_callVi 30 md_X7_isOpen [.int (nI k)] [] dX7_laysRows_27 rfl e_X7_laysRows_189 rfl (by decide) rfl rfl (Nat.le_of_ble_eq_true rfl) (c_X7_isOpen hN_N hI (nI k)) (fun r27 M27 h27 => ?_)
      obtain ⟨rfl, h27⟩ := h27
      have h27 := h27.symm
      subst h27
      rw [opn_nI (by omega) (by omega)]
      refine g_ifB_eq 57 33 dX7_laysRows_30 rfl rfl (fun c30 => ?_) (fun c30 => ?_)
      · refine g_iinc 60 (nI (k + 1)) [(8, .int (nI (k + 1))), (0, .ref (g 18 0)), (1, .int (nI gd)), (2, .int ot), (3, .int (nI lf)), (4, .int (bi mo)), (5, .int (nI c)), (6, .int (nI sm)), (7, .int (nI dy))] dX7_laysRows_57 rfl 0 rfl (nI_add k 1) (by decide) rfl ?_
        refine g_goto 13 dX7_laysRows_60 rfl ?_
        exact ih13 (by omega) _ (by rw [gat_f (decide_eq_false (fun z => by first | exact c41 z.1 | exact of_decide_eq_false c30 z.2))]; exact p1) p2 (by rw [gat_f (decide_eq_false (fun z => by first | exact c41 z.1 | exact of_decide_eq_false c30 z.2))]; exact p3) hF
      · refine g_aload_n 34 1 dX7_laysRows_33 rfl rfl ?_
        refine g_iload 36 0 dX7_laysRows_34 rfl rfl ?_
        refine g_iconst 37 (nI 1) dX7_laysRows_36 rfl rfl ?_
        refine g_callVi 40 md_X7_ordered [.int (nI k), .int (nI 1)] [] dX7_laysRows_37 rfl e_X7_laysRows_169 rfl (by decide) rfl rfl (Nat.le_of_ble_eq_true rfl) (c_X7_ordered hN_N hI k 1 15 (by omega) (by decide) rfl) (fun r37 M37 h37 => ?_)
        obtain ⟨rfl, h37⟩ := h37
        have h37 := h37.symm
        subst h37
        refine g_iload_n 41 2 dX7_laysRows_40 rfl rfl ?_
        refine g_icmpN_ne 57 44 dX7_laysRows_41 rfl rfl (by have := hI.ord (o := k) (by omega); omega) (by omega) (fun c41 => ?_) (fun c41 => ?_)
        · refine g_iinc 60 (nI (k + 1)) [(8, .int (nI (k + 1))), (0, .ref (g 18 0)), (1, .int (nI gd)), (2, .int ot), (3, .int (nI lf)), (4, .int (bi mo)), (5, .int (nI c)), (6, .int (nI sm)), (7, .int (nI dy))] dX7_laysRows_57 rfl 0 rfl (nI_add k 1) (by decide) rfl ?_
          refine g_goto 13 dX7_laysRows_60 rfl ?_
          exact ih13 (by omega) _ (by rw [gat_f (decide_eq_false (fun z => by first | exact c41 z.1 | exact of_decide_eq_false c30 z.2))]; exact p1) p2 (by rw [gat_f (decide_eq_false (fun z => by first | exact c41 z.1 | exact of_decide_eq_false c30 z.2))]; exact p3) hF
        · refine g_aload_n 45 1 dX7_laysRows_44 rfl rfl ?_
          refine g_iload 47 0 dX7_laysRows_45 rfl rfl ?_
          refine g_aload_n 48 1 dX7_laysRows_47 rfl rfl ?_
          refine g_iload 50 0 dX7_laysRows_48 rfl rfl ?_
          refine g_iconst 51 (nI 3) dX7_laysRows_50 rfl rfl ?_
          refine g_callVi 54 md_X7_ordered [.int (nI k), .int (nI 3)] [.int (nI k), .ref (g 18 0)] dX7_laysRows_51 rfl e_X7_laysRows_169 rfl (by decide) rfl rfl (Nat.le_of_ble_eq_true rfl) (c_X7_ordered hN_N hI k 3 17 (by omega) (by decide) rfl) (fun r51 M51 h51 => ?_)
          obtain ⟨rfl, h51⟩ := h51
          have h51 := h51.symm
          subst h51
          have hg9 := gatO_le hI (gd := gd) (m := k) (by omega)
          refine g_callVv 57 md_X7_puts [.int (nI k), .int (nI (a 17 k))] [] dX7_laysRows_54 rfl e_X7_laysRows_227 rfl (by decide) rfl rfl (Nat.le_of_ble_eq_true rfl) (c_X7_puts hN_N hI (κ := a 17) p1 p3 (by omega) k (a 17 k) (Or.inr (by omega)) (by have := hI.ord (o := k) (by omega); omega) (fun _ _ => rfl) rfl) (fun N3 h54 => ?_)
          obtain ⟨u1, u2, hF3⟩ := h54
          refine g_iinc 60 (nI (k + 1)) [(8, .int (nI (k + 1))), (0, .ref (g 18 0)), (1, .int (nI gd)), (2, .int ot), (3, .int (nI lf)), (4, .int (bi mo)), (5, .int (nI c)), (6, .int (nI sm)), (7, .int (nI dy))] dX7_laysRows_57 rfl 0 rfl (nI_add k 1) (by decide) rfl ?_
          refine g_goto 13 dX7_laysRows_60 rfl ?_
          exact ih13 (by omega) _ (by rw [gat_t (decide_eq_true ⟨c41, of_decide_eq_true c30⟩)]; exact u1) ((hF3.1 _ _ _ (by omega)).trans p2) (by rw [gat_t (decide_eq_true ⟨c41, of_decide_eq_true c30⟩)]; exact fun i hi => ⟨u2 i hi, by have h8 := ((gat_sp (a 17) (osel a gd) (k + 1)).1 i (by rw [gat_t (decide_eq_true ⟨c41, of_decide_eq_true c30⟩)]; exact hi)).1; rw [gat_t (decide_eq_true ⟨c41, of_decide_eq_true c30⟩)] at h8; exact Nat.lt_of_lt_of_le h8 (by omega)⟩) (hF.tr hF3.fp)
  exact L13 0 (Nat.zero_le _) _ ((wr_ne (by omega)).trans wr_eq) wr_eq (fun i hi => absurd hi (Nat.not_lt_zero i)) ((FPn.wr (by omega)).tr (FPn.wr (by omega)))
