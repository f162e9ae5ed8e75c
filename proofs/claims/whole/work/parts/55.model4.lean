set_option maxHeartbeats 4000000 in
set_option maxRecDepth 100000 in
theorem c_X7_usesOne {l : Launch} {D : va_G} {g : Nat → Nat → Nat} {ca : Nat → ClassId} {M : Mm} {am tn : Nat} {Lt : Nat → Nat} {ft : Nat → Nat → Bool} {mu : Nat → Nat → Nat} (hp : PMd M am tn Lt ft mu) {a : Sa} (hN : RM (M.1 18 12) a) (hI : Iv a) (hLt : ∀ k, k < am → Lt k < a 0 3) {sp : Nat → Nat} (hsp : ∀ k, k < am → fb_sm (mu k) tn + sp k = a 12 (Lt k)) (k : Nat) (hk : k < am) (hcl : 0 < sp k → ∃ Z, ClX Z mu ft am tn k) : Ct l D g ca md_X7_usesOne [.ref (g 18 0), .int (nI k)] M (Ri (fun r M1 => r = nI 0 ∧ FBs M M1)) := by
  refine Ct.of (by decide) rfl (Nat.le_of_ble_eq_true rfl) ?_
  have ba := hp.a24
  have bt := hp.t8
  have hb : ∀ k j, k < am → j < tn → mu k j ≤ 99 ∧ sp k ≤ 99 := fun k j hk hj => by have h1 := hsp k hk; have h2 := hI.lot (hLt k hk); have h3 := fb_sm_part (mu k) hj; omega
  have hb0 : ∀ k, k < am → sp k ≤ 99 := fun k hk => by have h1 := hsp k hk; have h2 := hI.lot (hLt k hk); omega
  have hbk := hb0 k hk
  show G l D g ca md_X7_usesOne 0 [(0, .ref (g 18 0)), (1, .int (nI k))] [] M _
  refine g_aload_n 1 0 dX7_usesOne_0 rfl rfl ?_
  refine g_iload_n 2 1 dX7_usesOne_1 rfl rfl ?_
  refine g_callVi 5 md_X7_spareOf [.int (nI k)] [] dX7_usesOne_2 rfl e_X7_usesOne_252 rfl (by decide) rfl rfl (Nat.le_of_ble_eq_true rfl) (c_X7_spareOf hp hN hI hLt hsp k hk) (fun r2 M2 h2 => ?_)
  obtain ⟨rfl, h2⟩ := h2
  have h2 := h2.symm
  subst h2
  refine g_ifN_ne 10 8 dX7_usesOne_5 rfl rfl (by omega) (fun c5 => ?_) (fun c5 => ?_)
  · refine g_aload_n 11 0 dX7_usesOne_10 rfl rfl ?_
    refine g_callVv 14 md_X7_starts [] [] dX7_usesOne_11 rfl e_X7_usesOne_246 rfl (by decide) rfl rfl (Nat.le_of_ble_eq_true rfl) (c_X7_starts hp) (fun N1 h11 => ?_)
    obtain ⟨hs1, hF1⟩ := h11
    have hp1 := hF1.pm hp
    have hsP := hs1.push (m := k) (v := tn) hk rfl (by omega)
    obtain ⟨Z, hZ0, hZ1, hZ2⟩ := hcl (by omega)
    refine g_aload_n 15 0 dX7_usesOne_14 rfl rfl ?_
    refine g_geta 18 21 dX7_usesOne_15 rfl fX7_85 rfl (by decide) rfl rfl ?_
    refine g_iload_n 19 1 dX7_usesOne_18 rfl rfl ?_
    refine g_aload_n 20 0 dX7_usesOne_19 rfl rfl ?_
    refine g_get 23 (nI tn) dX7_usesOne_20 rfl fX7_221 rfl (by decide) rfl hp1.tn_ ?_
    refine g_iast 24 dX7_usesOne_23 rfl rfl (by decide) rfl (by decide) (by omega) ?_
    refine g_aload_n 25 0 dX7_usesOne_24 rfl rfl ?_
    refine g_geta 28 23 dX7_usesOne_25 rfl fX7_91 rfl (by decide) rfl rfl ?_
    refine g_iconst 29 (nI 0) dX7_usesOne_28 rfl rfl ?_
    refine g_iload_n 30 1 dX7_usesOne_29 rfl rfl ?_
    refine g_iast 31 dX7_usesOne_30 rfl rfl (by decide) rfl (by decide) (by omega) ?_
    refine g_aload_n 32 0 dX7_usesOne_31 rfl rfl ?_
    refine g_iconst 33 (nI 1) dX7_usesOne_32 rfl rfl ?_
    refine g_put 36 dX7_usesOne_33 rfl fX7_243 pX7_27 rfl (by decide) rfl ?_
    refine g_iconst 37 (nI 0) dX7_usesOne_36 rfl rfl ?_
    refine g_istore_n 38 [(2, .int (nI 0)), (0, .ref (g 18 0)), (1, .int (nI k))] dX7_usesOne_37 rfl (by decide) rfl ?_
    have L38 : ∀ x, x ≤ am → ∀ (N : Mm) (lf fo : Nat → Nat) (qn : Nat) (qu : Nat → Nat), Sc N am tn lf fo qn qu → (∀ y, y < qn → Z (qu y)) → FBs M N → G l D g ca md_X7_usesOne 38 [(2, .int (nI x)), (0, .ref (g 18 0)), (1, .int (nI k))] [] N (Ri (fun r M1 => r = nI 0 ∧ FBs M M1)) := by
      refine upto ?_
      intro x hx ih38 N lf fo qn qu hs hZq hF
      have hpN := hF.pm hp
      have hql := hs.le
      refine g_iload_n 39 0 dX7_usesOne_38 rfl rfl ?_
      refine g_aload_n 40 1 dX7_usesOne_39 rfl rfl ?_
      refine g_get 43 (nI qn) dX7_usesOne_40 rfl fX7_243 rfl (by decide) rfl hs.qn_ ?_
      refine g_icmpN_ge 207 46 dX7_usesOne_43 rfl rfl (by omega) (by omega) (fun c43 => ?_) (fun c43 => ?_)
      · refine g_iconst 208 (nI 0) dX7_usesOne_207 rfl rfl ?_
        exact g_zret rfl dX7_usesOne_208 rfl ⟨rfl, hF⟩
      · refine g_aload_n 47 1 dX7_usesOne_46 rfl rfl ?_
        refine g_geta 50 23 dX7_usesOne_47 rfl fX7_91 rfl (by decide) rfl rfl ?_
        refine g_iload_n 51 0 dX7_usesOne_50 rfl rfl ?_
        refine g_iald 52 (nI (qu x)) dX7_usesOne_51 rfl rfl (by decide) rfl (by decide) (by omega) (hs.qu_ (by omega)) ?_
        refine g_istore_n 53 [(3, .int (nI (qu x))), (2, .int (nI x)), (0, .ref (g 18 0)), (1, .int (nI k))] dX7_usesOne_52 rfl (by decide) rfl ?_
        obtain ⟨kk, ek⟩ : ∃ kk, kk = qu x := ⟨_, rfl⟩
        have hkk : kk < am := by rw [ek]; exact hs.qub (by omega)
        rw [← ek]
        refine g_iconst 54 (nI 0) dX7_usesOne_53 rfl rfl ?_
        refine g_istore 56 [(4, .int (nI 0)), (3, .int (nI kk)), (2, .int (nI x)), (0, .ref (g 18 0)), (1, .int (nI k))] dX7_usesOne_54 rfl (by decide) rfl ?_
        have L56 : ∀ i, i ≤ tn → ∀ (N : Mm) (lf fo : Nat → Nat) (qn : Nat) (qu : Nat → Nat), Sc N am tn lf fo qn qu → (∀ y, y < qn → Z (qu y)) → FBs M N → x < qn → qu x = kk → G l D g ca md_X7_usesOne 56 [(4, .int (nI i)), (3, .int (nI kk)), (2, .int (nI x)), (0, .ref (g 18 0)), (1, .int (nI k))] [] N (Ri (fun r M1 => r = nI 0 ∧ FBs M M1)) := by
          refine upto ?_
          intro i hi ih56 N lf fo qn qu hs hZq hF hxq hqx
          have hpN := hF.pm hp
          have hql := hs.le
          refine g_iload 58 0 dX7_usesOne_56 rfl rfl ?_
          refine g_aload_n 59 3 dX7_usesOne_58 rfl rfl ?_
          refine g_get 62 (nI tn) dX7_usesOne_59 rfl fX7_221 rfl (by decide) rfl hpN.tn_ ?_
          refine g_icmpN_ge 201 65 dX7_usesOne_62 rfl rfl (by omega) (by omega) (fun c62 => ?_) (fun c62 => ?_)
          · refine g_iinc 204 (nI (x + 1)) [(2, .int (nI (x + 1))), (4, .int (nI i)), (3, .int (nI kk)), (0, .ref (g 18 0)), (1, .int (nI k))] dX7_usesOne_201 rfl 2 rfl (nI_add x 1) (by decide) rfl ?_
            refine g_goto 38 dX7_usesOne_204 rfl ?_
            refine g_lv [0, 3, 4] rfl ?_
            exact ih38 (by omega) _ _ _ _ _ hs hZq hF
          · refine g_aload_n 66 3 dX7_usesOne_65 rfl rfl ?_
            refine g_geta 69 24 dX7_usesOne_66 rfl fX7_94 rfl (by decide) rfl rfl ?_
            refine g_bipush 71 (nI 8) dX7_usesOne_69 rfl rfl ?_
            refine g_iload_n 72 1 dX7_usesOne_71 rfl rfl ?_
            refine g_imul 73 (nI (8 * kk)) dX7_usesOne_72 rfl (pk_mul 8 kk) ?_
            refine g_iload 75 0 dX7_usesOne_73 rfl rfl ?_
            refine g_iadd 76 (nI ((8 * kk) + i)) dX7_usesOne_75 rfl (nI_add (8 * kk) i) ?_
            refine g_zald 77 (bi (ft kk i)) dX7_usesOne_76 rfl rfl (by decide) rfl (by decide) (by omega) (hpN.may (by omega) (by omega)) ?_
            refine g_ifB_eq 195 80 dX7_usesOne_77 rfl rfl (fun c77 => ?_) (fun c77 => ?_)
            · refine g_iinc 198 (nI (i + 1)) [(4, .int (nI (i + 1))), (3, .int (nI kk)), (2, .int (nI x)), (0, .ref (g 18 0)), (1, .int (nI k))] dX7_usesOne_195 rfl 0 rfl (nI_add i 1) (by decide) rfl ?_
              refine g_goto 56 dX7_usesOne_198 rfl ?_
              exact ih56 (by omega) _ _ _ _ _ hs hZq hF hxq hqx
            · refine g_aload_n 81 3 dX7_usesOne_80 rfl rfl ?_
              refine g_geta 84 22 dX7_usesOne_81 rfl fX7_88 rfl (by decide) rfl rfl ?_
              refine g_iload 86 0 dX7_usesOne_84 rfl rfl ?_
              refine g_iald 87 (nI (fo i) - 1) dX7_usesOne_86 rfl rfl (by decide) rfl (by decide) (by omega) (hs.fo_ (by omega)) ?_
              refine g_iconst 88 ((-1)) dX7_usesOne_87 rfl rfl ?_
              refine g_icmp_eq 94 91 dX7_usesOne_88 rfl rfl (fun c88 => ?_) (fun c88 => ?_)
              · refine g_aload_n 95 3 dX7_usesOne_94 rfl rfl ?_
                refine g_geta 98 22 dX7_usesOne_95 rfl fX7_88 rfl (by decide) rfl rfl ?_
                refine g_iload 100 0 dX7_usesOne_98 rfl rfl ?_
                refine g_iload_n 101 1 dX7_usesOne_100 rfl rfl ?_
                refine g_iast 102 dX7_usesOne_101 rfl rfl (by decide) rfl (by decide) (by omega) ?_
                refine g_iconst 103 (nI 0) dX7_usesOne_102 rfl rfl ?_
                refine g_istore 105 [(5, .int (nI 0)), (4, .int (nI i)), (3, .int (nI kk)), (2, .int (nI x)), (0, .ref (g 18 0)), (1, .int (nI k))] dX7_usesOne_103 rfl (by decide) rfl ?_
                have L105 : ∀ m, m ≤ am → ∀ (N : Mm) (lf fo : Nat → Nat) (qn : Nat) (qu : Nat → Nat), Sc N am tn lf fo qn qu → (∀ y, y < qn → Z (qu y)) → FBs M N → x < qn → qu x = kk → G l D g ca md_X7_usesOne 105 [(5, .int (nI m)), (4, .int (nI i)), (3, .int (nI kk)), (2, .int (nI x)), (0, .ref (g 18 0)), (1, .int (nI k))] [] N (Ri (fun r M1 => r = nI 0 ∧ FBs M M1)) := by
                  refine upto ?_
                  intro m hm ih105 N lf fo qn qu hs hZq hF hxq hqx
                  have hpN := hF.pm hp
                  have hql := hs.le
                  refine g_iload 107 0 dX7_usesOne_105 rfl rfl ?_
                  refine g_aload_n 108 4 dX7_usesOne_107 rfl rfl ?_
                  refine g_get 111 (nI am) dX7_usesOne_108 rfl fX7_224 rfl (by decide) rfl hpN.am_ ?_
                  refine g_icmpN_ge 195 114 dX7_usesOne_111 rfl rfl (by omega) (by omega) (fun c111 => ?_) (fun c111 => ?_)
                  · refine g_iinc 198 (nI (i + 1)) [(4, .int (nI (i + 1))), (5, .int (nI m)), (3, .int (nI kk)), (2, .int (nI x)), (0, .ref (g 18 0)), (1, .int (nI k))] dX7_usesOne_195 rfl 1 rfl (nI_add i 1) (by decide) rfl ?_
                    refine g_goto 56 dX7_usesOne_198 rfl ?_
                    refine g_lv [0, 2, 3, 4, 5] rfl ?_
                    exact ih56 (by omega) _ _ _ _ _ hs hZq hF hxq hqx
                  · refine g_aload_n 115 4 dX7_usesOne_114 rfl rfl ?_
                    refine g_geta 118 20 dX7_usesOne_115 rfl fX7_82 rfl (by decide) rfl rfl ?_
                    refine g_bipush 120 (nI 8) dX7_usesOne_118 rfl rfl ?_
                    refine g_iload 122 0 dX7_usesOne_120 rfl rfl ?_
                    refine g_imul 123 (nI (8 * m)) dX7_usesOne_122 rfl (pk_mul 8 m) ?_
                    refine g_iload 125 1 dX7_usesOne_123 rfl rfl ?_
                    refine g_iadd 126 (nI ((8 * m) + i)) dX7_usesOne_125 rfl (nI_add (8 * m) i) ?_
                    refine g_iald 127 (nI (mu m i)) dX7_usesOne_126 rfl rfl (by decide) rfl (by decide) (by omega) (hpN.much (by omega) (by omega)) ?_
                    refine g_ifN_eq 189 130 dX7_usesOne_127 rfl rfl (by have := (hb m i (by omega) (by omega)).1; omega) (fun c127 => ?_) (fun c127 => ?_)
                    · refine g_iinc 192 (nI (m + 1)) [(5, .int (nI (m + 1))), (4, .int (nI i)), (3, .int (nI kk)), (2, .int (nI x)), (0, .ref (g 18 0)), (1, .int (nI k))] dX7_usesOne_189 rfl 0 rfl (nI_add m 1) (by decide) rfl ?_
                      refine g_goto 105 dX7_usesOne_192 rfl ?_
                      exact ih105 (by omega) _ _ _ _ _ hs hZq hF hxq hqx
                    · refine g_aload_n 131 4 dX7_usesOne_130 rfl rfl ?_
                      refine g_geta 134 21 dX7_usesOne_131 rfl fX7_85 rfl (by decide) rfl rfl ?_
                      refine g_iload 136 0 dX7_usesOne_134 rfl rfl ?_
                      refine g_iald 137 (nI (lf m) - 1) dX7_usesOne_136 rfl rfl (by decide) rfl (by decide) (by omega) (hs.lf_ (by omega)) ?_
                      refine g_iconst 138 ((-1)) dX7_usesOne_137 rfl rfl ?_
                      refine g_icmp_eq 144 141 dX7_usesOne_138 rfl rfl (fun c138 => ?_) (fun c138 => ?_)
                      · have hqa := hs.lt (m := m) (by omega) ((nI_m1_eq (by have := hs.lfb (k := m) (by omega); omega)).mp c138)
                        have hlb := hs.lfb (k := m) (by omega)
                        have hZm : Z m := hZ2 kk i m hkk (by omega) (by omega) (by rw [← hqx]; exact hZq x hxq) c77 c127
                        refine g_aload_n 145 4 dX7_usesOne_144 rfl rfl ?_
                        refine g_geta 148 21 dX7_usesOne_145 rfl fX7_85 rfl (by decide) rfl rfl ?_
                        refine g_iload 150 0 dX7_usesOne_148 rfl rfl ?_
                        refine g_iload 152 1 dX7_usesOne_150 rfl rfl ?_
                        refine g_iast 153 dX7_usesOne_152 rfl rfl (by decide) rfl (by decide) (by omega) ?_
                        refine g_iload 155 0 dX7_usesOne_153 rfl rfl ?_
                        refine g_iload_n 156 5 dX7_usesOne_155 rfl rfl ?_
                        refine g_icmpN_le 168 159 dX7_usesOne_156 rfl rfl (by omega) (by omega) (fun c156 => ?_) (fun c156 => ?_)
                        · refine g_aload_n 169 4 dX7_usesOne_168 rfl rfl ?_
                          refine g_geta 172 23 dX7_usesOne_169 rfl fX7_91 rfl (by decide) rfl rfl ?_
                          refine g_aload_n 173 4 dX7_usesOne_172 rfl rfl ?_
                          refine g_get 176 (nI qn) dX7_usesOne_173 rfl fX7_243 rfl (by decide) rfl ((wr_ne (by omega)).trans hs.qn_) ?_
                          refine g_iload 178 0 dX7_usesOne_176 rfl rfl ?_
                          refine g_iast 179 dX7_usesOne_178 rfl rfl (by decide) rfl (by decide) (by omega) ?_
                          refine g_aload_n 180 4 dX7_usesOne_179 rfl rfl ?_
                          refine g_dup 181 dX7_usesOne_180 rfl rfl ?_
                          refine g_get 184 (nI qn) dX7_usesOne_181 rfl fX7_243 rfl (by decide) rfl ((wr_ne (by omega)).trans ((wr_ne (by omega)).trans hs.qn_)) ?_
                          refine g_iconst 185 (nI 1) dX7_usesOne_184 rfl rfl ?_
                          refine g_iadd 186 (nI (qn + 1)) dX7_usesOne_185 rfl (nI_add qn 1) ?_
                          refine g_put 189 dX7_usesOne_186 rfl fX7_243 pX7_27 rfl (by decide) rfl ?_
                          refine g_iinc 192 (nI (m + 1)) [(5, .int (nI (m + 1))), (4, .int (nI i)), (3, .int (nI kk)), (2, .int (nI x)), (0, .ref (g 18 0)), (1, .int (nI k))] dX7_usesOne_189 rfl 0 rfl (nI_add m 1) (by decide) rfl ?_
                          refine g_goto 105 dX7_usesOne_192 rfl ?_
                          exact ih105 (by omega) _ _ _ _ _ (hs.push (by omega) ((nI_m1_eq (by omega)).mp c138) (by omega)) (fun y hy => by rcases (show y = qn ∨ y ≠ qn by omega) with rfl | e <;> first | (rw [uf_eq]; exact hZm) | (rw [uf_ne e]; exact hZq y (by omega))) (hF.tr (((FBs.wr (by omega)).tr (FBs.wr (by omega))).tr (FBs.wr (by omega)))) (by omega) (by rw [uf_ne (by omega)]; exact hqx)
                        · exact absurd (hZ1 m hZm) (by omega)
                      · refine g_goto 189 dX7_usesOne_141 rfl ?_
                        refine g_iinc 192 (nI (m + 1)) [(5, .int (nI (m + 1))), (4, .int (nI i)), (3, .int (nI kk)), (2, .int (nI x)), (0, .ref (g 18 0)), (1, .int (nI k))] dX7_usesOne_189 rfl 0 rfl (nI_add m 1) (by decide) rfl ?_
                        refine g_goto 105 dX7_usesOne_192 rfl ?_
                        exact ih105 (by omega) _ _ _ _ _ hs hZq hF hxq hqx
                exact L105 0 (Nat.zero_le _) _ lf _ qn qu (hs.order (by omega) (by omega)) hZq (hF.tr (FBs.wr (by omega))) hxq hqx
              · refine g_goto 195 dX7_usesOne_91 rfl ?_
                refine g_iinc 198 (nI (i + 1)) [(4, .int (nI (i + 1))), (3, .int (nI kk)), (2, .int (nI x)), (0, .ref (g 18 0)), (1, .int (nI k))] dX7_usesOne_195 rfl 0 rfl (nI_add i 1) (by decide) rfl ?_
                refine g_goto 56 dX7_usesOne_198 rfl ?_
                exact ih56 (by omega) _ _ _ _ _ hs hZq hF hxq hqx
        exact L56 0 (Nat.zero_le _) N lf fo qn qu hs hZq hF (by omega) ek.symm
    exact L38 0 (Nat.zero_le _) _ _ _ 1 _ hsP (fun y hy => by rw [show y = 0 by omega, uf_eq]; exact hZ0) (hF1.tr (((FBs.wr (by omega)).tr (FBs.wr (by omega))).tr (FBs.wr (by omega))))
  · refine g_iconst 9 (nI 0) dX7_usesOne_8 rfl rfl ?_
    exact g_zret rfl dX7_usesOne_9 rfl ⟨rfl, FBs.rf⟩

set_option maxHeartbeats 4000000 in
set_option maxRecDepth 100000 in
theorem c_X7_turnsOne {l : Launch} {D : va_G} {g : Nat → Nat → Nat} {ca : Nat → ClassId} {M : Mm} {am tn : Nat} {Lt : Nat → Nat} {ft : Nat → Nat → Bool} {mu : Nat → Nat → Nat} (hp : PMd M am tn Lt ft mu) (hb : ∀ k j, k < am → j < tn → mu k j ≤ 99) (k i : Nat) (hk : k < am) (hi : i < tn) (hkey : ft k i = true → (∃ m, k < m ∧ m < am ∧ 0 < mu m i) → ∀ j, i < j → j < tn → mu k j = 0) : Ct l D g ca md_X7_turnsOne [.ref (g 18 0), .int (nI k), .int (nI i)] M (Ri (fun r M1 => r = nI 0 ∧ FBs M M1)) := by
  refine Ct.of (by decide) rfl (Nat.le_of_ble_eq_true rfl) ?_
  have ba := hp.a24
  have bt := hp.t8
  show G l D g ca md_X7_turnsOne 0 [(0, .ref (g 18 0)), (1, .int (nI k)), (2, .int (nI i))] [] M _
  refine g_aload_n 1 0 dX7_turnsOne_0 rfl rfl ?_
  refine g_geta 4 24 dX7_turnsOne_1 rfl fX7_94 rfl (by decide) rfl rfl ?_
  refine g_bipush 6 (nI 8) dX7_turnsOne_4 rfl rfl ?_
  refine g_iload_n 7 1 dX7_turnsOne_6 rfl rfl ?_
  refine g_imul 8 (nI (8 * k)) dX7_turnsOne_7 rfl (pk_mul 8 k) ?_
  refine g_iload_n 9 2 dX7_turnsOne_8 rfl rfl ?_
  refine g_iadd 10 (nI ((8 * k) + i)) dX7_turnsOne_9 rfl (nI_add (8 * k) i) ?_
  refine g_zald 11 (bi (ft k i)) dX7_turnsOne_10 rfl rfl (by decide) rfl (by decide) (by omega) (hp.may (by omega) (by omega)) ?_
  refine g_ifB_ne 16 14 dX7_turnsOne_11 rfl rfl (fun c11 => ?_) (fun c11 => ?_)
  · refine g_aload_n 17 0 dX7_turnsOne_16 rfl rfl ?_
    refine g_callVv 20 md_X7_starts [] [] dX7_turnsOne_17 rfl e_X7_turnsOne_246 rfl (by decide) rfl rfl (Nat.le_of_ble_eq_true rfl) (c_X7_starts hp) (fun N1 h17 => ?_)
    obtain ⟨hs1, hF1⟩ := h17
    have hp1 := hF1.pm hp
    refine g_iload_n 21 1 dX7_turnsOne_20 rfl rfl ?_
    refine g_iconst 22 (nI 1) dX7_turnsOne_21 rfl rfl ?_
    refine g_iadd 23 (nI (k + 1)) dX7_turnsOne_22 rfl (nI_add k 1) ?_
    refine g_istore_n 24 [(3, .int (nI (k + 1))), (0, .ref (g 18 0)), (1, .int (nI k)), (2, .int (nI i))] dX7_turnsOne_23 rfl (by decide) rfl ?_
    have L24 : ∀ m, m ≤ am → ∀ (N : Mm) (lf fo : Nat → Nat) (qn : Nat) (qu : Nat → Nat), Sc N am tn lf fo qn qu → FBs M N → (0 < qn → ∃ m, k < m ∧ m < am ∧ 0 < mu m i) → (∀ q, m ≤ q → q < am → lf q = 0) → k < m → G l D g ca md_X7_turnsOne 24 [(3, .int (nI m)), (0, .ref (g 18 0)), (1, .int (nI k)), (2, .int (nI i))] [] N (Ri (fun r M1 => r = nI 0 ∧ FBs M M1)) := by
      refine upto ?_
      intro m hm ih24 N lf fo qn qu hs hF hex hl0 hkm
      have hpN := hF.pm hp
      have hql := hs.le
      refine g_iload_n 25 0 dX7_turnsOne_24 rfl rfl ?_
      refine g_aload_n 26 1 dX7_turnsOne_25 rfl rfl ?_
      refine g_get 29 (nI am) dX7_turnsOne_26 rfl fX7_224 rfl (by decide) rfl hpN.am_ ?_
      refine g_icmpN_ge 85 32 dX7_turnsOne_29 rfl rfl (by omega) (by omega) (fun c29 => ?_) (fun c29 => ?_)
      · refine g_iconst 86 (nI 0) dX7_turnsOne_85 rfl rfl ?_
        refine g_istore_n 87 [(3, .int (nI 0)), (0, .ref (g 18 0)), (1, .int (nI k)), (2, .int (nI i))] dX7_turnsOne_86 rfl (by decide) rfl ?_
        have L87 : ∀ x, x ≤ am → ∀ (N : Mm) (lf fo : Nat → Nat) (qn : Nat) (qu : Nat → Nat), Sc N am tn lf fo qn qu → FBs M N → (0 < qn → ∃ m, k < m ∧ m < am ∧ 0 < mu m i) → G l D g ca md_X7_turnsOne 87 [(3, .int (nI x)), (0, .ref (g 18 0)), (1, .int (nI k)), (2, .int (nI i))] [] N (Ri (fun r M1 => r = nI 0 ∧ FBs M M1)) := by
          refine upto ?_
          intro x hx ih87 N lf fo qn qu hs hF hex
          have hpN := hF.pm hp
          have hql := hs.le
          refine g_iload_n 88 0 dX7_turnsOne_87 rfl rfl ?_
          refine g_aload_n 89 1 dX7_turnsOne_88 rfl rfl ?_
          refine g_get 92 (nI qn) dX7_turnsOne_89 rfl fX7_243 rfl (by decide) rfl hs.qn_ ?_
          refine g_icmpN_ge 260 95 dX7_turnsOne_92 rfl rfl (by omega) (by omega) (fun c92 => ?_) (fun c92 => ?_)
          · refine g_iconst 261 (nI 0) dX7_turnsOne_260 rfl rfl ?_
            exact g_zret rfl dX7_turnsOne_261 rfl ⟨rfl, hF⟩
          · refine g_aload_n 96 1 dX7_turnsOne_95 rfl rfl ?_
            refine g_geta 99 23 dX7_turnsOne_96 rfl fX7_91 rfl (by decide) rfl rfl ?_
            refine g_iload_n 100 0 dX7_turnsOne_99 rfl rfl ?_
            refine g_iald 101 (nI (qu x)) dX7_turnsOne_100 rfl rfl (by decide) rfl (by decide) (by omega) (hs.qu_ (by omega)) ?_
            refine g_istore 103 [(4, .int (nI (qu x))), (3, .int (nI x)), (0, .ref (g 18 0)), (1, .int (nI k)), (2, .int (nI i))] dX7_turnsOne_101 rfl (by decide) rfl ?_
            obtain ⟨kk, ek⟩ : ∃ kk, kk = qu x := ⟨_, rfl⟩
            have hkk : kk < am := by rw [ek]; exact hs.qub (by omega)
            rw [← ek]
            have hexx := hex (by omega)
            have hk0 := hkey c11 hexx
            refine g_iload_n 104 4 dX7_turnsOne_103 rfl rfl ?_
            refine g_iconst 105 (nI 1) dX7_turnsOne_104 rfl rfl ?_
            refine g_iadd 106 (nI (i + 1)) dX7_turnsOne_105 rfl (nI_add i 1) ?_
            refine g_istore 108 [(5, .int (nI (i + 1))), (4, .int (nI kk)), (3, .int (nI x)), (0, .ref (g 18 0)), (1, .int (nI k)), (2, .int (nI i))] dX7_turnsOne_106 rfl (by decide) rfl ?_
            have L108 : ∀ j, j ≤ tn → ∀ (N : Mm) (lf fo : Nat → Nat) (qn : Nat) (qu : Nat → Nat), Sc N am tn lf fo qn qu → FBs M N → (0 < qn → ∃ m, k < m ∧ m < am ∧ 0 < mu m i) → i < j → G l D g ca md_X7_turnsOne 108 [(5, .int (nI j)), (4, .int (nI kk)), (3, .int (nI x)), (0, .ref (g 18 0)), (1, .int (nI k)), (2, .int (nI i))] [] N (Ri (fun r M1 => r = nI 0 ∧ FBs M M1)) := by
              refine upto ?_
              intro j hj ih108 N lf fo qn qu hs hF hex hij
              have hpN := hF.pm hp
              have hql := hs.le
              refine g_iload 110 0 dX7_turnsOne_108 rfl rfl ?_
              refine g_aload_n 111 3 dX7_turnsOne_110 rfl rfl ?_
              refine g_get 114 (nI tn) dX7_turnsOne_111 rfl fX7_221 rfl (by decide) rfl hpN.tn_ ?_
              refine g_icmpN_ge 254 117 dX7_turnsOne_114 rfl rfl (by omega) (by omega) (fun c114 => ?_) (fun c114 => ?_)
              · refine g_iinc 257 (nI (x + 1)) [(3, .int (nI (x + 1))), (5, .int (nI j)), (4, .int (nI kk)), (0, .ref (g 18 0)), (1, .int (nI k)), (2, .int (nI i))] dX7_turnsOne_254 rfl 2 rfl (nI_add x 1) (by decide) rfl ?_
                refine g_goto 87 dX7_turnsOne_257 rfl ?_
                refine g_lv [0, 3, 4, 5] rfl ?_
                exact ih87 (by omega) _ _ _ _ _ hs hF hex
              · refine g_aload_n 118 3 dX7_turnsOne_117 rfl rfl ?_
                refine g_geta 121 24 dX7_turnsOne_118 rfl fX7_94 rfl (by decide) rfl rfl ?_
                refine g_bipush 123 (nI 8) dX7_turnsOne_121 rfl rfl ?_
                refine g_iload 125 1 dX7_turnsOne_123 rfl rfl ?_
                refine g_imul 126 (nI (8 * kk)) dX7_turnsOne_125 rfl (pk_mul 8 kk) ?_
                refine g_iload 128 0 dX7_turnsOne_126 rfl rfl ?_
                refine g_iadd 129 (nI ((8 * kk) + j)) dX7_turnsOne_128 rfl (nI_add (8 * kk) j) ?_
                refine g_zald 130 (bi (ft kk j)) dX7_turnsOne_129 rfl rfl (by decide) rfl (by decide) (by omega) (hpN.may (by omega) (by omega)) ?_
                refine g_ifB_eq 248 133 dX7_turnsOne_130 rfl rfl (fun c130 => ?_) (fun c130 => ?_)
                · refine g_iinc 251 (nI (j + 1)) [(5, .int (nI (j + 1))), (4, .int (nI kk)), (3, .int (nI x)), (0, .ref (g 18 0)), (1, .int (nI k)), (2, .int (nI i))] dX7_turnsOne_248 rfl 0 rfl (nI_add j 1) (by decide) rfl ?_
                  refine g_goto 108 dX7_turnsOne_251 rfl ?_
                  exact ih108 (by omega) _ _ _ _ _ hs hF hex (by omega)
                · refine g_aload_n 134 3 dX7_turnsOne_133 rfl rfl ?_
                  refine g_geta 137 22 dX7_turnsOne_134 rfl fX7_88 rfl (by decide) rfl rfl ?_
                  refine g_iload 139 0 dX7_turnsOne_137 rfl rfl ?_
                  refine g_iald 140 (nI (fo j) - 1) dX7_turnsOne_139 rfl rfl (by decide) rfl (by decide) (by omega) (hs.fo_ (by omega)) ?_
                  refine g_iconst 141 ((-1)) dX7_turnsOne_140 rfl rfl ?_
                  refine g_icmp_eq 147 144 dX7_turnsOne_141 rfl rfl (fun c141 => ?_) (fun c141 => ?_)
                  · refine g_aload_n 148 3 dX7_turnsOne_147 rfl rfl ?_
                    refine g_geta 151 22 dX7_turnsOne_148 rfl fX7_88 rfl (by decide) rfl rfl ?_
                    refine g_iload 153 0 dX7_turnsOne_151 rfl rfl ?_
                    refine g_iload 155 1 dX7_turnsOne_153 rfl rfl ?_
                    refine g_iast 156 dX7_turnsOne_155 rfl rfl (by decide) rfl (by decide) (by omega) ?_
                    refine g_iconst 157 (nI 0) dX7_turnsOne_156 rfl rfl ?_
                    refine g_istore 159 [(6, .int (nI 0)), (5, .int (nI j)), (4, .int (nI kk)), (3, .int (nI x)), (0, .ref (g 18 0)), (1, .int (nI k)), (2, .int (nI i))] dX7_turnsOne_157 rfl (by decide) rfl ?_
                    have L159 : ∀ m, m ≤ am → ∀ (N : Mm) (lf fo : Nat → Nat) (qn : Nat) (qu : Nat → Nat), Sc N am tn lf fo qn qu → FBs M N → (0 < qn → ∃ m, k < m ∧ m < am ∧ 0 < mu m i) → G l D g ca md_X7_turnsOne 159 [(6, .int (nI m)), (5, .int (nI j)), (4, .int (nI kk)), (3, .int (nI x)), (0, .ref (g 18 0)), (1, .int (nI k)), (2, .int (nI i))] [] N (Ri (fun r M1 => r = nI 0 ∧ FBs M M1)) := by
                      refine upto ?_
                      intro m hm ih159 N lf fo qn qu hs hF hex
                      have hpN := hF.pm hp
                      have hql := hs.le
                      refine g_iload 161 0 dX7_turnsOne_159 rfl rfl ?_
                      refine g_aload_n 162 4 dX7_turnsOne_161 rfl rfl ?_
                      refine g_get 165 (nI am) dX7_turnsOne_162 rfl fX7_224 rfl (by decide) rfl hpN.am_ ?_
                      refine g_icmpN_ge 248 168 dX7_turnsOne_165 rfl rfl (by omega) (by omega) (fun c165 => ?_) (fun c165 => ?_)
                      · refine g_iinc 251 (nI (j + 1)) [(5, .int (nI (j + 1))), (6, .int (nI m)), (4, .int (nI kk)), (3, .int (nI x)), (0, .ref (g 18 0)), (1, .int (nI k)), (2, .int (nI i))] dX7_turnsOne_248 rfl 1 rfl (nI_add j 1) (by decide) rfl ?_
                        refine g_goto 108 dX7_turnsOne_251 rfl ?_
                        refine g_lv [0, 2, 3, 4, 5, 6] rfl ?_
                        exact ih108 (by omega) _ _ _ _ _ hs hF hex (by omega)
                      · refine g_aload_n 169 4 dX7_turnsOne_168 rfl rfl ?_
                        refine g_geta 172 20 dX7_turnsOne_169 rfl fX7_82 rfl (by decide) rfl rfl ?_
                        refine g_bipush 174 (nI 8) dX7_turnsOne_172 rfl rfl ?_
                        refine g_iload 176 0 dX7_turnsOne_174 rfl rfl ?_
                        refine g_imul 177 (nI (8 * m)) dX7_turnsOne_176 rfl (pk_mul 8 m) ?_
                        refine g_iload 179 1 dX7_turnsOne_177 rfl rfl ?_
                        refine g_iadd 180 (nI ((8 * m) + j)) dX7_turnsOne_179 rfl (nI_add (8 * m) j) ?_
                        refine g_iald 181 (nI (mu m j)) dX7_turnsOne_180 rfl rfl (by decide) rfl (by decide) (by omega) (hpN.much (by omega) (by omega)) ?_
                        refine g_ifN_eq 242 184 dX7_turnsOne_181 rfl rfl (by have := hb m j (by omega) (by omega); omega) (fun c181 => ?_) (fun c181 => ?_)
                        · refine g_iinc 245 (nI (m + 1)) [(6, .int (nI (m + 1))), (5, .int (nI j)), (4, .int (nI kk)), (3, .int (nI x)), (0, .ref (g 18 0)), (1, .int (nI k)), (2, .int (nI i))] dX7_turnsOne_242 rfl 0 rfl (nI_add m 1) (by decide) rfl ?_
                          refine g_goto 159 dX7_turnsOne_245 rfl ?_
                          exact ih159 (by omega) _ _ _ _ _ hs hF hex
                        · refine g_aload_n 185 4 dX7_turnsOne_184 rfl rfl ?_
                          refine g_geta 188 21 dX7_turnsOne_185 rfl fX7_85 rfl (by decide) rfl rfl ?_
                          refine g_iload 190 0 dX7_turnsOne_188 rfl rfl ?_
                          refine g_iald 191 (nI (lf m) - 1) dX7_turnsOne_190 rfl rfl (by decide) rfl (by decide) (by omega) (hs.lf_ (by omega)) ?_
                          refine g_iconst 192 ((-1)) dX7_turnsOne_191 rfl rfl ?_
                          refine g_icmp_eq 198 195 dX7_turnsOne_192 rfl rfl (fun c192 => ?_) (fun c192 => ?_)
                          · have hlb := hs.lfb (k := m) (by omega)
                            have hqa := hs.lt (m := m) (by omega) ((nI_m1_eq (by omega)).mp c192)
                            refine g_aload_n 199 4 dX7_turnsOne_198 rfl rfl ?_
                            refine g_geta 202 21 dX7_turnsOne_199 rfl fX7_85 rfl (by decide) rfl rfl ?_
                            refine g_iload 204 0 dX7_turnsOne_202 rfl rfl ?_
                            refine g_iload 206 1 dX7_turnsOne_204 rfl rfl ?_
                            refine g_iast 207 dX7_turnsOne_206 rfl rfl (by decide) rfl (by decide) (by omega) ?_
                            refine g_iload 209 0 dX7_turnsOne_207 rfl rfl ?_
                            refine g_iload_n 210 5 dX7_turnsOne_209 rfl rfl ?_
                            refine g_icmpN_ne 221 213 dX7_turnsOne_210 rfl rfl (by omega) (by omega) (fun c210 => ?_) (fun c210 => ?_)
                            · refine g_aload_n 222 4 dX7_turnsOne_221 rfl rfl ?_
                              refine g_geta 225 23 dX7_turnsOne_222 rfl fX7_91 rfl (by decide) rfl rfl ?_
                              refine g_aload_n 226 4 dX7_turnsOne_225 rfl rfl ?_
                              refine g_get 229 (nI qn) dX7_turnsOne_226 rfl fX7_243 rfl (by decide) rfl ((wr_ne (by omega)).trans hs.qn_) ?_
                              refine g_iload 231 0 dX7_turnsOne_229 rfl rfl ?_
                              refine g_iast 232 dX7_turnsOne_231 rfl rfl (by decide) rfl (by decide) (by omega) ?_
                              refine g_aload_n 233 4 dX7_turnsOne_232 rfl rfl ?_
                              refine g_dup 234 dX7_turnsOne_233 rfl rfl ?_
                              refine g_get 237 (nI qn) dX7_turnsOne_234 rfl fX7_243 rfl (by decide) rfl ((wr_ne (by omega)).trans ((wr_ne (by omega)).trans hs.qn_)) ?_
                              refine g_iconst 238 (nI 1) dX7_turnsOne_237 rfl rfl ?_
                              refine g_iadd 239 (nI (qn + 1)) dX7_turnsOne_238 rfl (nI_add qn 1) ?_
                              refine g_put 242 dX7_turnsOne_239 rfl fX7_243 pX7_27 rfl (by decide) rfl ?_
                              refine g_iinc 245 (nI (m + 1)) [(6, .int (nI (m + 1))), (5, .int (nI j)), (4, .int (nI kk)), (3, .int (nI x)), (0, .ref (g 18 0)), (1, .int (nI k)), (2, .int (nI i))] dX7_turnsOne_242 rfl 0 rfl (nI_add m 1) (by decide) rfl ?_
                              refine g_goto 159 dX7_turnsOne_245 rfl ?_
                              exact ih159 (by omega) _ _ _ _ _ (hs.push (by omega) ((nI_m1_eq (by omega)).mp c192) (by omega)) (hF.tr (((FBs.wr (by omega)).tr (FBs.wr (by omega))).tr (FBs.wr (by omega)))) (fun _ => hexx)
                            · exact absurd (hk0 j (by omega) (by omega)) (by rw [← c210]; omega)
                          · refine g_goto 242 dX7_turnsOne_195 rfl ?_
                            refine g_iinc 245 (nI (m + 1)) [(6, .int (nI (m + 1))), (5, .int (nI j)), (4, .int (nI kk)), (3, .int (nI x)), (0, .ref (g 18 0)), (1, .int (nI k)), (2, .int (nI i))] dX7_turnsOne_242 rfl 0 rfl (nI_add m 1) (by decide) rfl ?_
                            refine g_goto 159 dX7_turnsOne_245 rfl ?_
                            exact ih159 (by omega) _ _ _ _ _ hs hF hex
                    exact L159 0 (Nat.zero_le _) _ lf _ qn qu (hs.order (by omega) (by omega)) (hF.tr (FBs.wr (by omega))) hex
                  · refine g_goto 248 dX7_turnsOne_144 rfl ?_
                    refine g_iinc 251 (nI (j + 1)) [(5, .int (nI (j + 1))), (4, .int (nI kk)), (3, .int (nI x)), (0, .ref (g 18 0)), (1, .int (nI k)), (2, .int (nI i))] dX7_turnsOne_248 rfl 0 rfl (nI_add j 1) (by decide) rfl ?_
                    refine g_goto 108 dX7_turnsOne_251 rfl ?_
                    exact ih108 (by omega) _ _ _ _ _ hs hF hex (by omega)
            exact L108 (i + 1) (by omega) N lf fo qn qu hs hF hex (by omega)
        exact L87 0 (Nat.zero_le _) N lf fo qn qu hs hF hex
      · refine g_aload_n 33 1 dX7_turnsOne_32 rfl rfl ?_
        refine g_geta 36 20 dX7_turnsOne_33 rfl fX7_82 rfl (by decide) rfl rfl ?_
        refine g_bipush 38 (nI 8) dX7_turnsOne_36 rfl rfl ?_
        refine g_iload_n 39 0 dX7_turnsOne_38 rfl rfl ?_
        refine g_imul 40 (nI (8 * m)) dX7_turnsOne_39 rfl (pk_mul 8 m) ?_
        refine g_iload_n 41 3 dX7_turnsOne_40 rfl rfl ?_
        refine g_iadd 42 (nI ((8 * m) + i)) dX7_turnsOne_41 rfl (nI_add (8 * m) i) ?_
        refine g_iald 43 (nI (mu m i)) dX7_turnsOne_42 rfl rfl (by decide) rfl (by decide) (by omega) (hpN.much (by omega) (by omega)) ?_
        refine g_ifN_ne 49 46 dX7_turnsOne_43 rfl rfl (by have := hb m i (by omega) (by omega); omega) (fun c43 => ?_) (fun c43 => ?_)
        · have hqa := hs.lt (m := m) (by omega) (hl0 m (Nat.le_refl _) (by omega))
          refine g_aload_n 50 1 dX7_turnsOne_49 rfl rfl ?_
          refine g_geta 53 21 dX7_turnsOne_50 rfl fX7_85 rfl (by decide) rfl rfl ?_
          refine g_iload_n 54 0 dX7_turnsOne_53 rfl rfl ?_
          refine g_aload_n 55 1 dX7_turnsOne_54 rfl rfl ?_
          refine g_get 58 (nI tn) dX7_turnsOne_55 rfl fX7_221 rfl (by decide) rfl hpN.tn_ ?_
          refine g_iast 59 dX7_turnsOne_58 rfl rfl (by decide) rfl (by decide) (by omega) ?_
          refine g_aload_n 60 1 dX7_turnsOne_59 rfl rfl ?_
          refine g_geta 63 23 dX7_turnsOne_60 rfl fX7_91 rfl (by decide) rfl rfl ?_
          refine g_aload_n 64 1 dX7_turnsOne_63 rfl rfl ?_
          refine g_get 67 (nI qn) dX7_turnsOne_64 rfl fX7_243 rfl (by decide) rfl ((wr_ne (by omega)).trans hs.qn_) ?_
          refine g_iload_n 68 0 dX7_turnsOne_67 rfl rfl ?_
          refine g_iast 69 dX7_turnsOne_68 rfl rfl (by decide) rfl (by decide) (by omega) ?_
          refine g_aload_n 70 1 dX7_turnsOne_69 rfl rfl ?_
          refine g_dup 71 dX7_turnsOne_70 rfl rfl ?_
          refine g_get 74 (nI qn) dX7_turnsOne_71 rfl fX7_243 rfl (by decide) rfl ((wr_ne (by omega)).trans ((wr_ne (by omega)).trans hs.qn_)) ?_
          refine g_iconst 75 (nI 1) dX7_turnsOne_74 rfl rfl ?_
          refine g_iadd 76 (nI (qn + 1)) dX7_turnsOne_75 rfl (nI_add qn 1) ?_
          refine g_put 79 dX7_turnsOne_76 rfl fX7_243 pX7_27 rfl (by decide) rfl ?_
          refine g_iinc 82 (nI (m + 1)) [(3, .int (nI (m + 1))), (0, .ref (g 18 0)), (1, .int (nI k)), (2, .int (nI i))] dX7_turnsOne_79 rfl 0 rfl (nI_add m 1) (by decide) rfl ?_
          refine g_goto 24 dX7_turnsOne_82 rfl ?_
          exact ih24 (by omega) _ _ _ _ _ (hs.push (by omega) (hl0 m (Nat.le_refl _) (by omega)) (by omega)) (hF.tr (((FBs.wr (by omega)).tr (FBs.wr (by omega))).tr (FBs.wr (by omega)))) (fun _ => ⟨m, by omega, by omega, c43⟩) (fun q h1 h2 => by rw [uf_ne (by omega)]; exact hl0 q (by omega) h2) (by omega)
        · refine g_goto 79 dX7_turnsOne_46 rfl ?_
          refine g_iinc 82 (nI (m + 1)) [(3, .int (nI (m + 1))), (0, .ref (g 18 0)), (1, .int (nI k)), (2, .int (nI i))] dX7_turnsOne_79 rfl 0 rfl (nI_add m 1) (by decide) rfl ?_
          refine g_goto 24 dX7_turnsOne_82 rfl ?_
          exact ih24 (by omega) _ _ _ _ _ hs hF hex (fun q h1 h2 => hl0 q (by omega) h2) (by omega)
    exact L24 (k + 1) (by omega) N1 _ _ 0 _ hs1 hF1 (fun h => absurd h (Nat.lt_irrefl 0)) (fun _ _ _ => rfl) (by omega)
  · refine g_iconst 15 (nI 0) dX7_turnsOne_14 rfl rfl ?_
    exact g_zret rfl dX7_turnsOne_15 rfl ⟨rfl, FBs.rf⟩
