set_option maxHeartbeats 4000000 in
set_option maxRecDepth 100000 in
theorem c_X7_passesOn {l : Launch} {D : va_G} {g : Nat → Nat → Nat} {ca : Nat → ClassId} {M : Mm} {am tn : Nat} {Lt : Nat → Nat} {ft : Nat → Nat → Bool} {mu : Nat → Nat → Nat} (hp : PMd M am tn Lt ft mu) (i k : Nat) (hi : i < tn) (hk : k < am) (hlf : M.1 18 21 k = nI i) : Ct l D g ca md_X7_passesOn [.ref (g 18 0), .int (nI i), .int (nI k)] M (Rv (fun M1 => M1 = wr M 18 20 (8 * k + i) (nI (mu k i + 1)))) := by
  refine Ct.of (by decide) rfl (Nat.le_of_ble_eq_true rfl) ?_
  have ba := hp.a24
  have bt := hp.t8
  show G l D g ca md_X7_passesOn 0 [(0, .ref (g 18 0)), (1, .int (nI i)), (2, .int (nI k))] [] M _
  refine g_iload_n 1 2 dX7_passesOn_0 rfl rfl ?_
  refine g_istore_n 2 [(3, .int (nI k)), (0, .ref (g 18 0)), (1, .int (nI i)), (2, .int (nI k))] dX7_passesOn_1 rfl (by decide) rfl ?_
  refine g_aload_n 3 1 dX7_passesOn_2 rfl rfl ?_
  refine g_geta 6 21 dX7_passesOn_3 rfl fX7_85 rfl (by decide) rfl rfl ?_
  refine g_iload_n 7 3 dX7_passesOn_6 rfl rfl ?_
  refine g_iald 8 (nI i) dX7_passesOn_7 rfl rfl (by decide) rfl (by decide) (by omega) hlf ?_
  refine g_istore 10 [(4, .int (nI i)), (3, .int (nI k)), (0, .ref (g 18 0)), (1, .int (nI i)), (2, .int (nI k))] dX7_passesOn_8 rfl (by decide) rfl ?_
  refine g_iload 12 0 dX7_passesOn_10 rfl rfl ?_
  refine g_iload_n 13 3 dX7_passesOn_12 rfl rfl ?_
  refine g_icmpN_eq 67 16 dX7_passesOn_13 rfl rfl (by omega) (by omega) (fun c13 => ?_) (fun c13 => ?_)
  · refine g_aload_n 68 2 dX7_passesOn_67 rfl rfl ?_
    refine g_geta 71 20 dX7_passesOn_68 rfl fX7_82 rfl (by decide) rfl rfl ?_
    refine g_bipush 73 (nI 8) dX7_passesOn_71 rfl rfl ?_
    refine g_iload_n 74 1 dX7_passesOn_73 rfl rfl ?_
    refine g_imul 75 (nI (8 * k)) dX7_passesOn_74 rfl (pk_mul 8 k) ?_
    refine g_iload_n 76 3 dX7_passesOn_75 rfl rfl ?_
    refine g_iadd 77 (nI ((8 * k) + i)) dX7_passesOn_76 rfl (nI_add (8 * k) i) ?_
    refine g_dup2 78 dX7_passesOn_77 rfl rfl rfl ?_
    refine g_iald 79 (nI (mu k i)) dX7_passesOn_78 rfl rfl (by decide) rfl (by decide) (by omega) (hp.much (by omega) (by omega)) ?_
    refine g_iconst 80 (nI 1) dX7_passesOn_79 rfl rfl ?_
    refine g_iadd 81 (nI ((mu k i) + 1)) dX7_passesOn_80 rfl (nI_add (mu k i) 1) ?_
    refine g_iast 82 dX7_passesOn_81 rfl rfl (by decide) rfl (by decide) (by omega) ?_
    exact g_vret rfl dX7_passesOn_82 rfl
  · exact absurd rfl c13

set_option maxHeartbeats 4000000 in
set_option maxRecDepth 100000 in
theorem c_X7_getsOne {l : Launch} {D : va_G} {g : Nat → Nat → Nat} {ca : Nat → ClassId} {M : Mm} {am tn : Nat} {Lt : Nat → Nat} {ft : Nat → Nat → Bool} {mu : Nat → Nat → Nat} (hp : PMd M am tn Lt ft mu) {a : Sa} (hN : RM (M.1 18 12) a) (hI : Iv a) (hLt : ∀ k, k < am → Lt k < a 0 3) {sp : Nat → Nat} (hsp : ∀ k, k < am → fb_sm (mu k) tn + sp k = a 12 (Lt k)) (i : Nat) (hi : i < tn) (hcl : (∀ k, k < am → ft k i = true → sp k = 0) → ∃ Z, ClZ Z mu ft sp am tn i) : Ct l D g ca md_X7_getsOne [.ref (g 18 0), .int (nI i)] M (Ri (fun r M1 => r = bi (decide (fa_first (fun k => ft k i && decide (0 < sp k)) am < am)) ∧ PMd M1 am tn Lt ft (fun k j => if k = fa_first (fun k => ft k i && decide (0 < sp k)) am ∧ j = i then mu k j + 1 else mu k j) ∧ FPl M M1)) := by
  refine Ct.of (by decide) rfl (Nat.le_of_ble_eq_true rfl) ?_
  have ba := hp.a24
  have bt := hp.t8
  have hb : ∀ k j, k < am → j < tn → mu k j ≤ 99 ∧ sp k ≤ 99 := fun k j hk hj => by have h1 := hsp k hk; have h2 := hI.lot (hLt k hk); have h3 := fb_sm_part (mu k) hj; omega
  have hb0 : ∀ k, k < am → sp k ≤ 99 := fun k hk => by have h1 := hsp k hk; have h2 := hI.lot (hLt k hk); omega
  obtain ⟨Z, hZ⟩ : ∃ Z, ((∀ k, k < am → ft k i = true → sp k = 0) → ClZ Z mu ft sp am tn i) := by
    by_cases hA : ∀ k, k < am → ft k i = true → sp k = 0
    · obtain ⟨Z, h⟩ := hcl hA; exact ⟨Z, fun _ => h⟩
    · exact ⟨fun _ => True, fun h => absurd h hA⟩
  show G l D g ca md_X7_getsOne 0 [(0, .ref (g 18 0)), (1, .int (nI i))] [] M _
  refine g_aload_n 1 0 dX7_getsOne_0 rfl rfl ?_
  refine g_callVv 4 md_X7_starts [] [] dX7_getsOne_1 rfl e_X7_getsOne_246 rfl (by decide) rfl rfl (Nat.le_of_ble_eq_true rfl) (c_X7_starts hp) (fun N1 h1 => ?_)
  obtain ⟨hs1, hF1⟩ := h1
  have hp1 := hF1.pm hp
  refine g_aload_n 5 0 dX7_getsOne_4 rfl rfl ?_
  refine g_geta 8 22 dX7_getsOne_5 rfl fX7_88 rfl (by decide) rfl rfl ?_
  refine g_iload_n 9 1 dX7_getsOne_8 rfl rfl ?_
  refine g_aload_n 10 0 dX7_getsOne_9 rfl rfl ?_
  refine g_get 13 (nI am) dX7_getsOne_10 rfl fX7_224 rfl (by decide) rfl hp1.am_ ?_
  refine g_iast 14 dX7_getsOne_13 rfl rfl (by decide) rfl (by decide) (by first | omega | (have := hs.le; omega)) ?_
  refine g_aload_n 15 0 dX7_getsOne_14 rfl rfl ?_
  refine g_iload_n 16 1 dX7_getsOne_15 rfl rfl ?_
  have hF1b := hF1.tr (FBs.wr (M := N1) (c := 22) (i := i) (x := nI am) (by omega))
  refine g_callVv 19 md_X7_reachesLots [.int (nI i)] [] dX7_getsOne_16 rfl e_X7_getsOne_249 rfl (by decide) rfl rfl (Nat.le_of_ble_eq_true rfl) (c_X7_reachesLots (hF1b.pm hp) (hs1.order hi (by omega)) i hi) (fun N2 h16 => ?_)
  obtain ⟨⟨qv2, hs2, -, r1, r2⟩, hF2⟩ := h16
  have hB2 := Bf_0 hZ rfl (fun x hx => hs2.qub hx) r1 r2
  have hF2b := hF1b.tr hF2
  refine g_iconst 20 (nI 0) dX7_getsOne_19 rfl rfl ?_
  refine g_istore_n 21 [(2, .int (nI 0)), (0, .ref (g 18 0)), (1, .int (nI i))] dX7_getsOne_20 rfl (by decide) rfl ?_
  have L21 : ∀ x, x ≤ am → ∀ (N : Mm) (lf fo : Nat → Nat) (qn : Nat) (qu : Nat → Nat), Sc N am tn lf fo qn qu → Bf Z ft sp am i lf qn qu → FBs M N → (∀ k, k < am → ft k i = true → fb_ct (fun k => ft k i) k < x → sp k = 0) → G l D g ca md_X7_getsOne 21 [(2, .int (nI x)), (0, .ref (g 18 0)), (1, .int (nI i))] [] N (Ri (fun r M1 => r = bi (decide (fa_first (fun k => ft k i && decide (0 < sp k)) am < am)) ∧ PMd M1 am tn Lt ft (fun k j => if k = fa_first (fun k => ft k i && decide (0 < sp k)) am ∧ j = i then mu k j + 1 else mu k j) ∧ FPl M M1)) := by
    refine upto ?_
    intro x hx ih21 N lf fo qn qu hs hB hF hpr
    have hpN := hF.pm hp
    refine g_iload_n 22 0 dX7_getsOne_21 rfl rfl ?_
    refine g_aload_n 23 1 dX7_getsOne_22 rfl rfl ?_
    refine g_get 26 (nI qn) dX7_getsOne_23 rfl fX7_243 rfl (by decide) rfl hs.qn_ ?_
    refine g_icmpN_ge 119 29 dX7_getsOne_26 rfl rfl (by first | omega | (have := hs.le; omega) | (have := (hb kk j hkk (by omega)).1; omega)) (by first | omega | (have := hs.le; omega) | (have := (hb kk j hkk (by omega)).1; omega)) (fun c26 => ?_) (fun c26 => ?_)
    · refine g_iconst 120 (nI 0) dX7_getsOne_119 rfl rfl ?_
      exact g_zret rfl dX7_getsOne_120 rfl ⟨by rw [decide_eq_false (Bf_miss hB c26 hpr)]; rfl, ⟨hpN.tn_, hpN.am_, fun k hk => hpN.age hk, fun k j hk hj => hpN.may hk hj, fun k j hk hj => by show _ = nI (if k = fa_first (fun k => ft k i && decide (0 < sp k)) am ∧ j = i then mu k j + 1 else mu k j); rw [if_neg (fun z => Bf_miss hB c26 hpr (by rw [← z.1]; exact hk))]; exact hpN.much hk hj, ba, bt⟩, hF.fp⟩
    · refine g_aload_n 30 1 dX7_getsOne_29 rfl rfl ?_
      refine g_geta 33 23 dX7_getsOne_30 rfl fX7_91 rfl (by decide) rfl rfl ?_
      refine g_iload_n 34 0 dX7_getsOne_33 rfl rfl ?_
      refine g_iald 35 (nI (qu x)) dX7_getsOne_34 rfl rfl (by decide) rfl (by decide) (by first | omega | (have := hs.le; omega)) (hs.qu_ (by omega)) ?_
      refine g_istore_n 36 [(3, .int (nI (qu x))), (2, .int (nI x)), (0, .ref (g 18 0)), (1, .int (nI i))] dX7_getsOne_35 rfl (by decide) rfl ?_
      obtain ⟨kk, ek⟩ : ∃ kk, kk = qu x := ⟨_, rfl⟩
      have hkk : kk < am := by rw [ek]; exact hs.qub (by omega)
      rw [← ek]
      have hb1 := hb0 kk hkk
      refine g_aload_n 37 2 dX7_getsOne_36 rfl rfl ?_
      refine g_iload_n 38 0 dX7_getsOne_37 rfl rfl ?_
      refine g_callVi 41 md_X7_spareOf [.int (nI kk)] [] dX7_getsOne_38 rfl e_X7_getsOne_252 rfl (by decide) rfl rfl (Nat.le_of_ble_eq_true rfl) (c_X7_spareOf hpN (hF.rm hN) hI hLt hsp kk hkk) (fun r38 M38 h38 => ?_)
      obtain ⟨rfl, h38⟩ := h38
      have h38 := h38.symm
      subst h38
      refine g_ifN_le 52 44 dX7_getsOne_41 rfl rfl (by first | omega | (have := hs.le; omega) | (have := (hb kk j hkk (by omega)).1; omega)) (fun c41 => ?_) (fun c41 => ?_)
      · refine g_iconst 53 (nI 0) dX7_getsOne_52 rfl rfl ?_
        refine g_istore 55 [(4, .int (nI 0)), (3, .int (nI kk)), (2, .int (nI x)), (0, .ref (g 18 0)), (1, .int (nI i))] dX7_getsOne_53 rfl (by decide) rfl ?_
        have hpr2 : ∀ k, k < am → ft k i = true → fb_ct (fun k => ft k i) k < x + 1 → sp k = 0 := by
          intro k hk hf hlt
          rcases (show fb_ct (fun k => ft k i) k < x ∨ fb_ct (fun k => ft k i) k = x by omega) with z | z
          · exact hpr k hk hf z
          · have h9 := (hB.1 k hk hf).2
            rw [z, ← ek] at h9
            rw [← h9]; exact c41
        have L55 : ∀ j, j ≤ tn → ∀ (N : Mm) (lf fo : Nat → Nat) (qn : Nat) (qu : Nat → Nat), Sc N am tn lf fo qn qu → Bf Z ft sp am i lf qn qu → FBs M N → x < qn → qu x = kk → G l D g ca md_X7_getsOne 55 [(4, .int (nI j)), (3, .int (nI kk)), (2, .int (nI x)), (0, .ref (g 18 0)), (1, .int (nI i))] [] N (Ri (fun r M1 => r = bi (decide (fa_first (fun k => ft k i && decide (0 < sp k)) am < am)) ∧ PMd M1 am tn Lt ft (fun k j => if k = fa_first (fun k => ft k i && decide (0 < sp k)) am ∧ j = i then mu k j + 1 else mu k j) ∧ FPl M M1)) := by
          refine upto ?_
          intro j hj ih55 N lf fo qn qu hs hB hF hxq hqx
          have hpN := hF.pm hp
          refine g_iload 57 0 dX7_getsOne_55 rfl rfl ?_
          refine g_aload_n 58 3 dX7_getsOne_57 rfl rfl ?_
          refine g_get 61 (nI tn) dX7_getsOne_58 rfl fX7_221 rfl (by decide) rfl hpN.tn_ ?_
          refine g_icmpN_ge 113 64 dX7_getsOne_61 rfl rfl (by first | omega | (have := hs.le; omega) | (have := (hb kk j hkk (by omega)).1; omega)) (by first | omega | (have := hs.le; omega) | (have := (hb kk j hkk (by omega)).1; omega)) (fun c61 => ?_) (fun c61 => ?_)
          · refine g_iinc 116 (nI (x + 1)) [(2, .int (nI (x + 1))), (4, .int (nI j)), (3, .int (nI kk)), (0, .ref (g 18 0)), (1, .int (nI i))] dX7_getsOne_113 rfl 2 rfl (nI_add x 1) (by decide) rfl ?_
            refine g_goto 21 dX7_getsOne_116 rfl ?_
            refine g_lv [0, 3, 4] rfl ?_
            exact ih21 (by have := hs.le; omega) _ _ _ _ _ hs hB hF hpr2
          · refine g_aload_n 65 3 dX7_getsOne_64 rfl rfl ?_
            refine g_geta 68 20 dX7_getsOne_65 rfl fX7_82 rfl (by decide) rfl rfl ?_
            refine g_bipush 70 (nI 8) dX7_getsOne_68 rfl rfl ?_
            refine g_iload_n 71 1 dX7_getsOne_70 rfl rfl ?_
            refine g_imul 72 (nI (8 * kk)) dX7_getsOne_71 rfl (pk_mul 8 kk) ?_
            refine g_iload 74 0 dX7_getsOne_72 rfl rfl ?_
            refine g_iadd 75 (nI ((8 * kk) + j)) dX7_getsOne_74 rfl (nI_add (8 * kk) j) ?_
            refine g_iald 76 (nI (mu kk j)) dX7_getsOne_75 rfl rfl (by decide) rfl (by decide) (by first | omega | (have := hs.le; omega)) (hpN.much (by omega) (by omega)) ?_
            refine g_ifN_eq 107 79 dX7_getsOne_76 rfl rfl (by first | omega | (have := hs.le; omega) | (have := (hb kk j hkk (by omega)).1; omega)) (fun c76 => ?_) (fun c76 => ?_)
            · refine g_iinc 110 (nI (j + 1)) [(4, .int (nI (j + 1))), (3, .int (nI kk)), (2, .int (nI x)), (0, .ref (g 18 0)), (1, .int (nI i))] dX7_getsOne_107 rfl 0 rfl (nI_add j 1) (by decide) rfl ?_
              refine g_goto 55 dX7_getsOne_110 rfl ?_
              exact ih55 (by omega) _ _ _ _ _ hs hB hF hxq hqx
            · refine g_aload_n 80 3 dX7_getsOne_79 rfl rfl ?_
              refine g_geta 83 22 dX7_getsOne_80 rfl fX7_88 rfl (by decide) rfl rfl ?_
              refine g_iload 85 0 dX7_getsOne_83 rfl rfl ?_
              refine g_iald 86 (nI (fo j) - 1) dX7_getsOne_85 rfl rfl (by decide) rfl (by decide) (by first | omega | (have := hs.le; omega)) (hs.fo_ (by omega)) ?_
              refine g_iconst 87 ((-1)) dX7_getsOne_86 rfl rfl ?_
              refine g_icmp_eq 93 90 dX7_getsOne_87 rfl rfl (fun c87 => ?_) (fun c87 => ?_)
              · refine g_aload_n 94 3 dX7_getsOne_93 rfl rfl ?_
                refine g_geta 97 22 dX7_getsOne_94 rfl fX7_88 rfl (by decide) rfl rfl ?_
                refine g_iload 99 0 dX7_getsOne_97 rfl rfl ?_
                refine g_iload_n 100 1 dX7_getsOne_99 rfl rfl ?_
                refine g_iast 101 dX7_getsOne_100 rfl rfl (by decide) rfl (by decide) (by first | omega | (have := hs.le; omega)) ?_
                refine g_aload_n 102 3 dX7_getsOne_101 rfl rfl ?_
                refine g_iload 104 0 dX7_getsOne_102 rfl rfl ?_
                have hFj := hF.tr (FBs.wr (M := N) (c := 22) (i := j) (x := nI kk) (by omega))
                refine g_callVv 107 md_X7_reachesLots [.int (nI j)] [] dX7_getsOne_104 rfl e_X7_getsOne_249 rfl (by decide) rfl rfl (Nat.le_of_ble_eq_true rfl) (c_X7_reachesLots (hFj.pm hp) (hs.order (by omega) (by omega)) j (by omega)) (fun N7 h104 => ?_)
                obtain ⟨⟨qv2, hs7, r0, r1, r2⟩, hF6⟩ := h104
                have hB7 := Bf_step hZ hB hxq (by rw [hqx]; exact hkk) (by omega) (by rw [hqx]; exact c76) (fun x hx => hs7.qub hx) r0 r2
                have hF7 := hFj.tr hF6
                have hx7 := Nat.lt_of_lt_of_le hxq (Nat.le_add_right qn (fb_ct (fun k => ft k j && decide (lf k = 0)) am))
                have hq7 := (r0 x hxq).trans hqx
                refine g_iinc 110 (nI (j + 1)) [(4, .int (nI (j + 1))), (3, .int (nI kk)), (2, .int (nI x)), (0, .ref (g 18 0)), (1, .int (nI i))] dX7_getsOne_107 rfl 0 rfl (nI_add j 1) (by decide) rfl ?_
                refine g_goto 55 dX7_getsOne_110 rfl ?_
                exact ih55 (by omega) _ _ _ _ _ hs7 hB7 hF7 hx7 hq7
              · refine g_goto 107 dX7_getsOne_90 rfl ?_
                refine g_iinc 110 (nI (j + 1)) [(4, .int (nI (j + 1))), (3, .int (nI kk)), (2, .int (nI x)), (0, .ref (g 18 0)), (1, .int (nI i))] dX7_getsOne_107 rfl 0 rfl (nI_add j 1) (by decide) rfl ?_
                refine g_goto 55 dX7_getsOne_110 rfl ?_
                exact ih55 (by omega) _ _ _ _ _ hs hB hF hxq hqx
        exact L55 0 (Nat.zero_le _) N lf fo qn qu hs hB hF (by omega) ek.symm
      · refine g_aload_n 45 2 dX7_getsOne_44 rfl rfl ?_
        refine g_iload_n 46 3 dX7_getsOne_45 rfl rfl ?_
        refine g_iload_n 47 0 dX7_getsOne_46 rfl rfl ?_
        obtain ⟨g1, g2⟩ := Bf_hit hZ hB (x := x) (by omega) (hs.qub (by omega)) hpr (by rw [← ek]; exact c41)
        rw [← ek] at g1 g2
        refine g_callVv 50 md_X7_passesOn [.int (nI i), .int (nI kk)] [] dX7_getsOne_47 rfl e_X7_getsOne_255 rfl (by decide) rfl rfl (Nat.le_of_ble_eq_true rfl) (c_X7_passesOn hpN i kk hi hkk (by rw [hs.lf_ hkk, g1]; exact nI_pred i)) (fun N9 h47 => ?_)
        subst h47
        refine g_iconst 51 (nI 1) dX7_getsOne_50 rfl rfl ?_
        exact g_zret rfl dX7_getsOne_51 rfl ⟨by rw [g2, decide_eq_true hkk]; rfl, by rw [g2]; refine ⟨(wr_ne (by omega)).trans hpN.tn_, (wr_ne (by omega)).trans hpN.am_, fun k hk => (wr_ne (by omega)).trans (hpN.age hk), fun k j hk hj => (wr_ne (by omega)).trans (hpN.may hk hj), fun k j hk hj => ?_, ba, bt⟩; show _ = nI (if k = kk ∧ j = i then mu k j + 1 else mu k j); by_cases e : k = kk ∧ j = i <;> first | (rw [if_pos e, e.1, e.2]; exact wr_eq) | (rw [if_neg e, wr_ne (by omega)]; exact hpN.much hk hj), hF.fp.tr (FPl.wr (by omega))⟩
  exact L21 0 (Nat.zero_le _) N2 _ _ _ _ hs2 hB2 hF2b (fun k _ _ h => absurd h (Nat.not_lt_zero _))
