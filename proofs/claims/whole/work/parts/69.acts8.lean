set_option maxHeartbeats 4000000 in
set_option maxRecDepth 100000 in
theorem c_X7_hold {l : Launch} {D : va_G} {g : Nat → Nat → Nat} {ca : Nat → ClassId} {M : Mm} {a : Sa} {m : Nat} {h : Nat → Sa} (hS : MS M a m h) (hI : Iv a) (hib : Ib a) (x d : Int32) : Ct l D g ca md_X7_hold [.ref (g 18 0), .int x, .int d] M (Ri (fun r M1 => r = (S_hold (a, m, h) x d).1 ∧ MY M1 (S_hold (a, m, h) x d).2 ∧ FA M M1)) := by
  refine Ct.of (by decide) rfl (Nat.le_of_ble_eq_true rfl) ?_
  have hN := hS.1
  have b0 := hI.today
  have b1 := hI.g4
  have b2 := hN.c6
  have b3 := hN.l24
  have b4 := hN.o40
  have b10 := hS.2.2.1
  show G l D g ca md_X7_hold 0 [(0, .ref (g 18 0)), (1, .int x), (2, .int d)] [] M _
  refine g_aload_n 1 0 dX7_hold_0 rfl rfl ?_
  refine g_iconst 2 (nI 0) dX7_hold_1 rfl rfl ?_
  refine g_put 5 dX7_hold_2 rfl fX7_1 pX7_0 rfl (by decide) rfl ?_
  refine g_aload_n 6 0 dX7_hold_5 rfl rfl ?_
  refine g_iload_n 7 1 dX7_hold_6 rfl rfl ?_
  refine g_callVi 10 md_X7_isLot [.int x] [] dX7_hold_7 rfl e_X7_hold_202 rfl (by decide) rfl rfl (Nat.le_of_ble_eq_true rfl) (c_X7_isLot (RM_w (by decide) hN) hI x) (fun r7 M7 h7 => ?_)
  obtain ⟨rfl, h7⟩ := h7
  have h7 := h7.symm
  subst h7
  refine g_ifB_eq 24 13 dX7_hold_10 rfl rfl (fun c10 => ?_) (fun c10 => ?_)
  · refine g_iconst 25 ((-1)) dX7_hold_24 rfl rfl ?_
    exact g_iret rfl dX7_hold_25 (by rw [S_hold_no (by first | (rw [c10]; rfl) | (rw [c21, Bool.and_false]))]; exact ⟨rfl, hS.w0, FA.w0⟩)
  · refine g_iload_n 14 2 dX7_hold_13 rfl rfl ?_
    refine g_iconst 15 (nI 0) dX7_hold_14 rfl rfl ?_
    refine g_sipush 18 (nI 999) dX7_hold_15 rfl rfl ?_
    refine g_callSi 21 md_X7_isIn [.int d, .int (nI 0), .int (nI 999)] [] dX7_hold_18 rfl e_X7_hold_101 rfl rfl (Nat.le_of_ble_eq_true rfl) (c_X7_isIn (d) (nI 0) (nI 999)) (fun r18 M18 h18 => ?_)
    obtain ⟨rfl, h18⟩ := h18
    have h18 := h18.symm
    subst h18
    refine g_ifB_ne 26 24 dX7_hold_21 rfl rfl (fun c21 => ?_) (fun c21 => ?_)
    · obtain ⟨p, hp, rfl⟩ := inr_of c10
      obtain ⟨j, _, hj, rfl⟩ := isin_of (by decide) (by decide) c21
      refine g_aload_n 27 0 dX7_hold_26 rfl rfl ?_
      refine g_callVv 30 md_X7_snap [] [] dX7_hold_27 rfl e_X7_hold_299 rfl (by decide) rfl rfl (Nat.le_of_ble_eq_true rfl) (c_X7_snap hS.w0) (fun N h27 => ?_)
      obtain ⟨hS1, hF1⟩ := h27
      have hN_N := hS1.1
      refine g_aload_n 31 0 dX7_hold_30 rfl rfl ?_
      refine g_geta 34 12 dX7_hold_31 rfl fX7_64 rfl (by decide) rfl rfl ?_
      refine g_bipush 36 (nI 37) dX7_hold_34 rfl rfl ?_
      refine g_iconst 37 (nI 4) dX7_hold_36 rfl rfl ?_
      refine g_iload_n 38 1 dX7_hold_37 rfl rfl ?_
      refine g_imul 39 (nI (4 * p)) dX7_hold_38 rfl (pk_mul 4 p) ?_
      refine g_iadd 40 (nI (37 + (4 * p))) dX7_hold_39 rfl (nI_add 37 (4 * p)) ?_
      refine g_iconst 41 (nI 3) dX7_hold_40 rfl rfl ?_
      refine g_iadd 42 (nI ((37 + (4 * p)) + 3)) dX7_hold_41 rfl (nI_add (37 + (4 * p)) 3) ?_
      refine g_iload_n 43 2 dX7_hold_42 rfl rfl ?_
      refine g_iast 44 dX7_hold_43 rfl rfl (by decide) rfl (by decide) (by omega) ?_
      obtain ⟨b, hb⟩ : ∃ b, b = ua a 13 p j := ⟨_, rfl⟩
      have hR0 := RM_set (v := j) hN_N (PosL (p := p) (j := 3) (j' := 13) (by omega) (by decide) rfl)
      rw [← hb] at hR0
      have hIb : Iv b := hb ▸ Iv_ua hI (by omega)
      have e4b : b 0 4 = a 0 4 := by rw [hb, ua_ne (by omega)]
      have e3b : b 0 3 = a 0 3 := by rw [hb, ua_ne (by omega)]
      have hrb : ∀ l q, q < 64 → res b l q ≤ 99 := fun l q hq => by rw [hb]; unfold res; rw [ua_ne (by omega)]; exact hib l q hq
      refine g_iconst 45 (nI 0) dX7_hold_44 rfl rfl ?_
      refine g_istore_n 46 [(3, .int (nI 0)), (0, .ref (g 18 0)), (1, .int (nI p)), (2, .int (nI j))] dX7_hold_45 rfl (by decide) rfl ?_
      refine g_iconst 47 (nI 0) dX7_hold_46 rfl rfl ?_
      refine g_istore 49 [(4, .int (nI 0)), (3, .int (nI 0)), (0, .ref (g 18 0)), (1, .int (nI p)), (2, .int (nI j))] dX7_hold_47 rfl (by decide) rfl ?_
      have L49 : ∀ k, k ≤ a 0 4 → ∀ (B : Mm) (v : Nat), RM (B.1 18 12) (unk b p k) → v = unsum b p k → F12 18 N B → G l D g ca md_X7_hold 49 [(4, .int (nI k)), (3, .int (nI v)), (0, .ref (g 18 0)), (1, .int (nI p)), (2, .int (nI j))] [] B (Ri (fun r M1 => r = (S_hold (a, m, h) (nI p) (nI j)).1 ∧ MY M1 (S_hold (a, m, h) (nI p) (nI j)).2 ∧ FA M M1)) := by
        refine upto ?_
        intro k hk ih49 B v hR hv hF
        have e4 : unk b p k 0 4 = a 0 4 := (unk_lo b p k 0 4 (by decide)).trans e4b
        have e3 : unk b p k 0 3 = a 0 3 := (unk_lo b p k 0 3 (by decide)).trans e3b
        have hIk : Iv (unk b p k) := Iv_lo hIb (fun j i hj => unk_lo b p k j i hj)
        refine g_iload 51 0 dX7_hold_49 rfl rfl ?_
        refine g_aload_n 52 2 dX7_hold_51 rfl rfl ?_
        refine g_geta 55 12 dX7_hold_52 rfl fX7_64 rfl (by decide) rfl rfl ?_
        refine g_iconst 56 (nI 4) dX7_hold_55 rfl rfl ?_
        refine g_iald 57 (nI (a 0 4)) dX7_hold_56 rfl rfl (by decide) rfl (by decide) (by omega) ((hR.sc (by decide)).trans (congrArg nI e4)) ?_
        refine g_icmpN_ge 116 60 dX7_hold_57 rfl rfl (by omega) (by omega) (fun c57 => ?_) (fun c57 => ?_)
        · refine g_iload_n 117 1 dX7_hold_116 rfl rfl ?_
          exact g_iret rfl dX7_hold_117 (by rw [S_hold_at (by omega) (by omega) c10 c21, ← hb, ← show k = a 0 4 by omega]; exact ⟨congrArg nI hv, hS1.f12 hF hR, FA.w0.tr (hF1.fa.tr hF.fa)⟩)
        · refine g_aload_n 61 2 dX7_hold_60 rfl rfl ?_
          refine g_iload_n 62 3 dX7_hold_61 rfl rfl ?_
          refine g_iload 64 0 dX7_hold_62 rfl rfl ?_
          refine g_callVi 67 md_X7_cell [.int (nI p), .int (nI k)] [] dX7_hold_64 rfl e_X7_hold_173 rfl (by decide) rfl rfl (Nat.le_of_ble_eq_true rfl) (c_X7_cell hR hIk p k (by omega) (by omega)) (fun r64 M64 h64 => ?_)
          obtain ⟨rfl, h64⟩ := h64
          have h64 := h64.symm
          subst h64
          rw [unk_res b (by omega), if_neg (by omega)]
          refine g_ifN_eq 110 70 dX7_hold_67 rfl rfl (by have := hrb p k (by omega); omega) (fun c67 => ?_) (fun c67 => ?_)
          · refine g_iinc 113 (nI (k + 1)) [(4, .int (nI (k + 1))), (3, .int (nI v)), (0, .ref (g 18 0)), (1, .int (nI p)), (2, .int (nI j))] dX7_hold_110 rfl 0 rfl (nI_add k 1) (by decide) rfl ?_
            refine g_goto 49 dX7_hold_113 rfl ?_
            exact ih49 (by omega) _ _ (by first | (rw [unk_z (by omega) c67]; exact hR) | (rw [unk_keep c77]; exact hR)) (by rw [hv]; unfold unsum; rw [fb_sm_succ]; first | (rw [if_pos c77]; rfl) | (split <;> omega)) hF
          · refine g_aload_n 71 2 dX7_hold_70 rfl rfl ?_
            refine g_iload_n 72 3 dX7_hold_71 rfl rfl ?_
            refine g_iload 74 0 dX7_hold_72 rfl rfl ?_
            refine g_callVi 77 md_X7_isFit [.int (nI p), .int (nI k)] [] dX7_hold_74 rfl e_X7_hold_217 rfl (by decide) rfl rfl (Nat.le_of_ble_eq_true rfl) (c_X7_isFit hR hIk p k (by omega) (by omega)) (fun r74 M74 h74 => ?_)
            obtain ⟨rfl, h74⟩ := h74
            have h74 := h74.symm
            subst h74
            rw [unk_fit]
            refine g_ifB_eq 83 80 dX7_hold_77 rfl rfl (fun c77 => ?_) (fun c77 => ?_)
            · refine g_iload_n 84 1 dX7_hold_83 rfl rfl ?_
              refine g_aload_n 85 2 dX7_hold_84 rfl rfl ?_
              refine g_iload_n 86 3 dX7_hold_85 rfl rfl ?_
              refine g_iload 88 0 dX7_hold_86 rfl rfl ?_
              refine g_callVi 91 md_X7_cell [.int (nI p), .int (nI k)] [.int (nI v)] dX7_hold_88 rfl e_X7_hold_173 rfl (by decide) rfl rfl (Nat.le_of_ble_eq_true rfl) (c_X7_cell hR hIk p k (by omega) (by omega)) (fun r88 M88 h88 => ?_)
              obtain ⟨rfl, h88⟩ := h88
              have h88 := h88.symm
              subst h88
              rw [unk_res b (by omega), if_neg (by omega)]
              refine g_iadd 92 (nI (v + (res b p k))) dX7_hold_91 rfl (nI_add v (res b p k)) ?_
              refine g_istore_n 93 [(3, .int (nI (v + (res b p k)))), (4, .int (nI k)), (0, .ref (g 18 0)), (1, .int (nI p)), (2, .int (nI j))] dX7_hold_92 rfl (by decide) rfl ?_
              refine g_aload_n 94 2 dX7_hold_93 rfl rfl ?_
              refine g_geta 97 12 dX7_hold_94 rfl fX7_64 rfl (by decide) rfl rfl ?_
              refine g_sipush 100 (nI 373) dX7_hold_97 rfl rfl ?_
              refine g_bipush 102 (nI 40) dX7_hold_100 rfl rfl ?_
              refine g_iload_n 103 3 dX7_hold_102 rfl rfl ?_
              refine g_imul 104 (nI (40 * p)) dX7_hold_103 rfl (pk_mul 40 p) ?_
              refine g_iadd 105 (nI (373 + (40 * p))) dX7_hold_104 rfl (nI_add 373 (40 * p)) ?_
              refine g_iload 107 1 dX7_hold_105 rfl rfl ?_
              refine g_iadd 108 (nI ((373 + (40 * p)) + k)) dX7_hold_107 rfl (nI_add (373 + (40 * p)) k) ?_
              refine g_iconst 109 (nI 0) dX7_hold_108 rfl rfl ?_
              refine g_iast 110 dX7_hold_109 rfl rfl (by decide) rfl (by decide) (by omega) ?_
              refine g_iinc 113 (nI (k + 1)) [(4, .int (nI (k + 1))), (3, .int (nI (v + (res b p k)))), (0, .ref (g 18 0)), (1, .int (nI p)), (2, .int (nI j))] dX7_hold_110 rfl 1 rfl (nI_add k 1) (by decide) rfl ?_
              refine g_goto 49 dX7_hold_113 rfl ?_
              exact ih49 (by omega) _ _ (by rw [← unk_ua (by omega) c77]; exact RM_set hR (PosR (by omega) (by omega))) (by rw [hv]; unfold unsum; rw [fb_sm_succ, if_neg (by rw [c77]; decide)]) (hF.tr F12.wr)
            · refine g_goto 110 dX7_hold_80 rfl ?_
              refine g_iinc 113 (nI (k + 1)) [(4, .int (nI (k + 1))), (3, .int (nI v)), (0, .ref (g 18 0)), (1, .int (nI p)), (2, .int (nI j))] dX7_hold_110 rfl 0 rfl (nI_add k 1) (by decide) rfl ?_
              refine g_goto 49 dX7_hold_113 rfl ?_
              exact ih49 (by omega) _ _ (by first | (rw [unk_z (by omega) c67]; exact hR) | (rw [unk_keep c77]; exact hR)) (by rw [hv]; unfold unsum; rw [fb_sm_succ]; first | (rw [if_pos c77]; rfl) | (split <;> omega)) hF
      exact L49 0 (Nat.zero_le _) _ 0 (by rw [unk_0]; exact hR0) rfl F12.wr
    · refine g_iconst 25 ((-1)) dX7_hold_24 rfl rfl ?_
      exact g_iret rfl dX7_hold_25 (by rw [S_hold_no (by first | (rw [c10]; rfl) | (rw [c21, Bool.and_false]))]; exact ⟨rfl, hS.w0, FA.w0⟩)

set_option maxHeartbeats 4000000 in
set_option maxRecDepth 100000 in
theorem c_X7_deliver {l : Launch} {D : va_G} {g : Nat → Nat → Nat} {ca : Nat → ClassId} {M : Mm} {a : Sa} {m : Nat} {h : Nat → Sa} (hS : MS M a m h) (hI : Iv a) (hr : Ir a) (hs : Is a) (y : Int32) : Ct l D g ca md_X7_deliver [.ref (g 18 0), .int y] M (Ri (fun r M1 => r = (S_deliver (a, m, h) y).1 ∧ MY M1 (S_deliver (a, m, h) y).2 ∧ FA M M1)) := by
  refine Ct.of (by decide) rfl (Nat.le_of_ble_eq_true rfl) ?_
  have hN := hS.1
  have b0 := hI.today
  have b1 := hI.g4
  have b2 := hN.c6
  have b3 := hN.l24
  have b4 := hN.o40
  have b10 := hS.2.2.1
  show G l D g ca md_X7_deliver 0 [(0, .ref (g 18 0)), (1, .int y)] [] M _
  refine g_aload_n 1 0 dX7_deliver_0 rfl rfl ?_
  refine g_iconst 2 (nI 0) dX7_deliver_1 rfl rfl ?_
  refine g_put 5 dX7_deliver_2 rfl fX7_1 pX7_0 rfl (by decide) rfl ?_
  refine g_aload_n 6 0 dX7_deliver_5 rfl rfl ?_
  refine g_iload_n 7 1 dX7_deliver_6 rfl rfl ?_
  refine g_callVi 10 md_X7_isOpen [.int y] [] dX7_deliver_7 rfl e_X7_deliver_189 rfl (by decide) rfl rfl (Nat.le_of_ble_eq_true rfl) (c_X7_isOpen (RM_w (by decide) hN) hI y) (fun r7 M7 h7 => ?_)
  obtain ⟨rfl, h7⟩ := h7
  have h7 := h7.symm
  subst h7
  refine g_ifB_eq 34 13 dX7_deliver_10 rfl rfl (fun c10 => ?_) (fun c10 => ?_)
  · refine g_iconst 35 ((-1)) dX7_deliver_34 rfl rfl ?_
    exact g_iret rfl dX7_deliver_35 (by rw [S_deliver_no (by first | (rw [c10]; exact fun z => absurd z.1 (by decide)) | (rw [nI_clamp (by omega)]; exact fun z => c23 z.2.1) | (rw [nI_clamp (by omega)]; exact fun z => z.2.2 c31))]; exact ⟨rfl, hS.w0, FA.w0⟩)
  · obtain ⟨q, hq, rfl, h18⟩ := opn_of c10 (by omega)
    refine g_aload_n 14 0 dX7_deliver_13 rfl rfl ?_
    refine g_iload_n 15 1 dX7_deliver_14 rfl rfl ?_
    refine g_iconst 16 (nI 3) dX7_deliver_15 rfl rfl ?_
    refine g_callVi 19 md_X7_ordered [.int (nI q), .int (nI 3)] [] dX7_deliver_16 rfl e_X7_deliver_169 rfl (by decide) rfl rfl (Nat.le_of_ble_eq_true rfl) (c_X7_ordered (RM_w (by decide) hN) hI q 3 17 (by omega) (by decide) rfl) (fun r16 M16 h16 => ?_)
    obtain ⟨rfl, h16⟩ := h16
    have h16 := h16.symm
    subst h16
    refine g_aload_n 20 0 dX7_deliver_19 rfl rfl ?_
    refine g_callVi 23 md_X7_today [] [.int (nI (a 17 q))] dX7_deliver_20 rfl e_X7_deliver_192 rfl (by decide) rfl rfl (Nat.le_of_ble_eq_true rfl) (c_X7_today (RM_w (by decide) hN) hI) (fun r20 M20 h20 => ?_)
    obtain ⟨rfl, h20⟩ := h20
    have h20 := h20.symm
    subst h20
    refine g_icmpN_ne 34 26 dX7_deliver_23 rfl rfl (by have := hI.ord (o := q) (by omega); omega) (by omega) (fun c23 => ?_) (fun c23 => ?_)
    · refine g_iconst 35 ((-1)) dX7_deliver_34 rfl rfl ?_
      exact g_iret rfl dX7_deliver_35 (by rw [S_deliver_no (by first | (rw [c10]; exact fun z => absurd z.1 (by decide)) | (rw [nI_clamp (by omega)]; exact fun z => c23 z.2.1) | (rw [nI_clamp (by omega)]; exact fun z => z.2.2 c31))]; exact ⟨rfl, hS.w0, FA.w0⟩)
    · refine g_aload_n 27 0 dX7_deliver_26 rfl rfl ?_
      refine g_iload_n 28 1 dX7_deliver_27 rfl rfl ?_
      refine g_callVi 31 md_X7_forOrder [.int (nI q)] [] dX7_deliver_28 rfl e_X7_deliver_208 rfl (by decide) rfl rfl (Nat.le_of_ble_eq_true rfl) (c_X7_forOrder (RM_w (by decide) hN) hI q (by omega)) (fun r28 M28 h28 => ?_)
      obtain ⟨rfl, h28⟩ := h28
      have h28 := h28.symm
      subst h28
      refine g_ifN_ne 36 34 dX7_deliver_31 rfl rfl (by have := ro_le hI hr hs hq; omega) (fun c31 => ?_) (fun c31 => ?_)
      · have hrs : ∀ p, p < a 0 3 → res a p q ≤ a 12 p := fun p hp => by have h1 := fb_sm_part (res a p) hq; have h2 := hs p hp; omega
        refine g_aload_n 37 0 dX7_deliver_36 rfl rfl ?_
        refine g_callVv 40 md_X7_snap [] [] dX7_deliver_37 rfl e_X7_deliver_299 rfl (by decide) rfl rfl (Nat.le_of_ble_eq_true rfl) (c_X7_snap hS.w0) (fun N h37 => ?_)
        obtain ⟨hS1, hF1⟩ := h37
        have hN_N := hS1.1
        refine g_iconst 41 (nI 0) dX7_deliver_40 rfl rfl ?_
        refine g_istore_n 42 [(2, .int (nI 0)), (0, .ref (g 18 0)), (1, .int (nI q))] dX7_deliver_41 rfl (by decide) rfl ?_
        refine g_iconst 43 (nI 0) dX7_deliver_42 rfl rfl ?_
        refine g_istore_n 44 [(3, .int (nI 0)), (2, .int (nI 0)), (0, .ref (g 18 0)), (1, .int (nI q))] dX7_deliver_43 rfl (by decide) rfl ?_
        have L44 : ∀ k, k ≤ a 0 3 → ∀ (B : Mm) (v : Nat), RM (B.1 18 12) (hl a q k) → v + 1 = max 1 (ym a q k) → F12 18 N B → G l D g ca md_X7_deliver 44 [(3, .int (nI k)), (2, .int (nI v)), (0, .ref (g 18 0)), (1, .int (nI q))] [] B (Ri (fun r M1 => r = (S_deliver (a, m, h) (nI q)).1 ∧ MY M1 (S_deliver (a, m, h) (nI q)).2 ∧ FA M M1)) := by
          refine upto ?_
          intro k hk ih44 B v hR hv hF
          have hIk : Iv (hl a q k) := hl_Iv hI
          have e3 : hl a q k 0 3 = a 0 3 := hl_ne (by omega)
          refine g_iload_n 45 0 dX7_deliver_44 rfl rfl ?_
          refine g_aload_n 46 2 dX7_deliver_45 rfl rfl ?_
          refine g_geta 49 12 dX7_deliver_46 rfl fX7_64 rfl (by decide) rfl rfl ?_
          refine g_iconst 50 (nI 3) dX7_deliver_49 rfl rfl ?_
          refine g_iald 51 (nI (a 0 3)) dX7_deliver_50 rfl rfl (by decide) rfl (by decide) (by omega) ((hR.sc (by decide)).trans (congrArg nI e3)) ?_
          refine g_icmpN_ge 111 54 dX7_deliver_51 rfl rfl (by omega) (by omega) (fun c51 => ?_) (fun c51 => ?_)
          · refine g_aload_n 112 2 dX7_deliver_111 rfl rfl ?_
            refine g_iload_n 113 3 dX7_deliver_112 rfl rfl ?_
            obtain rfl : k = a 0 3 := by omega
            refine g_callVi 116 md_X7_frees [.int (nI q)] [] dX7_deliver_113 rfl e_X7_deliver_302 rfl (by decide) rfl rfl (Nat.le_of_ble_eq_true rfl) (c_X7_frees hR hIk q (by rw [hl_ne (by omega)]; exact hq) (fun p h1 h2 => hl_res.trans (res_0 hr (by omega) (by rw [e3] at h1; omega)))) (fun r113 C h113 => ?_)
            obtain ⟨rfl, hR2, hF2⟩ := h113
            rw [show ro (hl a q (a 0 3)) q = ro a q from by unfold ro; rw [e3]; exact fb_sm_cong (fun p _ => hl_res)]
            have hyp : 0 < ym a q (a 0 3) := ym_pos (by omega)
            have hR4 := RM_set (v := ro a q) (RM_set (v := 1) hR2 (PosO (p := q) (j := 4) (j' := 18) (by omega) (by decide) rfl)) (PosO (p := q) (j := 5) (j' := 19) (by omega) (by decide) rfl)
            have hI4 : Iv (ua (ua (frees (hl a q (a 0 3)) q) 18 q 1) 19 q (ro a q)) := Iv_ua (clo_Iv (q := q) (s := 1) hIk (by decide) (by decide)) (by omega)
            have e14 : ua (ua (frees (hl a q (a 0 3)) q) 18 q 1) 19 q (ro a q) 14 q = a 14 q := by rw [ua_ne (by omega), ua_ne (by omega), frees_lo _ _ _ _ (by omega), hl_ne (by omega)]
            have e15 : ua (ua (frees (hl a q (a 0 3)) q) 18 q 1) 19 q (ro a q) 15 q = a 15 q := by rw [ua_ne (by omega), ua_ne (by omega), frees_lo _ _ _ _ (by omega), hl_ne (by omega)]
            have e04 : ua (ua (frees (hl a q (a 0 3)) q) 18 q 1) 19 q (ro a q) 0 4 = a 0 4 := by rw [ua_ne (by omega), ua_ne (by omega), frees_lo _ _ _ _ (by omega), hl_ne (by omega)]
            have hoq := hI.ord hq
            refine g_istore_n 117 [(3, .int (nI (ro a q))), (2, .int (nI v)), (0, .ref (g 18 0)), (1, .int (nI q))] dX7_deliver_116 rfl (by decide) rfl ?_
            refine g_aload_n 118 2 dX7_deliver_117 rfl rfl ?_
            refine g_geta 121 12 dX7_deliver_118 rfl fX7_64 rfl (by decide) rfl rfl ?_
            refine g_sipush 124 (nI 133) dX7_deliver_121 rfl rfl ?_
            refine g_bipush 126 (nI 6) dX7_deliver_124 rfl rfl ?_
            refine g_iload_n 127 3 dX7_deliver_126 rfl rfl ?_
            refine g_imul 128 (nI (6 * q)) dX7_deliver_127 rfl (pk_mul 6 q) ?_
            refine g_iadd 129 (nI (133 + (6 * q))) dX7_deliver_128 rfl (nI_add 133 (6 * q)) ?_
            refine g_iconst 130 (nI 4) dX7_deliver_129 rfl rfl ?_
            refine g_iadd 131 (nI ((133 + (6 * q)) + 4)) dX7_deliver_130 rfl (nI_add (133 + (6 * q)) 4) ?_
            refine g_iconst 132 (nI 1) dX7_deliver_131 rfl rfl ?_
            refine g_iast 133 dX7_deliver_132 rfl rfl (by decide) rfl (by decide) (by omega) ?_
            refine g_aload_n 134 2 dX7_deliver_133 rfl rfl ?_
            refine g_geta 137 12 dX7_deliver_134 rfl fX7_64 rfl (by decide) rfl rfl ?_
            refine g_sipush 140 (nI 133) dX7_deliver_137 rfl rfl ?_
            refine g_bipush 142 (nI 6) dX7_deliver_140 rfl rfl ?_
            refine g_iload_n 143 3 dX7_deliver_142 rfl rfl ?_
            refine g_imul 144 (nI (6 * q)) dX7_deliver_143 rfl (pk_mul 6 q) ?_
            refine g_iadd 145 (nI (133 + (6 * q))) dX7_deliver_144 rfl (nI_add 133 (6 * q)) ?_
            refine g_iconst 146 (nI 5) dX7_deliver_145 rfl rfl ?_
            refine g_iadd 147 (nI ((133 + (6 * q)) + 5)) dX7_deliver_146 rfl (nI_add (133 + (6 * q)) 5) ?_
            refine g_iload_n 148 0 dX7_deliver_147 rfl rfl ?_
            refine g_iast 149 dX7_deliver_148 rfl rfl (by decide) rfl (by decide) (by omega) ?_
            refine g_aload_n 150 2 dX7_deliver_149 rfl rfl ?_
            refine g_geta 153 12 dX7_deliver_150 rfl fX7_64 rfl (by decide) rfl rfl ?_
            refine g_bipush 155 (nI 7) dX7_deliver_153 rfl rfl ?_
            refine g_iconst 156 (nI 5) dX7_deliver_155 rfl rfl ?_
            refine g_aload_n 157 2 dX7_deliver_156 rfl rfl ?_
            refine g_iload_n 158 3 dX7_deliver_157 rfl rfl ?_
            refine g_iconst 159 (nI 0) dX7_deliver_158 rfl rfl ?_
            refine g_callVi 162 md_X7_ordered [.int (nI q), .int (nI 0)] [.int (nI 5), .int (nI 7), .ref (g 18 12)] dX7_deliver_159 rfl e_X7_deliver_169 rfl (by decide) rfl rfl (Nat.le_of_ble_eq_true rfl) (c_X7_ordered hR4 hI4 q 0 14 (by rw [e04]; exact hq) (by decide) rfl) (fun r159 M159 h159 => ?_)
            obtain ⟨rfl, h159⟩ := h159
            have h159 := h159.symm
            subst h159
            rw [e14]
            refine g_imul 163 (nI (5 * (a 14 q))) dX7_deliver_162 rfl (pk_mul 5 (a 14 q)) ?_
            refine g_iadd 164 (nI (7 + (5 * (a 14 q)))) dX7_deliver_163 rfl (nI_add 7 (5 * (a 14 q))) ?_
            refine g_iconst 165 (nI 1) dX7_deliver_164 rfl rfl ?_
            refine g_iadd 166 (nI ((7 + (5 * (a 14 q))) + 1)) dX7_deliver_165 rfl (nI_add (7 + (5 * (a 14 q))) 1) ?_
            refine g_aload_n 167 2 dX7_deliver_166 rfl rfl ?_
            refine g_iload_n 168 3 dX7_deliver_167 rfl rfl ?_
            refine g_iconst 169 (nI 1) dX7_deliver_168 rfl rfl ?_
            refine g_callVi 172 md_X7_ordered [.int (nI q), .int (nI 1)] [.int (nI ((7 + (5 * (a 14 q))) + 1)), .ref (g 18 12)] dX7_deliver_169 rfl e_X7_deliver_169 rfl (by decide) rfl rfl (Nat.le_of_ble_eq_true rfl) (c_X7_ordered hR4 hI4 q 1 15 (by rw [e04]; exact hq) (by decide) rfl) (fun r169 M169 h169 => ?_)
            obtain ⟨rfl, h169⟩ := h169
            have h169 := h169.symm
            subst h169
            rw [e15]
            refine g_iadd 173 (nI (((7 + (5 * (a 14 q))) + 1) + (a 15 q))) dX7_deliver_172 rfl (nI_add ((7 + (5 * (a 14 q))) + 1) (a 15 q)) ?_
            refine g_iload_n 174 1 dX7_deliver_173 rfl rfl ?_
            refine g_iconst 175 (nI 1) dX7_deliver_174 rfl rfl ?_
            refine g_iadd 176 (nI (v + 1)) dX7_deliver_175 rfl (nI_add v 1) ?_
            refine g_iast 177 dX7_deliver_176 rfl rfl (by decide) rfl (by decide) (by omega) ?_
            refine g_aload_n 178 2 dX7_deliver_177 rfl rfl ?_
            refine g_geta 181 12 dX7_deliver_178 rfl fX7_64 rfl (by decide) rfl rfl ?_
            refine g_bipush 183 (nI 6) dX7_deliver_181 rfl rfl ?_
            refine g_dup2 184 dX7_deliver_183 rfl rfl rfl ?_
            refine g_iald 185 (nI (a 0 6)) dX7_deliver_184 rfl rfl (by decide) rfl (by decide) (by omega) ((wr_ne (by omega)).trans ((wr_ne (by omega)).trans ((wr_ne (by omega)).trans ((hR2.sc (by decide)).trans (congrArg nI ((frees_lo _ _ _ _ (by decide)).trans (hl_ne (by omega)))))))) ?_
            refine g_iload_n 186 0 dX7_deliver_185 rfl rfl ?_
            refine g_iadd 187 (nI ((a 0 6) + (ro a q))) dX7_deliver_186 rfl (nI_add (a 0 6) (ro a q)) ?_
            refine g_iast 188 dX7_deliver_187 rfl rfl (by decide) rfl (by decide) (by omega) ?_
            refine g_iload_n 189 0 dX7_deliver_188 rfl rfl ?_
            exact g_iret rfl dX7_deliver_189 (by rw [S_deliver_at (by omega) c10 c23 (by omega)]; exact ⟨rfl, hS1.f12 (hF.tr (hF2.tr (((F12.wr.tr F12.wr).tr F12.wr).tr F12.wr))) (by show RM _ (hnd a q); unfold hnd clo; rw [show ym a q (a 0 3) = v + 1 by omega]; exact RM_set (RM_set hR4 (Pos9 (by omega) (by omega))) (Pos0 (by decide) (by decide))), FA.w0.tr (hF1.fa.tr (F12.fa (hF.tr (hF2.tr (((F12.wr.tr F12.wr).tr F12.wr).tr F12.wr)))))⟩)
          · refine g_aload_n 55 2 dX7_deliver_54 rfl rfl ?_
            refine g_iload_n 56 0 dX7_deliver_55 rfl rfl ?_
            refine g_iload_n 57 3 dX7_deliver_56 rfl rfl ?_
            refine g_callVi 60 md_X7_cell [.int (nI k), .int (nI q)] [] dX7_deliver_57 rfl e_X7_deliver_173 rfl (by decide) rfl rfl (Nat.le_of_ble_eq_true rfl) (c_X7_cell hR hIk k q (by omega) (by omega)) (fun r57 M57 h57 => ?_)
            obtain ⟨rfl, h57⟩ := h57
            have h57 := h57.symm
            subst h57
            rw [hl_res]
            refine g_ifN_ne 66 63 dX7_deliver_60 rfl rfl (by have := hrs k (by omega); have := (hI.lot (l := k) (by omega)).2.2.1; omega) (fun c60 => ?_) (fun c60 => ?_)
            · refine g_aload_n 67 2 dX7_deliver_66 rfl rfl ?_
              refine g_geta 70 12 dX7_deliver_67 rfl fX7_64 rfl (by decide) rfl rfl ?_
              refine g_bipush 72 (nI 37) dX7_deliver_70 rfl rfl ?_
              refine g_iconst 73 (nI 4) dX7_deliver_72 rfl rfl ?_
              refine g_iload_n 74 0 dX7_deliver_73 rfl rfl ?_
              refine g_imul 75 (nI (4 * k)) dX7_deliver_74 rfl (pk_mul 4 k) ?_
              refine g_iadd 76 (nI (37 + (4 * k))) dX7_deliver_75 rfl (nI_add 37 (4 * k)) ?_
              refine g_iconst 77 (nI 2) dX7_deliver_76 rfl rfl ?_
              refine g_iadd 78 (nI ((37 + (4 * k)) + 2)) dX7_deliver_77 rfl (nI_add (37 + (4 * k)) 2) ?_
              refine g_dup2 79 dX7_deliver_78 rfl rfl rfl ?_
              refine g_iald 80 (nI (a 12 k)) dX7_deliver_79 rfl rfl (by decide) rfl (by decide) (by omega) ((hR.lot (j := 2) (j' := 12) (by omega) (by decide) rfl).trans (congrArg nI (hl_ne (by omega)))) ?_
              refine g_aload_n 81 2 dX7_deliver_80 rfl rfl ?_
              refine g_iload_n 82 0 dX7_deliver_81 rfl rfl ?_
              refine g_iload_n 83 3 dX7_deliver_82 rfl rfl ?_
              refine g_callVi 86 md_X7_cell [.int (nI k), .int (nI q)] [.int (nI (a 12 k)), .int (nI ((37 + (4 * k)) + 2)), .ref (g 18 12)] dX7_deliver_83 rfl e_X7_deliver_173 rfl (by decide) rfl rfl (Nat.le_of_ble_eq_true rfl) (c_X7_cell hR hIk k q (by omega) (by omega)) (fun r83 M83 h83 => ?_)
              obtain ⟨rfl, h83⟩ := h83
              have h83 := h83.symm
              subst h83
              rw [hl_res]
              refine g_isub 87 (nI (a 12 k - res a k q)) dX7_deliver_86 rfl (pk_sub (hrs k (by omega))) ?_
              refine g_iast 88 dX7_deliver_87 rfl rfl (by decide) rfl (by decide) (by omega) ?_
              have hR3 := RM_set (v := a 12 k - res a k q) hR (PosL (p := k) (j := 2) (j' := 12) (by omega) (by decide) rfl)
              rw [hl_ua] at hR3
              have hIk3 : Iv (hl a q (k + 1)) := hl_Iv hI
              have e33 : hl a q (k + 1) 0 3 = a 0 3 := hl_ne (by omega)
              have h11 := (hI.lot (l := k) (by omega)).2.1
              refine g_aload_n 89 2 dX7_deliver_88 rfl rfl ?_
              refine g_iload_n 90 0 dX7_deliver_89 rfl rfl ?_
              refine g_iconst 91 (nI 1) dX7_deliver_90 rfl rfl ?_
              refine g_callVi 94 md_X7_lies [.int (nI k), .int (nI 1)] [] dX7_deliver_91 rfl e_X7_deliver_176 rfl (by decide) rfl rfl (Nat.le_of_ble_eq_true rfl) (c_X7_lies hR3 hIk3 k 1 11 (by rw [e33]; omega) (by decide) rfl) (fun r91 M91 h91 => ?_)
              obtain ⟨rfl, h91⟩ := h91
              have h91 := h91.symm
              subst h91
              rw [show hl a q (k + 1) 11 k = a 11 k from hl_ne (by omega)]
              refine g_iload_n 95 1 dX7_deliver_94 rfl rfl ?_
              refine g_icmpN_le 105 98 dX7_deliver_95 rfl rfl (by have := hI.lot (l := k) (by omega); omega) (by have := ym_le hI (q := q) k (by omega); omega) (fun c95 => ?_) (fun c95 => ?_)
              · refine g_iinc 108 (nI (k + 1)) [(3, .int (nI (k + 1))), (2, .int (nI v)), (0, .ref (g 18 0)), (1, .int (nI q))] dX7_deliver_105 rfl 0 rfl (nI_add k 1) (by decide) rfl ?_
                refine g_goto 44 dX7_deliver_108 rfl ?_
                exact ih44 (by omega) _ _ hR3 (by rw [ym_succ, if_pos (by omega)]; omega) (hF.tr F12.wr)
              · refine g_aload_n 99 2 dX7_deliver_98 rfl rfl ?_
                refine g_iload_n 100 0 dX7_deliver_99 rfl rfl ?_
                refine g_iconst 101 (nI 1) dX7_deliver_100 rfl rfl ?_
                refine g_callVi 104 md_X7_lies [.int (nI k), .int (nI 1)] [] dX7_deliver_101 rfl e_X7_deliver_176 rfl (by decide) rfl rfl (Nat.le_of_ble_eq_true rfl) (c_X7_lies hR3 hIk3 k 1 11 (by rw [e33]; omega) (by decide) rfl) (fun r101 M101 h101 => ?_)
                obtain ⟨rfl, h101⟩ := h101
                have h101 := h101.symm
                subst h101
                rw [show hl a q (k + 1) 11 k = a 11 k from hl_ne (by omega)]
                refine g_istore_n 105 [(2, .int (nI (a 11 k))), (3, .int (nI k)), (0, .ref (g 18 0)), (1, .int (nI q))] dX7_deliver_104 rfl (by decide) rfl ?_
                refine g_iinc 108 (nI (k + 1)) [(3, .int (nI (k + 1))), (2, .int (nI (a 11 k))), (0, .ref (g 18 0)), (1, .int (nI q))] dX7_deliver_105 rfl 1 rfl (nI_add k 1) (by decide) rfl ?_
                refine g_goto 44 dX7_deliver_108 rfl ?_
                exact ih44 (by omega) _ _ hR3 (by rw [ym_succ, if_pos (by omega)]; omega) (hF.tr F12.wr)
            · refine g_goto 105 dX7_deliver_63 rfl ?_
              refine g_iinc 108 (nI (k + 1)) [(3, .int (nI (k + 1))), (2, .int (nI v)), (0, .ref (g 18 0)), (1, .int (nI q))] dX7_deliver_105 rfl 0 rfl (nI_add k 1) (by decide) rfl ?_
              refine g_goto 44 dX7_deliver_108 rfl ?_
              exact ih44 (by omega) _ _ (by rw [hl_keep c60]; exact hR) (by rw [ym_succ, if_neg (by omega)]; exact hv) hF
        exact L44 0 (Nat.zero_le _) N 0 (by rw [hl_0]; exact hN_N) rfl F12.rf
      · refine g_iconst 35 ((-1)) dX7_deliver_34 rfl rfl ?_
        exact g_iret rfl dX7_deliver_35 (by rw [S_deliver_no (by first | (rw [c10]; exact fun z => absurd z.1 (by decide)) | (rw [nI_clamp (by omega)]; exact fun z => c23 z.2.1) | (rw [nI_clamp (by omega)]; exact fun z => z.2.2 c31))]; exact ⟨rfl, hS.w0, FA.w0⟩)

set_option maxHeartbeats 4000000 in
set_option maxRecDepth 100000 in
theorem c_X7_ends {l : Launch} {D : va_G} {g : Nat → Nat → Nat} {ca : Nat → ClassId} {M : Mm} {a : Sa} (hN : RM (M.1 18 12) a) (hO : Ok a) : Ct l D g ca md_X7_ends [.ref (g 18 0)] M (Rv (fun M1 => RM (M1.1 18 12) (edy a) ∧ F12 18 M M1)) := by
  refine Ct.of (by decide) rfl (Nat.le_of_ble_eq_true rfl) ?_
  have hI := hO.1
  have b0 := hI.today
  have b1 := hI.g4
  have b1' := hI.g1
  have b2 := hN.c6
  have b3 := hN.l24
  have b4 := hN.o40
  show G l D g ca md_X7_ends 0 [(0, .ref (g 18 0))] [] M _
  refine g_iconst 1 (nI 0) dX7_ends_0 rfl rfl ?_
  refine g_istore_n 2 [(1, .int (nI 0)), (0, .ref (g 18 0))] dX7_ends_1 rfl (by decide) rfl ?_
  have L2 : ∀ k, k ≤ a 0 4 → ∀ (B : Mm), RM (B.1 18 12) (lps a k) → F12 18 M B → G l D g ca md_X7_ends 2 [(1, .int (nI k)), (0, .ref (g 18 0))] [] B (Rv (fun M1 => RM (M1.1 18 12) (edy a) ∧ F12 18 M M1)) := by
    refine upto ?_
    intro k hk ih2 B hR hF
    obtain ⟨X, hX⟩ : ∃ X, X = lps a k := ⟨_, rfl⟩
    rw [← hX] at hR
    have hOX : Ok X := hX ▸ Ok_lps hO k
    have x0 : X 0 0 = a 0 0 := hX ▸ lps_lo a k 0 0 (by decide) (by decide)
    have x3 : X 0 3 = a 0 3 := hX ▸ lps_lo a k 0 3 (by decide) (by decide)
    have x4 : X 0 4 = a 0 4 := hX ▸ lps_lo a k 0 4 (by decide) (by decide)
    have hIX := hOX.1
    refine g_iload_n 3 0 dX7_ends_2 rfl rfl ?_
    refine g_aload_n 4 1 dX7_ends_3 rfl rfl ?_
    refine g_geta 7 12 dX7_ends_4 rfl fX7_64 rfl (by decide) rfl rfl ?_
    refine g_iconst 8 (nI 4) dX7_ends_7 rfl rfl ?_
    refine g_iald 9 (nI (a 0 4)) dX7_ends_8 rfl rfl (by decide) rfl (by decide) (by omega) ((hR.sc (by decide)).trans (congrArg nI x4)) ?_
    refine g_icmpN_ge 64 12 dX7_ends_9 rfl rfl (by omega) (by omega) (fun c9 => ?_) (fun c9 => ?_)
    · obtain ⟨b, hb⟩ : ∃ b, b = lps a (a 0 4) := ⟨_, rfl⟩
      have hRb : RM (B.1 18 12) b := by rw [hb, ← show k = a 0 4 by omega, ← hX]; exact hR
      have hOb : Ok b := hb ▸ Ok_lps hO _
      have p0 : b 0 0 = a 0 0 := hb ▸ lps_lo a _ 0 0 (by decide) (by decide)
      have p3 : b 0 3 = a 0 3 := hb ▸ lps_lo a _ 0 3 (by decide) (by decide)
      have p4 : b 0 4 = a 0 4 := hb ▸ lps_lo a _ 0 4 (by decide) (by decide)
      clear hR hX hOX x0 x3 x4 hIX
      refine g_iconst 65 (nI 0) dX7_ends_64 rfl rfl ?_
      refine g_istore_n 66 [(1, .int (nI 0)), (0, .ref (g 18 0))] dX7_ends_65 rfl (by decide) rfl ?_
      have L66 : ∀ k, k ≤ a 0 3 → ∀ (C : Mm), RM (C.1 18 12) (wos b k) → F12 18 M C → G l D g ca md_X7_ends 66 [(1, .int (nI k)), (0, .ref (g 18 0))] [] C (Rv (fun M1 => RM (M1.1 18 12) (edy a) ∧ F12 18 M M1)) := by
        refine upto ?_
        intro k hk ih66 C hR hF
        obtain ⟨Y, hY⟩ : ∃ Y, Y = wos b k := ⟨_, rfl⟩
        rw [← hY] at hR
        have hOY : Ok Y := hY ▸ Ok_wos hOb k
        have y0 : Y 0 0 = a 0 0 := hY ▸ (wos_lo b k 0 0 (by decide) (by decide) (by decide)).trans p0
        have y3 : Y 0 3 = a 0 3 := hY ▸ (wos_lo b k 0 3 (by decide) (by decide) (by decide)).trans p3
        have y4 : Y 0 4 = a 0 4 := hY ▸ (wos_lo b k 0 4 (by decide) (by decide) (by decide)).trans p4
        have hIY := hOY.1
        refine g_iload_n 67 0 dX7_ends_66 rfl rfl ?_
        refine g_aload_n 68 1 dX7_ends_67 rfl rfl ?_
        refine g_geta 71 12 dX7_ends_68 rfl fX7_64 rfl (by decide) rfl rfl ?_
        refine g_iconst 72 (nI 3) dX7_ends_71 rfl rfl ?_
        refine g_iald 73 (nI (a 0 3)) dX7_ends_72 rfl rfl (by decide) rfl (by decide) (by omega) ((hR.sc (by decide)).trans (congrArg nI y3)) ?_
        refine g_icmpN_ge 161 76 dX7_ends_73 rfl rfl (by omega) (by omega) (fun c73 => ?_) (fun c73 => ?_)
        · refine g_aload_n 162 1 dX7_ends_161 rfl rfl ?_
          refine g_geta 165 12 dX7_ends_162 rfl fX7_64 rfl (by decide) rfl rfl ?_
          refine g_iconst 166 (nI 0) dX7_ends_165 rfl rfl ?_
          refine g_dup2 167 dX7_ends_166 rfl rfl rfl ?_
          refine g_iald 168 (nI (a 0 0)) dX7_ends_167 rfl rfl (by decide) rfl (by decide) (by omega) ((hR.sc (by decide)).trans (congrArg nI y0)) ?_
          refine g_iconst 169 (nI 1) dX7_ends_168 rfl rfl ?_
          refine g_iadd 170 (nI ((a 0 0) + 1)) dX7_ends_169 rfl (nI_add (a 0 0) 1) ?_
          refine g_iast 171 dX7_ends_170 rfl rfl (by decide) rfl (by decide) (by omega) ?_
          exact g_vret rfl dX7_ends_171 ⟨by unfold edy; rw [← hb, ← show k = a 0 3 by omega, ← hY]; exact RM_set hR (Pos0 (by decide) (by decide)), hF.tr F12.wr⟩
        · refine g_aload_n 77 1 dX7_ends_76 rfl rfl ?_
          refine g_iload_n 78 0 dX7_ends_77 rfl rfl ?_
          refine g_iconst 79 (nI 1) dX7_ends_78 rfl rfl ?_
          refine g_callVi 82 md_X7_lies [.int (nI k), .int (nI 1)] [] dX7_ends_79 rfl e_X7_ends_176 rfl (by decide) rfl rfl (Nat.le_of_ble_eq_true rfl) (c_X7_lies hR hIY k 1 11 (by omega) (by decide) rfl) (fun r79 M79 h79 => ?_)
          obtain ⟨rfl, h79⟩ := h79
          have h79 := h79.symm
          subst h79
          refine g_aload_n 83 1 dX7_ends_82 rfl rfl ?_
          refine g_callVi 86 md_X7_today [] [.int (nI (Y 11 k))] dX7_ends_83 rfl e_X7_ends_192 rfl (by decide) rfl rfl (Nat.le_of_ble_eq_true rfl) (c_X7_today hR hIY) (fun r83 M83 h83 => ?_)
          obtain ⟨rfl, h83⟩ := h83
          have h83 := h83.symm
          subst h83
          rw [y0]
          refine g_icmpN_eq 92 89 dX7_ends_86 rfl rfl (by have := hIY.lot (l := k) (by omega); omega) (by omega) (fun c86 => ?_) (fun c86 => ?_)
          · refine g_aload_n 93 1 dX7_ends_92 rfl rfl ?_
            refine g_geta 96 12 dX7_ends_93 rfl fX7_64 rfl (by decide) rfl rfl ?_
            refine g_iconst 97 (nI 5) dX7_ends_96 rfl rfl ?_
            refine g_dup2 98 dX7_ends_97 rfl rfl rfl ?_
            refine g_iald 99 (nI (Y 0 5)) dX7_ends_98 rfl rfl (by decide) rfl (by decide) (by omega) (hR.sc (by decide)) ?_
            refine g_aload_n 100 1 dX7_ends_99 rfl rfl ?_
            refine g_iload_n 101 0 dX7_ends_100 rfl rfl ?_
            refine g_iconst 102 (nI 2) dX7_ends_101 rfl rfl ?_
            refine g_callVi 105 md_X7_lies [.int (nI k), .int (nI 2)] [.int (nI (Y 0 5)), .int (nI 5), .ref (g 18 12)] dX7_ends_102 rfl e_X7_ends_176 rfl (by decide) rfl rfl (Nat.le_of_ble_eq_true rfl) (c_X7_lies hR hIY k 2 12 (by omega) (by decide) rfl) (fun r102 M102 h102 => ?_)
            obtain ⟨rfl, h102⟩ := h102
            have h102 := h102.symm
            subst h102
            refine g_iadd 106 (nI ((Y 0 5) + (Y 12 k))) dX7_ends_105 rfl (nI_add (Y 0 5) (Y 12 k)) ?_
            refine g_iast 107 dX7_ends_106 rfl rfl (by decide) rfl (by decide) (by omega) ?_
            refine g_aload_n 108 1 dX7_ends_107 rfl rfl ?_
            refine g_geta 111 12 dX7_ends_108 rfl fX7_64 rfl (by decide) rfl rfl ?_
            refine g_bipush 113 (nI 37) dX7_ends_111 rfl rfl ?_
            refine g_iconst 114 (nI 4) dX7_ends_113 rfl rfl ?_
            refine g_iload_n 115 0 dX7_ends_114 rfl rfl ?_
            refine g_imul 116 (nI (4 * k)) dX7_ends_115 rfl (pk_mul 4 k) ?_
            refine g_iadd 117 (nI (37 + (4 * k))) dX7_ends_116 rfl (nI_add 37 (4 * k)) ?_
            refine g_iconst 118 (nI 2) dX7_ends_117 rfl rfl ?_
            refine g_iadd 119 (nI ((37 + (4 * k)) + 2)) dX7_ends_118 rfl (nI_add (37 + (4 * k)) 2) ?_
            refine g_iconst 120 (nI 0) dX7_ends_119 rfl rfl ?_
            refine g_iast 121 dX7_ends_120 rfl rfl (by decide) rfl (by decide) (by omega) ?_
            obtain ⟨Z, hZ⟩ : ∃ Z, (ua (ua Y 0 5 (Y 0 5 + Y 12 k)) 12 k 0) = Z := ⟨_, rfl⟩
            have hRZ := RM_set (v := 0) (RM_set (v := Y 0 5 + Y 12 k) hR (Pos0 (k := 5) (by decide) (by decide))) (PosL (p := k) (j := 2) (j' := 12) (by omega) (by decide) rfl)
            rw [hZ] at hRZ
            have zz4 : Z 0 4 = a 0 4 := by rw [← hZ, ua_ne (by omega), ua_ne (by omega)]; exact y4
            refine g_iconst 122 (nI 0) dX7_ends_121 rfl rfl ?_
            refine g_istore_n 123 [(2, .int (nI 0)), (1, .int (nI k)), (0, .ref (g 18 0))] dX7_ends_122 rfl (by decide) rfl ?_
            have L123 : ∀ n, n ≤ a 0 4 → ∀ (E : Mm), RM (E.1 18 12) (wok1 Z k n) → F12 18 C E → G l D g ca md_X7_ends 123 [(2, .int (nI n)), (1, .int (nI k)), (0, .ref (g 18 0))] [] E (Rv (fun M1 => RM (M1.1 18 12) (edy a) ∧ F12 18 M M1)) := by
              refine upto ?_
              intro n hn ih123 E hE hFE
              have z4 : wok1 Z k n 0 4 = a 0 4 := (wok1_lo Z k n 0 4 (by decide)).trans zz4
              refine g_iload_n 124 0 dX7_ends_123 rfl rfl ?_
              refine g_aload_n 125 2 dX7_ends_124 rfl rfl ?_
              refine g_geta 128 12 dX7_ends_125 rfl fX7_64 rfl (by decide) rfl rfl ?_
              refine g_iconst 129 (nI 4) dX7_ends_128 rfl rfl ?_
              refine g_iald 130 (nI (a 0 4)) dX7_ends_129 rfl rfl (by decide) rfl (by decide) (by omega) ((hE.sc (by decide)).trans (congrArg nI z4)) ?_
              refine g_icmpN_ge 155 133 dX7_ends_130 rfl rfl (by omega) (by omega) (fun c130 => ?_) (fun c130 => ?_)
              · refine g_iinc 158 (nI (k + 1)) [(1, .int (nI (k + 1))), (2, .int (nI n)), (0, .ref (g 18 0))] dX7_ends_155 rfl 1 rfl (nI_add k 1) (by decide) rfl ?_
                refine g_goto 66 dX7_ends_158 rfl ?_
                refine g_lv [0, 2] rfl ?_
                exact ih66 (by omega) _ (by rw [wos_t hY (by omega)]; exact RM_cg hE (fun j i hj => by rw [wok1_lo _ _ _ _ _ hj, ← hZ, ua_at, ua_at, wo_at, if_neg (by omega)]) (fun l q hl hq => by rw [wok1_all hOY.2.1 l q hl hq, ← hZ, show n = Y 0 4 by omega])) (hF.tr hFE)
              · refine g_aload_n 134 2 dX7_ends_133 rfl rfl ?_
                refine g_geta 137 12 dX7_ends_134 rfl fX7_64 rfl (by decide) rfl rfl ?_
                refine g_sipush 140 (nI 373) dX7_ends_137 rfl rfl ?_
                refine g_bipush 142 (nI 40) dX7_ends_140 rfl rfl ?_
                refine g_iload_n 143 1 dX7_ends_142 rfl rfl ?_
                refine g_imul 144 (nI (40 * k)) dX7_ends_143 rfl (pk_mul 40 k) ?_
                refine g_iadd 145 (nI (373 + (40 * k))) dX7_ends_144 rfl (nI_add 373 (40 * k)) ?_
                refine g_iload_n 146 0 dX7_ends_145 rfl rfl ?_
                refine g_iadd 147 (nI ((373 + (40 * k)) + n)) dX7_ends_146 rfl (nI_add (373 + (40 * k)) n) ?_
                refine g_iconst 148 (nI 0) dX7_ends_147 rfl rfl ?_
                refine g_iast 149 dX7_ends_148 rfl rfl (by decide) rfl (by decide) (by omega) ?_
                refine g_iinc 152 (nI (n + 1)) [(2, .int (nI (n + 1))), (1, .int (nI k)), (0, .ref (g 18 0))] dX7_ends_149 rfl 0 rfl (nI_add n 1) (by decide) rfl ?_
                refine g_goto 123 dX7_ends_152 rfl ?_
                exact ih123 (by omega) _ (by rw [← wok1_ua (by omega)]; exact RM_set hE (PosR (by omega) (by omega))) (hFE.tr F12.wr)
            exact L123 0 (Nat.zero_le _) _ (by rw [wok1_0]; exact hRZ) (F12.wr.tr F12.wr)
          · refine g_goto 155 dX7_ends_89 rfl ?_
            refine g_iinc 158 (nI (k + 1)) [(1, .int (nI (k + 1))), (0, .ref (g 18 0))] dX7_ends_155 rfl 0 rfl (nI_add k 1) (by decide) rfl ?_
            refine g_goto 66 dX7_ends_158 rfl ?_
            exact ih66 (by omega) _ (by rw [wos_f hY (by omega)]; exact hR) hF
      exact L66 0 (Nat.zero_le _) B hRb hF
    · refine g_aload_n 13 1 dX7_ends_12 rfl rfl ?_
      refine g_iload_n 14 0 dX7_ends_13 rfl rfl ?_
      refine g_callVi 17 md_X7_isOpen [.int (nI k)] [] dX7_ends_14 rfl e_X7_ends_189 rfl (by decide) rfl rfl (Nat.le_of_ble_eq_true rfl) (c_X7_isOpen hR hIX (nI k)) (fun r14 M14 h14 => ?_)
      obtain ⟨rfl, h14⟩ := h14
      have h14 := h14.symm
      subst h14
      rw [opn_nI (by omega) (by omega)]
      refine g_ifB_eq 58 20 dX7_ends_17 rfl rfl (fun c17 => ?_) (fun c17 => ?_)
      · refine g_iinc 61 (nI (k + 1)) [(1, .int (nI (k + 1))), (0, .ref (g 18 0))] dX7_ends_58 rfl 0 rfl (nI_add k 1) (by decide) rfl ?_
        refine g_goto 2 dX7_ends_61 rfl ?_
        exact ih2 (by omega) _ (by rw [lps_f hX (fun z => by first | exact of_decide_eq_false c17 z.1 | exact c30 (by omega))]; exact hR) hF
      · refine g_aload_n 21 1 dX7_ends_20 rfl rfl ?_
        refine g_iload_n 22 0 dX7_ends_21 rfl rfl ?_
        refine g_iconst 23 (nI 3) dX7_ends_22 rfl rfl ?_
        refine g_callVi 26 md_X7_ordered [.int (nI k), .int (nI 3)] [] dX7_ends_23 rfl e_X7_ends_169 rfl (by decide) rfl rfl (Nat.le_of_ble_eq_true rfl) (c_X7_ordered hR hIX k 3 17 (by omega) (by decide) rfl) (fun r23 M23 h23 => ?_)
        obtain ⟨rfl, h23⟩ := h23
        have h23 := h23.symm
        subst h23
        refine g_aload_n 27 1 dX7_ends_26 rfl rfl ?_
        refine g_callVi 30 md_X7_today [] [.int (nI (X 17 k))] dX7_ends_27 rfl e_X7_ends_192 rfl (by decide) rfl rfl (Nat.le_of_ble_eq_true rfl) (c_X7_today hR hIX) (fun r27 M27 h27 => ?_)
        obtain ⟨rfl, h27⟩ := h27
        have h27 := h27.symm
        subst h27
        rw [x0]
        refine g_icmpN_eq 36 33 dX7_ends_30 rfl rfl (by have := hIX.ord (o := k) (by omega); omega) (by omega) (fun c30 => ?_) (fun c30 => ?_)
        · refine g_aload_n 37 1 dX7_ends_36 rfl rfl ?_
          refine g_geta 40 12 dX7_ends_37 rfl fX7_64 rfl (by decide) rfl rfl ?_
          refine g_sipush 43 (nI 133) dX7_ends_40 rfl rfl ?_
          refine g_bipush 45 (nI 6) dX7_ends_43 rfl rfl ?_
          refine g_iload_n 46 0 dX7_ends_45 rfl rfl ?_
          refine g_imul 47 (nI (6 * k)) dX7_ends_46 rfl (pk_mul 6 k) ?_
          refine g_iadd 48 (nI (133 + (6 * k))) dX7_ends_47 rfl (nI_add 133 (6 * k)) ?_
          refine g_iconst 49 (nI 4) dX7_ends_48 rfl rfl ?_
          refine g_iadd 50 (nI ((133 + (6 * k)) + 4)) dX7_ends_49 rfl (nI_add (133 + (6 * k)) 4) ?_
          refine g_iconst 51 (nI 3) dX7_ends_50 rfl rfl ?_
          refine g_iast 52 dX7_ends_51 rfl rfl (by decide) rfl (by decide) (by omega) ?_
          refine g_aload_n 53 1 dX7_ends_52 rfl rfl ?_
          refine g_iload_n 54 0 dX7_ends_53 rfl rfl ?_
          refine g_callVi 57 md_X7_frees [.int (nI k)] [] dX7_ends_54 rfl e_X7_ends_302 rfl (by decide) rfl rfl (Nat.le_of_ble_eq_true rfl) (c_X7_frees (RM_set hR (PosO (p := k) (j := 4) (j' := 18) (by omega) (by decide) rfl)) (Iv_ua hIX (by omega)) k (by rw [ua_ne (by omega)]; omega) (fun p h1 h2 => (ua_ne (by omega)).trans (res_0 hOX.2.1 (by omega) (by rw [ua_ne (by omega)] at h1; omega)))) (fun r54 B2 h54 => ?_)
          obtain ⟨rfl, hR2, hF2⟩ := h54
          rw [frees_ua] at hR2
          refine g_pop 58 dX7_ends_57 rfl rfl ?_
          refine g_iinc 61 (nI (k + 1)) [(1, .int (nI (k + 1))), (0, .ref (g 18 0))] dX7_ends_58 rfl 0 rfl (nI_add k 1) (by decide) rfl ?_
          refine g_goto 2 dX7_ends_61 rfl ?_
          exact ih2 (by omega) _ (by rw [lps_t hX (of_decide_eq_true c17) (by omega)]; exact hR2) (hF.tr (F12.wr.tr hF2))
        · refine g_goto 58 dX7_ends_33 rfl ?_
          refine g_iinc 61 (nI (k + 1)) [(1, .int (nI (k + 1))), (0, .ref (g 18 0))] dX7_ends_58 rfl 0 rfl (nI_add k 1) (by decide) rfl ?_
          refine g_goto 2 dX7_ends_61 rfl ?_
          exact ih2 (by omega) _ (by rw [lps_f hX (fun z => by first | exact of_decide_eq_false c17 z.1 | exact c30 (by omega))]; exact hR) hF
  exact L2 0 (Nat.zero_le _) M hN F12.rf

set_option maxHeartbeats 4000000 in
set_option maxRecDepth 100000 in
theorem c_X7_pass {l : Launch} {D : va_G} {g : Nat → Nat → Nat} {ca : Nat → ClassId} {M : Mm} {a : Sa} {m : Nat} {h : Nat → Sa} (hS : MS M a m h) (hI : Iv a) (hO : Ok a) (x : Int32) : Ct l D g ca md_X7_pass [.ref (g 18 0), .int x] M (Ri (fun r M1 => r = (S_pass (a, m, h) x).1 ∧ MY M1 (S_pass (a, m, h) x).2 ∧ FA M M1)) := by
  refine Ct.of (by decide) rfl (Nat.le_of_ble_eq_true rfl) ?_
  have hN := hS.1
  have b0 := hI.today
  have b1 := hI.g4
  have b2 := hN.c6
  have b3 := hN.l24
  have b4 := hN.o40
  have b10 := hS.2.2.1
  show G l D g ca md_X7_pass 0 [(0, .ref (g 18 0)), (1, .int x)] [] M _
  refine g_aload_n 1 0 dX7_pass_0 rfl rfl ?_
  refine g_iconst 2 (nI 0) dX7_pass_1 rfl rfl ?_
  refine g_put 5 dX7_pass_2 rfl fX7_1 pX7_0 rfl (by decide) rfl ?_
  refine g_iload_n 6 1 dX7_pass_5 rfl rfl ?_
  refine g_iconst 7 (nI 1) dX7_pass_6 rfl rfl ?_
  refine g_bipush 9 (nI 99) dX7_pass_7 rfl rfl ?_
  refine g_callSi 12 md_X7_isIn [.int x, .int (nI 1), .int (nI 99)] [] dX7_pass_9 rfl e_X7_pass_101 rfl rfl (Nat.le_of_ble_eq_true rfl) (c_X7_isIn (x) (nI 1) (nI 99)) (fun r9 M9 h9 => ?_)
  obtain ⟨rfl, h9⟩ := h9
  have h9 := h9.symm
  subst h9
  refine g_ifB_eq 27 15 dX7_pass_12 rfl rfl (fun c12 => ?_) (fun c12 => ?_)
  · refine g_iconst 28 ((-1)) dX7_pass_27 rfl rfl ?_
    exact g_iret rfl dX7_pass_28 (by rw [S_pass_no (by first | (rw [c12]; exact fun z => absurd z.1 (by decide)) | (rw [nI_clamp (by omega)]; exact fun z => absurd z.2 (by omega)))]; exact ⟨rfl, hS.w0, FA.w0⟩)
  · obtain ⟨n, hn1, hn2, rfl⟩ := isin_of (by decide) (by decide) c12
    refine g_aload_n 16 0 dX7_pass_15 rfl rfl ?_
    refine g_callVi 19 md_X7_today [] [] dX7_pass_16 rfl e_X7_pass_192 rfl (by decide) rfl rfl (Nat.le_of_ble_eq_true rfl) (c_X7_today (RM_w (by decide) hN) hI) (fun r16 M16 h16 => ?_)
    obtain ⟨rfl, h16⟩ := h16
    have h16 := h16.symm
    subst h16
    refine g_iload_n 20 1 dX7_pass_19 rfl rfl ?_
    refine g_iadd 21 (nI ((a 0 0) + n)) dX7_pass_20 rfl (nI_add (a 0 0) n) ?_
    refine g_sipush 24 (nI 900) dX7_pass_21 rfl rfl ?_
    refine g_icmpN_le 29 27 dX7_pass_24 rfl rfl (by omega) (by omega) (fun c24 => ?_) (fun c24 => ?_)
    · refine g_aload_n 30 0 dX7_pass_29 rfl rfl ?_
      refine g_callVv 33 md_X7_snap [] [] dX7_pass_30 rfl e_X7_pass_299 rfl (by decide) rfl rfl (Nat.le_of_ble_eq_true rfl) (c_X7_snap hS.w0) (fun N h30 => ?_)
      obtain ⟨hS1, hF1⟩ := h30
      have hN_N := hS1.1
      refine g_iconst 34 (nI 0) dX7_pass_33 rfl rfl ?_
      refine g_istore_n 35 [(2, .int (nI 0)), (0, .ref (g 18 0)), (1, .int (nI n))] dX7_pass_34 rfl (by decide) rfl ?_
      have L35 : ∀ k, k ≤ n → ∀ (B : Mm), RM (B.1 18 12) (eds a k) → F12 18 N B → G l D g ca md_X7_pass 35 [(2, .int (nI k)), (0, .ref (g 18 0)), (1, .int (nI n))] [] B (Ri (fun r M1 => r = (S_pass (a, m, h) (nI n)).1 ∧ MY M1 (S_pass (a, m, h) (nI n)).2 ∧ FA M M1)) := by
        refine upto ?_
        intro k hk ih35 B hR hF
        refine g_iload_n 36 0 dX7_pass_35 rfl rfl ?_
        refine g_iload_n 37 2 dX7_pass_36 rfl rfl ?_
        refine g_icmpN_ge 50 40 dX7_pass_37 rfl rfl (by omega) (by omega) (fun c37 => ?_) (fun c37 => ?_)
        · refine g_aload_n 51 1 dX7_pass_50 rfl rfl ?_
          refine g_callVi 54 md_X7_today [] [] dX7_pass_51 rfl e_X7_pass_192 rfl (by decide) rfl rfl (Nat.le_of_ble_eq_true rfl) (c_X7_today hR (Ok_eds hO k (by omega)).1) (fun r51 M51 h51 => ?_)
          obtain ⟨rfl, h51⟩ := h51
          have h51 := h51.symm
          subst h51
          rw [eds_t]
          exact g_iret rfl dX7_pass_54 (by rw [S_pass_at (by omega) c12 (by omega), ← show k = n by omega]; exact ⟨rfl, hS1.f12 hF hR, FA.w0.tr (hF1.fa.tr hF.fa)⟩)
        · refine g_aload_n 41 1 dX7_pass_40 rfl rfl ?_
          refine g_callVv 44 md_X7_ends [] [] dX7_pass_41 rfl e_X7_pass_305 rfl (by decide) rfl rfl (Nat.le_of_ble_eq_true rfl) (c_X7_ends hR (Ok_eds hO k (by omega))) (fun B2 h41 => ?_)
          obtain ⟨hR2, hF2⟩ := h41
          refine g_iinc 47 (nI (k + 1)) [(2, .int (nI (k + 1))), (0, .ref (g 18 0)), (1, .int (nI n))] dX7_pass_44 rfl 0 rfl (nI_add k 1) (by decide) rfl ?_
          refine g_goto 35 dX7_pass_47 rfl ?_
          exact ih35 (by omega) _ hR2 (hF.tr hF2)
      exact L35 0 (Nat.zero_le _) N hN_N F12.rf
    · refine g_iconst 28 ((-1)) dX7_pass_27 rfl rfl ?_
      exact g_iret rfl dX7_pass_28 (by rw [S_pass_no (by first | (rw [c12]; exact fun z => absurd z.1 (by decide)) | (rw [nI_clamp (by omega)]; exact fun z => absurd z.2 (by omega)))]; exact ⟨rfl, hS.w0, FA.w0⟩)
