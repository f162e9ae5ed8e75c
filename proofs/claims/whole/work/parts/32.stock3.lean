set_option maxHeartbeats 4000000 in
set_option maxRecDepth 100000 in
theorem c_X2_close {l : Launch} {D : va_G} {g : Nat → Nat → Nat} {ca : Nat → ClassId} {M : Mm} {o : Nat} {a : Sa} (hko : kd o = 2) (hS : RP (M.1 o) a) (hI : Iv a) (hR : RR (M.1 o) a) (hr : Ir a) (hb : Ib a) (q s : Nat) (hq : q < a 0 4) (hs : s < 4) : Ct l D g ca md_X2_close [.ref (g o 0), .int (nI q), .int (nI s)] M (Ri (fun r M1 => r = nI (fb_sm (fun p => res a p q) (a 0 3)) ∧ RP (M1.1 o) (clo a q s) ∧ RR (M1.1 o) (clo a q s) ∧ Fo o M M1)) := by
  refine Ct.of (by decide) rfl (Nat.le_of_ble_eq_true rfl) ?_
  have b2 := hS.c6
  have b3 := hS.l24
  have b4 := hS.o41
  have b0 := hI.today
  have b1 := hI.g4
  have b1' := hI.g1
  have b5 := hr.2
  show G l D g ca md_X2_close 0 [(0, .ref (g o 0)), (1, .int (nI q)), (2, .int (nI s))] [] M _
  refine g_iconst 1 (nI 0) dX2_close_0 rfl rfl ?_
  refine g_istore_n 2 [(3, .int (nI 0)), (0, .ref (g o 0)), (1, .int (nI q)), (2, .int (nI s))] dX2_close_1 rfl (by decide) rfl ?_
  refine g_iconst 3 (nI 0) dX2_close_2 rfl rfl ?_
  refine g_istore 5 [(4, .int (nI 0)), (3, .int (nI 0)), (0, .ref (g o 0)), (1, .int (nI q)), (2, .int (nI s))] dX2_close_3 rfl (by decide) rfl ?_
  have L5 : ∀ k, k ≤ a 0 3 → ∀ (N : Mm) (v : Nat), F20 o M N → RR (N.1 o) (frk a q k) → v = fb_sm (fun p => res a p q) k → G l D g ca md_X2_close 5 [(4, .int (nI k)), (3, .int (nI v)), (0, .ref (g o 0)), (1, .int (nI q)), (2, .int (nI s))] [] N (Ri (fun r M1 => r = nI (fb_sm (fun p => res a p q) (a 0 3)) ∧ RP (M1.1 o) (clo a q s) ∧ RR (M1.1 o) (clo a q s) ∧ Fo o M M1)) := by
    refine upto ?_
    intro k hk ih5 N v hF hRN hv
    have hSa := hF.rp (a := a) (fun _ _ _ => rfl) hS
    have hSN := hF.rp (frk_lo a q k) hS
    refine g_iload 7 0 dX2_close_5 rfl rfl ?_
    refine g_aload_n 8 2 dX2_close_7 rfl rfl ?_
    refine g_get 11 (nI (a 0 3)) dX2_close_8 rfl fX2_61 hko (by decide) rfl (hSa.sc (by decide)) ?_
    refine g_icmpN_ge 30 14 dX2_close_11 rfl rfl (by omega) (by omega) (fun c11 => ?_) (fun c11 => ?_)
    · refine g_aload_n 31 2 dX2_close_30 rfl rfl ?_
      refine g_geta 34 18 dX2_close_31 rfl fX2_42 hko (by decide) rfl rfl ?_
      refine g_iload_n 35 3 dX2_close_34 rfl rfl ?_
      refine g_iload_n 36 4 dX2_close_35 rfl rfl ?_
      refine g_iast 37 dX2_close_36 rfl hko (by decide) rfl (by decide) (by omega) ?_
      refine g_iload_n 38 1 dX2_close_37 rfl rfl ?_
      exact g_iret rfl dX2_close_38 ⟨by rw [hv, show k = a 0 3 by omega], clo_RP hSa (fun c i hc hne => wr_ne (by omega)) wr_eq, clo_RR (B := N.1 o) b5 (by rw [show k = a 0 3 by omega, frk_all hr (by omega)] at hRN; exact hRN) (fun i => wr_ne (by omega)), hF.fo.tr Fo.wr⟩
    · refine g_iload_n 15 1 dX2_close_14 rfl rfl ?_
      refine g_aload_n 16 2 dX2_close_15 rfl rfl ?_
      refine g_iload 18 0 dX2_close_16 rfl rfl ?_
      refine g_iload_n 19 3 dX2_close_18 rfl rfl ?_
      refine g_callVi 22 md_X2_release [.int (nI k), .int (nI q)] [.int (nI v)] dX2_close_19 rfl e_X2_close_106 hko (by decide) rfl rfl (Nat.le_of_ble_eq_true rfl) (c_X2_release hko hSN (Iv_of (frk_lo a q k) hI) hRN (frk_Ir hr) k q (by rw [frk_lo a q k 0 3 (by omega)]; omega) (by rw [frk_lo a q k 0 4 (by omega)]; omega) (by have := frk_Ib (q := q) (k := k) hb k q (by omega); omega)) (fun r19 N2 h19 => ?_)
      obtain ⟨rfl, hR2, hF2⟩ := h19
      rw [frk_ua (by omega)] at hR2
      refine g_top (nI (res a k q)) (by rw [frk_res a (by omega), if_neg (by omega)]) ?_
      refine g_iadd 23 (nI (v + (res a k q))) dX2_close_22 rfl (nI_add v (res a k q)) ?_
      refine g_istore_n 24 [(3, .int (nI (v + (res a k q)))), (4, .int (nI k)), (0, .ref (g o 0)), (1, .int (nI q)), (2, .int (nI s))] dX2_close_23 rfl (by decide) rfl ?_
      refine g_iinc 27 (nI (k + 1)) [(4, .int (nI (k + 1))), (3, .int (nI (v + (res a k q)))), (0, .ref (g o 0)), (1, .int (nI q)), (2, .int (nI s))] dX2_close_24 rfl 1 rfl (nI_add k 1) (by decide) rfl ?_
      refine g_goto 5 dX2_close_27 rfl ?_
      exact ih5 (by omega) _ _ (hF.tr hF2) hR2 (by rw [fb_sm_succ, hv])
  exact L5 0 (Nat.zero_le _) M 0 F20.rf (by rw [frk_0]; exact hR) rfl

set_option maxHeartbeats 4000000 in
set_option maxRecDepth 100000 in
theorem c_X2_releaseUnfit {l : Launch} {D : va_G} {g : Nat → Nat → Nat} {ca : Nat → ClassId} {M : Mm} {o : Nat} {a : Sa} (hko : kd o = 2) (hS : RP (M.1 o) a) (hI : Iv a) (hR : RR (M.1 o) a) (hr : Ir a) (hb : Ib a) (p : Nat) (hp : p < a 0 3) : Ct l D g ca md_X2_releaseUnfit [.ref (g o 0), .int (nI p)] M (Ri (fun r M1 => r = nI (unsum a p (a 0 4)) ∧ RR (M1.1 o) (unk a p (a 0 4)) ∧ F20 o M M1)) := by
  refine Ct.of (by decide) rfl (Nat.le_of_ble_eq_true rfl) ?_
  have b2 := hS.c6
  have b3 := hS.l24
  have b4 := hS.o41
  have b0 := hI.today
  have b1 := hI.g4
  have b1' := hI.g1
  have b5 := hr.2
  show G l D g ca md_X2_releaseUnfit 0 [(0, .ref (g o 0)), (1, .int (nI p))] [] M _
  refine g_iconst 1 (nI 0) dX2_releaseUnfit_0 rfl rfl ?_
  refine g_istore_n 2 [(2, .int (nI 0)), (0, .ref (g o 0)), (1, .int (nI p))] dX2_releaseUnfit_1 rfl (by decide) rfl ?_
  refine g_iconst 3 (nI 0) dX2_releaseUnfit_2 rfl rfl ?_
  refine g_istore_n 4 [(3, .int (nI 0)), (2, .int (nI 0)), (0, .ref (g o 0)), (1, .int (nI p))] dX2_releaseUnfit_3 rfl (by decide) rfl ?_
  have L4 : ∀ k, k ≤ a 0 4 → ∀ (N : Mm) (v : Nat), F20 o M N → RR (N.1 o) (unk a p k) → v = unsum a p k → G l D g ca md_X2_releaseUnfit 4 [(3, .int (nI k)), (2, .int (nI v)), (0, .ref (g o 0)), (1, .int (nI p))] [] N (Ri (fun r M1 => r = nI (unsum a p (a 0 4)) ∧ RR (M1.1 o) (unk a p (a 0 4)) ∧ F20 o M M1)) := by
    refine upto ?_
    intro k hk ih4 N v hF hRN hv
    have hSa := hF.rp (a := a) (fun _ _ _ => rfl) hS
    have hSN := hF.rp (unk_lo a p k) hS
    refine g_iload_n 5 0 dX2_releaseUnfit_4 rfl rfl ?_
    refine g_aload_n 6 2 dX2_releaseUnfit_5 rfl rfl ?_
    refine g_get 9 (nI (a 0 4)) dX2_releaseUnfit_6 rfl fX2_64 hko (by decide) rfl (hSa.sc (by decide)) ?_
    refine g_icmpN_ge 36 12 dX2_releaseUnfit_9 rfl rfl (by omega) (by omega) (fun c9 => ?_) (fun c9 => ?_)
    · refine g_iload_n 37 1 dX2_releaseUnfit_36 rfl rfl ?_
      exact g_iret rfl dX2_releaseUnfit_37 ⟨by rw [hv, show k = a 0 4 by omega], by rw [show k = a 0 4 by omega] at hRN; exact hRN, hF⟩
    · refine g_aload_n 13 2 dX2_releaseUnfit_12 rfl rfl ?_
      refine g_iload_n 14 3 dX2_releaseUnfit_13 rfl rfl ?_
      refine g_iload_n 15 0 dX2_releaseUnfit_14 rfl rfl ?_
      refine g_callVi 18 md_X2_fits [.int (nI p), .int (nI k)] [] dX2_releaseUnfit_15 rfl e_X2_releaseUnfit_113 hko (by decide) rfl rfl (Nat.le_of_ble_eq_true rfl) (c_X2_fits hko hSa hI k p (by omega) (by omega)) (fun r15 M15 h15 => ?_)
      obtain ⟨rfl, h15⟩ := h15
      have h15 := h15.symm
      subst h15
      refine g_ifB_ne 30 21 dX2_releaseUnfit_18 rfl rfl (fun c18 => ?_) (fun c18 => ?_)
      · refine g_iinc 33 (nI (k + 1)) [(3, .int (nI (k + 1))), (2, .int (nI v)), (0, .ref (g o 0)), (1, .int (nI p))] dX2_releaseUnfit_30 rfl 0 rfl (nI_add k 1) (by decide) rfl ?_
        refine g_goto 4 dX2_releaseUnfit_33 rfl ?_
        exact ih4 (by omega) _ _ hF (by rw [unk_keep c18]; exact hRN) (by unfold unsum; rw [fb_sm_succ, if_pos c18, hv]; rfl)
      · refine g_iload_n 22 1 dX2_releaseUnfit_21 rfl rfl ?_
        refine g_aload_n 23 2 dX2_releaseUnfit_22 rfl rfl ?_
        refine g_iload_n 24 3 dX2_releaseUnfit_23 rfl rfl ?_
        refine g_iload_n 25 0 dX2_releaseUnfit_24 rfl rfl ?_
        refine g_callVi 28 md_X2_release [.int (nI p), .int (nI k)] [.int (nI v)] dX2_releaseUnfit_25 rfl e_X2_releaseUnfit_106 hko (by decide) rfl rfl (Nat.le_of_ble_eq_true rfl) (c_X2_release hko hSN (Iv_of (unk_lo a p k) hI) hRN (unk_Ir hr) p k (by rw [unk_lo a p k 0 3 (by omega)]; omega) (by rw [unk_lo a p k 0 4 (by omega)]; omega) (by have := unk_Ib (p := p) (k := k) hb p k (by omega); omega)) (fun r25 N2 h25 => ?_)
        obtain ⟨rfl, hR2, hF2⟩ := h25
        rw [unk_ua (by omega) c18] at hR2
        refine g_top (nI (res a p k)) (by rw [unk_res a (by omega), if_neg (by omega)]) ?_
        refine g_iadd 29 (nI (v + (res a p k))) dX2_releaseUnfit_28 rfl (nI_add v (res a p k)) ?_
        refine g_istore_n 30 [(2, .int (nI (v + (res a p k)))), (3, .int (nI k)), (0, .ref (g o 0)), (1, .int (nI p))] dX2_releaseUnfit_29 rfl (by decide) rfl ?_
        refine g_iinc 33 (nI (k + 1)) [(3, .int (nI (k + 1))), (2, .int (nI (v + (res a p k)))), (0, .ref (g o 0)), (1, .int (nI p))] dX2_releaseUnfit_30 rfl 1 rfl (nI_add k 1) (by decide) rfl ?_
        refine g_goto 4 dX2_releaseUnfit_33 rfl ?_
        exact ih4 (by omega) _ _ (hF.tr hF2) hR2 (by unfold unsum; rw [fb_sm_succ, if_neg (by rw [c18]; decide), hv]; rfl)
  exact L4 0 (Nat.zero_le _) M 0 F20.rf (by rw [unk_0]; exact hR) rfl

set_option maxHeartbeats 4000000 in
set_option maxRecDepth 100000 in
theorem c_X2_handOut {l : Launch} {D : va_G} {g : Nat → Nat → Nat} {ca : Nat → ClassId} {M : Mm} {o : Nat} {a : Sa} (hko : kd o = 2) (hS : RP (M.1 o) a) (hI : Iv a) (hR : RR (M.1 o) a) (hr : Ir a) (hb : Ib a) (hs : Is a) (q : Nat) (hq : q < a 0 4) : Ct l D g ca md_X2_handOut [.ref (g o 0), .int (nI q)] M (Ri (fun r M1 => r = nI (ro a q) ∧ RP (M1.1 o) (hnd a q) ∧ RR (M1.1 o) (hnd a q) ∧ Fo o M M1)) := by
  refine Ct.of (by decide) rfl (Nat.le_of_ble_eq_true rfl) ?_
  have b2 := hS.c6
  have b3 := hS.l24
  have b4 := hS.o41
  have b0 := hI.today
  have b1 := hI.g4
  have b1' := hI.g1
  have b5 := hr.2
  show G l D g ca md_X2_handOut 0 [(0, .ref (g o 0)), (1, .int (nI q))] [] M _
  refine g_iconst 1 ((-1)) dX2_handOut_0 rfl rfl ?_
  refine g_istore_n 2 [(2, .int (-1)), (0, .ref (g o 0)), (1, .int (nI q))] dX2_handOut_1 rfl (by decide) rfl ?_
  refine g_iconst 3 (nI 0) dX2_handOut_2 rfl rfl ?_
  refine g_istore_n 4 [(3, .int (nI 0)), (2, .int (-1)), (0, .ref (g o 0)), (1, .int (nI q))] dX2_handOut_3 rfl (by decide) rfl ?_
  have L4 : ∀ k, k ≤ a 0 3 → ∀ (N : Mm) (y : Nat), F12 o M N → RP (N.1 o) (hl a q k) → RR (N.1 o) (hl a q k) → y = ym a q k → G l D g ca md_X2_handOut 4 [(3, .int (nI k)), (2, .int (nI y - 1)), (0, .ref (g o 0)), (1, .int (nI q))] [] N (Ri (fun r M1 => r = nI (ro a q) ∧ RP (M1.1 o) (hnd a q) ∧ RR (M1.1 o) (hnd a q) ∧ Fo o M M1)) := by
    refine upto ?_
    intro k hk ih4 N y hF hSN hRN hy
    have hy9 : y ≤ 1000 := by rw [hy]; exact ym_le hI k (by omega)
    refine g_iload_n 5 0 dX2_handOut_4 rfl rfl ?_
    refine g_aload_n 6 2 dX2_handOut_5 rfl rfl ?_
    refine g_get 9 (nI (a 0 3)) dX2_handOut_6 rfl fX2_61 hko (by decide) rfl ((hF.1 _ _ _ (by omega)).trans (hS.sc (by decide))) ?_
    refine g_icmpN_ge 53 12 dX2_handOut_9 rfl rfl (by first | omega | (have := hb k q (by omega); omega)) (by first | omega | (have := hb k q (by omega); omega)) (fun c9 => ?_) (fun c9 => ?_)
    · refine g_aload_n 54 2 dX2_handOut_53 rfl rfl ?_
      refine g_iload_n 55 3 dX2_handOut_54 rfl rfl ?_
      refine g_iconst 56 (nI 1) dX2_handOut_55 rfl rfl ?_
      have hkk : k = a 0 3 := by omega
      rw [hkk] at hSN hRN hy
      refine g_callVi 59 md_X2_close [.int (nI q), .int (nI 1)] [] dX2_handOut_56 rfl e_X2_handOut_120 hko (by decide) rfl rfl (Nat.le_of_ble_eq_true rfl) (c_X2_close hko hSN (hl_Iv hI) hRN (hl_Ir hr) (hl_Ib hb) q 1 (by rw [hl_ne (by omega)]; omega) (by decide)) (fun r56 N2 h56 => ?_)
      obtain ⟨rfl, hS2, hR2, hF2⟩ := h56
      refine g_top (nI (ro a q)) (by rw [hl_ne (by omega)]; rfl) ?_
      refine g_istore_n 60 [(3, .int (nI (ro a q))), (2, .int (nI y - 1)), (0, .ref (g o 0)), (1, .int (nI q))] dX2_handOut_59 rfl (by decide) rfl ?_
      refine g_aload_n 61 2 dX2_handOut_60 rfl rfl ?_
      refine g_geta 64 19 dX2_handOut_61 rfl fX2_45 hko (by decide) rfl rfl ?_
      refine g_iload_n 65 3 dX2_handOut_64 rfl rfl ?_
      refine g_iload_n 66 0 dX2_handOut_65 rfl rfl ?_
      refine g_iast 67 dX2_handOut_66 rfl hko (by decide) rfl (by decide) (by omega) ?_
      refine g_aload_n 68 2 dX2_handOut_67 rfl rfl ?_
      refine g_geta 71 9 dX2_handOut_68 rfl fX2_15 hko (by decide) rfl rfl ?_
      refine g_aload_n 72 2 dX2_handOut_71 rfl rfl ?_
      refine g_geta 75 14 dX2_handOut_72 rfl fX2_30 hko (by decide) rfl rfl ?_
      refine g_iload_n 76 3 dX2_handOut_75 rfl rfl ?_
      refine g_iald 77 (nI (a 14 q)) dX2_handOut_76 rfl hko (by decide) rfl (by decide) (by omega) ((wr_ne (by omega)).trans ((hS2.ord (by decide) (by decide) (by rw [clo_ne (by omega) (by omega), hl_ne (by omega)]; omega)).trans (by rw [clo_ne (by omega) (by omega), hl_ne (by omega)]))) ?_
      refine g_iconst 78 (nI 4) dX2_handOut_77 rfl rfl ?_
      refine g_imul 79 (nI ((a 14 q) * 4)) dX2_handOut_78 rfl (pk_mul (a 14 q) 4) ?_
      refine g_aload_n 80 2 dX2_handOut_79 rfl rfl ?_
      refine g_geta 83 15 dX2_handOut_80 rfl fX2_33 hko (by decide) rfl rfl ?_
      refine g_iload_n 84 3 dX2_handOut_83 rfl rfl ?_
      refine g_iald 85 (nI (a 15 q)) dX2_handOut_84 rfl hko (by decide) rfl (by decide) (by omega) ((wr_ne (by omega)).trans ((hS2.ord (by decide) (by decide) (by rw [clo_ne (by omega) (by omega), hl_ne (by omega)]; omega)).trans (by rw [clo_ne (by omega) (by omega), hl_ne (by omega)]))) ?_
      refine g_iadd 86 (nI (((a 14 q) * 4) + (a 15 q))) dX2_handOut_85 rfl (nI_add ((a 14 q) * 4) (a 15 q)) ?_
      refine g_iload_n 87 1 dX2_handOut_86 rfl rfl ?_
      refine g_iast 88 dX2_handOut_87 rfl hko (by decide) rfl (by decide) (by have := hI.ord (o := q) (by omega); omega) ?_
      refine g_aload_n 89 2 dX2_handOut_88 rfl rfl ?_
      refine g_dup 90 dX2_handOut_89 rfl rfl ?_
      refine g_get 93 (nI (a 0 6)) dX2_handOut_90 rfl fX2_70 hko (by decide) rfl ((wr_ne (by omega)).trans ((wr_ne (by omega)).trans ((hS2.sc (by decide)).trans (by rw [clo_ne (by omega) (by omega), hl_ne (by omega)])))) ?_
      refine g_iload_n 94 0 dX2_handOut_93 rfl rfl ?_
      refine g_iadd 95 (nI ((a 0 6) + (ro a q))) dX2_handOut_94 rfl (nI_add (a 0 6) (ro a q)) ?_
      refine g_put 98 dX2_handOut_95 rfl fX2_70 pX2_6 hko (by decide) rfl ?_
      refine g_iload_n 99 0 dX2_handOut_98 rfl rfl ?_
      exact g_iret rfl dX2_handOut_99 ⟨rfl, RP_ua (RP_u9 (RP_ua hS2 (by omega) (by omega) (fun c i hc hne => wr_ne (by omega)) wr_eq) (fun c i hc hne => wr_ne (by omega)) (wr_eq.trans (by rw [hy]))) (by omega) (by omega) (fun c i hc hne => wr_ne (by omega)) wr_eq, RR_cg (B := N2.1 o) (a := clo (hl a q (a 0 3)) q 1) (by unfold hnd; rw [ua_ne (by omega), ua_ne (by omega), ua_ne (by omega)]) (fun j i hj => by unfold hnd; rw [ua_ne (by omega), ua_ne (by omega), ua_ne (by omega)]) (fun i hi => by rw [wr_ne (by omega), wr_ne (by omega), wr_ne (by omega)]) hR2, ((hF.fo.tr hF2).tr Fo.wr).tr (Fo.wr.tr Fo.wr)⟩
    · refine g_aload_n 13 2 dX2_handOut_12 rfl rfl ?_
      refine g_iload_n 14 0 dX2_handOut_13 rfl rfl ?_
      refine g_iload_n 15 3 dX2_handOut_14 rfl rfl ?_
      refine g_callVi 18 md_X2_reservedFor [.int (nI k), .int (nI q)] [] dX2_handOut_15 rfl e_X2_handOut_103 hko (by decide) rfl rfl (Nat.le_of_ble_eq_true rfl) (c_X2_reservedFor hko hSN (hl_Iv hI) hRN (hl_Ir hr) k q (by rw [hl_ne (by omega)]; omega) (by rw [hl_ne (by omega)]; omega)) (fun r15 M15 h15 => ?_)
      obtain ⟨rfl, h15⟩ := h15
      have h15 := h15.symm
      subst h15
      rw [hl_res]
      refine g_istore 20 [(4, .int (nI (res a k q))), (3, .int (nI k)), (2, .int (nI y - 1)), (0, .ref (g o 0)), (1, .int (nI q))] dX2_handOut_18 rfl (by decide) rfl ?_
      refine g_iload 22 0 dX2_handOut_20 rfl rfl ?_
      refine g_ifN_le 47 25 dX2_handOut_22 rfl rfl (by first | omega | (have := hb k q (by omega); omega)) (fun c22 => ?_) (fun c22 => ?_)
      · refine g_iinc 50 (nI (k + 1)) [(3, .int (nI (k + 1))), (4, .int (nI (res a k q))), (2, .int (nI y - 1)), (0, .ref (g o 0)), (1, .int (nI q))] dX2_handOut_47 rfl 1 rfl (nI_add k 1) (by decide) rfl ?_
        refine g_goto 4 dX2_handOut_50 rfl ?_
        refine g_lv [0, 2, 3, 4] rfl ?_
        exact ih4 (by omega) _ y hF (by rw [hl_keep c22]; exact hSN) (by rw [hl_keep c22]; exact hRN) (by rw [hy, ym_succ, if_neg (by omega)])
      · have hl9 := hI.lot (l := k) (by omega)
        refine g_aload_n 26 3 dX2_handOut_25 rfl rfl ?_
        refine g_geta 29 12 dX2_handOut_26 rfl fX2_24 hko (by decide) rfl rfl ?_
        refine g_iload_n 30 1 dX2_handOut_29 rfl rfl ?_
        refine g_dup2 31 dX2_handOut_30 rfl rfl rfl ?_
        refine g_iald 32 (nI (a 12 k)) dX2_handOut_31 rfl hko (by decide) rfl (by decide) (by omega) ((hSN.lot (by decide) (by decide) (by rw [hl_ne (by omega)]; omega)).trans (by rw [hl_ne (by omega)])) ?_
        refine g_iload 34 0 dX2_handOut_32 rfl rfl ?_
        refine g_isub 35 (nI (a 12 k - res a k q)) dX2_handOut_34 rfl (pk_sub (Nat.le_trans (Nat.le_trans (Nat.le_add_left _ _) (fb_sm_part (res a k) hq)) (hs k (by omega)))) ?_
        refine g_iast 36 dX2_handOut_35 rfl hko (by decide) rfl (by decide) (by omega) ?_
        refine g_iload_n 37 2 dX2_handOut_36 rfl rfl ?_
        refine g_aload_n 38 3 dX2_handOut_37 rfl rfl ?_
        refine g_geta 41 11 dX2_handOut_38 rfl fX2_21 hko (by decide) rfl rfl ?_
        refine g_iload_n 42 1 dX2_handOut_41 rfl rfl ?_
        refine g_iald 43 (nI (a 11 k)) dX2_handOut_42 rfl hko (by decide) rfl (by decide) (by omega) ((wr_ne (by omega)).trans ((hF.1 _ _ _ (by omega)).trans (hS.lot (by decide) (by decide) (by omega)))) ?_
        refine g_mmax 46 (nI (max y (a 11 k + 1)) - 1) dX2_handOut_43 rfl ml_X2_117 (by decide) (Nat.le_of_ble_eq_true rfl) (ym_max hy9 hl9.2.1) ?_
        refine g_istore_n 47 [(2, .int (nI (max y (a 11 k + 1)) - 1)), (4, .int (nI (res a k q))), (3, .int (nI k)), (0, .ref (g o 0)), (1, .int (nI q))] dX2_handOut_46 rfl (by decide) rfl ?_
        refine g_iinc 50 (nI (k + 1)) [(3, .int (nI (k + 1))), (2, .int (nI (max y (a 11 k + 1)) - 1)), (4, .int (nI (res a k q))), (0, .ref (g o 0)), (1, .int (nI q))] dX2_handOut_47 rfl 2 rfl (nI_add k 1) (by decide) rfl ?_
        refine g_goto 4 dX2_handOut_50 rfl ?_
        refine g_lv [0, 1, 3, 4] rfl ?_
        exact ih4 (by omega) _ (max y (a 11 k + 1)) (hF.tr F12.wr) (by rw [← hl_ua]; exact RP_ua hSN (by omega) (by omega) (fun c i hc hne => wr_ne (by omega)) wr_eq) (by rw [← hl_ua]; exact RR_cg (ua_ne (by omega)) (fun j i hj => ua_nj (by omega)) (fun i hi => wr_ne (by omega)) hRN) (by rw [hy, ym_succ, if_pos c22])
  exact L4 0 (Nat.zero_le _) M 0 F12.rf (by rw [hl_0]; exact hS) (by rw [hl_0]; exact hR) rfl

set_option maxHeartbeats 4000000 in
set_option maxRecDepth 100000 in
theorem c_X2_writeOff {l : Launch} {D : va_G} {g : Nat → Nat → Nat} {ca : Nat → ClassId} {M : Mm} {o : Nat} {a : Sa} (hko : kd o = 2) (hS : RP (M.1 o) a) (hI : Iv a) (hR : RR (M.1 o) a) (hr : Ir a) (hb : Ib a) (p : Nat) (hp : p < a 0 3) : Ct l D g ca md_X2_writeOff [.ref (g o 0), .int (nI p)] M (Rv (fun M1 => RP (M1.1 o) (wo a p) ∧ RR (M1.1 o) (wo a p) ∧ Fo o M M1)) := by
  refine Ct.of (by decide) rfl (Nat.le_of_ble_eq_true rfl) ?_
  have b2 := hS.c6
  have b3 := hS.l24
  have b4 := hS.o41
  have b0 := hI.today
  have b1 := hI.g4
  have b1' := hI.g1
  have b5 := hr.2
  show G l D g ca md_X2_writeOff 0 [(0, .ref (g o 0)), (1, .int (nI p))] [] M _
  refine g_aload_n 1 0 dX2_writeOff_0 rfl rfl ?_
  refine g_dup 2 dX2_writeOff_1 rfl rfl ?_
  refine g_get 5 (nI (a 0 5)) dX2_writeOff_2 rfl fX2_67 hko (by decide) rfl (hS.sc (by decide)) ?_
  refine g_aload_n 6 0 dX2_writeOff_5 rfl rfl ?_
  refine g_geta 9 12 dX2_writeOff_6 rfl fX2_24 hko (by decide) rfl rfl ?_
  refine g_iload_n 10 1 dX2_writeOff_9 rfl rfl ?_
  refine g_iald 11 (nI (a 12 p)) dX2_writeOff_10 rfl hko (by decide) rfl (by decide) (by omega) (hS.lot (by decide) (by decide) (by omega)) ?_
  refine g_iadd 12 (nI ((a 0 5) + (a 12 p))) dX2_writeOff_11 rfl (nI_add (a 0 5) (a 12 p)) ?_
  refine g_put 15 dX2_writeOff_12 rfl fX2_67 pX2_5 hko (by decide) rfl ?_
  refine g_aload_n 16 0 dX2_writeOff_15 rfl rfl ?_
  refine g_geta 19 12 dX2_writeOff_16 rfl fX2_24 hko (by decide) rfl rfl ?_
  refine g_iload_n 20 1 dX2_writeOff_19 rfl rfl ?_
  refine g_iconst 21 (nI 0) dX2_writeOff_20 rfl rfl ?_
  refine g_iast 22 dX2_writeOff_21 rfl hko (by decide) rfl (by decide) (by omega) ?_
  refine g_iconst 23 (nI 0) dX2_writeOff_22 rfl rfl ?_
  refine g_istore_n 24 [(2, .int (nI 0)), (0, .ref (g o 0)), (1, .int (nI p))] dX2_writeOff_23 rfl (by decide) rfl ?_
  have L24 : ∀ k, k ≤ 6 → ∀ (N : Mm), F20 o (wr (wr M o 0 5 (nI (a 0 5 + a 12 p))) o 12 p (nI 0)) N → (∀ i, i < 144 → ¬ (p * 6 ≤ i ∧ i < p * 6 + k) → N.1 o 20 i = M.1 o 20 i) → (∀ c, c < k → N.1 o 20 (p * 6 + c) = nI 0) → G l D g ca md_X2_writeOff 24 [(2, .int (nI k)), (0, .ref (g o 0)), (1, .int (nI p))] [] N (Rv (fun M1 => RP (M1.1 o) (wo a p) ∧ RR (M1.1 o) (wo a p) ∧ Fo o M M1)) := by
    refine upto ?_
    intro k hk ih24 N hF h1 h2
    refine g_iload_n 25 0 dX2_writeOff_24 rfl rfl ?_
    refine g_bipush 27 (nI 6) dX2_writeOff_25 rfl rfl ?_
    refine g_icmpN_ge 48 30 dX2_writeOff_27 rfl rfl (by omega) (by omega) (fun c27 => ?_) (fun c27 => ?_)
    · exact g_vret rfl dX2_writeOff_48 ⟨wo_RP hS (fun c i hc z1 z2 => by rw [hF.1 o c i (by omega), wr_ne (by omega), wr_ne (by omega)]) (by rw [hF.1 o 0 5 (by omega), wr_ne (by omega), wr_eq]) (by rw [hF.1 o 12 p (by omega), wr_eq]), wo_RR b5 hR (fun i hi z => h1 i hi (by omega)) (fun c hc => h2 c (by omega)), (Fo.wr.tr Fo.wr).tr hF.fo⟩
    · refine g_aload_n 31 1 dX2_writeOff_30 rfl rfl ?_
      refine g_geta 34 20 dX2_writeOff_31 rfl fX2_48 hko (by decide) rfl rfl ?_
      refine g_iload_n 35 2 dX2_writeOff_34 rfl rfl ?_
      refine g_bipush 37 (nI 6) dX2_writeOff_35 rfl rfl ?_
      refine g_imul 38 (nI (p * 6)) dX2_writeOff_37 rfl (pk_mul p 6) ?_
      refine g_iload_n 39 0 dX2_writeOff_38 rfl rfl ?_
      refine g_iadd 40 (nI ((p * 6) + k)) dX2_writeOff_39 rfl (nI_add (p * 6) k) ?_
      refine g_iconst 41 (nI 0) dX2_writeOff_40 rfl rfl ?_
      refine g_iast 42 dX2_writeOff_41 rfl hko (by decide) rfl (by decide) (by omega) ?_
      refine g_iinc 45 (nI (k + 1)) [(2, .int (nI (k + 1))), (0, .ref (g o 0)), (1, .int (nI p))] dX2_writeOff_42 rfl 0 rfl (nI_add k 1) (by decide) rfl ?_
      refine g_goto 24 dX2_writeOff_45 rfl ?_
      exact ih24 (by omega) _ (hF.tr F20.wr) (fun i hi hn => by rw [wr_ne (by omega)]; exact h1 i hi (by omega)) (fun c hc => by rcases (show c = k ∨ c < k by omega) with rfl | e <;> first | exact wr_eq | (rw [wr_ne (by omega)]; exact h2 c e))
  exact L24 0 (Nat.zero_le _) _ F20.rf (fun i hi _ => by rw [wr_ne (by omega), wr_ne (by omega)]) (fun c hc => absurd hc (Nat.not_lt_zero c))
