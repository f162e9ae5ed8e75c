set_option maxHeartbeats 4000000 in
set_option maxRecDepth 100000 in
theorem c_X4_takeTokenA {l : Launch} {D : va_G} {g : Nat → Nat → Nat} {ca : Nat → ClassId} {M : Mm} {t : Nat → Nat} {n k p : Nat} (hp0 : p = 0) (hk0 : k = 0) (hK : TK M t n p) (hA : TIa M) : Ct l D g ca md_X4_takeToken [.ref (g 15 0)] M (Ri (fun r M1 => TP M t n k p r M1)) := by
  refine Ct.of (by decide) rfl (Nat.le_of_ble_eq_true rfl) ?_
  show G l D g ca md_X4_takeToken 0 [(0, .ref (g 15 0))] [] M _
  refine g_aload_n 1 0 dX4_takeToken_0 rfl rfl ?_
  refine g_get 4 (nI 0) dX4_takeToken_1 rfl fX4_44 rfl (by decide) rfl hA.1 ?_
  refine g_ifN_ne 12 7 dX4_takeToken_4 rfl rfl (by omega) (fun c4 => ?_) (fun c4 => ?_)
  · exact absurd c4 (by omega)
  · refine g_aload_n 8 0 dX4_takeToken_7 rfl rfl ?_
    refine g_callVi 11 md_X4_takeWord [] [] dX4_takeToken_8 rfl e_X4_takeToken_66 rfl (by decide) rfl rfl (Nat.le_of_ble_eq_true rfl) (c_X4_takeWord (s := 4) (ln := 0) (a := gs 0) hK hA.2.1 (by omega) (fun z => absurd z (by omega)) (by omega) (ZC_RP hA.2.2)) (fun r8 M8 h8 => ?_)
    exact g_iret rfl dX4_takeToken_11 (TP_A hp0 hk0 hA h8)

set_option maxHeartbeats 4000000 in
set_option maxRecDepth 100000 in
theorem c_X4_takeTokenW {l : Launch} {D : va_G} {g : Nat → Nat → Nat} {ca : Nat → ClassId} {M : Mm} {t : Nat → Nat} {n k p s ln : Nat} {a : Sa} (hK : TK M t n p) (hW : TIw M t n p s ln a) (h0 : tkd t n p ≠ 0) (hk : k ≤ 6 * ln) : Ct l D g ca md_X4_takeToken [.ref (g 15 0)] M (Ri (fun r M1 => TP M t n k p r M1)) := by
  refine Ct.of (by decide) rfl (Nat.le_of_ble_eq_true rfl) ?_
  have hle := cnt_le hW.2.2.2.2.2.2.1
  have hct := hW.2.2.2.2.2.2.2.1
  show G l D g ca md_X4_takeToken 0 [(0, .ref (g 15 0))] [] M _
  refine g_aload_n 1 0 dX4_takeToken_0 rfl rfl ?_
  refine g_get 4 (nI 0) dX4_takeToken_1 rfl fX4_44 rfl (by decide) rfl hW.1 ?_
  refine g_ifN_ne 12 7 dX4_takeToken_4 rfl rfl (by omega) (fun c4 => ?_) (fun c4 => ?_)
  · exact absurd c4 (by omega)
  · refine g_aload_n 8 0 dX4_takeToken_7 rfl rfl ?_
    refine g_callVi 11 md_X4_takeWord [] [] dX4_takeToken_8 rfl e_X4_takeToken_66 rfl (by decide) rfl rfl (Nat.le_of_ble_eq_true rfl) (c_X4_takeWord (s := s) (ln := ln) (a := a) hK hW.2.1 (by omega) (fun _ => hW.2.2.1) hW.2.2.2.2.1 hW.2.2.2.2.2.1.1) (fun r8 M8 h8 => ?_)
    exact g_iret rfl dX4_takeToken_11 (TP_W hW h0 hk h8)

set_option maxHeartbeats 4000000 in
set_option maxRecDepth 100000 in
theorem c_X4_takeTokenN {l : Launch} {D : va_G} {g : Nat → Nat → Nat} {ca : Nat → ClassId} {M : Mm} {t : Nat → Nat} {n k p s c ln : Nat} {a : Sa} {v : Nat → Nat} (hK : TK M t n p) (hN : TIn M t n p s c ln a v) (hk : k ≤ 6 * ln + c + 1) : Ct l D g ca md_X4_takeToken [.ref (g 15 0)] M (Ri (fun r M1 => TP M t n k p r M1)) := by
  refine Ct.of (by decide) rfl (Nat.le_of_ble_eq_true rfl) ?_
  have hN0 := hN
  obtain ⟨n1, n2, n3, n4, n5, n6, n7, n8, n9, n10⟩ := hN
  have hs4 := DR_s n9
  have h4n := nol_le (s := s)
  show G l D g ca md_X4_takeToken 0 [(0, .ref (g 15 0))] [] M _
  refine g_aload_n 1 0 dX4_takeToken_0 rfl rfl ?_
  refine g_get 4 (nI 1) dX4_takeToken_1 rfl fX4_44 rfl (by decide) rfl n1 ?_
  refine g_ifN_ne 12 7 dX4_takeToken_4 rfl rfl (by omega) (fun c4 => ?_) (fun c4 => ?_)
  · refine g_aload_n 13 0 dX4_takeToken_12 rfl rfl ?_
    refine g_get 16 (nI c) dX4_takeToken_13 rfl fX4_69 rfl (by decide) rfl n4 ?_
    refine g_aload_n 17 0 dX4_takeToken_16 rfl rfl ?_
    refine g_callVi 20 md_X4_numbersOfLine [] [.int (nI c)] dX4_takeToken_17 rfl e_X4_takeToken_72 rfl (by decide) rfl rfl (Nat.le_of_ble_eq_true rfl) (c_X4_numbersOfLine n3 (by omega)) (fun r17 M17 h17 => ?_)
    obtain ⟨rfl, h17⟩ := h17
    have h17 := h17.symm
    subst h17
    refine g_icmpN_ge 30 23 dX4_takeToken_20 rfl rfl (by omega) (by omega) (fun c20 => ?_) (fun c20 => ?_)
    · refine g_aload_n 31 0 dX4_takeToken_30 rfl rfl ?_
      have ecn : c = nol s := by omega
      refine g_callVi 34 md_X4_takeStop [] [] dX4_takeToken_31 rfl e_X4_takeToken_78 rfl (by decide) rfl rfl (Nat.le_of_ble_eq_true rfl) (c_X4_takeStop hK n2 n3 (fun i hi => n5 i (by omega)) (fun i hi => n7 i (by omega)) n8 n9) (fun r31 M31 h31 => ?_)
      exact g_iret rfl dX4_takeToken_34 (TP_S hN0 hk (by omega) h31)
    · refine g_aload_n 24 0 dX4_takeToken_23 rfl rfl ?_
      refine g_callVi 27 md_X4_takeNumber [] [] dX4_takeToken_24 rfl e_X4_takeToken_75 rfl (by decide) rfl rfl (Nat.le_of_ble_eq_true rfl) (c_X4_takeNumber (y := v 0) (a := a) n3 (by omega) (by omega) n4 (by omega) (fun z => n5 0 (by omega)) (fun z => (n7 0 (by omega)).2) (fun z => (DR_5 n9 (by omega)).1) hK) (fun r24 M24 h24 => ?_)
      refine g_goto 34 dX4_takeToken_27 rfl ?_
      exact g_iret rfl dX4_takeToken_34 (TP_N hN0 hk (by omega) h24)
  · exact absurd c4 (by omega)

set_option maxHeartbeats 4000000 in
set_option maxRecDepth 100000 in
theorem c_X4_start {l : Launch} {D : va_G} {g : Nat → Nat → Nat} {ca : Nat → ClassId} {M : Mm}  : Ct l D g ca md_X4_start [.ref (g 15 0)] M (Rv (fun M1 => TIa M1 ∧ M1.1 14 0 1 = nI 0 ∧ M1.1 15 0 7 = nI 0 ∧ FM M M1)) := by
  refine Ct.of (by decide) rfl (Nat.le_of_ble_eq_true rfl) ?_
  show G l D g ca md_X4_start 0 [(0, .ref (g 15 0))] [] M _
  refine g_aload_n 1 0 dX4_start_0 rfl rfl ?_
  refine g_geto 4 dX4_start_1 rfl fX4_24 rfl (by decide) rfl ?_
  refine g_callVv 7 md_X2_clear [] [] dX4_start_4 rfl e_X4_start_58 rfl (by decide) rfl rfl (Nat.le_of_ble_eq_true rfl) (c_X2_clear (o := 1) rfl) (fun N h4 => ?_)
  obtain ⟨z1, z2, z3, zF⟩ := h4
  refine g_aload_n 8 0 dX4_start_7 rfl rfl ?_
  refine g_geto 11 dX4_start_8 rfl fX4_20 rfl (by decide) rfl ?_
  refine g_callVv 14 md_X5_rewind [] [] dX4_start_11 rfl e_X4_start_63 rfl (by decide) rfl rfl (Nat.le_of_ble_eq_true rfl) c_X5_rewind (fun M11 h11 => ?_)
  subst h11
  refine g_aload_n 15 0 dX4_start_14 rfl rfl ?_
  refine g_iconst 16 (nI 0) dX4_start_15 rfl rfl ?_
  refine g_putz 19 dX4_start_16 rfl fX4_44 pX4_4 rfl (by decide) rfl (by decide) ?_
  refine g_aload_n 20 0 dX4_start_19 rfl rfl ?_
  refine g_iconst 21 (nI 0) dX4_start_20 rfl rfl ?_
  refine g_put 24 dX4_start_21 rfl fX4_41 pX4_6 rfl (by decide) rfl ?_
  refine g_aload_n 25 0 dX4_start_24 rfl rfl ?_
  refine g_iconst 26 (nI 0) dX4_start_25 rfl rfl ?_
  refine g_put 29 dX4_start_26 rfl fX4_31 pX4_7 rfl (by decide) rfl ?_
  exact g_vret rfl dX4_start_29 ⟨⟨(wr_ne (by omega)).trans ((wr_ne (by omega)).trans wr_eq), (wr_ne (by omega)).trans wr_eq, fun k hk => by rw [wr_ne (by omega), wr_ne (by omega), wr_ne (by omega), wr_ne (by omega)]; exact z1 k hk, fun k hk => by rw [wr_ne (by omega), wr_ne (by omega), wr_ne (by omega), wr_ne (by omega)]; exact z2 k hk, fun k hk => by rw [wr_ne (by omega), wr_ne (by omega), wr_ne (by omega), wr_ne (by omega)]; exact z3 k hk⟩, (wr_ne (by omega)).trans ((wr_ne (by omega)).trans ((wr_ne (by omega)).trans wr_eq)), wr_eq, ((((Fo.fm zF (by omega)).tr (Fo.fm (o := 14) Fo.wr (by omega))).tr (Fo.fm (o := 15) Fo.wr (by omega))).tr (Fo.fm (o := 15) Fo.wr (by omega))).tr (Fo.fm (o := 15) Fo.wr (by omega))⟩

theorem DR_le {B : Nat → Nat → Int32} {s ln : Nat} {a : Sa} (h : DR B s ln a) : ln ≤ 31 := by
  rcases h with ⟨q1, _⟩ | ⟨_, _, _, _, q, q2⟩
  · omega
  · have := cnt_le q
    omega

set_option maxHeartbeats 4000000 in
set_option maxRecDepth 100000 in
theorem c_X4_readAll {l : Launch} {D : va_G} {g : Nat → Nat → Nat} {ca : Nat → ClassId} {M : Mm} {t : Nat → Nat} {n : Nat} (hT : TC M t n) (hB : Tb t n) : Ct l D g ca md_X4_readAll [.ref (g 15 0)] M (Ri (fun r M1 => AnP M (rT t n) r M1)) := by
  refine Ct.of (by decide) rfl (Nat.le_of_ble_eq_true rfl) ?_
  show G l D g ca md_X4_readAll 0 [(0, .ref (g 15 0))] [] M _
  refine g_aload_n 1 0 dX4_readAll_0 rfl rfl ?_
  refine g_callVv 4 md_X4_start [] [] dX4_readAll_1 rfl e_X4_readAll_28 rfl (by decide) rfl rfl (Nat.le_of_ble_eq_true rfl) c_X4_start (fun N0 h1 => ?_)
  obtain ⟨s1, s2, s3, s4⟩ := h1
  refine g_iconst 5 (nI 0) dX4_readAll_4 rfl rfl ?_
  refine g_istore_n 6 [(1, .int (nI 0)), (0, .ref (g 15 0))] dX4_readAll_5 rfl (by decide) rfl ?_
  have L6 : ∀ k, k ≤ 641 → ∀ N : Mm, LI M N t n k → G l D g ca md_X4_readAll 6 [(1, .int (nI k)), (0, .ref (g 15 0))] [] N (Ri (fun r M1 => AnP M (rT t n) r M1)) := by
    refine upto ?_
    intro k hk ih6 N hL
    obtain ⟨hTN, hF, hL⟩ := hL
    rcases hL with ⟨hf, p, hp, hat, hI⟩ | ⟨f, hf0, hf3, hf, hT1, hT2⟩
    · have hle := TI_le hI
      refine g_iload_n 7 0 dX4_readAll_6 rfl rfl ?_
      refine g_sipush 10 (nI 640) dX4_readAll_7 rfl rfl ?_
      refine g_icmpN_gt 78 13 dX4_readAll_10 rfl rfl (by omega) (by omega) (fun c10 => ?_) (fun c10 => ?_)
      · exact absurd c10 (by omega)
      · refine g_aload_n 14 1 dX4_readAll_13 rfl rfl ?_
        refine g_get 17 (nI 0) dX4_readAll_14 rfl fX4_31 rfl (by decide) rfl hf ?_
        refine g_ifN_ne 78 20 dX4_readAll_17 rfl rfl (by omega) (fun c17 => ?_) (fun c17 => ?_)
        · exact absurd c17 (by omega)
        · refine g_aload_n 21 1 dX4_readAll_20 rfl rfl ?_
          refine g_geto 24 dX4_readAll_21 rfl fX4_20 rfl (by decide) rfl ?_
          refine g_callVv 27 md_X5_advance [] [] dX4_readAll_24 rfl e_X4_readAll_35 rfl (by decide) rfl rfl (Nat.le_of_ble_eq_true rfl) (c_X5_advance hTN hB hat hp) (fun N2 h24 => ?_)
          obtain ⟨ak, ap, an, av, aF⟩ := h24
          have hK2 : TK N2 t n p := ⟨ak, ap, av⟩
          have hT2 : TC N2 t n := hTN.fo aF (by decide)
          have hF2 : FM M N2 := hF.tr (Fo.fm aF (by omega))
          have hf2 : N2.1 15 0 7 = nI 0 := (aF.1 _ _ _ (by decide)).trans hf
          have hI2 : TI N2 t n k p := TI_cong (fun c i _ => aF.1 _ _ _ (by decide)) (funext (fun c => funext (fun i => aF.1 _ _ _ (by decide)))) hI
          have hkd := tkd_le (t := t) (n := n) (p := p)
          rcases hI2 with ⟨p0, k0, hA⟩ | ⟨s, ln, a, hW, hkk⟩ | ⟨s, c, ln, a, v, hN, hkk⟩
          · refine g_aload_n 28 1 dX4_readAll_27 rfl rfl ?_
            refine g_geto 31 dX4_readAll_28 rfl fX4_20 rfl (by decide) rfl ?_
            refine g_get 34 (nI (tkd t n p)) dX4_readAll_31 rfl fX4_38 rfl (by decide) rfl ak ?_
            refine g_ifN_ne 53 37 dX4_readAll_34 rfl rfl (by omega) (fun c34 => ?_) (fun c34 => ?_)
            · refine g_aload_n 54 1 dX4_readAll_53 rfl rfl ?_
              refine g_aload_n 55 1 dX4_readAll_54 rfl rfl ?_
              refine g_callVi 58 md_X4_takeToken [] [.ref (g 15 0)] dX4_readAll_55 rfl e_X4_readAll_48 rfl (by decide) rfl rfl (Nat.le_of_ble_eq_true rfl) (c_X4_takeTokenA p0 k0 hK2 hA) (fun r55 N3 h55 => ?_)
              obtain ⟨f, rfl, hf3, hFT, t0, t1⟩ := h55
              refine g_put 61 dX4_readAll_58 rfl fX4_31 pX4_7 rfl (by decide) rfl ?_
              refine g_aload_n 62 1 dX4_readAll_61 rfl rfl ?_
              refine g_aload_n 63 1 dX4_readAll_62 rfl rfl ?_
              refine g_geto 66 dX4_readAll_63 rfl fX4_20 rfl (by decide) rfl ?_
              refine g_get 69 (nI (tpc t n p)) dX4_readAll_66 rfl fX4_52 rfl (by decide) rfl ((wr_ne (by omega)).trans ((hFT.1 _ _ _ (by decide) (by decide)).trans ap)) ?_
              refine g_put 72 dX4_readAll_69 rfl fX4_55 pX4_8 rfl (by decide) rfl ?_
              refine g_iinc 75 (nI (k + 1)) [(1, .int (nI (k + 1))), (0, .ref (g 15 0))] dX4_readAll_72 rfl 0 rfl (nI_add k 1) (by decide) rfl ?_
              refine g_goto 6 dX4_readAll_75 rfl ?_
              exact ih6 (by omega) _ (LI_step hT2 hF2 hp an hf3 hFT t0 t1)
            · refine g_aload_n 38 1 dX4_readAll_37 rfl rfl ?_
              refine g_get 41 (nI 0) dX4_readAll_38 rfl fX4_41 rfl (by decide) rfl hA.2.1 ?_
              refine g_ifN_le 53 44 dX4_readAll_41 rfl rfl (by omega) (fun c41 => ?_) (fun c41 => ?_)
              · refine g_aload_n 54 1 dX4_readAll_53 rfl rfl ?_
                refine g_aload_n 55 1 dX4_readAll_54 rfl rfl ?_
                refine g_callVi 58 md_X4_takeToken [] [.ref (g 15 0)] dX4_readAll_55 rfl e_X4_readAll_48 rfl (by decide) rfl rfl (Nat.le_of_ble_eq_true rfl) (c_X4_takeTokenA p0 k0 hK2 hA) (fun r55 N3 h55 => ?_)
                obtain ⟨f, rfl, hf3, hFT, t0, t1⟩ := h55
                refine g_put 61 dX4_readAll_58 rfl fX4_31 pX4_7 rfl (by decide) rfl ?_
                refine g_aload_n 62 1 dX4_readAll_61 rfl rfl ?_
                refine g_aload_n 63 1 dX4_readAll_62 rfl rfl ?_
                refine g_geto 66 dX4_readAll_63 rfl fX4_20 rfl (by decide) rfl ?_
                refine g_get 69 (nI (tpc t n p)) dX4_readAll_66 rfl fX4_52 rfl (by decide) rfl ((wr_ne (by omega)).trans ((hFT.1 _ _ _ (by decide) (by decide)).trans ap)) ?_
                refine g_put 72 dX4_readAll_69 rfl fX4_55 pX4_8 rfl (by decide) rfl ?_
                refine g_iinc 75 (nI (k + 1)) [(1, .int (nI (k + 1))), (0, .ref (g 15 0))] dX4_readAll_72 rfl 0 rfl (nI_add k 1) (by decide) rfl ?_
                refine g_goto 6 dX4_readAll_75 rfl ?_
                exact ih6 (by omega) _ (LI_step hT2 hF2 hp an hf3 hFT t0 t1)
              · exact absurd c41 (by omega)
          · obtain ⟨w1, w2, w3, w4, w5, w6, w7, w8, w9⟩ := id hW
            have hle3 := cnt_le w7
            refine g_aload_n 28 1 dX4_readAll_27 rfl rfl ?_
            refine g_geto 31 dX4_readAll_28 rfl fX4_20 rfl (by decide) rfl ?_
            refine g_get 34 (nI (tkd t n p)) dX4_readAll_31 rfl fX4_38 rfl (by decide) rfl ak ?_
            refine g_ifN_ne 53 37 dX4_readAll_34 rfl rfl (by omega) (fun c34 => ?_) (fun c34 => ?_)
            · refine g_aload_n 54 1 dX4_readAll_53 rfl rfl ?_
              refine g_aload_n 55 1 dX4_readAll_54 rfl rfl ?_
              refine g_callVi 58 md_X4_takeToken [] [.ref (g 15 0)] dX4_readAll_55 rfl e_X4_readAll_48 rfl (by decide) rfl rfl (Nat.le_of_ble_eq_true rfl) (c_X4_takeTokenW hK2 hW (by omega) hkk) (fun r55 N3 h55 => ?_)
              obtain ⟨f, rfl, hf3, hFT, t0, t1⟩ := h55
              refine g_put 61 dX4_readAll_58 rfl fX4_31 pX4_7 rfl (by decide) rfl ?_
              refine g_aload_n 62 1 dX4_readAll_61 rfl rfl ?_
              refine g_aload_n 63 1 dX4_readAll_62 rfl rfl ?_
              refine g_geto 66 dX4_readAll_63 rfl fX4_20 rfl (by decide) rfl ?_
              refine g_get 69 (nI (tpc t n p)) dX4_readAll_66 rfl fX4_52 rfl (by decide) rfl ((wr_ne (by omega)).trans ((hFT.1 _ _ _ (by decide) (by decide)).trans ap)) ?_
              refine g_put 72 dX4_readAll_69 rfl fX4_55 pX4_8 rfl (by decide) rfl ?_
              refine g_iinc 75 (nI (k + 1)) [(1, .int (nI (k + 1))), (0, .ref (g 15 0))] dX4_readAll_72 rfl 0 rfl (nI_add k 1) (by decide) rfl ?_
              refine g_goto 6 dX4_readAll_75 rfl ?_
              exact ih6 (by omega) _ (LI_step hT2 hF2 hp an hf3 hFT t0 t1)
            · refine g_aload_n 38 1 dX4_readAll_37 rfl rfl ?_
              refine g_get 41 (nI ln) dX4_readAll_38 rfl fX4_41 rfl (by decide) rfl w2 ?_
              refine g_ifN_le 53 44 dX4_readAll_41 rfl rfl (by omega) (fun c41 => ?_) (fun c41 => ?_)
              · exact absurd c41 (by omega)
              · refine g_aload_n 45 1 dX4_readAll_44 rfl rfl ?_
                refine g_get 48 (nI 0) dX4_readAll_45 rfl fX4_44 rfl (by decide) rfl w1 ?_
                refine g_ifN_ne 53 51 dX4_readAll_48 rfl rfl (by omega) (fun c48 => ?_) (fun c48 => ?_)
                · exact absurd c48 (by omega)
                · refine g_iconst 52 (nI 1) dX4_readAll_51 rfl rfl ?_
                  exact g_zret rfl dX4_readAll_52 rfl (by have hR : rT t n = (0, 0, ln, a) := w9.trans (rFF_end w7 c34); rw [hR]; exact ⟨rfl, fun _ => ⟨w6, w2, hf2⟩, fun z => absurd rfl z, hF2⟩)
          · obtain ⟨n1, n2, n3, n4, n5, n6, n7, n8, n9, n10⟩ := id hN
            have hln := DR_le n9
            refine g_aload_n 28 1 dX4_readAll_27 rfl rfl ?_
            refine g_geto 31 dX4_readAll_28 rfl fX4_20 rfl (by decide) rfl ?_
            refine g_get 34 (nI (tkd t n p)) dX4_readAll_31 rfl fX4_38 rfl (by decide) rfl ak ?_
            refine g_ifN_ne 53 37 dX4_readAll_34 rfl rfl (by omega) (fun c34 => ?_) (fun c34 => ?_)
            · refine g_aload_n 54 1 dX4_readAll_53 rfl rfl ?_
              refine g_aload_n 55 1 dX4_readAll_54 rfl rfl ?_
              refine g_callVi 58 md_X4_takeToken [] [.ref (g 15 0)] dX4_readAll_55 rfl e_X4_readAll_48 rfl (by decide) rfl rfl (Nat.le_of_ble_eq_true rfl) (c_X4_takeTokenN hK2 hN hkk) (fun r55 N3 h55 => ?_)
              obtain ⟨f, rfl, hf3, hFT, t0, t1⟩ := h55
              refine g_put 61 dX4_readAll_58 rfl fX4_31 pX4_7 rfl (by decide) rfl ?_
              refine g_aload_n 62 1 dX4_readAll_61 rfl rfl ?_
              refine g_aload_n 63 1 dX4_readAll_62 rfl rfl ?_
              refine g_geto 66 dX4_readAll_63 rfl fX4_20 rfl (by decide) rfl ?_
              refine g_get 69 (nI (tpc t n p)) dX4_readAll_66 rfl fX4_52 rfl (by decide) rfl ((wr_ne (by omega)).trans ((hFT.1 _ _ _ (by decide) (by decide)).trans ap)) ?_
              refine g_put 72 dX4_readAll_69 rfl fX4_55 pX4_8 rfl (by decide) rfl ?_
              refine g_iinc 75 (nI (k + 1)) [(1, .int (nI (k + 1))), (0, .ref (g 15 0))] dX4_readAll_72 rfl 0 rfl (nI_add k 1) (by decide) rfl ?_
              refine g_goto 6 dX4_readAll_75 rfl ?_
              exact ih6 (by omega) _ (LI_step hT2 hF2 hp an hf3 hFT t0 t1)
            · refine g_aload_n 38 1 dX4_readAll_37 rfl rfl ?_
              refine g_get 41 (nI ln) dX4_readAll_38 rfl fX4_41 rfl (by decide) rfl n2 ?_
              refine g_ifN_le 53 44 dX4_readAll_41 rfl rfl (by omega) (fun c41 => ?_) (fun c41 => ?_)
              · refine g_aload_n 54 1 dX4_readAll_53 rfl rfl ?_
                refine g_aload_n 55 1 dX4_readAll_54 rfl rfl ?_
                refine g_callVi 58 md_X4_takeToken [] [.ref (g 15 0)] dX4_readAll_55 rfl e_X4_readAll_48 rfl (by decide) rfl rfl (Nat.le_of_ble_eq_true rfl) (c_X4_takeTokenN hK2 hN hkk) (fun r55 N3 h55 => ?_)
                obtain ⟨f, rfl, hf3, hFT, t0, t1⟩ := h55
                refine g_put 61 dX4_readAll_58 rfl fX4_31 pX4_7 rfl (by decide) rfl ?_
                refine g_aload_n 62 1 dX4_readAll_61 rfl rfl ?_
                refine g_aload_n 63 1 dX4_readAll_62 rfl rfl ?_
                refine g_geto 66 dX4_readAll_63 rfl fX4_20 rfl (by decide) rfl ?_
                refine g_get 69 (nI (tpc t n p)) dX4_readAll_66 rfl fX4_52 rfl (by decide) rfl ((wr_ne (by omega)).trans ((hFT.1 _ _ _ (by decide) (by decide)).trans ap)) ?_
                refine g_put 72 dX4_readAll_69 rfl fX4_55 pX4_8 rfl (by decide) rfl ?_
                refine g_iinc 75 (nI (k + 1)) [(1, .int (nI (k + 1))), (0, .ref (g 15 0))] dX4_readAll_72 rfl 0 rfl (nI_add k 1) (by decide) rfl ?_
                refine g_goto 6 dX4_readAll_75 rfl ?_
                exact ih6 (by omega) _ (LI_step hT2 hF2 hp an hf3 hFT t0 t1)
              · refine g_aload_n 45 1 dX4_readAll_44 rfl rfl ?_
                refine g_get 48 (nI 1) dX4_readAll_45 rfl fX4_44 rfl (by decide) rfl n1 ?_
                refine g_ifN_ne 53 51 dX4_readAll_48 rfl rfl (by omega) (fun c48 => ?_) (fun c48 => ?_)
                · refine g_aload_n 54 1 dX4_readAll_53 rfl rfl ?_
                  refine g_aload_n 55 1 dX4_readAll_54 rfl rfl ?_
                  refine g_callVi 58 md_X4_takeToken [] [.ref (g 15 0)] dX4_readAll_55 rfl e_X4_readAll_48 rfl (by decide) rfl rfl (Nat.le_of_ble_eq_true rfl) (c_X4_takeTokenN hK2 hN hkk) (fun r55 N3 h55 => ?_)
                  obtain ⟨f, rfl, hf3, hFT, t0, t1⟩ := h55
                  refine g_put 61 dX4_readAll_58 rfl fX4_31 pX4_7 rfl (by decide) rfl ?_
                  refine g_aload_n 62 1 dX4_readAll_61 rfl rfl ?_
                  refine g_aload_n 63 1 dX4_readAll_62 rfl rfl ?_
                  refine g_geto 66 dX4_readAll_63 rfl fX4_20 rfl (by decide) rfl ?_
                  refine g_get 69 (nI (tpc t n p)) dX4_readAll_66 rfl fX4_52 rfl (by decide) rfl ((wr_ne (by omega)).trans ((hFT.1 _ _ _ (by decide) (by decide)).trans ap)) ?_
                  refine g_put 72 dX4_readAll_69 rfl fX4_55 pX4_8 rfl (by decide) rfl ?_
                  refine g_iinc 75 (nI (k + 1)) [(1, .int (nI (k + 1))), (0, .ref (g 15 0))] dX4_readAll_72 rfl 0 rfl (nI_add k 1) (by decide) rfl ?_
                  refine g_goto 6 dX4_readAll_75 rfl ?_
                  exact ih6 (by omega) _ (LI_step hT2 hF2 hp an hf3 hFT t0 t1)
                · exact absurd c48 (by omega)
    · refine g_iload_n 7 0 dX4_readAll_6 rfl rfl ?_
      refine g_sipush 10 (nI 640) dX4_readAll_7 rfl rfl ?_
      refine g_icmpN_gt 78 13 dX4_readAll_10 rfl rfl (by omega) (by omega) (fun c10 => ?_) (fun c10 => ?_)
      · refine g_iconst 79 (nI 0) dX4_readAll_78 rfl rfl ?_
        exact g_zret rfl dX4_readAll_79 rfl ⟨by rw [show decide ((rT t n).1 = 0) = false from decide_eq_false (by omega)]; rfl, fun z => absurd z (by omega), fun _ => ⟨by rw [hf, hT1], hT2⟩, hF⟩
      · refine g_aload_n 14 1 dX4_readAll_13 rfl rfl ?_
        refine g_get 17 (nI f) dX4_readAll_14 rfl fX4_31 rfl (by decide) rfl hf ?_
        refine g_ifN_ne 78 20 dX4_readAll_17 rfl rfl (by omega) (fun c17 => ?_) (fun c17 => ?_)
        · refine g_iconst 79 (nI 0) dX4_readAll_78 rfl rfl ?_
          exact g_zret rfl dX4_readAll_79 rfl ⟨by rw [show decide ((rT t n).1 = 0) = false from decide_eq_false (by omega)]; rfl, fun z => absurd z (by omega), fun _ => ⟨by rw [hf, hT1], hT2⟩, hF⟩
        · exact absurd c17 (by omega)
  exact L6 0 (by omega) N0 ⟨s4.tc hT, s4, Or.inl ⟨s3, 0, Nat.zero_le _, s2, Or.inl ⟨rfl, rfl, s1⟩⟩⟩

/-- what text answers: the answer, the fault, the system -/
noncomputable def S_txt (t : Nat → Nat) (n : Nat) (S : Sys) : Int32 × Nat × Sys := if (rT t n).1 = 0 then (nI (rT t n).2.2.1, 0, ((rT t n).2.2.2, 0, S.2.2)) else ((-1) - nI (rT t n).2.1, (rT t n).1, S)
theorem S_txt_ok {t : Nat → Nat} {n : Nat} {S : Sys} (h : (rT t n).1 = 0) : S_txt t n S = (nI (rT t n).2.2.1, 0, ((rT t n).2.2.2, 0, S.2.2)) := if_pos h
theorem S_txt_no {t : Nat → Nat} {n : Nat} {S : Sys} (h : ¬ (rT t n).1 = 0) : S_txt t n S = ((-1) - nI (rT t n).2.1, (rT t n).1, S) := if_neg h
/-- what class text may change -/
def FX (M M1 : Mm) : Prop := (∀ o' c' i', o' = 12 ∨ o' = 16 ∨ o' = 18 → M1.1 o' c' i' = M.1 o' c' i') ∧ M1.2 = M.2

set_option maxHeartbeats 4000000 in
set_option maxRecDepth 100000 in
theorem c_X6_text {l : Launch} {D : va_G} {g : Nat → Nat → Nat} {ca : Nat → ClassId} {M : Mm} {t : Nat → Nat} {n : Nat} (hT : TC M t n) (hB : Tb t n) {a : Sa} {m : Nat} {h : Nat → Sa} (H : CS M (a, m, h)) : Ct l D g ca md_X6_text [.ref (g 12 0)] M (Ri (fun r M1 => r = (S_txt t n (a, m, h)).1 ∧ CS M1 (S_txt t n (a, m, h)).2.2 ∧ M1.1 15 0 7 = nI (S_txt t n (a, m, h)).2.1 ∧ TC M1 t 0 ∧ FX M M1)) := by
  refine Ct.of (by decide) rfl (Nat.le_of_ble_eq_true rfl) ?_
  show G l D g ca md_X6_text 0 [(0, .ref (g 12 0))] [] M _
  refine g_aload_n 1 0 dX6_text_0 rfl rfl ?_
  refine g_geto 4 dX6_text_1 rfl fX6_31 rfl (by decide) rfl ?_
  refine g_callVi 7 md_X4_readAll [] [] dX6_text_4 rfl e_X6_text_65 rfl (by decide) rfl rfl (Nat.le_of_ble_eq_true rfl) (c_X4_readAll hT hB) (fun r4 N h4 => ?_)
  obtain ⟨rfl, g1, g2, g3⟩ := h4
  refine g_istore_n 8 [(1, .int (bi (decide ((rT t n).1 = 0)))), (0, .ref (g 12 0))] dX6_text_7 rfl (by decide) rfl ?_
  refine g_aload_n 9 1 dX6_text_8 rfl rfl ?_
  refine g_geto 12 dX6_text_9 rfl fX6_10 rfl (by decide) rfl ?_
  refine g_iconst 13 (nI 0) dX6_text_12 rfl rfl ?_
  refine g_put 16 dX6_text_13 rfl fX6_58 pX3_1 rfl (by decide) rfl ?_
  refine g_iload_n 17 0 dX6_text_16 rfl rfl ?_
  refine g_ifB_ne 30 20 dX6_text_17 rfl rfl (fun c17 => ?_) (fun c17 => ?_)
  · refine g_aload_n 31 1 dX6_text_30 rfl rfl ?_
    refine g_geto 34 dX6_text_31 rfl fX6_19 rfl (by decide) rfl ?_
    refine g_aload_n 35 1 dX6_text_34 rfl rfl ?_
    refine g_geto 38 dX6_text_35 rfl fX6_23 rfl (by decide) rfl ?_
    have c17 := of_decide_eq_true c17
    obtain ⟨s1, s2, s3⟩ := g1 c17
    refine g_callVv 41 md_X2_copyFrom [.ref (g 1 0)] [] dX6_text_38 rfl e_X6_text_72 rfl (by decide) rfl rfl (Nat.le_of_ble_eq_true rfl) (c_X2_copyFrom (o := 0) (o2 := 1) rfl rfl (by decide)) (fun N2 h38 => ?_)
    obtain ⟨p1, p2, p3⟩ := h38
    refine g_aload_n 42 1 dX6_text_41 rfl rfl ?_
    refine g_geto 45 dX6_text_42 rfl fX6_47 rfl (by decide) rfl ?_
    refine g_callVv 48 md_X0_forget [] [] dX6_text_45 rfl e_X6_text_75 rfl (by decide) rfl rfl (Nat.le_of_ble_eq_true rfl) c_X0_forget (fun M45 h45 => ?_)
    subst h45
    refine g_aload_n 49 1 dX6_text_48 rfl rfl ?_
    refine g_geto 52 dX6_text_49 rfl fX6_31 rfl (by decide) rfl ?_
    refine g_get 55 (nI ((rT t n).2.2.1)) dX6_text_52 rfl fX6_78 rfl (by decide) rfl ((wr_ne (by omega)).trans ((p3.1 _ _ _ (by omega)).trans ((wr_ne (by omega)).trans s2))) ?_
    exact g_iret rfl dX6_text_55 (by rw [S_txt_ok c17]; exact ⟨rfl, ⟨by have e : (wr N2 17 0 2 (nI 0)).1 0 = N2.1 0 := funext (fun c => funext (fun i => wr_ne (by omega))); show SK ((wr N2 17 0 2 (nI 0)).1 0) _; rw [e]; exact CpB.sk ⟨p1, p2⟩ (by have e2 : (wr N 13 0 1 (nI 0)).1 1 = N.1 1 := funext (fun c => funext (fun i => wr_ne (by omega))); rw [e2]; exact s1), (by obtain ⟨_, nx, h1, h2, _⟩ := H; exact ⟨nx, h1, (wr_ne (by omega)).trans ((p3.1 _ _ _ (by omega)).trans ((wr_ne (by omega)).trans ((g3.1 _ _ _ (by omega) (by omega) (by omega)).trans h2))), wr_eq, Nat.zero_le _, fun k hk => absurd hk (Nat.not_lt_zero k)⟩)⟩, (wr_ne (by omega)).trans ((p3.1 _ _ _ (by omega)).trans ((wr_ne (by omega)).trans s3)), ⟨(wr_ne (by omega)).trans ((p3.1 _ _ _ (by omega)).trans wr_eq), fun i hi => absurd hi (Nat.not_lt_zero i)⟩, ⟨fun o' c' i' z => (wr_ne (by omega)).trans ((p3.1 _ _ _ (by omega)).trans ((wr_ne (by omega)).trans (g3.1 o' c' i' (by omega) (by omega) (by omega)))), (wr_lg _ _ _ _ _).trans (p3.2.trans ((wr_lg _ _ _ _ _).trans g3.2))⟩⟩)
  · refine g_iconst 21 ((-1)) dX6_text_20 rfl rfl ?_
    refine g_aload_n 22 1 dX6_text_21 rfl rfl ?_
    refine g_geto 25 dX6_text_22 rfl fX6_31 rfl (by decide) rfl ?_
    refine g_get 28 (nI ((rT t n).2.1)) dX6_text_25 rfl fX6_69 rfl (by decide) rfl ((wr_ne (by omega)).trans (g2 (of_decide_eq_false c17)).2) ?_
    refine g_isub 29 ((-1) - (nI ((rT t n).2.1))) dX6_text_28 rfl rfl ?_
    exact g_iret rfl dX6_text_29 (by rw [S_txt_no (of_decide_eq_false c17)]; exact ⟨rfl, H.upd (fun o c i ho => (wr_ne (by omega)).trans (g3.1 o c i (by omega) (by omega) (by omega))) (by have e : (wr N 13 0 1 (nI 0)).1 0 = M.1 0 := funext (fun c => funext (fun i => (wr_ne (by omega)).trans (g3.1 0 c i (by omega) (by omega) (by omega)))); rw [e]; exact H.1), (wr_ne (by omega)).trans (g2 (of_decide_eq_false c17)).1, ⟨wr_eq, fun i hi => absurd hi (Nat.not_lt_zero i)⟩, ⟨fun o' c' i' z => (wr_ne (by omega)).trans (g3.1 o' c' i' (by omega) (by omega) (by omega)), (wr_lg _ _ _ _ _).trans g3.2⟩⟩)
