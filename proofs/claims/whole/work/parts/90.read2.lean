def FM (M M1 : Mm) : Prop := (∀ o' c' i', o' ≠ 1 → o' ≠ 14 → o' ≠ 15 → M1.1 o' c' i' = M.1 o' c' i') ∧ M1.2 = M.2
theorem FM.rf {M : Mm} : FM M M := ⟨fun _ _ _ _ _ _ => rfl, rfl⟩
theorem FM.tr {M M1 M2 : Mm} (h : FM M M1) (h2 : FM M1 M2) : FM M M2 := ⟨fun o' c' i' z0 z z2 => (h2.1 o' c' i' z0 z z2).trans (h.1 o' c' i' z0 z z2), h2.2.trans h.2⟩
theorem FLn.fm {M M1 : Mm} (h : FLn M M1) : FM M M1 := ⟨fun o' c' i' z0 z z2 => h.1 o' c' i' z0 z (by omega), h.2⟩
theorem Fo.fm {M M1 : Mm} {o : Nat} (h : Fo o M M1) (ho : o = 1 ∨ o = 14 ∨ o = 15) : FM M M1 := ⟨fun o' c' i' z0 z z2 => h.1 o' c' i' (by omega), h.2⟩
theorem FM.tc {M M1 : Mm} {t : Nat → Nat} {n : Nat} (h : FM M M1) (hT : TC M t n) : TC M1 t n := ⟨(h.1 _ _ _ (by omega) (by omega) (by omega)).trans hT.1, fun i hi => (h.1 _ _ _ (by omega) (by omega) (by omega)).trans (hT.2 i hi)⟩
def ZC (B : Nat → Nat → Int32) : Prop := (∀ k, k < 7 → B 0 k = nI 0) ∧ (∀ i, i < 24 → B 9 i = -1) ∧ (∀ i, i < 144 → B 20 i = nI 0)
def GnP (M : Mm) (n : Nat) (R : Rd) (r : Int32) (M1 : Mm) : Prop := r = bi (decide (R.1 = 0)) ∧ (R.1 = 0 → SK (M1.1 1) R.2.2.2 ∧ M1.1 14 0 1 = nI R.2.2.1 ∧ R.2.2.1 ≤ n ∧ M1.1 15 0 2 = nI 1 ∧ M1.1 15 0 3 = M.1 15 0 3) ∧ (R.1 ≠ 0 → M1.1 15 0 3 = nI R.1 ∧ M1.1 15 0 4 = nI R.2.1) ∧ FM M M1
def FnP (M : Mm) (R : Rd) (r : Int32) (M1 : Mm) : Prop := r = bi (decide (R.1 = 0)) ∧ (R.1 = 0 → SK (M1.1 1) R.2.2.2 ∧ M1.1 15 0 2 = nI R.2.2.1 ∧ M1.1 15 0 3 = M.1 15 0 3) ∧ (R.1 ≠ 0 → M1.1 15 0 3 = nI R.1 ∧ M1.1 15 0 4 = nI R.2.1) ∧ FM M M1
theorem FnP_no {M : Mm} {f pl x : Nat} {a : Sa} {r : Int32} {M1 : Mm} (hf : f ≠ 0) (hr : r = nI 0) (h3 : M1.1 15 0 3 = nI f) (h4 : M1.1 15 0 4 = nI pl) (hF : FM M M1) : FnP M (f, pl, x, a) r M1 :=
  ⟨by rw [hr, show decide ((f, pl, x, a).1 = 0) = false from decide_eq_false hf]; rfl, fun z => absurd z hf, fun _ => ⟨h3, h4⟩, hF⟩
theorem GnP_no {M : Mm} {n f pl x : Nat} {a : Sa} {r : Int32} {M1 : Mm} (hf : f ≠ 0) (hr : r = nI 0) (h3 : M1.1 15 0 3 = nI f) (h4 : M1.1 15 0 4 = nI pl) (hF : FM M M1) : GnP M n (f, pl, x, a) r M1 :=
  ⟨by rw [hr, show decide ((f, pl, x, a).1 = 0) = false from decide_eq_false hf]; rfl, fun z => absurd z hf, fun _ => ⟨h3, h4⟩, hF⟩

set_option maxHeartbeats 4000000 in
set_option maxRecDepth 100000 in
theorem c_X4_readLine {l : Launch} {D : va_G} {g : Nat → Nat → Nat} {ca : Nat → ClassId} {M : Mm} {t : Nat → Nat} {n p : Nat} (hT : TC M t n) (hB : Tb t n) (hk5 : 5 ≤ tkd t n p) (hat : M.1 14 0 1 = nI (tnx t n p)) (hpl : M.1 14 0 3 = nI (tpc t n p)) (hp : tnx t n p ≤ n) {a : Sa} (hS : SK (M.1 1) a) : Ct l D g ca md_X4_readLine [.ref (g 15 0), .int (nI (tkd t n p))] M (Ri (fun r M1 => LnP M n (rLn t n p a) r M1)) := by
  refine Ct.of (by decide) rfl (Nat.le_of_ble_eq_true rfl) ?_
  have hkd := tkd_le (t := t) (n := n) (p := p)
  have b1 := hS.2.2.1.g4
  have b2 := hS.2.2.1.c6
  have b3 := hS.2.2.1.l24
  have b4 := hS.2.2.1.o41
  show G l D g ca md_X4_readLine 0 [(0, .ref (g 15 0)), (1, .int (nI (tkd t n p)))] [] M _
  refine g_iload_n 1 1 dX4_readLine_0 rfl rfl ?_
  refine g_iconst 2 (nI 5) dX4_readLine_1 rfl rfl ?_
  refine g_icmpN_ne 30 5 dX4_readLine_2 rfl rfl (by omega) (by omega) (fun c2 => ?_) (fun c2 => ?_)
  · refine g_iload_n 31 1 dX4_readLine_30 rfl rfl ?_
    refine g_bipush 33 (nI 6) dX4_readLine_31 rfl rfl ?_
    refine g_icmpN_ne 61 36 dX4_readLine_33 rfl rfl (by omega) (by omega) (fun c33 => ?_) (fun c33 => ?_)
    · refine g_aload_n 62 0 dX4_readLine_61 rfl rfl ?_
      refine g_geto 65 dX4_readLine_62 rfl fX4_20 rfl (by decide) rfl ?_
      refine g_get 68 (nI (a 0 4)) dX4_readLine_65 rfl fX4_84 rfl (by decide) rfl (hS.1.sc (by decide)) ?_
      refine g_bipush 70 (nI 12) dX4_readLine_68 rfl rfl ?_
      refine g_icmpN_ge 80 73 dX4_readLine_70 rfl rfl (by omega) (by omega) (fun c70 => ?_) (fun c70 => ?_)
      · refine g_aload_n 81 0 dX4_readLine_80 rfl rfl ?_
        refine g_iconst 82 (nI 3) dX4_readLine_81 rfl rfl ?_
        refine g_callVi 85 md_X4_refuse [.int (nI 3)] [] dX4_readLine_82 rfl e_X4_readLine_55 rfl (by decide) rfl rfl (Nat.le_of_ble_eq_true rfl) (c_X4_refuse (nI 3)) (fun r82 M82 h82 => ?_)
        obtain ⟨rfl, h82⟩ := h82
        subst h82
        exact g_zret rfl dX4_readLine_85 (bi_nar _) (by rw [rLn_O3 (show tkd t n p = 7 by omega) (by omega)]; exact LnP_no (by decide) rfl ((wr_ne (by omega)).trans wr_eq) (wr_eq.trans hpl) ((FN.w15 (by omega)).tr (FN.w15 (by omega))).fl)
      · refine g_aload_n 74 0 dX4_readLine_73 rfl rfl ?_
        refine g_callVi 77 md_X4_readOrder [] [] dX4_readLine_74 rfl e_X4_readLine_87 rfl (by decide) rfl rfl (Nat.le_of_ble_eq_true rfl) (c_X4_readOrder hT hB hat hp hS (by omega)) (fun r74 N74 h74 => ?_)
        obtain ⟨rfl, h74⟩ := h74
        refine g_goto 85 dX4_readLine_77 rfl ?_
        exact g_zret rfl dX4_readLine_85 (bi_nar _) (by rw [rLn_O (show tkd t n p = 7 by omega) (by omega)]; exact ⟨rfl, h74⟩)
    · refine g_aload_n 37 0 dX4_readLine_36 rfl rfl ?_
      refine g_geto 40 dX4_readLine_37 rfl fX4_20 rfl (by decide) rfl ?_
      refine g_get 43 (nI (a 0 3)) dX4_readLine_40 rfl fX4_78 rfl (by decide) rfl (hS.1.sc (by decide)) ?_
      refine g_bipush 45 (nI 12) dX4_readLine_43 rfl rfl ?_
      refine g_icmpN_ge 55 48 dX4_readLine_45 rfl rfl (by omega) (by omega) (fun c45 => ?_) (fun c45 => ?_)
      · refine g_aload_n 56 0 dX4_readLine_55 rfl rfl ?_
        refine g_iconst 57 (nI 3) dX4_readLine_56 rfl rfl ?_
        refine g_callVi 60 md_X4_refuse [.int (nI 3)] [] dX4_readLine_57 rfl e_X4_readLine_55 rfl (by decide) rfl rfl (Nat.le_of_ble_eq_true rfl) (c_X4_refuse (nI 3)) (fun r57 M57 h57 => ?_)
        obtain ⟨rfl, h57⟩ := h57
        subst h57
        exact g_zret rfl dX4_readLine_60 (bi_nar _) (by rw [rLn_L3 c33 (by omega)]; exact LnP_no (by decide) rfl ((wr_ne (by omega)).trans wr_eq) (wr_eq.trans hpl) ((FN.w15 (by omega)).tr (FN.w15 (by omega))).fl)
      · refine g_aload_n 49 0 dX4_readLine_48 rfl rfl ?_
        refine g_callVi 52 md_X4_readLot [] [] dX4_readLine_49 rfl e_X4_readLine_81 rfl (by decide) rfl rfl (Nat.le_of_ble_eq_true rfl) (c_X4_readLot hT hB hat hp hS (by omega)) (fun r49 N49 h49 => ?_)
        obtain ⟨rfl, h49⟩ := h49
        refine g_goto 60 dX4_readLine_52 rfl ?_
        exact g_zret rfl dX4_readLine_60 (bi_nar _) (by rw [rLn_L c33 (by omega)]; exact ⟨rfl, h49⟩)
  · refine g_aload_n 6 0 dX4_readLine_5 rfl rfl ?_
    refine g_geto 9 dX4_readLine_6 rfl fX4_20 rfl (by decide) rfl ?_
    refine g_get 12 (nI (a 0 2)) dX4_readLine_9 rfl fX4_72 rfl (by decide) rfl (hS.1.sc (by decide)) ?_
    refine g_bipush 14 (nI 6) dX4_readLine_12 rfl rfl ?_
    refine g_icmpN_ge 24 17 dX4_readLine_14 rfl rfl (by omega) (by omega) (fun c14 => ?_) (fun c14 => ?_)
    · refine g_aload_n 25 0 dX4_readLine_24 rfl rfl ?_
      refine g_iconst 26 (nI 3) dX4_readLine_25 rfl rfl ?_
      refine g_callVi 29 md_X4_refuse [.int (nI 3)] [] dX4_readLine_26 rfl e_X4_readLine_55 rfl (by decide) rfl rfl (Nat.le_of_ble_eq_true rfl) (c_X4_refuse (nI 3)) (fun r26 M26 h26 => ?_)
      obtain ⟨rfl, h26⟩ := h26
      subst h26
      exact g_zret rfl dX4_readLine_29 (bi_nar _) (by rw [rLn_C3 c2 (by omega)]; exact LnP_no (by decide) rfl ((wr_ne (by omega)).trans wr_eq) (wr_eq.trans hpl) ((FN.w15 (by omega)).tr (FN.w15 (by omega))).fl)
    · refine g_aload_n 18 0 dX4_readLine_17 rfl rfl ?_
      refine g_callVi 21 md_X4_readCustomer [] [] dX4_readLine_18 rfl e_X4_readLine_75 rfl (by decide) rfl rfl (Nat.le_of_ble_eq_true rfl) (c_X4_readCustomer hT hB hat hp hS (by omega)) (fun r18 N18 h18 => ?_)
      obtain ⟨rfl, h18⟩ := h18
      refine g_goto 29 dX4_readLine_21 rfl ?_
      exact g_zret rfl dX4_readLine_29 (bi_nar _) (by rw [rLn_C c2 (by omega)]; exact ⟨rfl, h18⟩)

theorem gs_w {N : Mm} {gd : Nat} {x : Int32} (hZ : ZC (N.1 1)) : ∀ k, k < 7 → (wr (wr N 1 0 1 (nI gd)) 15 0 2 x).1 1 0 k = if k = 1 then nI gd else nI 0 := by
  intro k hk
  rw [wr_ne (by omega), wr_at]
  by_cases z : k = 1
  · rw [if_pos ⟨rfl, rfl, z⟩, if_pos z]
  · rw [if_neg (by omega), if_neg z]; exact hZ.1 k hk

theorem Fo_1w {M : Mm} {o c i : Nat} {x : Int32} (h : o ≠ 1) : (wr M o c i x).1 1 = M.1 1 := funext (fun c' => funext (fun i' => wr_ne (by omega)))

set_option maxHeartbeats 4000000 in
set_option maxRecDepth 100000 in
theorem c_X4_readFurtherLines {l : Launch} {D : va_G} {g : Nat → Nat → Nat} {ca : Nat → ClassId} {M : Mm} {t : Nat → Nat} {n p0 : Nat} (hT : TC M t n) (hB : Tb t n) (hat0 : M.1 14 0 1 = nI p0) (hp0 : p0 ≤ n) {a0 : Sa} (hS0 : SK (M.1 1) a0) (hL0 : Lm a0) (hc0 : cnt a0 = 0) (hln0 : M.1 15 0 2 = nI 1) : Ct l D g ca md_X4_readFurtherLines [.ref (g 15 0)] M (Ri (fun r M1 => FnP M (rFF t n 5 p0 1 a0) r M1)) := by
  refine Ct.of (by decide) rfl (Nat.le_of_ble_eq_true rfl) ?_
  show G l D g ca md_X4_readFurtherLines 0 [(0, .ref (g 15 0))] [] M _
  refine g_iconst 1 (nI 5) dX4_readFurtherLines_0 rfl rfl ?_
  refine g_istore_n 2 [(1, .int (nI 5)), (0, .ref (g 15 0))] dX4_readFurtherLines_1 rfl (by decide) rfl ?_
  refine g_iconst 3 (nI 0) dX4_readFurtherLines_2 rfl rfl ?_
  refine g_istore_n 4 [(2, .int (nI 0)), (1, .int (nI 5)), (0, .ref (g 15 0))] dX4_readFurtherLines_3 rfl (by decide) rfl ?_
  have L4 : ∀ k, k ≤ 640 → ∀ (N : Mm) (lst p ln : Nat) (a : Sa), 5 ≤ lst → lst ≤ 7 → TC N t n → N.1 14 0 1 = nI p → p ≤ n → SK (N.1 1) a → Lm a → cnt a = k → N.1 15 0 2 = nI ln → ln = k + 1 → N.1 15 0 3 = M.1 15 0 3 → rFF t n 5 p0 1 a0 = rFF t n lst p ln a → FM M N → G l D g ca md_X4_readFurtherLines 4 [(2, .int (nI k)), (1, .int (nI lst)), (0, .ref (g 15 0))] [] N (Ri (fun r M1 => FnP M (rFF t n 5 p0 1 a0) r M1)) := by
    refine upto ?_
    intro k hk ih4 N lst p ln a hl5 hl7 hTN hat hp hS hL hc hln hln1 hq hR hF
    have hkd := tkd_le (t := t) (n := n) (p := p)
    have hc30 : cnt a ≤ 30 := by obtain ⟨q1, q2, q3⟩ := hL; unfold cnt; omega
    refine g_iload_n 5 0 dX4_readFurtherLines_4 rfl rfl ?_
    refine g_sipush 8 (nI 640) dX4_readFurtherLines_5 rfl rfl ?_
    refine g_icmpN_ge 81 11 dX4_readFurtherLines_8 rfl rfl (by omega) (by omega) (fun c8 => ?_) (fun c8 => ?_)
    · exact absurd c8 (by omega)
    · refine g_aload_n 12 2 dX4_readFurtherLines_11 rfl rfl ?_
      refine g_geto 15 dX4_readFurtherLines_12 rfl fX4_14 rfl (by decide) rfl ?_
      refine g_callVv 18 md_X5_advance [] [] dX4_readFurtherLines_15 rfl e_X4_readFurtherLines_49 rfl (by decide) rfl rfl (Nat.le_of_ble_eq_true rfl) (c_X5_advance hTN hB hat hp) (fun N2 h15 => ?_)
      obtain ⟨ak, ap, an, av, aF⟩ := h15
      have e1 : N2.1 1 = N.1 1 := funext (fun c => funext (fun i => aF.1 1 c i (by omega)))
      refine g_aload_n 19 2 dX4_readFurtherLines_18 rfl rfl ?_
      refine g_geto 22 dX4_readFurtherLines_19 rfl fX4_14 rfl (by decide) rfl ?_
      refine g_get 25 (nI (tkd t n p)) dX4_readFurtherLines_22 rfl fX4_52 rfl (by decide) rfl ak ?_
      refine g_ifN_ne 30 28 dX4_readFurtherLines_25 rfl rfl (by omega) (fun c25 => ?_) (fun c25 => ?_)
      · refine g_aload_n 31 2 dX4_readFurtherLines_30 rfl rfl ?_
        refine g_geto 34 dX4_readFurtherLines_31 rfl fX4_14 rfl (by decide) rfl ?_
        refine g_get 37 (nI (tkd t n p)) dX4_readFurtherLines_34 rfl fX4_52 rfl (by decide) rfl ak ?_
        refine g_iload_n 38 1 dX4_readFurtherLines_37 rfl rfl ?_
        refine g_icmpN_ge 47 41 dX4_readFurtherLines_38 rfl rfl (by omega) (by omega) (fun c38 => ?_) (fun c38 => ?_)
        · refine g_aload_n 48 2 dX4_readFurtherLines_47 rfl rfl ?_
          refine g_geto 51 dX4_readFurtherLines_48 rfl fX4_14 rfl (by decide) rfl ?_
          refine g_get 54 (nI (tkd t n p)) dX4_readFurtherLines_51 rfl fX4_52 rfl (by decide) rfl ak ?_
          refine g_istore_n 55 [(1, .int (nI (tkd t n p))), (2, .int (nI k)), (0, .ref (g 15 0))] dX4_readFurtherLines_54 rfl (by decide) rfl ?_
          refine g_aload_n 56 2 dX4_readFurtherLines_55 rfl rfl ?_
          refine g_iload_n 57 0 dX4_readFurtherLines_56 rfl rfl ?_
          refine g_callVi 60 md_X4_readLine [.int (nI (tkd t n p))] [] dX4_readFurtherLines_57 rfl e_X4_readFurtherLines_69 rfl (by decide) rfl rfl (Nat.le_of_ble_eq_true rfl) (c_X4_readLine (p := p) (aF.fn.tc hTN) hB (by omega) (an (by omega)) ap (tnx_le hp (by omega)) (by rw [e1]; exact hS)) (fun r57 N3 h57 => ?_)
          obtain ⟨rfl, l1, l2, l3⟩ := h57
          have hl3 : N3.1 15 0 2 = nI ln := (l3.1 _ _ _ (by omega) (by omega) (by omega)).trans ((aF.1 _ _ _ (by omega)).trans hln)
          have hF3 := hF.tr ((aF.fm (by omega)).tr l3.fm)
          refine g_ifB_ne 65 63 dX4_readFurtherLines_60 rfl rfl (fun c60 => ?_) (fun c60 => ?_)
          · have c60 := of_decide_eq_true c60
            refine g_aload_n 66 2 dX4_readFurtherLines_65 rfl rfl ?_
            refine g_dup 67 dX4_readFurtherLines_66 rfl rfl ?_
            refine g_get 70 (nI ln) dX4_readFurtherLines_67 rfl fX4_32 rfl (by decide) rfl hl3 ?_
            refine g_iconst 71 (nI 1) dX4_readFurtherLines_70 rfl rfl ?_
            refine g_iadd 72 (nI (ln + 1)) dX4_readFurtherLines_71 rfl (nI_add ln 1) ?_
            refine g_put 75 dX4_readFurtherLines_72 rfl fX4_32 pX4_2 rfl (by decide) rfl ?_
            refine g_iinc 78 (nI (k + 1)) [(2, .int (nI (k + 1))), (1, .int (nI (tkd t n p))), (0, .ref (g 15 0))] dX4_readFurtherLines_75 rfl 1 rfl (nI_add k 1) (by decide) rfl ?_
            refine g_goto 4 dX4_readFurtherLines_78 rfl ?_
            obtain ⟨s1, s2, s3, s4⟩ := l1 c60
            obtain ⟨q1, q2⟩ := rLn_cnt hL c60
            exact ih4 (by omega) _ _ _ _ _ (by omega) hkd ((((hF3.tr (Fo.fm Fo.wr (by omega)))).tc hT)) ((wr_ne (by omega)).trans s2) s3 (by rw [Fo_1w (by omega)]; exact s1) q2 (by rw [q1, hc]) wr_eq (by omega) ((wr_ne (by omega)).trans (s4.trans ((aF.1 _ _ _ (by omega)).trans hq))) (hR.trans (rFF_ok hL (by omega) (by omega) c60)) (hF3.tr (Fo.fm Fo.wr (by omega)))
          · have c60 := of_decide_eq_false c60
            refine g_iconst 64 (nI 0) dX4_readFurtherLines_63 rfl rfl ?_
            exact g_zret rfl dX4_readFurtherLines_64 rfl (by rw [hR, rFF_bad hL (by omega) (by omega) c60]; exact FnP_no c60 rfl (l2 c60).1 (l2 c60).2 hF3)
        · refine g_aload_n 42 2 dX4_readFurtherLines_41 rfl rfl ?_
          refine g_iconst 43 (nI 1) dX4_readFurtherLines_42 rfl rfl ?_
          refine g_callVi 46 md_X4_refuse [.int (nI 1)] [] dX4_readFurtherLines_43 rfl e_X4_readFurtherLines_55 rfl (by decide) rfl rfl (Nat.le_of_ble_eq_true rfl) (c_X4_refuse (nI 1)) (fun r43 M43 h43 => ?_)
          obtain ⟨rfl, h43⟩ := h43
          subst h43
          exact g_zret rfl dX4_readFurtherLines_46 (bi_nar _) (by rw [hR, rFF_low hL (by omega) (by omega)]; exact FnP_no (by decide) rfl ((wr_ne (by omega)).trans wr_eq) (wr_eq.trans ap) (hF.tr ((aF.fm (by omega)).tr ((FN.w15 (by omega)).tr (FN.w15 (by omega))).fl.fm)))
      · refine g_iconst 29 (nI 1) dX4_readFurtherLines_28 rfl rfl ?_
        exact g_zret rfl dX4_readFurtherLines_29 rfl (by rw [hR, rFF_end hL c25]; exact ⟨rfl, fun _ => ⟨by rw [e1]; exact hS, (aF.1 _ _ _ (by omega)).trans hln, (aF.1 _ _ _ (by omega)).trans hq⟩, fun z => absurd rfl z, hF.tr (aF.fm (by omega))⟩)
  exact L4 0 (by omega) M 5 p0 1 a0 (by omega) (by omega) hT hat0 hp0 hS0 hL0 hc0 hln0 rfl rfl rfl FM.rf

set_option maxHeartbeats 4000000 in
set_option maxRecDepth 100000 in
theorem c_X4_readGoods {l : Launch} {D : va_G} {g : Nat → Nat → Nat} {ca : Nat → ClassId} {M : Mm} {t : Nat → Nat} {n : Nat} (hT : TC M t n) (hB : Tb t n) (hat : M.1 14 0 1 = nI 0) (hZ : ZC (M.1 1)) : Ct l D g ca md_X4_readGoods [.ref (g 15 0)] M (Ri (fun r M1 => GnP M n (rG t n) r M1)) := by
  refine Ct.of (by decide) rfl (Nat.le_of_ble_eq_true rfl) ?_
  have hkd := tkd_le (t := t) (n := n) (p := 0)
  show G l D g ca md_X4_readGoods 0 [(0, .ref (g 15 0))] [] M _
  refine g_aload_n 1 0 dX4_readGoods_0 rfl rfl ?_
  refine g_geto 4 dX4_readGoods_1 rfl fX4_14 rfl (by decide) rfl ?_
  refine g_callVv 7 md_X5_advance [] [] dX4_readGoods_4 rfl e_X4_readGoods_49 rfl (by decide) rfl rfl (Nat.le_of_ble_eq_true rfl) (c_X5_advance hT hB hat (Nat.zero_le _)) (fun N h4 => ?_)
  obtain ⟨ak, ap, an, av, aF⟩ := h4
  have hZN : ZC (N.1 1) := by rw [show N.1 1 = M.1 1 from funext (fun c => funext (fun i => aF.1 1 c i (by omega)))]; exact hZ
  refine g_aload_n 8 0 dX4_readGoods_7 rfl rfl ?_
  refine g_geto 11 dX4_readGoods_8 rfl fX4_14 rfl (by decide) rfl ?_
  refine g_get 14 (nI (tkd t n 0)) dX4_readGoods_11 rfl fX4_52 rfl (by decide) rfl ak ?_
  refine g_iconst 15 (nI 4) dX4_readGoods_14 rfl rfl ?_
  refine g_icmpN_eq 24 18 dX4_readGoods_15 rfl rfl (by omega) (by omega) (fun c15 => ?_) (fun c15 => ?_)
  · have hp1 : tx t n 0 1 ≤ n := tnx_le (p := 0) (Nat.zero_le _) (by omega)
    refine g_aload_n 25 0 dX4_readGoods_24 rfl rfl ?_
    refine g_iconst 26 (nI 1) dX4_readGoods_25 rfl rfl ?_
    refine g_iconst 27 (nI 4) dX4_readGoods_26 rfl rfl ?_
    refine g_callVi 30 md_X4_readNumber [.int (nI 1), .int (nI 4)] [] dX4_readGoods_27 rfl e_X4_readGoods_59 rfl (by decide) rfl rfl (Nat.le_of_ble_eq_true rfl) (c_X4_readNum (p := tx t n 0 1) (aF.fn.tc hT) hB (an (by omega)) hp1 1 5 (by omega) (by omega) (by decide)) (fun r27 N27 h27 => ?_)
    obtain ⟨y27, w27, g27⟩ := h27
    by_cases z27 : nmF t n (tx t n 0 1) 1 5 = 0
    · obtain ⟨rfl, hat2, pl2, hq2⟩ := y27 z27
      have hp2 : tx t n 0 2 ≤ n := nmF_le hp1 z27
      have v27 := nmF_of z27
      refine g_istore_n 31 [(1, .int (nI (tvl t n (tx t n 0 1)))), (0, .ref (g 15 0))] dX4_readGoods_30 rfl (by decide) rfl ?_
      refine g_iload_n 32 0 dX4_readGoods_31 rfl rfl ?_
      refine g_iconst 33 ((-1)) dX4_readGoods_32 rfl rfl ?_
      refine g_icmp_eq 43 36 dX4_readGoods_33 rfl rfl (fun c33 => ?_) (fun c33 => ?_)
      · exact absurd c33 (nI_nm1 (by omega))
      · refine g_aload_n 37 1 dX4_readGoods_36 rfl rfl ?_
        refine g_callVi 40 md_X4_readStop [] [] dX4_readGoods_37 rfl e_X4_readGoods_63 rfl (by decide) rfl rfl (Nat.le_of_ble_eq_true rfl) (c_X4_readStop (p := tx t n 0 2) (g27.tc (aF.fn.tc hT)) hB hat2 hp2) (fun r37 N37 h37 => ?_)
        obtain ⟨rfl, y37, w37, g37⟩ := h37
        by_cases z37 : spF t n (tx t n 0 2) = 0
        · rw [decide_eq_true z37]
          obtain ⟨hat3, hq3⟩ := y37 z37
          have hp3 : tx t n 0 3 ≤ n := spF_le hp2 z37
          have hZ3 : ZC (N37.1 1) := by rw [g37.o1, g27.o1]; exact hZN
          refine g_ifB_ne 45 43 dX4_readGoods_40 rfl rfl (fun c40 => ?_) (fun c40 => ?_)
          · refine g_aload_n 46 1 dX4_readGoods_45 rfl rfl ?_
            refine g_geto 49 dX4_readGoods_46 rfl fX4_20 rfl (by decide) rfl ?_
            refine g_iload_n 50 0 dX4_readGoods_49 rfl rfl ?_
            refine g_put 53 dX4_readGoods_50 rfl fX4_66 pX2_1 rfl (by decide) rfl ?_
            refine g_aload_n 54 1 dX4_readGoods_53 rfl rfl ?_
            refine g_iconst 55 (nI 1) dX4_readGoods_54 rfl rfl ?_
            refine g_put 58 dX4_readGoods_55 rfl fX4_32 pX4_2 rfl (by decide) rfl ?_
            refine g_iconst 59 (nI 1) dX4_readGoods_58 rfl rfl ?_
            exact g_zret rfl dX4_readGoods_59 rfl (by rw [rG_4 c15, orB_ok z27, orB_ok z37]; exact ⟨rfl, fun _ => ⟨SK_mk (gs_RP (gs_w hZ3) (fun i hi => by rw [wr_ne (by omega), wr_ne (by omega)]; exact hZ3.2.1 i hi)) (gs_RR (fun i hi => by rw [wr_ne (by omega), wr_ne (by omega)]; exact hZ3.2.2 i hi)) (gs_Ok v27.2.1 (by omega)), by rw [wr_ne (by omega), wr_ne (by omega)]; exact hat3, hp3, wr_eq, by rw [wr_ne (by omega), wr_ne (by omega)]; exact hq3.trans (hq2.trans (aF.1 _ _ _ (by omega)))⟩, fun z => absurd rfl z, (((((aF.fm (by omega)).tr g27.fl.fm).tr g37.fl.fm).tr (Fo.fm (o := 1) Fo.wr (by omega))).tr (Fo.fm (o := 15) Fo.wr (by omega)))⟩)
          · exact absurd c40 (by decide)
        · rw [decide_eq_false z37]
          obtain ⟨hk3, hl3⟩ := w37 z37
          refine g_ifB_ne 45 43 dX4_readGoods_40 rfl rfl (fun c40 => ?_) (fun c40 => ?_)
          · exact absurd c40 (by decide)
          · refine g_iconst 44 (nI 0) dX4_readGoods_43 rfl rfl ?_
            exact g_zret rfl dX4_readGoods_44 rfl (by rw [rG_4 c15, orB_ok z27, orB_no z37]; exact GnP_no z37 rfl hk3 hl3 (((aF.fm (by omega)).tr g27.fl.fm).tr g37.fl.fm))
    · obtain ⟨rfl, hk2, hl2⟩ := w27 z27
      refine g_istore_n 31 [(1, .int (-1)), (0, .ref (g 15 0))] dX4_readGoods_30 rfl (by decide) rfl ?_
      refine g_iload_n 32 0 dX4_readGoods_31 rfl rfl ?_
      refine g_iconst 33 ((-1)) dX4_readGoods_32 rfl rfl ?_
      refine g_icmp_eq 43 36 dX4_readGoods_33 rfl rfl (fun c33 => ?_) (fun c33 => ?_)
      · refine g_iconst 44 (nI 0) dX4_readGoods_43 rfl rfl ?_
        exact g_zret rfl dX4_readGoods_44 rfl (by rw [rG_4 c15, orB_no z27]; exact GnP_no z27 rfl hk2 hl2 ((aF.fm (by omega)).tr g27.fl.fm))
      · exact absurd rfl c33
  · refine g_aload_n 19 0 dX4_readGoods_18 rfl rfl ?_
    refine g_iconst 20 (nI 1) dX4_readGoods_19 rfl rfl ?_
    refine g_callVi 23 md_X4_refuse [.int (nI 1)] [] dX4_readGoods_20 rfl e_X4_readGoods_55 rfl (by decide) rfl rfl (Nat.le_of_ble_eq_true rfl) (c_X4_refuse (nI 1)) (fun r20 M20 h20 => ?_)
    obtain ⟨rfl, h20⟩ := h20
    subst h20
    exact g_zret rfl dX4_readGoods_23 (bi_nar _) (by rw [rG_1 c15]; exact GnP_no (by decide) rfl ((wr_ne (by omega)).trans wr_eq) (wr_eq.trans ap) ((aF.fm (by omega)).tr ((FN.w15 (by omega)).tr (FN.w15 (by omega))).fl.fm))

theorem rG_Lm {t : Nat → Nat} {n : Nat} : Lm (rG t n).2.2.2 ∧ cnt (rG t n).2.2.2 = 0 := by
  have key : ∀ gd, Lm (gs gd) ∧ cnt (gs gd) = 0 := fun gd => ⟨gs_Lm, by unfold cnt; rw [gs_0 (by omega), gs_0 (by omega), gs_0 (by omega)]⟩
  unfold rG orB
  repeat' split
  all_goals exact key _
def AnP (M : Mm) (R : Rd) (r : Int32) (M1 : Mm) : Prop := r = bi (decide (R.1 = 0)) ∧ (R.1 = 0 → SK (M1.1 1) R.2.2.2 ∧ M1.1 15 0 2 = nI R.2.2.1 ∧ M1.1 15 0 3 = nI 0) ∧ (R.1 ≠ 0 → M1.1 15 0 3 = nI R.1 ∧ M1.1 15 0 4 = nI R.2.1) ∧ FM M M1

set_option maxHeartbeats 4000000 in
set_option maxRecDepth 100000 in
theorem c_X4_readAll {l : Launch} {D : va_G} {g : Nat → Nat → Nat} {ca : Nat → ClassId} {M : Mm} {t : Nat → Nat} {n : Nat} (hT : TC M t n) (hB : Tb t n) : Ct l D g ca md_X4_readAll [.ref (g 15 0)] M (Ri (fun r M1 => AnP M (rT t n) r M1)) := by
  refine Ct.of (by decide) rfl (Nat.le_of_ble_eq_true rfl) ?_
  show G l D g ca md_X4_readAll 0 [(0, .ref (g 15 0))] [] M _
  refine g_aload_n 1 0 dX4_readAll_0 rfl rfl ?_
  refine g_geto 4 dX4_readAll_1 rfl fX4_20 rfl (by decide) rfl ?_
  refine g_callVv 7 md_X2_clear [] [] dX4_readAll_4 rfl e_X4_readAll_24 rfl (by decide) rfl rfl (Nat.le_of_ble_eq_true rfl) (c_X2_clear (o := 1) rfl) (fun N h4 => ?_)
  obtain ⟨z1, z2, z3, zF⟩ := h4
  refine g_aload_n 8 0 dX4_readAll_7 rfl rfl ?_
  refine g_geto 11 dX4_readAll_8 rfl fX4_14 rfl (by decide) rfl ?_
  refine g_callVv 14 md_X5_start [] [] dX4_readAll_11 rfl e_X4_readAll_29 rfl (by decide) rfl rfl (Nat.le_of_ble_eq_true rfl) c_X5_start (fun M11 h11 => ?_)
  subst h11
  refine g_aload_n 15 0 dX4_readAll_14 rfl rfl ?_
  refine g_iconst 16 (nI 0) dX4_readAll_15 rfl rfl ?_
  refine g_put 19 dX4_readAll_16 rfl fX4_32 pX4_2 rfl (by decide) rfl ?_
  refine g_aload_n 20 0 dX4_readAll_19 rfl rfl ?_
  refine g_iconst 21 (nI 0) dX4_readAll_20 rfl rfl ?_
  refine g_put 24 dX4_readAll_21 rfl fX4_36 pX4_3 rfl (by decide) rfl ?_
  refine g_aload_n 25 0 dX4_readAll_24 rfl rfl ?_
  refine g_iconst 26 (nI 0) dX4_readAll_25 rfl rfl ?_
  refine g_put 29 dX4_readAll_26 rfl fX4_39 pX4_4 rfl (by decide) rfl ?_
  refine g_aload_n 30 0 dX4_readAll_29 rfl rfl ?_
  have hF0 : FM M (wr (wr (wr (wr N 14 0 1 (nI 0)) 15 0 2 (nI 0)) 15 0 3 (nI 0)) 15 0 4 (nI 0)) := (((((Fo.fm zF (by omega)).tr (Fo.fm (o := 14) Fo.wr (by omega))).tr (Fo.fm (o := 15) Fo.wr (by omega))).tr (Fo.fm (o := 15) Fo.wr (by omega))).tr (Fo.fm (o := 15) Fo.wr (by omega)))
  refine g_callVi 33 md_X4_readGoods [] [] dX4_readAll_30 rfl e_X4_readAll_42 rfl (by decide) rfl rfl (Nat.le_of_ble_eq_true rfl) (c_X4_readGoods (hF0.tc hT) hB (((wr_ne (by omega)).trans ((wr_ne (by omega)).trans ((wr_ne (by omega)).trans wr_eq)))) ⟨fun k hk => by rw [wr_ne (by omega), wr_ne (by omega), wr_ne (by omega), wr_ne (by omega)]; exact z1 k hk, fun k hk => by rw [wr_ne (by omega), wr_ne (by omega), wr_ne (by omega), wr_ne (by omega)]; exact z2 k hk, fun k hk => by rw [wr_ne (by omega), wr_ne (by omega), wr_ne (by omega), wr_ne (by omega)]; exact z3 k hk⟩) (fun r30 N2 h30 => ?_)
  obtain ⟨rfl, g1, g2, g3⟩ := h30
  have h3z : (wr (wr (wr (wr N 14 0 1 (nI 0)) 15 0 2 (nI 0)) 15 0 3 (nI 0)) 15 0 4 (nI 0)).1 15 0 3 = nI 0 := (wr_ne (by omega)).trans wr_eq
  refine g_ifB_eq 47 36 dX4_readAll_33 rfl rfl (fun c33 => ?_) (fun c33 => ?_)
  · refine g_iconst 48 (nI 0) dX4_readAll_47 rfl rfl ?_
    exact g_zret rfl dX4_readAll_48 rfl (by rw [rT_no (of_decide_eq_false c33)]; exact ⟨by rw [c33]; rfl, fun z => absurd z (of_decide_eq_false c33), fun z => g2 z, hF0.tr g3⟩)
  · have c33 := of_decide_eq_true c33
    obtain ⟨s1, s2, s3, s4, s5⟩ := g1 c33
    refine g_aload_n 37 0 dX4_readAll_36 rfl rfl ?_
    refine g_callVi 40 md_X4_readFurtherLines [] [] dX4_readAll_37 rfl e_X4_readAll_46 rfl (by decide) rfl rfl (Nat.le_of_ble_eq_true rfl) (c_X4_readFurtherLines ((hF0.tr g3).tc hT) hB s2 s3 s1 rG_Lm.1 rG_Lm.2 s4) (fun r37 N3 h37 => ?_)
    obtain ⟨rfl, f1, f2, f3⟩ := h37
    refine g_ifB_eq 47 43 dX4_readAll_40 rfl rfl (fun c40 => ?_) (fun c40 => ?_)
    · refine g_iconst 48 (nI 0) dX4_readAll_47 rfl rfl ?_
      exact g_zret rfl dX4_readAll_48 rfl (by rw [rT_ok c33]; exact ⟨by rw [c40]; rfl, fun z => ⟨(f1 z).1, (f1 z).2.1, (f1 z).2.2.trans (s5.trans h3z)⟩, fun z => f2 z, (hF0.tr g3).tr f3⟩)
    · refine g_iconst 44 (nI 1) dX4_readAll_43 rfl rfl ?_
      refine g_goto 48 dX4_readAll_44 rfl ?_
      exact g_zret rfl dX4_readAll_48 rfl (by rw [rT_ok c33]; exact ⟨by rw [c40]; rfl, fun z => ⟨(f1 z).1, (f1 z).2.1, (f1 z).2.2.trans (s5.trans h3z)⟩, fun z => f2 z, (hF0.tr g3).tr f3⟩)

/-- what text answers: the answer, the fault, the system -/
noncomputable def S_txt (t : Nat → Nat) (n : Nat) (S : Sys) : Int32 × Nat × Sys := if (rT t n).1 = 0 then (nI (rT t n).2.2.1, 0, ((rT t n).2.2.2, 0, S.2.2)) else ((-1) - nI (rT t n).2.1, (rT t n).1, S)
theorem S_txt_ok {t : Nat → Nat} {n : Nat} {S : Sys} (h : (rT t n).1 = 0) : S_txt t n S = (nI (rT t n).2.2.1, 0, ((rT t n).2.2.2, 0, S.2.2)) := if_pos h
theorem S_txt_no {t : Nat → Nat} {n : Nat} {S : Sys} (h : ¬ (rT t n).1 = 0) : S_txt t n S = ((-1) - nI (rT t n).2.1, (rT t n).1, S) := if_neg h
/-- what class text may change -/
def FX (M M1 : Mm) : Prop := (∀ o' c' i', o' = 12 ∨ o' = 16 ∨ o' = 18 → M1.1 o' c' i' = M.1 o' c' i') ∧ M1.2 = M.2

set_option maxHeartbeats 4000000 in
set_option maxRecDepth 100000 in
theorem c_X6_text {l : Launch} {D : va_G} {g : Nat → Nat → Nat} {ca : Nat → ClassId} {M : Mm} {t : Nat → Nat} {n : Nat} (hT : TC M t n) (hB : Tb t n) {a : Sa} {m : Nat} {h : Nat → Sa} (H : CS M (a, m, h)) : Ct l D g ca md_X6_text [.ref (g 12 0)] M (Ri (fun r M1 => r = (S_txt t n (a, m, h)).1 ∧ CS M1 (S_txt t n (a, m, h)).2.2 ∧ M1.1 15 0 3 = nI (S_txt t n (a, m, h)).2.1 ∧ TC M1 t 0 ∧ FX M M1)) := by
  refine Ct.of (by decide) rfl (Nat.le_of_ble_eq_true rfl) ?_
  show G l D g ca md_X6_text 0 [(0, .ref (g 12 0))] [] M _
  refine g_aload_n 1 0 dX6_text_0 rfl rfl ?_
  refine g_geto 4 dX6_text_1 rfl fX6_31 rfl (by decide) rfl ?_
  refine g_callVi 7 md_X4_readAll [] [] dX6_text_4 rfl e_X6_text_65 rfl (by decide) rfl rfl (Nat.le_of_ble_eq_true rfl) (c_X4_readAll hT hB) (fun r4 N h4 => ?_)
  obtain ⟨rfl, g1, g2, g3⟩ := h4
  refine g_istore_n 8 [(1, .int (bi (decide ((rT t n).1 = 0)))), (0, .ref (g 12 0))] dX6_text_7 rfl (by decide) rfl ?_
  refine g_aload_n 9 1 dX6_text_8 rfl rfl ?_
  refine g_geto 12 dX6_text_9 rfl fX6_10 rfl (by decide) rfl ?_
  refine g_iconst 13 (nI 0) dX6_text_12 rfl rfl ?_
  refine g_put 16 dX6_text_13 rfl fX6_58 pX3_1 rfl (by decide) rfl ?_
  refine g_iload_n 17 0 dX6_text_16 rfl rfl ?_
  refine g_ifB_ne 30 20 dX6_text_17 rfl rfl (fun c17 => ?_) (fun c17 => ?_)
  · refine g_aload_n 31 1 dX6_text_30 rfl rfl ?_
    refine g_geto 34 dX6_text_31 rfl fX6_19 rfl (by decide) rfl ?_
    refine g_aload_n 35 1 dX6_text_34 rfl rfl ?_
    refine g_geto 38 dX6_text_35 rfl fX6_23 rfl (by decide) rfl ?_
    have c17 := of_decide_eq_true c17
    obtain ⟨s1, s2, s3⟩ := g1 c17
    refine g_callVv 41 md_X2_copyFrom [.ref (g 1 0)] [] dX6_text_38 rfl e_X6_text_72 rfl (by decide) rfl rfl (Nat.le_of_ble_eq_true rfl) (c_X2_copyFrom (o := 0) (o2 := 1) rfl rfl (by decide)) (fun N2 h38 => ?_)
    obtain ⟨p1, p2, p3⟩ := h38
    refine g_aload_n 42 1 dX6_text_41 rfl rfl ?_
    refine g_geto 45 dX6_text_42 rfl fX6_47 rfl (by decide) rfl ?_
    refine g_callVv 48 md_X0_forget [] [] dX6_text_45 rfl e_X6_text_75 rfl (by decide) rfl rfl (Nat.le_of_ble_eq_true rfl) c_X0_forget (fun M45 h45 => ?_)
    subst h45
    refine g_aload_n 49 1 dX6_text_48 rfl rfl ?_
    refine g_geto 52 dX6_text_49 rfl fX6_31 rfl (by decide) rfl ?_
    refine g_get 55 (nI ((rT t n).2.2.1)) dX6_text_52 rfl fX6_78 rfl (by decide) rfl ((wr_ne (by omega)).trans ((p3.1 _ _ _ (by omega)).trans ((wr_ne (by omega)).trans s2))) ?_
    exact g_iret rfl dX6_text_55 (by rw [S_txt_ok c17]; exact ⟨rfl, ⟨by have e : (wr N2 17 0 2 (nI 0)).1 0 = N2.1 0 := funext (fun c => funext (fun i => wr_ne (by omega))); show SK ((wr N2 17 0 2 (nI 0)).1 0) _; rw [e]; exact CpB.sk ⟨p1, p2⟩ (by have e2 : (wr N 13 0 1 (nI 0)).1 1 = N.1 1 := funext (fun c => funext (fun i => wr_ne (by omega))); rw [e2]; exact s1), (by obtain ⟨_, nx, h1, h2, _⟩ := H; exact ⟨nx, h1, (wr_ne (by omega)).trans ((p3.1 _ _ _ (by omega)).trans ((wr_ne (by omega)).trans ((g3.1 _ _ _ (by omega) (by omega) (by omega)).trans h2))), wr_eq, Nat.zero_le _, fun k hk => absurd hk (Nat.not_lt_zero k)⟩)⟩, (wr_ne (by omega)).trans ((p3.1 _ _ _ (by omega)).trans ((wr_ne (by omega)).trans s3)), ⟨(wr_ne (by omega)).trans ((p3.1 _ _ _ (by omega)).trans wr_eq), fun i hi => absurd hi (Nat.not_lt_zero i)⟩, ⟨fun o' c' i' z => (wr_ne (by omega)).trans ((p3.1 _ _ _ (by omega)).trans ((wr_ne (by omega)).trans (g3.1 o' c' i' (by omega) (by omega) (by omega)))), (wr_lg _ _ _ _ _).trans (p3.2.trans ((wr_lg _ _ _ _ _).trans g3.2))⟩⟩)
  · refine g_iconst 21 ((-1)) dX6_text_20 rfl rfl ?_
    refine g_aload_n 22 1 dX6_text_21 rfl rfl ?_
    refine g_geto 25 dX6_text_22 rfl fX6_31 rfl (by decide) rfl ?_
    refine g_get 28 (nI ((rT t n).2.1)) dX6_text_25 rfl fX6_69 rfl (by decide) rfl ((wr_ne (by omega)).trans (g2 (of_decide_eq_false c17)).2) ?_
    refine g_isub 29 ((-1) - (nI ((rT t n).2.1))) dX6_text_28 rfl rfl ?_
    exact g_iret rfl dX6_text_29 (by rw [S_txt_no (of_decide_eq_false c17)]; exact ⟨rfl, H.upd (fun o c i ho => (wr_ne (by omega)).trans (g3.1 o c i (by omega) (by omega) (by omega))) (by have e : (wr N 13 0 1 (nI 0)).1 0 = M.1 0 := funext (fun c => funext (fun i => (wr_ne (by omega)).trans (g3.1 0 c i (by omega) (by omega) (by omega)))); rw [e]; exact H.1), (wr_ne (by omega)).trans (g2 (of_decide_eq_false c17)).1, ⟨wr_eq, fun i hi => absurd hi (Nat.not_lt_zero i)⟩, ⟨fun o' c' i' z => (wr_ne (by omega)).trans (g3.1 o' c' i' (by omega) (by omega) (by omega)), (wr_lg _ _ _ _ _).trans g3.2⟩⟩)
