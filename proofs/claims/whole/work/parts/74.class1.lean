set_option maxHeartbeats 4000000 in
set_option maxRecDepth 100000 in
theorem c_X6_isSum {l : Launch} {D : va_G} {g : Nat → Nat → Nat} {ca : Nat → ClassId} {M : Mm} (x : Int32) : Ct l D g ca md_X6_isSum [.int x] M (Ri (fun r M1 => r = bi (isin x (nI 1) (nI 99)) ∧ M1 = M)) := by
  refine Ct.of (by decide) rfl (Nat.le_of_ble_eq_true rfl) ?_
  show G l D g ca md_X6_isSum 0 [(0, .int x)] [] M _
  refine g_iload_n 1 0 dX6_isSum_0 rfl rfl ?_
  refine g_iconst 2 (nI 1) dX6_isSum_1 rfl rfl ?_
  refine g_icmp_lt 15 5 dX6_isSum_2 rfl rfl (fun c2 => ?_) (fun c2 => ?_)
  · refine g_iconst 16 (nI 0) dX6_isSum_15 rfl rfl ?_
    exact g_zret rfl dX6_isSum_16 rfl ⟨by unfold isin; first | (rw [decide_eq_true ⟨fa_of_nlt c2, fa_of_nlt c8⟩]; rfl) | (rw [decide_eq_false (fun q => (fa_of_lt c2).2.1 q.1)]; rfl) | (rw [decide_eq_false (fun q => (fa_of_lt c8).2.1 q.2)]; rfl), rfl⟩
  · refine g_iload_n 6 0 dX6_isSum_5 rfl rfl ?_
    refine g_bipush 8 (nI 99) dX6_isSum_6 rfl rfl ?_
    refine g_icmp_gt 15 11 dX6_isSum_8 rfl rfl (fun c8 => ?_) (fun c8 => ?_)
    · refine g_iconst 16 (nI 0) dX6_isSum_15 rfl rfl ?_
      exact g_zret rfl dX6_isSum_16 rfl ⟨by unfold isin; first | (rw [decide_eq_true ⟨fa_of_nlt c2, fa_of_nlt c8⟩]; rfl) | (rw [decide_eq_false (fun q => (fa_of_lt c2).2.1 q.1)]; rfl) | (rw [decide_eq_false (fun q => (fa_of_lt c8).2.1 q.2)]; rfl), rfl⟩
    · refine g_iconst 12 (nI 1) dX6_isSum_11 rfl rfl ?_
      refine g_goto 16 dX6_isSum_12 rfl ?_
      exact g_zret rfl dX6_isSum_16 rfl ⟨by unfold isin; first | (rw [decide_eq_true ⟨fa_of_nlt c2, fa_of_nlt c8⟩]; rfl) | (rw [decide_eq_false (fun q => (fa_of_lt c2).2.1 q.1)]; rfl) | (rw [decide_eq_false (fun q => (fa_of_lt c8).2.1 q.2)]; rfl), rfl⟩

set_option maxHeartbeats 4000000 in
set_option maxRecDepth 100000 in
theorem c_X6_isHold {l : Launch} {D : va_G} {g : Nat → Nat → Nat} {ca : Nat → ClassId} {M : Mm} (x : Int32) : Ct l D g ca md_X6_isHold [.int x] M (Ri (fun r M1 => r = bi (isin x (nI 0) (nI 999)) ∧ M1 = M)) := by
  refine Ct.of (by decide) rfl (Nat.le_of_ble_eq_true rfl) ?_
  show G l D g ca md_X6_isHold 0 [(0, .int x)] [] M _
  refine g_iload_n 1 0 dX6_isHold_0 rfl rfl ?_
  refine g_if_lt 15 4 dX6_isHold_1 rfl rfl (fun c1 => ?_) (fun c1 => ?_)
  · refine g_iconst 16 (nI 0) dX6_isHold_15 rfl rfl ?_
    exact g_zret rfl dX6_isHold_16 rfl ⟨by unfold isin; first | (rw [decide_eq_true ⟨fa_of_nlt c1, fa_of_nlt c8⟩]; rfl) | (rw [decide_eq_false (fun q => (fa_of_lt c1).2.1 q.1)]; rfl) | (rw [decide_eq_false (fun q => (fa_of_lt c8).2.1 q.2)]; rfl), rfl⟩
  · refine g_iload_n 5 0 dX6_isHold_4 rfl rfl ?_
    refine g_sipush 8 (nI 999) dX6_isHold_5 rfl rfl ?_
    refine g_icmp_gt 15 11 dX6_isHold_8 rfl rfl (fun c8 => ?_) (fun c8 => ?_)
    · refine g_iconst 16 (nI 0) dX6_isHold_15 rfl rfl ?_
      exact g_zret rfl dX6_isHold_16 rfl ⟨by unfold isin; first | (rw [decide_eq_true ⟨fa_of_nlt c1, fa_of_nlt c8⟩]; rfl) | (rw [decide_eq_false (fun q => (fa_of_lt c1).2.1 q.1)]; rfl) | (rw [decide_eq_false (fun q => (fa_of_lt c8).2.1 q.2)]; rfl), rfl⟩
    · refine g_iconst 12 (nI 1) dX6_isHold_11 rfl rfl ?_
      refine g_goto 16 dX6_isHold_12 rfl ?_
      exact g_zret rfl dX6_isHold_16 rfl ⟨by unfold isin; first | (rw [decide_eq_true ⟨fa_of_nlt c1, fa_of_nlt c8⟩]; rfl) | (rw [decide_eq_false (fun q => (fa_of_lt c1).2.1 q.1)]; rfl) | (rw [decide_eq_false (fun q => (fa_of_lt c8).2.1 q.2)]; rfl), rfl⟩

set_option maxHeartbeats 4000000 in
set_option maxRecDepth 100000 in
theorem c_X6_isOrder {l : Launch} {D : va_G} {g : Nat → Nat → Nat} {ca : Nat → ClassId} {M : Mm} {a : Sa} (hK : SK (M.1 0) a) (x y s d : Int32) : Ct l D g ca md_X6_isOrder [.ref (g 12 0), .int x, .int y, .int s, .int d] M (Ri (fun r M1 => r = bi (cask a x y s d) ∧ M1 = M)) := by
  refine Ct.of (by decide) rfl (Nat.le_of_ble_eq_true rfl) ?_
  have hS := hK.1
  have hR := hK.2.1
  have hI := hK.2.2.1
  have hr := hK.2.2.2.1
  have hs := hK.2.2.2.2
  have b0 := hI.today
  have b1 := hI.g4
  have b2 := hI.c6
  have b3 := hI.l24
  have b4 := hr.2
  have hib := hK.ib
  show G l D g ca md_X6_isOrder 0 [(0, .ref (g 12 0)), (1, .int x), (2, .int y), (3, .int s), (4, .int d)] [] M _
  refine g_aload_n 1 0 dX6_isOrder_0 rfl rfl ?_
  refine g_geto 4 dX6_isOrder_1 rfl fX6_19 rfl (by decide) rfl ?_
  refine g_iload_n 5 1 dX6_isOrder_4 rfl rfl ?_
  refine g_callVi 8 md_X2_hasCustomer [.int x] [] dX6_isOrder_5 rfl e_X6_isOrder_177 rfl (by decide) rfl rfl (Nat.le_of_ble_eq_true rfl) (c_X2_hasCustomer rfl hS hI x) (fun r5 M5 h5 => ?_)
  obtain ⟨rfl, h5⟩ := h5
  have h5 := h5.symm
  subst h5
  refine g_ifB_eq 45 11 dX6_isOrder_8 rfl rfl (fun c8 => ?_) (fun c8 => ?_)
  · refine g_iconst 46 (nI 0) dX6_isOrder_45 rfl rfl ?_
    exact g_zret rfl dX6_isOrder_46 rfl ⟨by unfold cask; first | (rw [c8, c19, c26, c38]; rfl) | (rw [c8]; rfl) | (rw [c19, Bool.and_false]; rfl) | (rw [c26, Bool.and_false]; rfl) | (rw [c38, Bool.and_false]; rfl), rfl⟩
  · refine g_aload_n 12 0 dX6_isOrder_11 rfl rfl ?_
    refine g_geto 15 dX6_isOrder_12 rfl fX6_19 rfl (by decide) rfl ?_
    refine g_iload_n 16 2 dX6_isOrder_15 rfl rfl ?_
    refine g_callVi 19 md_X2_hasGood [.int y] [] dX6_isOrder_16 rfl e_X6_isOrder_183 rfl (by decide) rfl rfl (Nat.le_of_ble_eq_true rfl) (c_X2_hasGood rfl hS hI y) (fun r16 M16 h16 => ?_)
    obtain ⟨rfl, h16⟩ := h16
    have h16 := h16.symm
    subst h16
    refine g_ifB_eq 45 22 dX6_isOrder_19 rfl rfl (fun c19 => ?_) (fun c19 => ?_)
    · refine g_iconst 46 (nI 0) dX6_isOrder_45 rfl rfl ?_
      exact g_zret rfl dX6_isOrder_46 rfl ⟨by unfold cask; first | (rw [c8, c19, c26, c38]; rfl) | (rw [c8]; rfl) | (rw [c19, Bool.and_false]; rfl) | (rw [c26, Bool.and_false]; rfl) | (rw [c38, Bool.and_false]; rfl), rfl⟩
    · refine g_iload_n 23 3 dX6_isOrder_22 rfl rfl ?_
      refine g_callSi 26 md_X6_isSum [.int s] [] dX6_isOrder_23 rfl e_X6_isOrder_226 rfl rfl (Nat.le_of_ble_eq_true rfl) (c_X6_isSum s) (fun r23 M23 h23 => ?_)
      obtain ⟨rfl, h23⟩ := h23
      have h23 := h23.symm
      subst h23
      refine g_ifB_eq 45 29 dX6_isOrder_26 rfl rfl (fun c26 => ?_) (fun c26 => ?_)
      · refine g_iconst 46 (nI 0) dX6_isOrder_45 rfl rfl ?_
        exact g_zret rfl dX6_isOrder_46 rfl ⟨by unfold cask; first | (rw [c8, c19, c26, c38]; rfl) | (rw [c8]; rfl) | (rw [c19, Bool.and_false]; rfl) | (rw [c26, Bool.and_false]; rfl) | (rw [c38, Bool.and_false]; rfl), rfl⟩
      · refine g_aload_n 30 0 dX6_isOrder_29 rfl rfl ?_
        refine g_geto 33 dX6_isOrder_30 rfl fX6_19 rfl (by decide) rfl ?_
        refine g_iload 35 4 dX6_isOrder_33 rfl rfl ?_
        refine g_callVi 38 md_X2_isAhead [.int d] [] dX6_isOrder_35 rfl e_X6_isOrder_206 rfl (by decide) rfl rfl (Nat.le_of_ble_eq_true rfl) (c_X2_isAhead rfl hS hI d) (fun r35 M35 h35 => ?_)
        obtain ⟨rfl, h35⟩ := h35
        have h35 := h35.symm
        subst h35
        refine g_ifB_eq 45 41 dX6_isOrder_38 rfl rfl (fun c38 => ?_) (fun c38 => ?_)
        · refine g_iconst 46 (nI 0) dX6_isOrder_45 rfl rfl ?_
          exact g_zret rfl dX6_isOrder_46 rfl ⟨by unfold cask; first | (rw [c8, c19, c26, c38]; rfl) | (rw [c8]; rfl) | (rw [c19, Bool.and_false]; rfl) | (rw [c26, Bool.and_false]; rfl) | (rw [c38, Bool.and_false]; rfl), rfl⟩
        · refine g_iconst 42 (nI 1) dX6_isOrder_41 rfl rfl ?_
          refine g_goto 46 dX6_isOrder_42 rfl ?_
          exact g_zret rfl dX6_isOrder_46 rfl ⟨by unfold cask; first | (rw [c8, c19, c26, c38]; rfl) | (rw [c8]; rfl) | (rw [c19, Bool.and_false]; rfl) | (rw [c26, Bool.and_false]; rfl) | (rw [c38, Bool.and_false]; rfl), rfl⟩

set_option maxHeartbeats 4000000 in
set_option maxRecDepth 100000 in
theorem c_X6_would {l : Launch} {D : va_G} {g : Nat → Nat → Nat} {ca : Nat → ClassId} {M : Mm} {a : Sa} (hK : SK (M.1 0) a) (x y s d : Int32) : Ct l D g ca md_X6_would [.ref (g 12 0), .int x, .int y, .int s, .int d] M (Ri (fun r M1 => r = A_would a x y s d ∧ F116 M M1)) := by
  refine Ct.of (by decide) rfl (Nat.le_of_ble_eq_true rfl) ?_
  have hS := hK.1
  have hR := hK.2.1
  have hI := hK.2.2.1
  have hr := hK.2.2.2.1
  have hs := hK.2.2.2.2
  have b0 := hI.today
  have b1 := hI.g4
  have b2 := hI.c6
  have b3 := hI.l24
  have b4 := hr.2
  have hib := hK.ib
  show G l D g ca md_X6_would 0 [(0, .ref (g 12 0)), (1, .int x), (2, .int y), (3, .int s), (4, .int d)] [] M _
  refine g_aload_n 1 0 dX6_would_0 rfl rfl ?_
  refine g_iload_n 2 1 dX6_would_1 rfl rfl ?_
  refine g_iload_n 3 2 dX6_would_2 rfl rfl ?_
  refine g_iload_n 4 3 dX6_would_3 rfl rfl ?_
  refine g_iload 6 4 dX6_would_4 rfl rfl ?_
  refine g_callVi 9 md_X6_isOrder [.int x, .int y, .int s, .int d] [] dX6_would_6 rfl e_X6_would_212 rfl (by decide) rfl rfl (Nat.le_of_ble_eq_true rfl) (c_X6_isOrder hK x y s d) (fun r6 M6 h6 => ?_)
  obtain ⟨rfl, h6⟩ := h6
  have h6 := h6.symm
  subst h6
  refine g_ifB_ne 14 12 dX6_would_9 rfl rfl (fun c9 => ?_) (fun c9 => ?_)
  · obtain ⟨c, gd, n, j, rfl, rfl, rfl, rfl, hc, hg, hn1, hn2, hj1, hj2⟩ := cask_of c9
    refine g_aload_n 15 0 dX6_would_14 rfl rfl ?_
    refine g_geto 18 dX6_would_15 rfl fX6_19 rfl (by decide) rfl ?_
    refine g_iload_n 19 1 dX6_would_18 rfl rfl ?_
    refine g_iload_n 20 2 dX6_would_19 rfl rfl ?_
    refine g_callVi 23 md_X2_openOrder [.int (nI c), .int (nI gd)] [] dX6_would_20 rfl e_X6_would_216 rfl (by decide) rfl rfl (Nat.le_of_ble_eq_true rfl) (c_X2_openOrder rfl hS hI c gd (by omega) (by omega)) (fun r20 M20 h20 => ?_)
    obtain ⟨rfl, h20⟩ := h20
    have h20 := h20.symm
    subst h20
    refine g_iconst 24 ((-1)) dX6_would_23 rfl rfl ?_
    refine g_icmp_eq 30 27 dX6_would_24 rfl rfl (fun c24 => ?_) (fun c24 => ?_)
    · refine g_aload_n 31 0 dX6_would_30 rfl rfl ?_
      refine g_geto 34 dX6_would_31 rfl fX6_23 rfl (by decide) rfl ?_
      refine g_aload_n 35 0 dX6_would_34 rfl rfl ?_
      refine g_geto 38 dX6_would_35 rfl fX6_19 rfl (by decide) rfl ?_
      refine g_callVv 41 md_X2_copyFrom [.ref (g 0 0)] [] dX6_would_38 rfl e_X6_would_72 rfl (by decide) rfl rfl (Nat.le_of_ble_eq_true rfl) (c_X2_copyFrom (o := 1) (o2 := 0) rfl rfl (by decide)) (fun N h38 => ?_)
      obtain ⟨hA, hB, hF⟩ := h38
      have hD : RP (N.1 1) a := CpB.rp (M := M) (o2 := 0) ⟨hA, hB⟩ hS
      have hS_N : RP (N.1 0) a := RP_fun hS (funext (fun c => funext (fun i => hF.1 0 c i (by decide))))
      refine g_aload_n 42 0 dX6_would_41 rfl rfl ?_
      refine g_geto 45 dX6_would_42 rfl fX6_23 rfl (by decide) rfl ?_
      refine g_iload_n 46 1 dX6_would_45 rfl rfl ?_
      refine g_iload_n 47 2 dX6_would_46 rfl rfl ?_
      refine g_iload_n 48 3 dX6_would_47 rfl rfl ?_
      refine g_iload 50 4 dX6_would_48 rfl rfl ?_
      refine g_callVi 53 md_X2_addOrder [.int (nI c), .int (nI gd), .int (nI n), .int (nI j)] [] dX6_would_50 rfl e_X6_would_219 rfl (by decide) rfl rfl (Nat.le_of_ble_eq_true rfl) (c_X2_addOrder rfl hD c gd n j (by omega)) (fun r50 N2 h50 => ?_)
      obtain ⟨rfl, hN2⟩ := h50
      have hno := (oop_asked (by omega)).mp c24
      have hD2 : RP (N2.1 1) (addO a c gd n j) := by rw [hN2]; exact RP_addO hD (by omega) (fun j i h1 h2 h3 => by rw [wr_ne (by omega), wr_ne (by omega), wr_ne (by omega), wr_ne (by omega), wr_ne (by omega), wr_ne (by omega), wr_ne (by omega)]) wr_eq (by rw [wr_ne (by omega), wr_ne (by omega), wr_ne (by omega), wr_ne (by omega), wr_ne (by omega), wr_ne (by omega), wr_eq]) (by rw [wr_ne (by omega), wr_ne (by omega), wr_ne (by omega), wr_ne (by omega), wr_ne (by omega), wr_eq]) (by rw [wr_ne (by omega), wr_ne (by omega), wr_ne (by omega), wr_ne (by omega), wr_eq]) (by rw [wr_ne (by omega), wr_ne (by omega), wr_ne (by omega), wr_eq]) (by rw [wr_ne (by omega), wr_ne (by omega), wr_eq]) (by rw [wr_ne (by omega), wr_eq])
      have hF2 : Fo 1 N N2 := by rw [hN2]; exact (((((Fo.wr.tr Fo.wr).tr Fo.wr).tr Fo.wr).tr Fo.wr).tr Fo.wr).tr Fo.wr
      have hIb := Iv_addO (d := j) hI b4 hc hg hn1 hn2 (by omega) hno
      clear hN2
      refine g_istore 55 [(5, .int (nI (a 0 4))), (0, .ref (g 12 0)), (1, .int (nI c)), (2, .int (nI gd)), (3, .int (nI n)), (4, .int (nI j))] dX6_would_53 rfl (by decide) rfl ?_
      refine g_aload_n 56 1 dX6_would_55 rfl rfl ?_
      refine g_geto 59 dX6_would_56 rfl fX6_40 rfl (by decide) rfl ?_
      refine g_aload_n 60 1 dX6_would_59 rfl rfl ?_
      refine g_geto 63 dX6_would_60 rfl fX6_23 rfl (by decide) rfl ?_
      refine g_iload_n 64 3 dX6_would_63 rfl rfl ?_
      refine g_callVv 67 md_X1_make [.ref (g 1 0), .int (nI gd)] [] dX6_would_64 rfl e_X6_would_196 rfl (by decide) rfl rfl (Nat.le_of_ble_eq_true rfl) (c_X1_make rfl hD2 hIb gd (by omega)) (fun N3 h64 => ?_)
      obtain ⟨hP, hF3⟩ := h64
      refine g_aload_n 68 1 dX6_would_67 rfl rfl ?_
      refine g_geto 71 dX6_would_68 rfl fX6_40 rfl (by decide) rfl ?_
      refine g_iload 73 0 dX6_would_71 rfl rfl ?_
      refine g_callVi 76 md_X1_grantOf [.int (nI (a 0 4))] [] dX6_would_73 rfl e_X6_would_200 rfl (by decide) rfl rfl (Nat.le_of_ble_eq_true rfl) (c_X1_grantOf rfl hIb hP (a 0 4) (by rw [addO_04]; omega) addO_15 addO_18) (fun r73 M73 h73 => ?_)
      obtain ⟨rfl, h73⟩ := h73
      have h73 := h73.symm
      subst h73
      exact g_iret rfl dX6_would_76 ⟨(A_would_at c9 (by omega) (by omega) (by omega) (by omega) hno).symm, hF.f1.tr (hF2.f1.tr hF3.f16)⟩
    · refine g_bipush 29 ((-2)) dX6_would_27 rfl rfl ?_
      exact g_iret rfl dX6_would_29 ⟨(A_would_a c9 (by omega) (by omega) (Bool.not_eq_false _ ▸ (fun z => c24 ((oop_asked (by omega)).mpr z)))).symm, F116.rf⟩
  · refine g_iconst 13 ((-1)) dX6_would_12 rfl rfl ?_
    exact g_iret rfl dX6_would_13 ⟨(A_would_no c9).symm, F116.rf⟩

set_option maxHeartbeats 4000000 in
set_option maxRecDepth 100000 in
theorem c_X6_isFilledWith {l : Launch} {D : va_G} {g : Nat → Nat → Nat} {ca : Nat → ClassId} {M : Mm} {a : Sa} (hK : SK (M.1 0) a) (q n v : Nat) (hq : q < a 0 4) (h18 : a 18 q = 0) (hn : n ≤ a 8 (a 14 q)) (hD : RP (M.1 1) (ua a 8 (a 14 q) v)) : Ct l D g ca md_X6_isFilledWith [.ref (g 12 0), .int (nI n), .int (nI q)] M (Ri (fun r M1 => r = bi (fil a q n) ∧ RP (M1.1 1) (ua a 8 (a 14 q) (a 8 (a 14 q) - n)) ∧ F116 M M1)) := by
  refine Ct.of (by decide) rfl (Nat.le_of_ble_eq_true rfl) ?_
  have hS := hK.1
  have hR := hK.2.1
  have hI := hK.2.2.1
  have hr := hK.2.2.2.1
  have hs := hK.2.2.2.2
  have b0 := hI.today
  have b1 := hI.g4
  have b2 := hI.c6
  have b3 := hI.l24
  have b4 := hr.2
  have hib := hK.ib
  have hoq := hI.ord hq
  have hlf := hI.life hoq.1
  show G l D g ca md_X6_isFilledWith 0 [(0, .ref (g 12 0)), (1, .int (nI n)), (2, .int (nI q))] [] M _
  refine g_aload_n 1 0 dX6_isFilledWith_0 rfl rfl ?_
  refine g_geto 4 dX6_isFilledWith_1 rfl fX6_19 rfl (by decide) rfl ?_
  refine g_geta 7 14 dX6_isFilledWith_4 rfl fX6_150 rfl (by decide) rfl rfl ?_
  refine g_iload_n 8 2 dX6_isFilledWith_7 rfl rfl ?_
  refine g_iald 9 (nI (a 14 q)) dX6_isFilledWith_8 rfl rfl (by decide) rfl (by decide) (by omega) (hS.ord (by decide) (by decide) (by omega)) ?_
  refine g_istore_n 10 [(3, .int (nI (a 14 q))), (0, .ref (g 12 0)), (1, .int (nI n)), (2, .int (nI q))] dX6_isFilledWith_9 rfl (by decide) rfl ?_
  refine g_aload_n 11 1 dX6_isFilledWith_10 rfl rfl ?_
  refine g_geto 14 dX6_isFilledWith_11 rfl fX6_23 rfl (by decide) rfl ?_
  refine g_geta 17 8 dX6_isFilledWith_14 rfl fX6_180 rfl (by decide) rfl rfl ?_
  refine g_iload_n 18 0 dX6_isFilledWith_17 rfl rfl ?_
  refine g_aload_n 19 1 dX6_isFilledWith_18 rfl rfl ?_
  refine g_geto 22 dX6_isFilledWith_19 rfl fX6_19 rfl (by decide) rfl ?_
  refine g_geta 25 8 dX6_isFilledWith_22 rfl fX6_180 rfl (by decide) rfl rfl ?_
  refine g_iload_n 26 0 dX6_isFilledWith_25 rfl rfl ?_
  refine g_iald 27 (nI (a 8 (a 14 q))) dX6_isFilledWith_26 rfl rfl (by decide) rfl (by decide) (by have := hI.ord (o := q) (by omega); omega) (hS.life (by have := hI.ord (o := q) (by omega); omega)) ?_
  refine g_iload_n 28 2 dX6_isFilledWith_27 rfl rfl ?_
  refine g_isub 29 (nI (a 8 (a 14 q) - n)) dX6_isFilledWith_28 rfl (pk_sub (by omega)) ?_
  refine g_iast 30 dX6_isFilledWith_29 rfl rfl (by decide) rfl (by decide) (by have := hI.ord (o := q) (by omega); omega) ?_
  refine g_aload_n 31 1 dX6_isFilledWith_30 rfl rfl ?_
  refine g_geto 34 dX6_isFilledWith_31 rfl fX6_40 rfl (by decide) rfl ?_
  refine g_aload_n 35 1 dX6_isFilledWith_34 rfl rfl ?_
  refine g_geto 38 dX6_isFilledWith_35 rfl fX6_23 rfl (by decide) rfl ?_
  refine g_aload_n 39 1 dX6_isFilledWith_38 rfl rfl ?_
  refine g_geto 42 dX6_isFilledWith_39 rfl fX6_19 rfl (by decide) rfl ?_
  refine g_geta 45 15 dX6_isFilledWith_42 rfl fX6_153 rfl (by decide) rfl rfl ?_
  refine g_iload_n 46 3 dX6_isFilledWith_45 rfl rfl ?_
  refine g_iald 47 (nI (a 15 q)) dX6_isFilledWith_46 rfl rfl (by decide) rfl (by decide) (by omega) ((wr_ne (by omega)).trans (hS.ord (by decide) (by decide) (by omega))) ?_
  have hD2 : RP ((wr M 1 8 (a 14 q) (nI (a 8 (a 14 q) - n))).1 1) (ua a 8 (a 14 q) (a 8 (a 14 q) - n)) := by rw [← ul_ul (v := v)]; exact RP_ua hD (by omega) (by decide) (fun c i hc hne => wr_ne (by omega)) wr_eq
  refine g_callVv 50 md_X1_make [.ref (g 1 0), .int (nI (a 15 q))] [] dX6_isFilledWith_47 rfl e_X6_isFilledWith_196 rfl (by decide) rfl rfl (Nat.le_of_ble_eq_true rfl) (c_X1_make rfl hD2 (Iv_life hI (by omega)) (a 15 q) (by omega)) (fun N h47 => ?_)
  obtain ⟨hP, hF⟩ := h47
  have hS_N : RP (N.1 0) a := RP_fun hS (funext (fun c => funext (fun i => (hF.1 0 c i (by decide)).trans (wr_ne (by omega)))))
  have hD3 : RP (N.1 1) (ua a 8 (a 14 q) (a 8 (a 14 q) - n)) := RP_fun hD2 (funext (fun c => funext (fun i => hF.1 1 c i (by decide))))
  have h9 := shp_sum (n := AgN (ua a 8 (a 14 q) (a 8 (a 14 q) - n)) (a 15 q)) (gd := a 15 q) (i := tpos (ua a 8 (a 14 q) (a 8 (a 14 q) - n)) (a 15 q) q) (Iv_life (c := a 14 q) (v := a 8 (a 14 q) - n) hI (by omega))
  rw [(tpos_lt (a := (ua a 8 (a 14 q) (a 8 (a 14 q) - n))) (gd := a 15 q) (x := q) (by rw [ua_ne (by omega)]; exact hq) (ua_ne (by omega)) ((ua_ne (by omega)).trans h18)).2, ua_ne (by omega)] at h9
  refine g_aload_n 51 1 dX6_isFilledWith_50 rfl rfl ?_
  refine g_geto 54 dX6_isFilledWith_51 rfl fX6_40 rfl (by decide) rfl ?_
  refine g_iload_n 55 3 dX6_isFilledWith_54 rfl rfl ?_
  refine g_callVi 58 md_X1_grantOf [.int (nI q)] [] dX6_isFilledWith_55 rfl e_X6_isFilledWith_200 rfl (by decide) rfl rfl (Nat.le_of_ble_eq_true rfl) (c_X1_grantOf rfl (Iv_life hI (by omega)) hP q (by rw [ua_ne (by omega)]; exact hq) (ua_ne (by omega)) ((ua_ne (by omega)).trans h18)) (fun r55 M55 h55 => ?_)
  obtain ⟨rfl, h55⟩ := h55
  have h55 := h55.symm
  subst h55
  refine g_aload_n 59 1 dX6_isFilledWith_58 rfl rfl ?_
  refine g_geto 62 dX6_isFilledWith_59 rfl fX6_19 rfl (by decide) rfl ?_
  refine g_geta 65 16 dX6_isFilledWith_62 rfl fX6_156 rfl (by decide) rfl rfl ?_
  refine g_iload_n 66 3 dX6_isFilledWith_65 rfl rfl ?_
  refine g_iald 67 (nI (a 16 q)) dX6_isFilledWith_66 rfl rfl (by decide) rfl (by decide) (by omega) (hS_N.ord (by decide) (by decide) (by omega)) ?_
  refine g_icmpN_ne 74 70 dX6_isFilledWith_67 rfl rfl (by omega) (by omega) (fun c67 => ?_) (fun c67 => ?_)
  · refine g_iconst 75 (nI 0) dX6_isFilledWith_74 rfl rfl ?_
    exact g_zret rfl dX6_isFilledWith_75 rfl ⟨by unfold fil; first | (rw [decide_eq_true c67]; rfl) | (rw [decide_eq_false c67]; rfl), hD3, (Fo.f1 Fo.wr).tr hF.f16⟩
  · refine g_iconst 71 (nI 1) dX6_isFilledWith_70 rfl rfl ?_
    refine g_goto 75 dX6_isFilledWith_71 rfl ?_
    exact g_zret rfl dX6_isFilledWith_75 rfl ⟨by unfold fil; first | (rw [decide_eq_true c67]; rfl) | (rw [decide_eq_false c67]; rfl), hD3, (Fo.f1 Fo.wr).tr hF.f16⟩

set_option maxHeartbeats 4000000 in
set_option maxRecDepth 100000 in
theorem c_X6_slack {l : Launch} {D : va_G} {g : Nat → Nat → Nat} {ca : Nat → ClassId} {M : Mm} {a : Sa} (hK : SK (M.1 0) a) (y : Int32) : Ct l D g ca md_X6_slack [.ref (g 12 0), .int y] M (Ri (fun r M1 => r = A_slack a y ∧ F116 M M1)) := by
  refine Ct.of (by decide) rfl (Nat.le_of_ble_eq_true rfl) ?_
  have hS := hK.1
  have hR := hK.2.1
  have hI := hK.2.2.1
  have hr := hK.2.2.2.1
  have hs := hK.2.2.2.2
  have b0 := hI.today
  have b1 := hI.g4
  have b2 := hI.c6
  have b3 := hI.l24
  have b4 := hr.2
  have hib := hK.ib
  show G l D g ca md_X6_slack 0 [(0, .ref (g 12 0)), (1, .int y)] [] M _
  refine g_aload_n 1 0 dX6_slack_0 rfl rfl ?_
  refine g_geto 4 dX6_slack_1 rfl fX6_19 rfl (by decide) rfl ?_
  refine g_iload_n 5 1 dX6_slack_4 rfl rfl ?_
  refine g_callVi 8 md_X2_isOpen [.int y] [] dX6_slack_5 rfl e_X6_slack_189 rfl (by decide) rfl rfl (Nat.le_of_ble_eq_true rfl) (c_X2_isOpen rfl hS hI y) (fun r5 M5 h5 => ?_)
  obtain ⟨rfl, h5⟩ := h5
  have h5 := h5.symm
  subst h5
  refine g_ifB_ne 13 11 dX6_slack_8 rfl rfl (fun c8 => ?_) (fun c8 => ?_)
  · obtain ⟨q, hq, rfl, h18⟩ := opn_of c8 (by omega)
    have hoq := hI.ord hq
    have hlf := hI.life hoq.1
    refine g_aload_n 14 0 dX6_slack_13 rfl rfl ?_
    refine g_geto 17 dX6_slack_14 rfl fX6_23 rfl (by decide) rfl ?_
    refine g_aload_n 18 0 dX6_slack_17 rfl rfl ?_
    refine g_geto 21 dX6_slack_18 rfl fX6_19 rfl (by decide) rfl ?_
    refine g_callVv 24 md_X2_copyFrom [.ref (g 0 0)] [] dX6_slack_21 rfl e_X6_slack_72 rfl (by decide) rfl rfl (Nat.le_of_ble_eq_true rfl) (c_X2_copyFrom (o := 1) (o2 := 0) rfl rfl (by decide)) (fun N h21 => ?_)
    obtain ⟨hA, hB, hF⟩ := h21
    have hD : RP (N.1 1) a := CpB.rp (M := M) (o2 := 0) ⟨hA, hB⟩ hS
    have hS_N : RP (N.1 0) a := RP_fun hS (funext (fun c => funext (fun i => hF.1 0 c i (by decide))))
    refine g_aload_n 25 0 dX6_slack_24 rfl rfl ?_
    refine g_geto 28 dX6_slack_25 rfl fX6_19 rfl (by decide) rfl ?_
    refine g_geta 31 8 dX6_slack_28 rfl fX6_180 rfl (by decide) rfl rfl ?_
    refine g_aload_n 32 0 dX6_slack_31 rfl rfl ?_
    refine g_geto 35 dX6_slack_32 rfl fX6_19 rfl (by decide) rfl ?_
    refine g_geta 38 14 dX6_slack_35 rfl fX6_150 rfl (by decide) rfl rfl ?_
    refine g_iload_n 39 1 dX6_slack_38 rfl rfl ?_
    refine g_iald 40 (nI (a 14 q)) dX6_slack_39 rfl rfl (by decide) rfl (by decide) (by omega) (hS_N.ord (by decide) (by decide) (by omega)) ?_
    refine g_iald 41 (nI (a 8 (a 14 q))) dX6_slack_40 rfl rfl (by decide) rfl (by decide) (by have := hI.ord (o := q) (by omega); omega) (hS_N.life (by have := hI.ord (o := q) (by omega); omega)) ?_
    refine g_istore_n 42 [(2, .int (nI (a 8 (a 14 q)))), (0, .ref (g 12 0)), (1, .int (nI q))] dX6_slack_41 rfl (by decide) rfl ?_
    refine g_aload_n 43 1 dX6_slack_42 rfl rfl ?_
    refine g_iload_n 44 0 dX6_slack_43 rfl rfl ?_
    refine g_iload_n 45 2 dX6_slack_44 rfl rfl ?_
    have hK_N : SK (N.1 0) a := ⟨hS_N, hF.f1.sk hK |>.2⟩
    have hD0 : RP (N.1 1) (ua a 8 (a 14 q) (a 8 (a 14 q))) := by rw [ul_self]; exact hD
    refine g_callVi 48 md_X6_isFilledWith [.int (nI (a 8 (a 14 q))), .int (nI q)] [] dX6_slack_45 rfl e_X6_slack_223 rfl (by decide) rfl rfl (Nat.le_of_ble_eq_true rfl) (c_X6_isFilledWith hK_N q (a 8 (a 14 q)) _ hq h18 (Nat.le_refl _) hD0) (fun r45 B h45 => ?_)
    obtain ⟨rfl, hD2, hF2⟩ := h45
    have hFB := hF.f1.tr hF2
    refine g_ifB_ne 54 51 dX6_slack_48 rfl rfl (fun c48 => ?_) (fun c48 => ?_)
    · refine g_iconst 55 (nI 0) dX6_slack_54 rfl rfl ?_
      refine g_istore_n 56 [(3, .int (nI 0)), (2, .int (nI (a 8 (a 14 q)))), (0, .ref (g 12 0)), (1, .int (nI q))] dX6_slack_55 rfl (by decide) rfl ?_
      refine g_iconst 57 (nI 0) dX6_slack_56 rfl rfl ?_
      refine g_istore 59 [(4, .int (nI 0)), (3, .int (nI 0)), (2, .int (nI (a 8 (a 14 q)))), (0, .ref (g 12 0)), (1, .int (nI q))] dX6_slack_57 rfl (by decide) rfl ?_
      have L59 : ∀ k, k ≤ 100 → ∀ (C : Mm) (lo en v : Nat), en ≤ a 8 (a 14 q) → lo ≤ en → en + k ≤ lo + 99 → fil a q en = true → (∀ i, i < lo → ¬ fil a q i = true) → RP (C.1 1) (ua a 8 (a 14 q) v) → F116 M C → G l D g ca md_X6_slack 59 [(4, .int (nI k)), (3, .int (nI lo)), (2, .int (nI en)), (0, .ref (g 12 0)), (1, .int (nI q))] [] C (Ri (fun r M1 => r = A_slack a (nI q) ∧ F116 M M1)) := by
        refine upto ?_
        intro k hk ih59 C lo en v hen hle hst hfe hlo hDC hFC
        refine g_iload 61 0 dX6_slack_59 rfl rfl ?_
        refine g_bipush 63 (nI 99) dX6_slack_61 rfl rfl ?_
        refine g_icmpN_gt 105 66 dX6_slack_63 rfl rfl (by omega) (by omega) (fun c63 => ?_) (fun c63 => ?_)
        · refine g_iload_n 106 2 dX6_slack_105 rfl rfl ?_
          exact g_iret rfl dX6_slack_106 ⟨(A_slack_at c8 (by omega) (by omega) hfe (fun i hi => hlo i (by omega))).symm, hFC⟩
        · refine g_iload_n 67 1 dX6_slack_66 rfl rfl ?_
          refine g_iload_n 68 2 dX6_slack_67 rfl rfl ?_
          refine g_icmpN_ge 105 71 dX6_slack_68 rfl rfl (by omega) (by omega) (fun c68 => ?_) (fun c68 => ?_)
          · refine g_iload_n 106 2 dX6_slack_105 rfl rfl ?_
            exact g_iret rfl dX6_slack_106 ⟨(A_slack_at c8 (by omega) (by omega) hfe (fun i hi => hlo i (by omega))).symm, hFC⟩
          · refine g_iload_n 72 1 dX6_slack_71 rfl rfl ?_
            refine g_iload_n 73 2 dX6_slack_72 rfl rfl ?_
            refine g_iadd 74 (nI (lo + en)) dX6_slack_73 rfl (nI_add lo en) ?_
            refine g_iconst 75 (nI 2) dX6_slack_74 rfl rfl ?_
            refine g_idiv 76 (nI ((lo + en) / 2)) dX6_slack_75 rfl (by decide) (nI_half (by omega)) ?_
            refine g_istore 78 [(5, .int (nI ((lo + en) / 2))), (4, .int (nI k)), (3, .int (nI lo)), (2, .int (nI en)), (0, .ref (g 12 0)), (1, .int (nI q))] dX6_slack_76 rfl (by decide) rfl ?_
            refine g_aload_n 79 4 dX6_slack_78 rfl rfl ?_
            refine g_iload 81 0 dX6_slack_79 rfl rfl ?_
            refine g_iload_n 82 5 dX6_slack_81 rfl rfl ?_
            refine g_callVi 85 md_X6_isFilledWith [.int (nI ((lo + en) / 2)), .int (nI q)] [] dX6_slack_82 rfl e_X6_slack_223 rfl (by decide) rfl rfl (Nat.le_of_ble_eq_true rfl) (c_X6_isFilledWith (hFC.sk hK) q ((lo + en) / 2) v hq h18 (by omega) hDC) (fun r82 E h82 => ?_)
            obtain ⟨rfl, hDE, hFE⟩ := h82
            refine g_ifB_eq 94 88 dX6_slack_85 rfl rfl (fun c85 => ?_) (fun c85 => ?_)
            · refine g_iload 96 0 dX6_slack_94 rfl rfl ?_
              refine g_iconst 97 (nI 1) dX6_slack_96 rfl rfl ?_
              refine g_iadd 98 (nI (((lo + en) / 2) + 1)) dX6_slack_97 rfl (nI_add ((lo + en) / 2) 1) ?_
              refine g_istore_n 99 [(3, .int (nI (((lo + en) / 2) + 1))), (5, .int (nI ((lo + en) / 2))), (4, .int (nI k)), (2, .int (nI en)), (0, .ref (g 12 0)), (1, .int (nI q))] dX6_slack_98 rfl (by decide) rfl ?_
              refine g_iinc 102 (nI (k + 1)) [(4, .int (nI (k + 1))), (3, .int (nI (((lo + en) / 2) + 1))), (5, .int (nI ((lo + en) / 2))), (2, .int (nI en)), (0, .ref (g 12 0)), (1, .int (nI q))] dX6_slack_99 rfl 2 rfl (nI_add k 1) (by decide) rfl ?_
              refine g_goto 59 dX6_slack_102 rfl ?_
              refine g_lv [0, 1, 3, 4, 5] rfl ?_
              exact ih59 (by omega) _ _ _ _ (by omega) (by omega) (by omega) (by first | exact c85 | exact hfe) (by first | exact fun i hi z => absurd (fil_mono hI hq h18 (show i ≤ (lo + en) / 2 by omega) z) (by rw [c85]; decide) | exact hlo) hDE (hFC.tr hFE)
            · refine g_iload 90 0 dX6_slack_88 rfl rfl ?_
              refine g_istore_n 91 [(2, .int (nI ((lo + en) / 2))), (5, .int (nI ((lo + en) / 2))), (4, .int (nI k)), (3, .int (nI lo)), (0, .ref (g 12 0)), (1, .int (nI q))] dX6_slack_90 rfl (by decide) rfl ?_
              refine g_goto 99 dX6_slack_91 rfl ?_
              refine g_iinc 102 (nI (k + 1)) [(4, .int (nI (k + 1))), (2, .int (nI ((lo + en) / 2))), (5, .int (nI ((lo + en) / 2))), (3, .int (nI lo)), (0, .ref (g 12 0)), (1, .int (nI q))] dX6_slack_99 rfl 2 rfl (nI_add k 1) (by decide) rfl ?_
              refine g_goto 59 dX6_slack_102 rfl ?_
              refine g_lv [0, 3, 1, 4, 5] rfl ?_
              exact ih59 (by omega) _ _ _ _ (by omega) (by omega) (by omega) (by first | exact c85 | exact hfe) (by first | exact fun i hi z => absurd (fil_mono hI hq h18 (show i ≤ (lo + en) / 2 by omega) z) (by rw [c85]; decide) | exact hlo) hDE (hFC.tr hFE)
      exact L59 0 (Nat.zero_le _) B 0 (a 8 (a 14 q)) _ (Nat.le_refl _) (Nat.zero_le _) (by omega) c48 (fun i h => absurd h (Nat.not_lt_zero i)) hD2 hFB
    · refine g_bipush 53 ((-2)) dX6_slack_51 rfl rfl ?_
      exact g_iret rfl dX6_slack_53 ⟨(A_slack_none c8 (by omega) (fun i hi z => absurd (fil_mono hI hq h18 (show i ≤ a 8 (a 14 q) by omega) z) (by rw [c48]; decide))).symm, hFB⟩
  · refine g_iconst 12 ((-1)) dX6_slack_11 rfl rfl ?_
    exact g_iret rfl dX6_slack_12 ⟨(A_slack_no c8).symm, F116.rf⟩
