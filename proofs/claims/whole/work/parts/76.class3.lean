set_option maxHeartbeats 4000000 in
set_option maxRecDepth 100000 in
theorem c_X6_comes {l : Launch} {D : va_G} {g : Nat → Nat → Nat} {ca : Nat → ClassId} {M : Mm} {a : Sa} {m : Nat} {h : Nat → Sa} (hC : CS M (a, m, h)) (x y z w : Int32) : Ct l D g ca md_X6_comes [.ref (g 12 0), .int x, .int y, .int z, .int w] M (Ri (fun r M1 => r = (S_comes (a, m, h) x y z w).1 ∧ CS M1 (S_comes (a, m, h) x y z w).2 ∧ FC M M1)) := by
  refine Ct.of (by decide) rfl (Nat.le_of_ble_eq_true rfl) ?_
  have hK : SK (M.1 0) a := hC.1
  have hS := hK.1
  have hR := hK.2.1
  have hI := hK.2.2.1
  have hr := hK.2.2.2.1
  have hs := hK.2.2.2.2
  have b0 := hI.today
  have b1 := hI.g4
  have b2 := hI.c6
  have b3 := hI.l24
  have b4 := hr.2
  have hib := hK.ib
  have hO := SK_ok hK
  obtain ⟨nx, n10, hnx, hmm, m10, hps⟩ := hC.2
  have hmm : M.1 17 0 2 = nI m := hmm
  have m10 : m ≤ 10 := m10
  show G l D g ca md_X6_comes 0 [(0, .ref (g 12 0)), (1, .int x), (2, .int y), (3, .int z), (4, .int w)] [] M _
  refine g_aload_n 1 0 dX6_comes_0 rfl rfl ?_
  refine g_geto 4 dX6_comes_1 rfl fX6_19 rfl (by decide) rfl ?_
  refine g_iload_n 5 1 dX6_comes_4 rfl rfl ?_
  refine g_callVi 8 md_X2_hasGood [.int x] [] dX6_comes_5 rfl e_X6_comes_183 rfl (by decide) rfl rfl (Nat.le_of_ble_eq_true rfl) (c_X2_hasGood rfl hS hI x) (fun r5 M5 h5 => ?_)
  obtain ⟨rfl, h5⟩ := h5
  have h5 := h5.symm
  subst h5
  refine g_ifB_eq 37 11 dX6_comes_8 rfl rfl (fun c8 => ?_) (fun c8 => ?_)
  · refine g_iconst 38 ((-1)) dX6_comes_37 rfl rfl ?_
    exact g_iret rfl dX6_comes_38 (by rw [S_comes_no (by unfold cokm; first | (rw [c8]; rfl) | (rw [c19, Bool.and_false]; rfl) | (rw [c26, Bool.and_false]; rfl) | (rw [c34, Bool.and_false]))]; exact ⟨rfl, hC, FC.rf⟩)
  · refine g_aload_n 12 0 dX6_comes_11 rfl rfl ?_
    refine g_geto 15 dX6_comes_12 rfl fX6_19 rfl (by decide) rfl ?_
    refine g_iload_n 16 2 dX6_comes_15 rfl rfl ?_
    refine g_callVi 19 md_X2_isAhead [.int y] [] dX6_comes_16 rfl e_X6_comes_206 rfl (by decide) rfl rfl (Nat.le_of_ble_eq_true rfl) (c_X2_isAhead rfl hS hI y) (fun r16 M16 h16 => ?_)
    obtain ⟨rfl, h16⟩ := h16
    have h16 := h16.symm
    subst h16
    refine g_ifB_eq 37 22 dX6_comes_19 rfl rfl (fun c19 => ?_) (fun c19 => ?_)
    · refine g_iconst 38 ((-1)) dX6_comes_37 rfl rfl ?_
      exact g_iret rfl dX6_comes_38 (by rw [S_comes_no (by unfold cokm; first | (rw [c8]; rfl) | (rw [c19, Bool.and_false]; rfl) | (rw [c26, Bool.and_false]; rfl) | (rw [c34, Bool.and_false]))]; exact ⟨rfl, hC, FC.rf⟩)
    · refine g_iload_n 23 3 dX6_comes_22 rfl rfl ?_
      refine g_callSi 26 md_X6_isSum [.int z] [] dX6_comes_23 rfl e_X6_comes_226 rfl rfl (Nat.le_of_ble_eq_true rfl) (c_X6_isSum z) (fun r23 M23 h23 => ?_)
      obtain ⟨rfl, h23⟩ := h23
      have h23 := h23.symm
      subst h23
      refine g_ifB_eq 37 29 dX6_comes_26 rfl rfl (fun c26 => ?_) (fun c26 => ?_)
      · refine g_iconst 38 ((-1)) dX6_comes_37 rfl rfl ?_
        exact g_iret rfl dX6_comes_38 (by rw [S_comes_no (by unfold cokm; first | (rw [c8]; rfl) | (rw [c19, Bool.and_false]; rfl) | (rw [c26, Bool.and_false]; rfl) | (rw [c34, Bool.and_false]))]; exact ⟨rfl, hC, FC.rf⟩)
      · refine g_iload 31 4 dX6_comes_29 rfl rfl ?_
        refine g_callSi 34 md_X6_isHold [.int w] [] dX6_comes_31 rfl e_X6_comes_229 rfl rfl (Nat.le_of_ble_eq_true rfl) (c_X6_isHold w) (fun r31 M31 h31 => ?_)
        obtain ⟨rfl, h31⟩ := h31
        have h31 := h31.symm
        subst h31
        refine g_ifB_ne 39 37 dX6_comes_34 rfl rfl (fun c34 => ?_) (fun c34 => ?_)
        · have hok : cokm a x y z w = true := by unfold cokm; rw [c8, c19, c26, c34]; rfl
          obtain ⟨gd, e, s, t, rfl, rfl, rfl, rfl, hg, he1, he2, hs1, hs2, ht⟩ := cok_of hok
          refine g_aload_n 40 0 dX6_comes_39 rfl rfl ?_
          refine g_geto 43 dX6_comes_40 rfl fX6_19 rfl (by decide) rfl ?_
          refine g_get 46 (nI (a 0 3)) dX6_comes_43 rfl fX6_90 rfl (by decide) rfl (hS.sc (by decide)) ?_
          refine g_bipush 48 (nI 24) dX6_comes_46 rfl rfl ?_
          refine g_icmpN_lt 54 51 dX6_comes_48 rfl rfl (by omega) (by omega) (fun c48 => ?_) (fun c48 => ?_)
          · refine g_aload_n 55 0 dX6_comes_54 rfl rfl ?_
            refine g_geto 58 dX6_comes_55 rfl fX6_47 rfl (by decide) rfl ?_
            refine g_aload_n 59 0 dX6_comes_58 rfl rfl ?_
            refine g_geto 62 dX6_comes_59 rfl fX6_19 rfl (by decide) rfl ?_
            refine g_callVv 65 md_X0_keep [.ref (g 0 0)] [] dX6_comes_62 rfl e_X6_comes_232 rfl (by decide) rfl rfl (Nat.le_of_ble_eq_true rfl) (c_X0_keep (o := 0) (by decide) hnx n10 hmm m10) (fun N h62 => ?_)
            obtain ⟨k1, k2, k3, k4, k5⟩ := h62
            obtain ⟨hC1, hFC1⟩ := CS_keep (h := h) hK n10 m10 hps k1 k2 k3 k4 k5
            have hK_N : SK (N.1 0) a := hC1.1
            have hS_N := hK_N.1
            refine g_aload_n 66 0 dX6_comes_65 rfl rfl ?_
            refine g_geto 69 dX6_comes_66 rfl fX6_19 rfl (by decide) rfl ?_
            refine g_iload_n 70 1 dX6_comes_69 rfl rfl ?_
            refine g_iload_n 71 2 dX6_comes_70 rfl rfl ?_
            refine g_iload_n 72 3 dX6_comes_71 rfl rfl ?_
            refine g_iload 74 4 dX6_comes_72 rfl rfl ?_
            refine g_callVi 77 md_X2_addLot [.int (nI gd), .int (nI e), .int (nI s), .int (nI t)] [] dX6_comes_74 rfl e_X6_comes_235 rfl (by decide) rfl rfl (Nat.le_of_ble_eq_true rfl) (c_X2_addLot rfl hS_N gd e s t (by omega)) (fun r74 N2 h74 => ?_)
            obtain ⟨rfl, hN2⟩ := h74
            have hK2 : SK (N2.1 0) (addL a gd e s t) := by rw [hN2]; exact SK_mk (RP_addL hS_N (by omega) (fun j i h1 h2 h3 => by rw [wr_ne (by omega), wr_ne (by omega), wr_ne (by omega), wr_ne (by omega), wr_ne (by omega)]) wr_eq (by rw [wr_ne (by omega), wr_ne (by omega), wr_ne (by omega), wr_ne (by omega), wr_eq]) (by rw [wr_ne (by omega), wr_ne (by omega), wr_ne (by omega), wr_eq]) (by rw [wr_ne (by omega), wr_ne (by omega), wr_eq]) (by rw [wr_ne (by omega), wr_eq])) (RR_addL hK_N.2.1 hr (fun i => by rw [wr_ne (by omega), wr_ne (by omega), wr_ne (by omega), wr_ne (by omega), wr_ne (by omega)])) (Ok_addL hO (by omega) hg (by omega) hs2 ht)
            have hF2 : Fo 0 N N2 := by rw [hN2]; exact (((Fo.wr.tr Fo.wr).tr Fo.wr).tr Fo.wr).tr Fo.wr
            clear hN2
            exact g_iret rfl dX6_comes_77 (by rw [S_comes_at (by omega) (by omega) (by omega) (by omega) hok (by omega)]; exact ⟨rfl, hC1.upd (fun o c i ho => hF2.1 o c i (by omega)) hK2, hFC1.tr hF2.fc0⟩)
          · refine g_bipush 53 ((-2)) dX6_comes_51 rfl rfl ?_
            exact g_iret rfl dX6_comes_53 (by rw [S_comes_full hok (by omega)]; exact ⟨rfl, hC, FC.rf⟩)
        · refine g_iconst 38 ((-1)) dX6_comes_37 rfl rfl ?_
          exact g_iret rfl dX6_comes_38 (by rw [S_comes_no (by unfold cokm; first | (rw [c8]; rfl) | (rw [c19, Bool.and_false]; rfl) | (rw [c26, Bool.and_false]; rfl) | (rw [c34, Bool.and_false]))]; exact ⟨rfl, hC, FC.rf⟩)

set_option maxHeartbeats 4000000 in
set_option maxRecDepth 100000 in
theorem c_X6_asks {l : Launch} {D : va_G} {g : Nat → Nat → Nat} {ca : Nat → ClassId} {M : Mm} {a : Sa} {m : Nat} {h : Nat → Sa} (hC : CS M (a, m, h)) (x y z w : Int32) : Ct l D g ca md_X6_asks [.ref (g 12 0), .int x, .int y, .int z, .int w] M (Ri (fun r M1 => r = (S_asks (a, m, h) x y z w).1 ∧ CS M1 (S_asks (a, m, h) x y z w).2 ∧ FC M M1)) := by
  refine Ct.of (by decide) rfl (Nat.le_of_ble_eq_true rfl) ?_
  have hK : SK (M.1 0) a := hC.1
  have hS := hK.1
  have hR := hK.2.1
  have hI := hK.2.2.1
  have hr := hK.2.2.2.1
  have hs := hK.2.2.2.2
  have b0 := hI.today
  have b1 := hI.g4
  have b2 := hI.c6
  have b3 := hI.l24
  have b4 := hr.2
  have hib := hK.ib
  have hO := SK_ok hK
  obtain ⟨nx, n10, hnx, hmm, m10, hps⟩ := hC.2
  have hmm : M.1 17 0 2 = nI m := hmm
  have m10 : m ≤ 10 := m10
  show G l D g ca md_X6_asks 0 [(0, .ref (g 12 0)), (1, .int x), (2, .int y), (3, .int z), (4, .int w)] [] M _
  refine g_aload_n 1 0 dX6_asks_0 rfl rfl ?_
  refine g_iload_n 2 1 dX6_asks_1 rfl rfl ?_
  refine g_iload_n 3 2 dX6_asks_2 rfl rfl ?_
  refine g_iload_n 4 3 dX6_asks_3 rfl rfl ?_
  refine g_iload 6 4 dX6_asks_4 rfl rfl ?_
  refine g_callVi 9 md_X6_isOrder [.int x, .int y, .int z, .int w] [] dX6_asks_6 rfl e_X6_asks_212 rfl (by decide) rfl rfl (Nat.le_of_ble_eq_true rfl) (c_X6_isOrder hK x y z w) (fun r6 M6 h6 => ?_)
  obtain ⟨rfl, h6⟩ := h6
  have h6 := h6.symm
  subst h6
  refine g_ifB_ne 14 12 dX6_asks_9 rfl rfl (fun c9 => ?_) (fun c9 => ?_)
  · obtain ⟨c, gd, n, j, rfl, rfl, rfl, rfl, hc, hg, hn1, hn2, hj1, hj2⟩ := cask_of c9
    refine g_aload_n 15 0 dX6_asks_14 rfl rfl ?_
    refine g_geto 18 dX6_asks_15 rfl fX6_19 rfl (by decide) rfl ?_
    refine g_iload_n 19 1 dX6_asks_18 rfl rfl ?_
    refine g_iload_n 20 2 dX6_asks_19 rfl rfl ?_
    refine g_callVi 23 md_X2_openOrder [.int (nI c), .int (nI gd)] [] dX6_asks_20 rfl e_X6_asks_216 rfl (by decide) rfl rfl (Nat.le_of_ble_eq_true rfl) (c_X2_openOrder rfl hS hI c gd (by omega) (by omega)) (fun r20 M20 h20 => ?_)
    obtain ⟨rfl, h20⟩ := h20
    have h20 := h20.symm
    subst h20
    refine g_iconst 24 ((-1)) dX6_asks_23 rfl rfl ?_
    refine g_icmp_eq 30 27 dX6_asks_24 rfl rfl (fun c24 => ?_) (fun c24 => ?_)
    · refine g_aload_n 31 0 dX6_asks_30 rfl rfl ?_
      refine g_geto 34 dX6_asks_31 rfl fX6_19 rfl (by decide) rfl ?_
      refine g_get 37 (nI (a 0 4)) dX6_asks_34 rfl fX6_93 rfl (by decide) rfl (hS.sc (by decide)) ?_
      refine g_bipush 39 (nI 40) dX6_asks_37 rfl rfl ?_
      refine g_icmpN_lt 45 42 dX6_asks_39 rfl rfl (by omega) (by omega) (fun c39 => ?_) (fun c39 => ?_)
      · refine g_aload_n 46 0 dX6_asks_45 rfl rfl ?_
        refine g_geto 49 dX6_asks_46 rfl fX6_47 rfl (by decide) rfl ?_
        refine g_aload_n 50 0 dX6_asks_49 rfl rfl ?_
        refine g_geto 53 dX6_asks_50 rfl fX6_19 rfl (by decide) rfl ?_
        refine g_callVv 56 md_X0_keep [.ref (g 0 0)] [] dX6_asks_53 rfl e_X6_asks_232 rfl (by decide) rfl rfl (Nat.le_of_ble_eq_true rfl) (c_X0_keep (o := 0) (by decide) hnx n10 hmm m10) (fun N h53 => ?_)
        obtain ⟨k1, k2, k3, k4, k5⟩ := h53
        obtain ⟨hC1, hFC1⟩ := CS_keep (h := h) hK n10 m10 hps k1 k2 k3 k4 k5
        have hK_N : SK (N.1 0) a := hC1.1
        have hS_N := hK_N.1
        refine g_aload_n 57 0 dX6_asks_56 rfl rfl ?_
        refine g_geto 60 dX6_asks_57 rfl fX6_19 rfl (by decide) rfl ?_
        refine g_iload_n 61 1 dX6_asks_60 rfl rfl ?_
        refine g_iload_n 62 2 dX6_asks_61 rfl rfl ?_
        refine g_iload_n 63 3 dX6_asks_62 rfl rfl ?_
        refine g_iload 65 4 dX6_asks_63 rfl rfl ?_
        refine g_callVi 68 md_X2_addOrder [.int (nI c), .int (nI gd), .int (nI n), .int (nI j)] [] dX6_asks_65 rfl e_X6_asks_219 rfl (by decide) rfl rfl (Nat.le_of_ble_eq_true rfl) (c_X2_addOrder rfl hS_N c gd n j (by omega)) (fun r65 N2 h65 => ?_)
        obtain ⟨rfl, hN2⟩ := h65
        have hno := (oop_asked (by omega)).mp c24
        have hK2 : SK (N2.1 0) (addO a c gd n j) := by rw [hN2]; exact SK_mk (RP_addO hS_N (by omega) (fun j i h1 h2 h3 => by rw [wr_ne (by omega), wr_ne (by omega), wr_ne (by omega), wr_ne (by omega), wr_ne (by omega), wr_ne (by omega), wr_ne (by omega)]) wr_eq (by rw [wr_ne (by omega), wr_ne (by omega), wr_ne (by omega), wr_ne (by omega), wr_ne (by omega), wr_ne (by omega), wr_eq]) (by rw [wr_ne (by omega), wr_ne (by omega), wr_ne (by omega), wr_ne (by omega), wr_ne (by omega), wr_eq]) (by rw [wr_ne (by omega), wr_ne (by omega), wr_ne (by omega), wr_ne (by omega), wr_eq]) (by rw [wr_ne (by omega), wr_ne (by omega), wr_ne (by omega), wr_eq]) (by rw [wr_ne (by omega), wr_ne (by omega), wr_eq]) (by rw [wr_ne (by omega), wr_eq])) (RR_addO hK_N.2.1 hr (fun i => by rw [wr_ne (by omega), wr_ne (by omega), wr_ne (by omega), wr_ne (by omega), wr_ne (by omega), wr_ne (by omega), wr_ne (by omega)])) (Ok_addO hO (by omega) hc hg hn1 hn2 (by omega) hno)
        have hF2 : Fo 0 N N2 := by rw [hN2]; exact (((((Fo.wr.tr Fo.wr).tr Fo.wr).tr Fo.wr).tr Fo.wr).tr Fo.wr).tr Fo.wr
        clear hN2
        exact g_iret rfl dX6_asks_68 (by rw [S_asks_at (by omega) (by omega) (by omega) (by omega) c9 hno (by omega)]; exact ⟨rfl, hC1.upd (fun o c i ho => hF2.1 o c i (by omega)) hK2, hFC1.tr hF2.fc0⟩)
      · refine g_bipush 44 ((-3)) dX6_asks_42 rfl rfl ?_
        exact g_iret rfl dX6_asks_44 (by rw [S_asks_full (by omega) (by omega) c9 ((oop_asked (by omega)).mp c24) (by omega)]; exact ⟨rfl, hC, FC.rf⟩)
    · refine g_bipush 29 ((-2)) dX6_asks_27 rfl rfl ?_
      exact g_iret rfl dX6_asks_29 (by rw [S_asks_a (by omega) (by omega) c9 (Bool.not_eq_false _ ▸ (fun z => c24 ((oop_asked (by omega)).mpr z)))]; exact ⟨rfl, hC, FC.rf⟩)
  · refine g_iconst 13 ((-1)) dX6_asks_12 rfl rfl ?_
    exact g_iret rfl dX6_asks_13 (by rw [S_asks_no c9]; exact ⟨rfl, hC, FC.rf⟩)

set_option maxHeartbeats 4000000 in
set_option maxRecDepth 100000 in
theorem c_X6_reserve {l : Launch} {D : va_G} {g : Nat → Nat → Nat} {ca : Nat → ClassId} {M : Mm} {a : Sa} {m : Nat} {h : Nat → Sa} (hC : CS M (a, m, h)) (x : Int32) : Ct l D g ca md_X6_reserve [.ref (g 12 0), .int x] M (Ri (fun r M1 => r = (S_reserve (a, m, h) x).1 ∧ CS M1 (S_reserve (a, m, h) x).2 ∧ FC M M1)) := by
  refine Ct.of (by decide) rfl (Nat.le_of_ble_eq_true rfl) ?_
  have hK : SK (M.1 0) a := hC.1
  have hS := hK.1
  have hR := hK.2.1
  have hI := hK.2.2.1
  have hr := hK.2.2.2.1
  have hs := hK.2.2.2.2
  have b0 := hI.today
  have b1 := hI.g4
  have b2 := hI.c6
  have b3 := hI.l24
  have b4 := hr.2
  have hib := hK.ib
  have hO := SK_ok hK
  obtain ⟨nx, n10, hnx, hmm, m10, hps⟩ := hC.2
  have hmm : M.1 17 0 2 = nI m := hmm
  have m10 : m ≤ 10 := m10
  show G l D g ca md_X6_reserve 0 [(0, .ref (g 12 0)), (1, .int x)] [] M _
  refine g_aload_n 1 0 dX6_reserve_0 rfl rfl ?_
  refine g_geto 4 dX6_reserve_1 rfl fX6_19 rfl (by decide) rfl ?_
  refine g_iload_n 5 1 dX6_reserve_4 rfl rfl ?_
  refine g_callVi 8 md_X2_hasGood [.int x] [] dX6_reserve_5 rfl e_X6_reserve_183 rfl (by decide) rfl rfl (Nat.le_of_ble_eq_true rfl) (c_X2_hasGood rfl hS hI x) (fun r5 M5 h5 => ?_)
  obtain ⟨rfl, h5⟩ := h5
  have h5 := h5.symm
  subst h5
  refine g_ifB_ne 13 11 dX6_reserve_8 rfl rfl (fun c8 => ?_) (fun c8 => ?_)
  · obtain ⟨gd, hg, rfl⟩ := inr_of c8
    refine g_aload_n 14 0 dX6_reserve_13 rfl rfl ?_
    refine g_geto 17 dX6_reserve_14 rfl fX6_47 rfl (by decide) rfl ?_
    refine g_aload_n 18 0 dX6_reserve_17 rfl rfl ?_
    refine g_geto 21 dX6_reserve_18 rfl fX6_19 rfl (by decide) rfl ?_
    refine g_callVv 24 md_X0_keep [.ref (g 0 0)] [] dX6_reserve_21 rfl e_X6_reserve_232 rfl (by decide) rfl rfl (Nat.le_of_ble_eq_true rfl) (c_X0_keep (o := 0) (by decide) hnx n10 hmm m10) (fun N h21 => ?_)
    obtain ⟨k1, k2, k3, k4, k5⟩ := h21
    obtain ⟨hC1, hFC1⟩ := CS_keep (h := h) hK n10 m10 hps k1 k2 k3 k4 k5
    have hK_N : SK (N.1 0) a := hC1.1
    have hS_N := hK_N.1
    refine g_aload_n 25 0 dX6_reserve_24 rfl rfl ?_
    refine g_geto 28 dX6_reserve_25 rfl fX6_40 rfl (by decide) rfl ?_
    refine g_aload_n 29 0 dX6_reserve_28 rfl rfl ?_
    refine g_geto 32 dX6_reserve_29 rfl fX6_19 rfl (by decide) rfl ?_
    refine g_iload_n 33 1 dX6_reserve_32 rfl rfl ?_
    refine g_callVv 36 md_X1_make [.ref (g 0 0), .int (nI gd)] [] dX6_reserve_33 rfl e_X6_reserve_196 rfl (by decide) rfl rfl (Nat.le_of_ble_eq_true rfl) (c_X1_make rfl hS_N hI gd (by omega)) (fun N2 h33 => ?_)
    obtain ⟨hP, hF16⟩ := h33
    have e02 : N2.1 0 = N.1 0 := funext (fun c => funext (fun i => hF16.1 0 c i (by decide)))
    have hK_N2 : SK (N2.1 0) a := e02 ▸ hK_N
    refine g_aload_n 37 0 dX6_reserve_36 rfl rfl ?_
    refine g_geto 40 dX6_reserve_37 rfl fX6_40 rfl (by decide) rfl ?_
    refine g_callVi 43 md_X1_reserveAll [] [] dX6_reserve_40 rfl e_X6_reserve_238 rfl (by decide) rfl rfl (Nat.le_of_ble_eq_true rfl) (c_X1_reserveAll rfl hK_N2.1 hI hK_N2.2.1 hr hib hP) (fun r40 N3 h40 => ?_)
    obtain ⟨rfl, hR3, hF3, _⟩ := h40
    have hK2 : SK (N3.1 0) (rsv a gd).1 := SK_mk (hF3.rp (fun j i hj => rout_lo _ _ _ (by omega)) hK_N2.1) hR3 (Ok_rsv hO)
    exact g_iret rfl dX6_reserve_43 (by rw [S_reserve_at (by omega) c8]; exact ⟨rfl, hC1.upd (fun o c i ho => (hF3.fo.1 o c i (by omega)).trans (hF16.1 o c i (by omega))) hK2, hFC1.tr (hF16.fc16.tr hF3.fo.fc0)⟩)
  · refine g_iconst 12 ((-1)) dX6_reserve_11 rfl rfl ?_
    exact g_iret rfl dX6_reserve_12 (by rw [S_reserve_no c8]; exact ⟨rfl, hC, FC.rf⟩)

set_option maxHeartbeats 4000000 in
set_option maxRecDepth 100000 in
theorem c_X6_cancel {l : Launch} {D : va_G} {g : Nat → Nat → Nat} {ca : Nat → ClassId} {M : Mm} {a : Sa} {m : Nat} {h : Nat → Sa} (hC : CS M (a, m, h)) (y : Int32) : Ct l D g ca md_X6_cancel [.ref (g 12 0), .int y] M (Ri (fun r M1 => r = (S_cancel (a, m, h) y).1 ∧ CS M1 (S_cancel (a, m, h) y).2 ∧ FC M M1)) := by
  refine Ct.of (by decide) rfl (Nat.le_of_ble_eq_true rfl) ?_
  have hK : SK (M.1 0) a := hC.1
  have hS := hK.1
  have hR := hK.2.1
  have hI := hK.2.2.1
  have hr := hK.2.2.2.1
  have hs := hK.2.2.2.2
  have b0 := hI.today
  have b1 := hI.g4
  have b2 := hI.c6
  have b3 := hI.l24
  have b4 := hr.2
  have hib := hK.ib
  have hO := SK_ok hK
  obtain ⟨nx, n10, hnx, hmm, m10, hps⟩ := hC.2
  have hmm : M.1 17 0 2 = nI m := hmm
  have m10 : m ≤ 10 := m10
  show G l D g ca md_X6_cancel 0 [(0, .ref (g 12 0)), (1, .int y)] [] M _
  refine g_aload_n 1 0 dX6_cancel_0 rfl rfl ?_
  refine g_geto 4 dX6_cancel_1 rfl fX6_19 rfl (by decide) rfl ?_
  refine g_iload_n 5 1 dX6_cancel_4 rfl rfl ?_
  refine g_callVi 8 md_X2_isOpen [.int y] [] dX6_cancel_5 rfl e_X6_cancel_189 rfl (by decide) rfl rfl (Nat.le_of_ble_eq_true rfl) (c_X2_isOpen rfl hS hI y) (fun r5 M5 h5 => ?_)
  obtain ⟨rfl, h5⟩ := h5
  have h5 := h5.symm
  subst h5
  refine g_ifB_ne 13 11 dX6_cancel_8 rfl rfl (fun c8 => ?_) (fun c8 => ?_)
  · obtain ⟨q, hq, rfl, h18⟩ := opn_of c8 (by omega)
    have hoq := hI.ord hq
    refine g_aload_n 14 0 dX6_cancel_13 rfl rfl ?_
    refine g_geto 17 dX6_cancel_14 rfl fX6_47 rfl (by decide) rfl ?_
    refine g_aload_n 18 0 dX6_cancel_17 rfl rfl ?_
    refine g_geto 21 dX6_cancel_18 rfl fX6_19 rfl (by decide) rfl ?_
    refine g_callVv 24 md_X0_keep [.ref (g 0 0)] [] dX6_cancel_21 rfl e_X6_cancel_232 rfl (by decide) rfl rfl (Nat.le_of_ble_eq_true rfl) (c_X0_keep (o := 0) (by decide) hnx n10 hmm m10) (fun N h21 => ?_)
    obtain ⟨k1, k2, k3, k4, k5⟩ := h21
    obtain ⟨hC1, hFC1⟩ := CS_keep (h := h) hK n10 m10 hps k1 k2 k3 k4 k5
    have hK_N : SK (N.1 0) a := hC1.1
    have hS_N := hK_N.1
    refine g_aload_n 25 0 dX6_cancel_24 rfl rfl ?_
    refine g_geto 28 dX6_cancel_25 rfl fX6_19 rfl (by decide) rfl ?_
    refine g_iload_n 29 1 dX6_cancel_28 rfl rfl ?_
    refine g_iconst 30 (nI 2) dX6_cancel_29 rfl rfl ?_
    refine g_callVi 33 md_X2_close [.int (nI q), .int (nI 2)] [] dX6_cancel_30 rfl e_X6_cancel_241 rfl (by decide) rfl rfl (Nat.le_of_ble_eq_true rfl) (c_X2_close rfl hS_N hI hK_N.2.1 hr hib q 2 hq (by decide)) (fun r30 N2 h30 => ?_)
    obtain ⟨rfl, hP2, hR2, hF2⟩ := h30
    have hK2 : SK (N2.1 0) (clo a q 2) := SK_mk hP2 hR2 (Ok_clo hO (by decide) (by decide))
    exact g_iret rfl dX6_cancel_33 (by rw [S_cancel_at (by omega) c8]; exact ⟨rfl, hC1.upd (fun o c i ho => hF2.1 o c i (by omega)) hK2, hFC1.tr hF2.fc0⟩)
  · refine g_iconst 12 ((-1)) dX6_cancel_11 rfl rfl ?_
    exact g_iret rfl dX6_cancel_12 (by rw [S_cancel_no c8]; exact ⟨rfl, hC, FC.rf⟩)

set_option maxHeartbeats 4000000 in
set_option maxRecDepth 100000 in
theorem c_X6_hold {l : Launch} {D : va_G} {g : Nat → Nat → Nat} {ca : Nat → ClassId} {M : Mm} {a : Sa} {m : Nat} {h : Nat → Sa} (hC : CS M (a, m, h)) (x d : Int32) : Ct l D g ca md_X6_hold [.ref (g 12 0), .int x, .int d] M (Ri (fun r M1 => r = (S_hold (a, m, h) x d).1 ∧ CS M1 (S_hold (a, m, h) x d).2 ∧ FC M M1)) := by
  refine Ct.of (by decide) rfl (Nat.le_of_ble_eq_true rfl) ?_
  have hK : SK (M.1 0) a := hC.1
  have hS := hK.1
  have hR := hK.2.1
  have hI := hK.2.2.1
  have hr := hK.2.2.2.1
  have hs := hK.2.2.2.2
  have b0 := hI.today
  have b1 := hI.g4
  have b2 := hI.c6
  have b3 := hI.l24
  have b4 := hr.2
  have hib := hK.ib
  have hO := SK_ok hK
  obtain ⟨nx, n10, hnx, hmm, m10, hps⟩ := hC.2
  have hmm : M.1 17 0 2 = nI m := hmm
  have m10 : m ≤ 10 := m10
  show G l D g ca md_X6_hold 0 [(0, .ref (g 12 0)), (1, .int x), (2, .int d)] [] M _
  refine g_aload_n 1 0 dX6_hold_0 rfl rfl ?_
  refine g_geto 4 dX6_hold_1 rfl fX6_19 rfl (by decide) rfl ?_
  refine g_iload_n 5 1 dX6_hold_4 rfl rfl ?_
  refine g_callVi 8 md_X2_hasLot [.int x] [] dX6_hold_5 rfl e_X6_hold_115 rfl (by decide) rfl rfl (Nat.le_of_ble_eq_true rfl) (c_X2_hasLot rfl hS hI x) (fun r5 M5 h5 => ?_)
  obtain ⟨rfl, h5⟩ := h5
  have h5 := h5.symm
  subst h5
  refine g_ifB_eq 18 11 dX6_hold_8 rfl rfl (fun c8 => ?_) (fun c8 => ?_)
  · refine g_iconst 19 ((-1)) dX6_hold_18 rfl rfl ?_
    exact g_iret rfl dX6_hold_19 (by rw [S_hold_no (by first | (rw [c8]; rfl) | (rw [c15, Bool.and_false]))]; exact ⟨rfl, hC, FC.rf⟩)
  · refine g_iload_n 12 2 dX6_hold_11 rfl rfl ?_
    refine g_callSi 15 md_X6_isHold [.int d] [] dX6_hold_12 rfl e_X6_hold_229 rfl rfl (Nat.le_of_ble_eq_true rfl) (c_X6_isHold d) (fun r12 M12 h12 => ?_)
    obtain ⟨rfl, h12⟩ := h12
    have h12 := h12.symm
    subst h12
    refine g_ifB_ne 20 18 dX6_hold_15 rfl rfl (fun c15 => ?_) (fun c15 => ?_)
    · obtain ⟨p, hp, rfl⟩ := inr_of c8
      obtain ⟨j, _, hj, rfl⟩ := isin_of (by decide) (by decide) c15
      refine g_aload_n 21 0 dX6_hold_20 rfl rfl ?_
      refine g_geto 24 dX6_hold_21 rfl fX6_47 rfl (by decide) rfl ?_
      refine g_aload_n 25 0 dX6_hold_24 rfl rfl ?_
      refine g_geto 28 dX6_hold_25 rfl fX6_19 rfl (by decide) rfl ?_
      refine g_callVv 31 md_X0_keep [.ref (g 0 0)] [] dX6_hold_28 rfl e_X6_hold_232 rfl (by decide) rfl rfl (Nat.le_of_ble_eq_true rfl) (c_X0_keep (o := 0) (by decide) hnx n10 hmm m10) (fun N h28 => ?_)
      obtain ⟨k1, k2, k3, k4, k5⟩ := h28
      obtain ⟨hC1, hFC1⟩ := CS_keep (h := h) hK n10 m10 hps k1 k2 k3 k4 k5
      have hK_N : SK (N.1 0) a := hC1.1
      have hS_N := hK_N.1
      refine g_aload_n 32 0 dX6_hold_31 rfl rfl ?_
      refine g_geto 35 dX6_hold_32 rfl fX6_19 rfl (by decide) rfl ?_
      refine g_geta 38 13 dX6_hold_35 rfl fX6_136 rfl (by decide) rfl rfl ?_
      refine g_iload_n 39 1 dX6_hold_38 rfl rfl ?_
      refine g_iload_n 40 2 dX6_hold_39 rfl rfl ?_
      refine g_iast 41 dX6_hold_40 rfl rfl (by decide) rfl (by decide) (by omega) ?_
      refine g_aload_n 42 0 dX6_hold_41 rfl rfl ?_
      refine g_geto 45 dX6_hold_42 rfl fX6_19 rfl (by decide) rfl ?_
      refine g_iload_n 46 1 dX6_hold_45 rfl rfl ?_
      obtain ⟨b, hb⟩ : ∃ b, b = ua a 13 p j := ⟨_, rfl⟩
      have hS2 : RP ((wr N 0 13 p (nI j)).1 0) b := hb ▸ RP_ua hS_N (by omega) (by decide) (fun c i hc hne => wr_ne (by omega)) wr_eq
      have hR2 : RR ((wr N 0 13 p (nI j)).1 0) b := hb ▸ RR_cg (ua_ne (by omega)) (fun j i hj => ua_ne (by omega)) (fun i hi => wr_ne (by omega)) hK_N.2.1
      have hI2 : Iv b := hb ▸ Iv_ua hI (by omega)
      have hr2 : Ir b := hb ▸ Ir_cg (ua_ne (by omega)) (ua_ne (by omega)) (fun j i hj => ua_ne (by omega)) hr
      have hb2 : Ib b := fun l o ho => by rw [hb]; unfold res; rw [ua_ne (by omega)]; exact hib l o ho
      have e4 : b 0 4 = a 0 4 := by rw [hb, ua_ne (by omega)]
      have e3 : b 0 3 = a 0 3 := by rw [hb, ua_ne (by omega)]
      refine g_callVi 49 md_X2_releaseUnfit [.int (nI p)] [] dX6_hold_46 rfl e_X6_hold_244 rfl (by decide) rfl rfl (Nat.le_of_ble_eq_true rfl) (c_X2_releaseUnfit rfl hS2 hI2 hR2 hr2 hb2 p (by omega)) (fun r46 N2 h46 => ?_)
      obtain ⟨rfl, hR3, hF3⟩ := h46
      rw [e4] at hR3 ⊢
      have hK2 : SK (N2.1 0) (unk b p (a 0 4)) := SK_mk (hF3.rp (fun j i hj => unk_lo _ _ _ _ _ hj) hS2) hR3 (hb ▸ Ok_hold hO (by omega))
      have hF2 := Fo.wr.tr hF3.fo
      exact g_iret rfl dX6_hold_49 (by rw [S_hold_at (by omega) (by omega) c8 c15, ← hb]; exact ⟨rfl, hC1.upd (fun o c i ho => hF2.1 o c i (by omega)) hK2, hFC1.tr hF2.fc0⟩)
    · refine g_iconst 19 ((-1)) dX6_hold_18 rfl rfl ?_
      exact g_iret rfl dX6_hold_19 (by rw [S_hold_no (by first | (rw [c8]; rfl) | (rw [c15, Bool.and_false]))]; exact ⟨rfl, hC, FC.rf⟩)

set_option maxHeartbeats 4000000 in
set_option maxRecDepth 100000 in
theorem c_X6_deliver {l : Launch} {D : va_G} {g : Nat → Nat → Nat} {ca : Nat → ClassId} {M : Mm} {a : Sa} {m : Nat} {h : Nat → Sa} (hC : CS M (a, m, h)) (y : Int32) : Ct l D g ca md_X6_deliver [.ref (g 12 0), .int y] M (Ri (fun r M1 => r = (S_deliver (a, m, h) y).1 ∧ CS M1 (S_deliver (a, m, h) y).2 ∧ FC M M1)) := by
  refine Ct.of (by decide) rfl (Nat.le_of_ble_eq_true rfl) ?_
  have hK : SK (M.1 0) a := hC.1
  have hS := hK.1
  have hR := hK.2.1
  have hI := hK.2.2.1
  have hr := hK.2.2.2.1
  have hs := hK.2.2.2.2
  have b0 := hI.today
  have b1 := hI.g4
  have b2 := hI.c6
  have b3 := hI.l24
  have b4 := hr.2
  have hib := hK.ib
  have hO := SK_ok hK
  obtain ⟨nx, n10, hnx, hmm, m10, hps⟩ := hC.2
  have hmm : M.1 17 0 2 = nI m := hmm
  have m10 : m ≤ 10 := m10
  show G l D g ca md_X6_deliver 0 [(0, .ref (g 12 0)), (1, .int y)] [] M _
  refine g_aload_n 1 0 dX6_deliver_0 rfl rfl ?_
  refine g_geto 4 dX6_deliver_1 rfl fX6_19 rfl (by decide) rfl ?_
  refine g_iload_n 5 1 dX6_deliver_4 rfl rfl ?_
  refine g_callVi 8 md_X2_isOpen [.int y] [] dX6_deliver_5 rfl e_X6_deliver_189 rfl (by decide) rfl rfl (Nat.le_of_ble_eq_true rfl) (c_X2_isOpen rfl hS hI y) (fun r5 M5 h5 => ?_)
  obtain ⟨rfl, h5⟩ := h5
  have h5 := h5.symm
  subst h5
  refine g_ifB_eq 41 11 dX6_deliver_8 rfl rfl (fun c8 => ?_) (fun c8 => ?_)
  · refine g_iconst 42 ((-1)) dX6_deliver_41 rfl rfl ?_
    exact g_iret rfl dX6_deliver_42 (by rw [S_deliver_no (by first | (rw [c8]; exact fun z => absurd z.1 (by decide)) | (rw [nI_clamp (by omega)]; exact fun z => c27 z.2.1) | (rw [nI_clamp (by omega)]; exact fun z => z.2.2 c38))]; exact ⟨rfl, hC, FC.rf⟩)
  · obtain ⟨q, hq, rfl, h18⟩ := opn_of c8 (by omega)
    have hoq := hI.ord hq
    refine g_aload_n 12 0 dX6_deliver_11 rfl rfl ?_
    refine g_geto 15 dX6_deliver_12 rfl fX6_19 rfl (by decide) rfl ?_
    refine g_geta 18 17 dX6_deliver_15 rfl fX6_159 rfl (by decide) rfl rfl ?_
    refine g_iload_n 19 1 dX6_deliver_18 rfl rfl ?_
    refine g_iald 20 (nI (a 17 q)) dX6_deliver_19 rfl rfl (by decide) rfl (by decide) (by omega) (hS.ord (by decide) (by decide) (by omega)) ?_
    refine g_aload_n 21 0 dX6_deliver_20 rfl rfl ?_
    refine g_geto 24 dX6_deliver_21 rfl fX6_19 rfl (by decide) rfl ?_
    refine g_get 27 (nI (a 0 0)) dX6_deliver_24 rfl fX6_84 rfl (by decide) rfl (hS.sc (by decide)) ?_
    refine g_icmpN_ne 41 30 dX6_deliver_27 rfl rfl (by have := hI.ord (o := q) (by omega); omega) (by omega) (fun c27 => ?_) (fun c27 => ?_)
    · refine g_iconst 42 ((-1)) dX6_deliver_41 rfl rfl ?_
      exact g_iret rfl dX6_deliver_42 (by rw [S_deliver_no (by first | (rw [c8]; exact fun z => absurd z.1 (by decide)) | (rw [nI_clamp (by omega)]; exact fun z => c27 z.2.1) | (rw [nI_clamp (by omega)]; exact fun z => z.2.2 c38))]; exact ⟨rfl, hC, FC.rf⟩)
    · refine g_aload_n 31 0 dX6_deliver_30 rfl rfl ?_
      refine g_geto 34 dX6_deliver_31 rfl fX6_19 rfl (by decide) rfl ?_
      refine g_iload_n 35 1 dX6_deliver_34 rfl rfl ?_
      refine g_callVi 38 md_X2_reservedForOrder [.int (nI q)] [] dX6_deliver_35 rfl e_X6_deliver_165 rfl (by decide) rfl rfl (Nat.le_of_ble_eq_true rfl) (c_X2_reservedForOrder rfl hS hI hR hr q (by omega)) (fun r35 M35 h35 => ?_)
      obtain ⟨rfl, h35⟩ := h35
      have h35 := h35.symm
      subst h35
      rw [show fb_sm (fun p => res a p q) (a 0 3) = ro a q from rfl]
      refine g_ifN_ne 43 41 dX6_deliver_38 rfl rfl (by have := ro_le hI hr hs hq; omega) (fun c38 => ?_) (fun c38 => ?_)
      · refine g_aload_n 44 0 dX6_deliver_43 rfl rfl ?_
        refine g_geto 47 dX6_deliver_44 rfl fX6_47 rfl (by decide) rfl ?_
        refine g_aload_n 48 0 dX6_deliver_47 rfl rfl ?_
        refine g_geto 51 dX6_deliver_48 rfl fX6_19 rfl (by decide) rfl ?_
        refine g_callVv 54 md_X0_keep [.ref (g 0 0)] [] dX6_deliver_51 rfl e_X6_deliver_232 rfl (by decide) rfl rfl (Nat.le_of_ble_eq_true rfl) (c_X0_keep (o := 0) (by decide) hnx n10 hmm m10) (fun N h51 => ?_)
        obtain ⟨k1, k2, k3, k4, k5⟩ := h51
        obtain ⟨hC1, hFC1⟩ := CS_keep (h := h) hK n10 m10 hps k1 k2 k3 k4 k5
        have hK_N : SK (N.1 0) a := hC1.1
        have hS_N := hK_N.1
        refine g_aload_n 55 0 dX6_deliver_54 rfl rfl ?_
        refine g_geto 58 dX6_deliver_55 rfl fX6_19 rfl (by decide) rfl ?_
        refine g_iload_n 59 1 dX6_deliver_58 rfl rfl ?_
        refine g_callVi 62 md_X2_handOut [.int (nI q)] [] dX6_deliver_59 rfl e_X6_deliver_247 rfl (by decide) rfl rfl (Nat.le_of_ble_eq_true rfl) (c_X2_handOut rfl hS_N hI hK_N.2.1 hr hib hs q hq) (fun r59 N2 h59 => ?_)
        obtain ⟨rfl, hP2, hR2, hF2⟩ := h59
        have hK2 : SK (N2.1 0) (hnd a q) := SK_mk hP2 hR2 (Ok_hnd hO hq)
        exact g_iret rfl dX6_deliver_62 (by rw [S_deliver_at (by omega) c8 c27 (by omega)]; exact ⟨rfl, hC1.upd (fun o c i ho => hF2.1 o c i (by omega)) hK2, hFC1.tr hF2.fc0⟩)
      · refine g_iconst 42 ((-1)) dX6_deliver_41 rfl rfl ?_
        exact g_iret rfl dX6_deliver_42 (by rw [S_deliver_no (by first | (rw [c8]; exact fun z => absurd z.1 (by decide)) | (rw [nI_clamp (by omega)]; exact fun z => c27 z.2.1) | (rw [nI_clamp (by omega)]; exact fun z => z.2.2 c38))]; exact ⟨rfl, hC, FC.rf⟩)

set_option maxHeartbeats 4000000 in
set_option maxRecDepth 100000 in
theorem c_X6_pass {l : Launch} {D : va_G} {g : Nat → Nat → Nat} {ca : Nat → ClassId} {M : Mm} {a : Sa} {m : Nat} {h : Nat → Sa} (hC : CS M (a, m, h)) (x : Int32) : Ct l D g ca md_X6_pass [.ref (g 12 0), .int x] M (Ri (fun r M1 => r = (S_pass (a, m, h) x).1 ∧ CS M1 (S_pass (a, m, h) x).2 ∧ FC M M1)) := by
  refine Ct.of (by decide) rfl (Nat.le_of_ble_eq_true rfl) ?_
  have hK : SK (M.1 0) a := hC.1
  have hS := hK.1
  have hR := hK.2.1
  have hI := hK.2.2.1
  have hr := hK.2.2.2.1
  have hs := hK.2.2.2.2
  have b0 := hI.today
  have b1 := hI.g4
  have b2 := hI.c6
  have b3 := hI.l24
  have b4 := hr.2
  have hib := hK.ib
  have hO := SK_ok hK
  obtain ⟨nx, n10, hnx, hmm, m10, hps⟩ := hC.2
  have hmm : M.1 17 0 2 = nI m := hmm
  have m10 : m ≤ 10 := m10
  show G l D g ca md_X6_pass 0 [(0, .ref (g 12 0)), (1, .int x)] [] M _
  refine g_iload_n 1 1 dX6_pass_0 rfl rfl ?_
  refine g_iconst 2 (nI 1) dX6_pass_1 rfl rfl ?_
  refine g_icmp_lt 26 5 dX6_pass_2 rfl rfl (fun c2 => ?_) (fun c2 => ?_)
  · refine g_iconst 27 ((-1)) dX6_pass_26 rfl rfl ?_
    exact g_iret rfl dX6_pass_27 (by rw [S_pass_no (by first | exact fun z => (fa_of_lt c2).2.1 (of_decide_eq_true z.1).1 | exact fun z => (fa_of_lt c8).2.1 (of_decide_eq_true z.1).2 | (rw [nI_clamp (by omega)]; exact fun z => absurd z.2 (by omega)))]; exact ⟨rfl, hC, FC.rf⟩)
  · refine g_iload_n 6 1 dX6_pass_5 rfl rfl ?_
    refine g_bipush 8 (nI 99) dX6_pass_6 rfl rfl ?_
    refine g_icmp_gt 26 11 dX6_pass_8 rfl rfl (fun c8 => ?_) (fun c8 => ?_)
    · refine g_iconst 27 ((-1)) dX6_pass_26 rfl rfl ?_
      exact g_iret rfl dX6_pass_27 (by rw [S_pass_no (by first | exact fun z => (fa_of_lt c2).2.1 (of_decide_eq_true z.1).1 | exact fun z => (fa_of_lt c8).2.1 (of_decide_eq_true z.1).2 | (rw [nI_clamp (by omega)]; exact fun z => absurd z.2 (by omega)))]; exact ⟨rfl, hC, FC.rf⟩)
    · have hin : isin x (nI 1) (nI 99) = true := decide_eq_true ⟨fa_of_nlt c2, fa_of_nlt c8⟩
      obtain ⟨n, hn1, hn2, rfl⟩ := isin_of (by decide) (by decide) hin
      refine g_aload_n 12 0 dX6_pass_11 rfl rfl ?_
      refine g_geto 15 dX6_pass_12 rfl fX6_19 rfl (by decide) rfl ?_
      refine g_get 18 (nI (a 0 0)) dX6_pass_15 rfl fX6_84 rfl (by decide) rfl (hS.sc (by decide)) ?_
      refine g_iload_n 19 1 dX6_pass_18 rfl rfl ?_
      refine g_iadd 20 (nI ((a 0 0) + n)) dX6_pass_19 rfl (nI_add (a 0 0) n) ?_
      refine g_sipush 23 (nI 900) dX6_pass_20 rfl rfl ?_
      refine g_icmpN_le 28 26 dX6_pass_23 rfl rfl (by omega) (by omega) (fun c23 => ?_) (fun c23 => ?_)
      · refine g_aload_n 29 0 dX6_pass_28 rfl rfl ?_
        refine g_geto 32 dX6_pass_29 rfl fX6_47 rfl (by decide) rfl ?_
        refine g_aload_n 33 0 dX6_pass_32 rfl rfl ?_
        refine g_geto 36 dX6_pass_33 rfl fX6_19 rfl (by decide) rfl ?_
        refine g_callVv 39 md_X0_keep [.ref (g 0 0)] [] dX6_pass_36 rfl e_X6_pass_232 rfl (by decide) rfl rfl (Nat.le_of_ble_eq_true rfl) (c_X0_keep (o := 0) (by decide) hnx n10 hmm m10) (fun N h36 => ?_)
        obtain ⟨k1, k2, k3, k4, k5⟩ := h36
        obtain ⟨hC1, hFC1⟩ := CS_keep (h := h) hK n10 m10 hps k1 k2 k3 k4 k5
        have hK_N : SK (N.1 0) a := hC1.1
        have hS_N := hK_N.1
        refine g_iconst 40 (nI 0) dX6_pass_39 rfl rfl ?_
        refine g_istore_n 41 [(2, .int (nI 0)), (0, .ref (g 12 0)), (1, .int (nI n))] dX6_pass_40 rfl (by decide) rfl ?_
        have L41 : ∀ k, k ≤ n → ∀ (B : Mm), SK (B.1 0) (eds a k) → Fo 0 N B → G l D g ca md_X6_pass 41 [(2, .int (nI k)), (0, .ref (g 12 0)), (1, .int (nI n))] [] B (Ri (fun r M1 => r = (S_pass (a, m, h) (nI n)).1 ∧ CS M1 (S_pass (a, m, h) (nI n)).2 ∧ FC M M1)) := by
          refine upto ?_
          intro k hk ih41 B hKB hFB
          refine g_iload_n 42 0 dX6_pass_41 rfl rfl ?_
          refine g_iload_n 43 2 dX6_pass_42 rfl rfl ?_
          refine g_icmpN_ge 59 46 dX6_pass_43 rfl rfl (by omega) (by omega) (fun c43 => ?_) (fun c43 => ?_)
          · refine g_aload_n 60 1 dX6_pass_59 rfl rfl ?_
            refine g_geto 63 dX6_pass_60 rfl fX6_19 rfl (by decide) rfl ?_
            refine g_get 66 (nI (a 0 0 + k)) dX6_pass_63 rfl fX6_84 rfl (by decide) rfl ((hKB.1.sc (by decide)).trans (congrArg nI (eds_t k))) ?_
            exact g_iret rfl dX6_pass_66 (by rw [S_pass_at (by omega) hin (by omega), ← show k = n by omega]; exact ⟨rfl, hC1.upd (fun o c i ho => hFB.1 o c i (by omega)) hKB, hFC1.tr hFB.fc0⟩)
          · refine g_aload_n 47 1 dX6_pass_46 rfl rfl ?_
            refine g_geto 50 dX6_pass_47 rfl fX6_19 rfl (by decide) rfl ?_
            refine g_callVv 53 md_X2_endDay [] [] dX6_pass_50 rfl e_X6_pass_250 rfl (by decide) rfl rfl (Nat.le_of_ble_eq_true rfl) (c_X2_endDay rfl hKB (by rw [eds_t]; omega)) (fun B2 h50 => ?_)
            obtain ⟨hKB2, hFB2⟩ := h50
            refine g_iinc 56 (nI (k + 1)) [(2, .int (nI (k + 1))), (0, .ref (g 12 0)), (1, .int (nI n))] dX6_pass_53 rfl 0 rfl (nI_add k 1) (by decide) rfl ?_
            refine g_goto 41 dX6_pass_56 rfl ?_
            exact ih41 (by omega) _ hKB2 (hFB.tr hFB2)
        exact L41 0 (Nat.zero_le _) N hK_N Fo.rf
      · refine g_iconst 27 ((-1)) dX6_pass_26 rfl rfl ?_
        exact g_iret rfl dX6_pass_27 (by rw [S_pass_no (by first | exact fun z => (fa_of_lt c2).2.1 (of_decide_eq_true z.1).1 | exact fun z => (fa_of_lt c8).2.1 (of_decide_eq_true z.1).2 | (rw [nI_clamp (by omega)]; exact fun z => absurd z.2 (by omega)))]; exact ⟨rfl, hC, FC.rf⟩)

set_option maxHeartbeats 4000000 in
set_option maxRecDepth 100000 in
theorem c_X6_undo {l : Launch} {D : va_G} {g : Nat → Nat → Nat} {ca : Nat → ClassId} {M : Mm} {a : Sa} {m : Nat} {h : Nat → Sa} (hC : CS M (a, m, h)) : Ct l D g ca md_X6_undo [.ref (g 12 0)] M (Ri (fun r M1 => r = (S_undo (a, m, h)).1 ∧ CS M1 (S_undo (a, m, h)).2 ∧ FC M M1)) := by
  refine Ct.of (by decide) rfl (Nat.le_of_ble_eq_true rfl) ?_
  have hK : SK (M.1 0) a := hC.1
  have hS := hK.1
  have hR := hK.2.1
  have hI := hK.2.2.1
  have hr := hK.2.2.2.1
  have hs := hK.2.2.2.2
  have b0 := hI.today
  have b1 := hI.g4
  have b2 := hI.c6
  have b3 := hI.l24
  have b4 := hr.2
  have hib := hK.ib
  have hO := SK_ok hK
  obtain ⟨nx, n10, hnx, hmm, m10, hps⟩ := hC.2
  have hmm : M.1 17 0 2 = nI m := hmm
  have m10 : m ≤ 10 := m10
  show G l D g ca md_X6_undo 0 [(0, .ref (g 12 0))] [] M _
  refine g_aload_n 1 0 dX6_undo_0 rfl rfl ?_
  refine g_geto 4 dX6_undo_1 rfl fX6_47 rfl (by decide) rfl ?_
  refine g_get 7 (nI m) dX6_undo_4 rfl fX6_112 rfl (by decide) rfl hmm ?_
  refine g_ifN_ne 12 10 dX6_undo_7 rfl rfl (by omega) (fun c7 => ?_) (fun c7 => ?_)
  · obtain ⟨n, rfl⟩ : ∃ n, m = n + 1 := ⟨m - 1, by omega⟩
    refine g_aload_n 13 0 dX6_undo_12 rfl rfl ?_
    refine g_geto 16 dX6_undo_13 rfl fX6_47 rfl (by decide) rfl ?_
    refine g_aload_n 17 0 dX6_undo_16 rfl rfl ?_
    refine g_geto 20 dX6_undo_17 rfl fX6_19 rfl (by decide) rfl ?_
    refine g_callVv 23 md_X0_bringBack [.ref (g 0 0)] [] dX6_undo_20 rfl e_X6_undo_253 rfl (by decide) rfl rfl (Nat.le_of_ble_eq_true rfl) (c_X0_bringBack (o := 0) (by decide) hnx n10 hmm m10 (by omega)) (fun N h20 => ?_)
    obtain ⟨k1, k2, k3, k4, k5⟩ := h20
    obtain ⟨hC1, hFC1⟩ := CS_back (h := h) (a := a) n10 m10 hps k1 k2 k3 k4 k5
    refine g_aload_n 24 0 dX6_undo_23 rfl rfl ?_
    refine g_geto 27 dX6_undo_24 rfl fX6_47 rfl (by decide) rfl ?_
    refine g_get 30 (nI n) dX6_undo_27 rfl fX6_112 rfl (by decide) rfl k3 ?_
    exact g_iret rfl dX6_undo_30 (by rw [S_undo_at]; exact ⟨rfl, hC1, hFC1⟩)
  · refine g_iconst 11 ((-1)) dX6_undo_10 rfl rfl ?_
    exact g_iret rfl dX6_undo_11 (by rw [S_undo_no c7]; exact ⟨rfl, hC, FC.rf⟩)
