set_option maxHeartbeats 4000000 in
set_option maxRecDepth 100000 in
theorem c_X4_numbersOfLine {l : Launch} {D : va_G} {g : Nat → Nat → Nat} {ca : Nat → ClassId} {M : Mm} {s : Nat} (hs : M.1 15 0 2 = nI s) (h7 : s ≤ 7) : Ct l D g ca md_X4_numbersOfLine [.ref (g 15 0)] M (Ri (fun r M1 => r = nI (nol s) ∧ M1 = M)) := by
  refine Ct.of (by decide) rfl (Nat.le_of_ble_eq_true rfl) ?_
  show G l D g ca md_X4_numbersOfLine 0 [(0, .ref (g 15 0))] [] M _
  refine g_aload_n 1 0 dX4_numbersOfLine_0 rfl rfl ?_
  refine g_get 4 (nI s) dX4_numbersOfLine_1 rfl fX4_81 rfl (by decide) rfl hs ?_
  refine g_bipush 6 (nI 6) dX4_numbersOfLine_4 rfl rfl ?_
  refine g_icmpN_eq 18 9 dX4_numbersOfLine_6 rfl rfl (by omega) (by omega) (fun c6 => ?_) (fun c6 => ?_)
  · refine g_iconst 19 (nI 4) dX4_numbersOfLine_18 rfl rfl ?_
    refine g_goto 23 dX4_numbersOfLine_19 rfl ?_
    exact g_iret rfl dX4_numbersOfLine_23 ⟨by rw [nol_46 (by omega)], rfl⟩
  · refine g_aload_n 10 0 dX4_numbersOfLine_9 rfl rfl ?_
    refine g_get 13 (nI s) dX4_numbersOfLine_10 rfl fX4_81 rfl (by decide) rfl hs ?_
    refine g_bipush 15 (nI 7) dX4_numbersOfLine_13 rfl rfl ?_
    refine g_icmpN_ne 22 18 dX4_numbersOfLine_15 rfl rfl (by omega) (by omega) (fun c15 => ?_) (fun c15 => ?_)
    · refine g_iconst 23 (nI 1) dX4_numbersOfLine_22 rfl rfl ?_
      exact g_iret rfl dX4_numbersOfLine_23 ⟨by rw [nol_1 (by omega)], rfl⟩
    · refine g_iconst 19 (nI 4) dX4_numbersOfLine_18 rfl rfl ?_
      refine g_goto 23 dX4_numbersOfLine_19 rfl ?_
      exact g_iret rfl dX4_numbersOfLine_23 ⟨by rw [nol_46 (by omega)], rfl⟩

set_option maxHeartbeats 4000000 in
set_option maxRecDepth 100000 in
theorem c_X4_isRoomForLine {l : Launch} {D : va_G} {g : Nat → Nat → Nat} {ca : Nat → ClassId} {M : Mm} {s : Nat} {a : Sa} (hs : M.1 15 0 2 = nI s) (h4 : 4 ≤ s) (h7 : s ≤ 7) (hS : RP (M.1 1) a) : Ct l D g ca md_X4_isRoomForLine [.ref (g 15 0)] M (Ri (fun r M1 => r = bi (rmS s a) ∧ M1 = M)) := by
  refine Ct.of (by decide) rfl (Nat.le_of_ble_eq_true rfl) ?_
  have b2 := hS.c6
  have b3 := hS.l24
  have b4 := hS.o41
  show G l D g ca md_X4_isRoomForLine 0 [(0, .ref (g 15 0))] [] M _
  refine g_aload_n 1 0 dX4_isRoomForLine_0 rfl rfl ?_
  refine g_get 4 (nI s) dX4_isRoomForLine_1 rfl fX4_81 rfl (by decide) rfl hs ?_
  rcases (show s = 4 ∨ s = 5 ∨ s = 6 ∨ s = 7 by omega) with rfl | rfl | rfl | rfl
  · refine g_tableOut 86 dX4_isRoomForLine_4 (by decide) rfl ?_
    refine g_iconst 87 (nI 1) dX4_isRoomForLine_86 rfl rfl ?_
    exact g_zret rfl dX4_isRoomForLine_87 rfl ⟨rfl, rfl⟩
  · refine g_tableIn 32 dX4_isRoomForLine_4 (by decide) (by decide) rfl rfl ?_
    refine g_aload_n 33 0 dX4_isRoomForLine_32 rfl rfl ?_
    refine g_geto 36 dX4_isRoomForLine_33 rfl fX4_24 rfl (by decide) rfl ?_
    refine g_get 39 (nI (a 0 2)) dX4_isRoomForLine_36 rfl fX4_88 rfl (by decide) rfl (hS.sc (by decide)) ?_
    refine g_bipush 41 (nI 6) dX4_isRoomForLine_39 rfl rfl ?_
    refine g_icmpN_ge 48 44 dX4_isRoomForLine_41 rfl rfl (by omega) (by omega) (fun c41 => ?_) (fun c41 => ?_)
    · refine g_iconst 49 (nI 0) dX4_isRoomForLine_48 rfl rfl ?_
      exact g_zret rfl dX4_isRoomForLine_49 rfl ⟨by show _ = bi (decide (a 0 2 < 6)); first | (rw [decide_eq_true (by omega)]; rfl) | (rw [decide_eq_false (by omega)]; rfl), rfl⟩
    · refine g_iconst 45 (nI 1) dX4_isRoomForLine_44 rfl rfl ?_
      refine g_goto 49 dX4_isRoomForLine_45 rfl ?_
      exact g_zret rfl dX4_isRoomForLine_49 rfl ⟨by show _ = bi (decide (a 0 2 < 6)); first | (rw [decide_eq_true (by omega)]; rfl) | (rw [decide_eq_false (by omega)]; rfl), rfl⟩
  · refine g_tableIn 50 dX4_isRoomForLine_4 (by decide) (by decide) rfl rfl ?_
    refine g_aload_n 51 0 dX4_isRoomForLine_50 rfl rfl ?_
    refine g_geto 54 dX4_isRoomForLine_51 rfl fX4_24 rfl (by decide) rfl ?_
    refine g_get 57 (nI (a 0 3)) dX4_isRoomForLine_54 rfl fX4_91 rfl (by decide) rfl (hS.sc (by decide)) ?_
    refine g_bipush 59 (nI 12) dX4_isRoomForLine_57 rfl rfl ?_
    refine g_icmpN_ge 66 62 dX4_isRoomForLine_59 rfl rfl (by omega) (by omega) (fun c59 => ?_) (fun c59 => ?_)
    · refine g_iconst 67 (nI 0) dX4_isRoomForLine_66 rfl rfl ?_
      exact g_zret rfl dX4_isRoomForLine_67 rfl ⟨by show _ = bi (decide (a 0 3 < 12)); first | (rw [decide_eq_true (by omega)]; rfl) | (rw [decide_eq_false (by omega)]; rfl), rfl⟩
    · refine g_iconst 63 (nI 1) dX4_isRoomForLine_62 rfl rfl ?_
      refine g_goto 67 dX4_isRoomForLine_63 rfl ?_
      exact g_zret rfl dX4_isRoomForLine_67 rfl ⟨by show _ = bi (decide (a 0 3 < 12)); first | (rw [decide_eq_true (by omega)]; rfl) | (rw [decide_eq_false (by omega)]; rfl), rfl⟩
  · refine g_tableIn 68 dX4_isRoomForLine_4 (by decide) (by decide) rfl rfl ?_
    refine g_aload_n 69 0 dX4_isRoomForLine_68 rfl rfl ?_
    refine g_geto 72 dX4_isRoomForLine_69 rfl fX4_24 rfl (by decide) rfl ?_
    refine g_get 75 (nI (a 0 4)) dX4_isRoomForLine_72 rfl fX4_94 rfl (by decide) rfl (hS.sc (by decide)) ?_
    refine g_bipush 77 (nI 12) dX4_isRoomForLine_75 rfl rfl ?_
    refine g_icmpN_ge 84 80 dX4_isRoomForLine_77 rfl rfl (by omega) (by omega) (fun c77 => ?_) (fun c77 => ?_)
    · refine g_iconst 85 (nI 0) dX4_isRoomForLine_84 rfl rfl ?_
      exact g_zret rfl dX4_isRoomForLine_85 rfl ⟨by show _ = bi (decide (a 0 4 < 12)); first | (rw [decide_eq_true (by omega)]; rfl) | (rw [decide_eq_false (by omega)]; rfl), rfl⟩
    · refine g_iconst 81 (nI 1) dX4_isRoomForLine_80 rfl rfl ?_
      refine g_goto 85 dX4_isRoomForLine_81 rfl ?_
      exact g_zret rfl dX4_isRoomForLine_85 rfl ⟨by show _ = bi (decide (a 0 4 < 12)); first | (rw [decide_eq_true (by omega)]; rfl) | (rw [decide_eq_false (by omega)]; rfl), rfl⟩

set_option maxHeartbeats 4000000 in
set_option maxRecDepth 100000 in
theorem c_X4_isAsToldOfLot {l : Launch} {D : va_G} {g : Nat → Nat → Nat} {ca : Nat → ClassId} {M : Mm} {c x : Nat} {a : Sa} (hc : M.1 15 0 3 = nI c) (h3 : c ≤ 3) (hS : SK (M.1 1) a) (hx : x ≤ 99) : Ct l D g ca md_X4_isAsToldOfLot [.ref (g 15 0), .int (nI x)] M (Ri (fun r M1 => r = bi (tldL c a x) ∧ M1 = M)) := by
  refine Ct.of (by decide) rfl (Nat.le_of_ble_eq_true rfl) ?_
  have b1 := hS.2.2.1.g4
  have b2 := hS.2.2.1.c6
  have b4 := hS.2.2.1.o41
  show G l D g ca md_X4_isAsToldOfLot 0 [(0, .ref (g 15 0)), (1, .int (nI x))] [] M _
  refine g_aload_n 1 0 dX4_isAsToldOfLot_0 rfl rfl ?_
  refine g_get 4 (nI c) dX4_isAsToldOfLot_1 rfl fX4_69 rfl (by decide) rfl hc ?_
  rcases (show c = 0 ∨ c = 1 ∨ c = 2 ∨ c = 3 by omega) with rfl | rfl | rfl | rfl
  · refine g_lookup (off := 28) 32 dX4_isAsToldOfLot_4 (by decide) (by first | rfl | decide) rfl ?_
    refine g_aload_n 33 0 dX4_isAsToldOfLot_32 rfl rfl ?_
    refine g_geto 36 dX4_isAsToldOfLot_33 rfl fX4_24 rfl (by decide) rfl ?_
    refine g_iload_n 37 1 dX4_isAsToldOfLot_36 rfl rfl ?_
    refine g_callVi 40 md_X2_hasGood [.int (nI x)] [] dX4_isAsToldOfLot_37 rfl e_X4_isAsToldOfLot_110 rfl (by decide) rfl rfl (Nat.le_of_ble_eq_true rfl) (c_X2_hasGood (o := 1) rfl hS.1 hS.2.2.1 (nI x)) (fun r37 M37 h37 => ?_)
    obtain ⟨rfl, h37⟩ := h37
    have h37 := h37.symm
    subst h37
    exact g_zret rfl dX4_isAsToldOfLot_40 (bi_nar _) ⟨by show bi (inr (nI x) (a 0 1)) = bi (decide (x < a 0 1)); rw [inrN (by omega) (by omega)], rfl⟩
  · refine g_lookup (off := 42) 46 dX4_isAsToldOfLot_4 (by decide) (by first | rfl | decide) rfl ?_
    refine g_iconst 47 (nI 1) dX4_isAsToldOfLot_46 rfl rfl ?_
    exact g_zret rfl dX4_isAsToldOfLot_47 rfl ⟨rfl, rfl⟩
  · refine g_lookup (off := 37) 41 dX4_isAsToldOfLot_4 (by decide) (by first | rfl | decide) rfl ?_
    refine g_iload_n 42 1 dX4_isAsToldOfLot_41 rfl rfl ?_
    refine g_callSNi 45 md_X6_isSum [.int (nI x)] [] dX4_isAsToldOfLot_42 rfl e_X4_isAsToldOfLot_113 rfl rfl (Nat.le_of_ble_eq_true rfl) (c_X6_isSum (nI x)) (fun r42 M42 h42 => ?_)
    obtain ⟨rfl, h42⟩ := h42
    have h42 := h42.symm
    subst h42
    exact g_zret rfl dX4_isAsToldOfLot_45 (bi_nar _) ⟨by show bi (isin (nI x) (nI 1) (nI 99)) = bi (decide (1 ≤ x ∧ x ≤ 99)); rw [isinN (by omega) (by omega) (by omega)], rfl⟩
  · refine g_lookup (off := 42) 46 dX4_isAsToldOfLot_4 (by decide) (by first | rfl | decide) rfl ?_
    refine g_iconst 47 (nI 1) dX4_isAsToldOfLot_46 rfl rfl ?_
    exact g_zret rfl dX4_isAsToldOfLot_47 rfl ⟨rfl, rfl⟩

theorem oo_f1 {a : Sa} {x y : Nat} (hx : x < 65536) (h1 : a 0 1 < 65536) (h : inr (nI x) (a 0 1) = false) : (decide (x < a 0 1) && !asked a y x) = false := by
  rw [inrN hx h1] at h
  rw [h]
  rfl
theorem oo_f2 {a : Sa} {x y : Nat} (b4 : a 0 4 ≤ 41) (h : ¬ oop a y x = -1) : (decide (x < a 0 1) && !asked a y x) = false := by
  cases hq : asked a y x with
  | true => exact Bool.and_false _
  | false => exact absurd ((oop_asked (by omega)).mpr hq) h
theorem oo_t {a : Sa} {x y : Nat} (hx : x < 65536) (h1 : a 0 1 < 65536) (b4 : a 0 4 ≤ 41) (h : inr (nI x) (a 0 1) = true) (h2 : oop a y x = -1) : (decide (x < a 0 1) && !asked a y x) = true := by
  rw [inrN hx h1] at h
  rw [h, (oop_asked (by omega)).mp h2]
  rfl

set_option maxHeartbeats 4000000 in
set_option maxRecDepth 100000 in
theorem c_X4_isAsToldOfOrder {l : Launch} {D : va_G} {g : Nat → Nat → Nat} {ca : Nat → ClassId} {M : Mm} {c x y : Nat} {a : Sa} (hc : M.1 15 0 3 = nI c) (h3 : c ≤ 3) (hv : 1 ≤ c → M.1 15 6 0 = nI y) (hy : 1 ≤ c → y ≤ 99) (hS : SK (M.1 1) a) (hx : x ≤ 99) : Ct l D g ca md_X4_isAsToldOfOrder [.ref (g 15 0), .int (nI x)] M (Ri (fun r M1 => r = bi (tldO c a y x) ∧ M1 = M)) := by
  refine Ct.of (by decide) rfl (Nat.le_of_ble_eq_true rfl) ?_
  have b1 := hS.2.2.1.g4
  have b2 := hS.2.2.1.c6
  have b4 := hS.2.2.1.o41
  show G l D g ca md_X4_isAsToldOfOrder 0 [(0, .ref (g 15 0)), (1, .int (nI x))] [] M _
  refine g_aload_n 1 0 dX4_isAsToldOfOrder_0 rfl rfl ?_
  refine g_get 4 (nI c) dX4_isAsToldOfOrder_1 rfl fX4_69 rfl (by decide) rfl hc ?_
  rcases (show c = 0 ∨ c = 1 ∨ c = 2 ∨ c = 3 by omega) with rfl | rfl | rfl | rfl
  · refine g_tableIn 32 dX4_isAsToldOfOrder_4 (by decide) (by decide) rfl rfl ?_
    refine g_aload_n 33 0 dX4_isAsToldOfOrder_32 rfl rfl ?_
    refine g_geto 36 dX4_isAsToldOfOrder_33 rfl fX4_24 rfl (by decide) rfl ?_
    refine g_iload_n 37 1 dX4_isAsToldOfOrder_36 rfl rfl ?_
    refine g_callVi 40 md_X2_hasCustomer [.int (nI x)] [] dX4_isAsToldOfOrder_37 rfl e_X4_isAsToldOfOrder_116 rfl (by decide) rfl rfl (Nat.le_of_ble_eq_true rfl) (c_X2_hasCustomer (o := 1) rfl hS.1 hS.2.2.1 (nI x)) (fun r37 M37 h37 => ?_)
    obtain ⟨rfl, h37⟩ := h37
    have h37 := h37.symm
    subst h37
    exact g_zret rfl dX4_isAsToldOfOrder_40 (bi_nar _) ⟨by show bi (inr (nI x) (a 0 2)) = bi (decide (x < a 0 2)); rw [inrN (by omega) (by omega)], rfl⟩
  · refine g_tableIn 41 dX4_isAsToldOfOrder_4 (by decide) (by decide) rfl rfl ?_
    have hy := hy (by omega)
    refine g_aload_n 42 0 dX4_isAsToldOfOrder_41 rfl rfl ?_
    refine g_geto 45 dX4_isAsToldOfOrder_42 rfl fX4_24 rfl (by decide) rfl ?_
    refine g_iload_n 46 1 dX4_isAsToldOfOrder_45 rfl rfl ?_
    refine g_callVi 49 md_X2_hasGood [.int (nI x)] [] dX4_isAsToldOfOrder_46 rfl e_X4_isAsToldOfOrder_110 rfl (by decide) rfl rfl (Nat.le_of_ble_eq_true rfl) (c_X2_hasGood (o := 1) rfl hS.1 hS.2.2.1 (nI x)) (fun r46 M46 h46 => ?_)
    obtain ⟨rfl, h46⟩ := h46
    have h46 := h46.symm
    subst h46
    refine g_ifB_eq 74 52 dX4_isAsToldOfOrder_49 rfl rfl (fun c49 => ?_) (fun c49 => ?_)
    · refine g_iconst 75 (nI 0) dX4_isAsToldOfOrder_74 rfl rfl ?_
      exact g_zret rfl dX4_isAsToldOfOrder_75 rfl ⟨by show _ = bi (decide (x < a 0 1) && !asked a y x); first | (rw [oo_f1 (by omega) (by omega) c49]; rfl) | (rw [oo_f2 b4 c67]; rfl), rfl⟩
    · refine g_aload_n 53 0 dX4_isAsToldOfOrder_52 rfl rfl ?_
      refine g_geto 56 dX4_isAsToldOfOrder_53 rfl fX4_24 rfl (by decide) rfl ?_
      refine g_aload_n 57 0 dX4_isAsToldOfOrder_56 rfl rfl ?_
      refine g_geta 60 6 dX4_isAsToldOfOrder_57 rfl fX4_11 rfl (by decide) rfl rfl ?_
      refine g_iconst 61 (nI 0) dX4_isAsToldOfOrder_60 rfl rfl ?_
      refine g_iald 62 (nI y) dX4_isAsToldOfOrder_61 rfl rfl (by decide) rfl (by decide) (by omega) (hv (by omega)) ?_
      refine g_iload_n 63 1 dX4_isAsToldOfOrder_62 rfl rfl ?_
      refine g_callVi 66 md_X2_openOrder [.int (nI y), .int (nI x)] [] dX4_isAsToldOfOrder_63 rfl e_X4_isAsToldOfOrder_119 rfl (by decide) rfl rfl (Nat.le_of_ble_eq_true rfl) (c_X2_openOrder (o := 1) rfl hS.1 hS.2.2.1 y x (by omega) (by omega)) (fun r63 M63 h63 => ?_)
      obtain ⟨rfl, h63⟩ := h63
      have h63 := h63.symm
      subst h63
      refine g_iconst 67 ((-1)) dX4_isAsToldOfOrder_66 rfl rfl ?_
      refine g_icmp_ne 74 70 dX4_isAsToldOfOrder_67 rfl rfl (fun c67 => ?_) (fun c67 => ?_)
      · refine g_iconst 75 (nI 0) dX4_isAsToldOfOrder_74 rfl rfl ?_
        exact g_zret rfl dX4_isAsToldOfOrder_75 rfl ⟨by show _ = bi (decide (x < a 0 1) && !asked a y x); first | (rw [oo_f1 (by omega) (by omega) c49]; rfl) | (rw [oo_f2 b4 c67]; rfl), rfl⟩
      · refine g_iconst 71 (nI 1) dX4_isAsToldOfOrder_70 rfl rfl ?_
        refine g_goto 75 dX4_isAsToldOfOrder_71 rfl ?_
        exact g_zret rfl dX4_isAsToldOfOrder_75 rfl ⟨by show _ = bi (decide (x < a 0 1) && !asked a y x); rw [oo_t (by omega) (by omega) b4 c49 c67]; rfl, rfl⟩
  · refine g_tableIn 76 dX4_isAsToldOfOrder_4 (by decide) (by decide) rfl rfl ?_
    refine g_iload_n 77 1 dX4_isAsToldOfOrder_76 rfl rfl ?_
    refine g_callSNi 80 md_X6_isSum [.int (nI x)] [] dX4_isAsToldOfOrder_77 rfl e_X4_isAsToldOfOrder_113 rfl rfl (Nat.le_of_ble_eq_true rfl) (c_X6_isSum (nI x)) (fun r77 M77 h77 => ?_)
    obtain ⟨rfl, h77⟩ := h77
    have h77 := h77.symm
    subst h77
    exact g_zret rfl dX4_isAsToldOfOrder_80 (bi_nar _) ⟨by show bi (isin (nI x) (nI 1) (nI 99)) = bi (decide (1 ≤ x ∧ x ≤ 99)); rw [isinN (by omega) (by omega) (by omega)], rfl⟩
  · refine g_tableOut 81 dX4_isAsToldOfOrder_4 (by decide) rfl ?_
    refine g_iconst 82 (nI 1) dX4_isAsToldOfOrder_81 rfl rfl ?_
    exact g_zret rfl dX4_isAsToldOfOrder_82 rfl ⟨rfl, rfl⟩

set_option maxHeartbeats 4000000 in
set_option maxRecDepth 100000 in
theorem c_X4_isAsTold {l : Launch} {D : va_G} {g : Nat → Nat → Nat} {ca : Nat → ClassId} {M : Mm} {s c x y : Nat} {a : Sa} (hs : M.1 15 0 2 = nI s) (h4 : 4 ≤ s) (h7 : s ≤ 7) (hc : M.1 15 0 3 = nI c) (hcn : c < nol s) (hv : 1 ≤ c → M.1 15 6 0 = nI y) (hy : 1 ≤ c → y ≤ 99) (hS : 6 ≤ s → SK (M.1 1) a) (hx : x ≤ 99) : Ct l D g ca md_X4_isAsTold [.ref (g 15 0), .int (nI x)] M (Ri (fun r M1 => r = bi (tld s c a y x) ∧ M1 = M)) := by
  refine Ct.of (by decide) rfl (Nat.le_of_ble_eq_true rfl) ?_
  show G l D g ca md_X4_isAsTold 0 [(0, .ref (g 15 0)), (1, .int (nI x))] [] M _
  refine g_aload_n 1 0 dX4_isAsTold_0 rfl rfl ?_
  refine g_get 4 (nI s) dX4_isAsTold_1 rfl fX4_81 rfl (by decide) rfl hs ?_
  rcases (show s = 4 ∨ s = 5 ∨ s = 6 ∨ s = 7 by omega) with rfl | rfl | rfl | rfl
  · refine g_tableIn 36 dX4_isAsTold_4 (by decide) (by decide) rfl rfl ?_
    refine g_iload_n 37 1 dX4_isAsTold_36 rfl rfl ?_
    refine g_iconst 38 (nI 1) dX4_isAsTold_37 rfl rfl ?_
    refine g_icmpN_lt 50 41 dX4_isAsTold_38 rfl rfl (by omega) (by omega) (fun c38 => ?_) (fun c38 => ?_)
    · refine g_iconst 51 (nI 0) dX4_isAsTold_50 rfl rfl ?_
      exact g_zret rfl dX4_isAsTold_51 rfl ⟨by show _ = bi (decide (1 ≤ x ∧ x ≤ 4)); first | (rw [decide_eq_true (by omega)]; rfl) | (rw [decide_eq_false (by omega)]; rfl), rfl⟩
    · refine g_iload_n 42 1 dX4_isAsTold_41 rfl rfl ?_
      refine g_iconst 43 (nI 4) dX4_isAsTold_42 rfl rfl ?_
      refine g_icmpN_gt 50 46 dX4_isAsTold_43 rfl rfl (by omega) (by omega) (fun c43 => ?_) (fun c43 => ?_)
      · refine g_iconst 51 (nI 0) dX4_isAsTold_50 rfl rfl ?_
        exact g_zret rfl dX4_isAsTold_51 rfl ⟨by show _ = bi (decide (1 ≤ x ∧ x ≤ 4)); first | (rw [decide_eq_true (by omega)]; rfl) | (rw [decide_eq_false (by omega)]; rfl), rfl⟩
      · refine g_iconst 47 (nI 1) dX4_isAsTold_46 rfl rfl ?_
        refine g_goto 51 dX4_isAsTold_47 rfl ?_
        exact g_zret rfl dX4_isAsTold_51 rfl ⟨by show _ = bi (decide (1 ≤ x ∧ x ≤ 4)); first | (rw [decide_eq_true (by omega)]; rfl) | (rw [decide_eq_false (by omega)]; rfl), rfl⟩
  · refine g_tableIn 64 dX4_isAsTold_4 (by decide) (by decide) rfl rfl ?_
    refine g_iconst 65 (nI 1) dX4_isAsTold_64 rfl rfl ?_
    exact g_zret rfl dX4_isAsTold_65 rfl ⟨rfl, rfl⟩
  · refine g_tableIn 52 dX4_isAsTold_4 (by decide) (by decide) rfl rfl ?_
    refine g_aload_n 53 0 dX4_isAsTold_52 rfl rfl ?_
    refine g_iload_n 54 1 dX4_isAsTold_53 rfl rfl ?_
    refine g_callVi 57 md_X4_isAsToldOfLot [.int (nI x)] [] dX4_isAsTold_54 rfl e_X4_isAsTold_104 rfl (by decide) rfl rfl (Nat.le_of_ble_eq_true rfl) (c_X4_isAsToldOfLot hc (by have := nol_le (s := 6); omega) (hS (by omega)) hx) (fun r54 M54 h54 => ?_)
    obtain ⟨rfl, h54⟩ := h54
    have h54 := h54.symm
    subst h54
    exact g_zret rfl dX4_isAsTold_57 (bi_nar _) ⟨rfl, rfl⟩
  · refine g_tableIn 58 dX4_isAsTold_4 (by decide) (by decide) rfl rfl ?_
    refine g_aload_n 59 0 dX4_isAsTold_58 rfl rfl ?_
    refine g_iload_n 60 1 dX4_isAsTold_59 rfl rfl ?_
    refine g_callVi 63 md_X4_isAsToldOfOrder [.int (nI x)] [] dX4_isAsTold_60 rfl e_X4_isAsTold_107 rfl (by decide) rfl rfl (Nat.le_of_ble_eq_true rfl) (c_X4_isAsToldOfOrder hc (by have := nol_le (s := 7); omega) hv hy (hS (by omega)) hx) (fun r60 M60 h60 => ?_)
    obtain ⟨rfl, h60⟩ := h60
    have h60 := h60.symm
    subst h60
    exact g_zret rfl dX4_isAsTold_63 (bi_nar _) ⟨rfl, rfl⟩

def NmP (M : Mm) (t : Nat → Nat) (n p s c : Nat) (a : Sa) (y : Nat) (r : Int32) (M1 : Mm) : Prop := (nF t n p s c a y ≠ 0 → r = nI (nF t n p s c a y) ∧ M1 = M) ∧ (nF t n p s c a y = 0 → r = nI 0 ∧ M1 = wr (wr M 15 6 c (nI (tvl t n p))) 15 0 3 (nI (c + 1)))
def WdP (M : Mm) (t : Nat → Nat) (n p s ln : Nat) (a : Sa) (r : Int32) (M1 : Mm) : Prop := (¬ ((ln = 0 ∧ tkd t n p = 4) ∨ (1 ≤ ln ∧ 4 < tkd t n p ∧ s ≤ tkd t n p)) → r = nI 1 ∧ M1 = M) ∧ (((ln = 0 ∧ tkd t n p = 4) ∨ (1 ≤ ln ∧ 4 < tkd t n p ∧ s ≤ tkd t n p)) → r = nI (if rmS (tkd t n p) a = true then 0 else 3) ∧ M1 = wr (wr (wr M 15 0 2 (nI (tkd t n p))) 15 0 3 (nI 0)) 15 0 4 (nI 1))
def SpP (M : Mm) (t : Nat → Nat) (n p s ln : Nat) (a : Sa) (v : Nat → Nat) (r : Int32) (M1 : Mm) : Prop := (tkd t n p ≠ 3 → r = nI 1 ∧ M1 = M) ∧ (tkd t n p = 3 → r = nI 0 ∧ ∃ N : Mm, SK (N.1 1) (addS s a v) ∧ Fo 1 M N ∧ M1 = wr (wr N 15 0 4 (nI 0)) 15 0 6 (nI (ln + 1)))
theorem DR_5 {B : Nat → Nat → Int32} {s ln : Nat} {a : Sa} (h : DR B s ln a) (h5 : 5 ≤ s) : SK B a ∧ Lm a ∧ cnt a + 1 = ln := by
  rcases h with ⟨_, q, _⟩ | ⟨_, _, _, q1, q2, q3⟩
  · exact absurd h5 (by omega)
  · exact ⟨q1, q2, q3⟩
theorem DR_4 {B : Nat → Nat → Int32} {ln : Nat} {a : Sa} (h : DR B 4 ln a) : ln = 0 ∧ a = gs 0 ∧ ZC B := by
  rcases h with ⟨q1, _, q2, q3⟩ | ⟨_, q, _⟩
  · exact ⟨q1, q2, q3⟩
  · exact absurd q (by omega)
theorem DR_s {B : Nat → Nat → Int32} {s ln : Nat} {a : Sa} (h : DR B s ln a) : s = 4 ∨ s = 5 ∨ s = 6 ∨ s = 7 := by
  rcases h with ⟨_, q, _⟩ | ⟨_, q1, q2, _⟩
  · exact Or.inl q
  · omega

set_option maxHeartbeats 4000000 in
set_option maxRecDepth 100000 in
theorem c_X4_takeNumber {l : Launch} {D : va_G} {g : Nat → Nat → Nat} {ca : Nat → ClassId} {M : Mm} {t : Nat → Nat} {n p s c y : Nat} {a : Sa} (hs : M.1 15 0 2 = nI s) (h4 : 4 ≤ s) (h7 : s ≤ 7) (hc : M.1 15 0 3 = nI c) (hcn : c < nol s) (hv : 1 ≤ c → M.1 15 6 0 = nI y) (hy : 1 ≤ c → y ≤ 99) (hS : 6 ≤ s → SK (M.1 1) a) (hK : TK M t n p) : Ct l D g ca md_X4_takeNumber [.ref (g 15 0)] M (Ri (fun r M1 => NmP M t n p s c a y r M1)) := by
  refine Ct.of (by decide) rfl (Nat.le_of_ble_eq_true rfl) ?_
  have hkd := tkd_le (t := t) (n := n) (p := p)
  have h4n := nol_le (s := s)
  show G l D g ca md_X4_takeNumber 0 [(0, .ref (g 15 0))] [] M _
  refine g_aload_n 1 0 dX4_takeNumber_0 rfl rfl ?_
  refine g_geto 4 dX4_takeNumber_1 rfl fX4_20 rfl (by decide) rfl ?_
  refine g_get 7 (nI (tkd t n p)) dX4_takeNumber_4 rfl fX4_38 rfl (by decide) rfl hK.1 ?_
  refine g_iconst 8 (nI 2) dX4_takeNumber_7 rfl rfl ?_
  refine g_icmpN_eq 13 11 dX4_takeNumber_8 rfl rfl (by omega) (by omega) (fun c8 => ?_) (fun c8 => ?_)
  · refine g_aload_n 14 0 dX4_takeNumber_13 rfl rfl ?_
    refine g_aload_n 15 0 dX4_takeNumber_14 rfl rfl ?_
    refine g_geto 18 dX4_takeNumber_15 rfl fX4_20 rfl (by decide) rfl ?_
    refine g_get 21 (nI (tvl t n p)) dX4_takeNumber_18 rfl fX4_97 rfl (by decide) rfl (hK.2.2 c8) ?_
    refine g_callVi 24 md_X4_isAsTold [.int (nI (tvl t n p))] [] dX4_takeNumber_21 rfl e_X4_takeNumber_100 rfl (by decide) rfl rfl (Nat.le_of_ble_eq_true rfl) (c_X4_isAsTold hs h4 h7 hc hcn hv hy hS (tvl_le c8)) (fun r21 M21 h21 => ?_)
    obtain ⟨rfl, h21⟩ := h21
    have h21 := h21.symm
    subst h21
    refine g_ifB_ne 29 27 dX4_takeNumber_24 rfl rfl (fun c24 => ?_) (fun c24 => ?_)
    · refine g_aload_n 30 0 dX4_takeNumber_29 rfl rfl ?_
      refine g_geta 33 6 dX4_takeNumber_30 rfl fX4_11 rfl (by decide) rfl rfl ?_
      refine g_aload_n 34 0 dX4_takeNumber_33 rfl rfl ?_
      refine g_get 37 (nI c) dX4_takeNumber_34 rfl fX4_69 rfl (by decide) rfl hc ?_
      refine g_aload_n 38 0 dX4_takeNumber_37 rfl rfl ?_
      refine g_geto 41 dX4_takeNumber_38 rfl fX4_20 rfl (by decide) rfl ?_
      refine g_get 44 (nI (tvl t n p)) dX4_takeNumber_41 rfl fX4_97 rfl (by decide) rfl (hK.2.2 c8) ?_
      refine g_iast 45 dX4_takeNumber_44 rfl rfl (by decide) rfl (by decide) (by omega) ?_
      refine g_aload_n 46 0 dX4_takeNumber_45 rfl rfl ?_
      refine g_dup 47 dX4_takeNumber_46 rfl rfl ?_
      refine g_get 50 (nI c) dX4_takeNumber_47 rfl fX4_69 rfl (by decide) rfl ((wr_ne (by omega)).trans hc) ?_
      refine g_iconst 51 (nI 1) dX4_takeNumber_50 rfl rfl ?_
      refine g_iadd 52 (nI (c + 1)) dX4_takeNumber_51 rfl (nI_add c 1) ?_
      refine g_put 55 dX4_takeNumber_52 rfl fX4_69 pX4_3 rfl (by decide) rfl ?_
      refine g_iconst 56 (nI 0) dX4_takeNumber_55 rfl rfl ?_
      exact g_iret rfl dX4_takeNumber_56 ⟨fun z => absurd (nF_0 c8 c24) z, fun _ => ⟨rfl, rfl⟩⟩
    · refine g_iconst 28 (nI 2) dX4_takeNumber_27 rfl rfl ?_
      exact g_iret rfl dX4_takeNumber_28 ⟨fun _ => ⟨by rw [nF_2 c8 c24], rfl⟩, fun z => absurd z (by rw [nF_2 c8 c24]; decide)⟩
  · refine g_iconst 12 (nI 1) dX4_takeNumber_11 rfl rfl ?_
    exact g_iret rfl dX4_takeNumber_12 ⟨fun _ => ⟨by rw [nF_1 c8], rfl⟩, fun z => absurd z (by rw [nF_1 c8]; decide)⟩

set_option maxHeartbeats 4000000 in
set_option maxRecDepth 100000 in
theorem c_X4_takeWord {l : Launch} {D : va_G} {g : Nat → Nat → Nat} {ca : Nat → ClassId} {M : Mm} {t : Nat → Nat} {n p s ln : Nat} {a : Sa} (hK : TK M t n p) (hl : M.1 15 0 6 = nI ln) (hl1 : ln ≤ 1000) (hs : 1 ≤ ln → M.1 15 0 2 = nI s) (hs7 : s ≤ 7) (hS : RP (M.1 1) a) : Ct l D g ca md_X4_takeWord [.ref (g 15 0)] M (Ri (fun r M1 => WdP M t n p s ln a r M1)) := by
  refine Ct.of (by decide) rfl (Nat.le_of_ble_eq_true rfl) ?_
  have hkd := tkd_le (t := t) (n := n) (p := p)
  show G l D g ca md_X4_takeWord 0 [(0, .ref (g 15 0))] [] M _
  refine g_aload_n 1 0 dX4_takeWord_0 rfl rfl ?_
  refine g_get 4 (nI ln) dX4_takeWord_1 rfl fX4_41 rfl (by decide) rfl hl ?_
  refine g_ifN_ne 26 7 dX4_takeWord_4 rfl rfl (by omega) (fun c4 => ?_) (fun c4 => ?_)
  · refine g_aload_n 27 0 dX4_takeWord_26 rfl rfl ?_
    refine g_geto 30 dX4_takeWord_27 rfl fX4_20 rfl (by decide) rfl ?_
    refine g_get 33 (nI (tkd t n p)) dX4_takeWord_30 rfl fX4_38 rfl (by decide) rfl hK.1 ?_
    refine g_iconst 34 (nI 4) dX4_takeWord_33 rfl rfl ?_
    refine g_icmpN_le 55 37 dX4_takeWord_34 rfl rfl (by omega) (by omega) (fun c34 => ?_) (fun c34 => ?_)
    · refine g_iconst 56 (nI 0) dX4_takeWord_55 rfl rfl ?_
      refine g_istore_n 57 [(1, .int (nI 0)), (0, .ref (g 15 0))] dX4_takeWord_56 rfl (by decide) rfl ?_
      refine g_iload_n 58 0 dX4_takeWord_57 rfl rfl ?_
      refine g_ifN_ne 63 61 dX4_takeWord_58 rfl rfl (by omega) (fun c58 => ?_) (fun c58 => ?_)
      · exact absurd c58 (by omega)
      · refine g_iconst 62 (nI 1) dX4_takeWord_61 rfl rfl ?_
        exact g_iret rfl dX4_takeWord_62 ⟨fun _ => ⟨rfl, rfl⟩, fun z => absurd z (by omega)⟩
    · refine g_aload_n 38 0 dX4_takeWord_37 rfl rfl ?_
      refine g_geto 41 dX4_takeWord_38 rfl fX4_20 rfl (by decide) rfl ?_
      refine g_get 44 (nI (tkd t n p)) dX4_takeWord_41 rfl fX4_38 rfl (by decide) rfl hK.1 ?_
      refine g_aload_n 45 0 dX4_takeWord_44 rfl rfl ?_
      refine g_get 48 (nI s) dX4_takeWord_45 rfl fX4_81 rfl (by decide) rfl (hs (by omega)) ?_
      refine g_icmpN_lt 55 51 dX4_takeWord_48 rfl rfl (by omega) (by omega) (fun c48 => ?_) (fun c48 => ?_)
      · refine g_iconst 56 (nI 0) dX4_takeWord_55 rfl rfl ?_
        refine g_istore_n 57 [(1, .int (nI 0)), (0, .ref (g 15 0))] dX4_takeWord_56 rfl (by decide) rfl ?_
        refine g_iload_n 58 0 dX4_takeWord_57 rfl rfl ?_
        refine g_ifN_ne 63 61 dX4_takeWord_58 rfl rfl (by omega) (fun c58 => ?_) (fun c58 => ?_)
        · exact absurd c58 (by omega)
        · refine g_iconst 62 (nI 1) dX4_takeWord_61 rfl rfl ?_
          exact g_iret rfl dX4_takeWord_62 ⟨fun _ => ⟨rfl, rfl⟩, fun z => absurd z (by omega)⟩
      · refine g_iconst 52 (nI 1) dX4_takeWord_51 rfl rfl ?_
        refine g_goto 56 dX4_takeWord_52 rfl ?_
        refine g_istore_n 57 [(1, .int (nI 1)), (0, .ref (g 15 0))] dX4_takeWord_56 rfl (by decide) rfl ?_
        refine g_iload_n 58 0 dX4_takeWord_57 rfl rfl ?_
        refine g_ifN_ne 63 61 dX4_takeWord_58 rfl rfl (by omega) (fun c58 => ?_) (fun c58 => ?_)
        · refine g_aload_n 64 1 dX4_takeWord_63 rfl rfl ?_
          refine g_aload_n 65 1 dX4_takeWord_64 rfl rfl ?_
          refine g_geto 68 dX4_takeWord_65 rfl fX4_20 rfl (by decide) rfl ?_
          refine g_get 71 (nI (tkd t n p)) dX4_takeWord_68 rfl fX4_38 rfl (by decide) rfl hK.1 ?_
          refine g_put 74 dX4_takeWord_71 rfl fX4_81 pX4_2 rfl (by decide) rfl ?_
          refine g_aload_n 75 1 dX4_takeWord_74 rfl rfl ?_
          refine g_iconst 76 (nI 0) dX4_takeWord_75 rfl rfl ?_
          refine g_put 79 dX4_takeWord_76 rfl fX4_69 pX4_3 rfl (by decide) rfl ?_
          refine g_aload_n 80 1 dX4_takeWord_79 rfl rfl ?_
          refine g_iconst 81 (nI 1) dX4_takeWord_80 rfl rfl ?_
          refine g_putz 84 dX4_takeWord_81 rfl fX4_44 pX4_4 rfl (by decide) rfl (by decide) ?_
          refine g_aload_n 85 1 dX4_takeWord_84 rfl rfl ?_
          refine g_callVi 88 md_X4_isRoomForLine [] [] dX4_takeWord_85 rfl e_X4_takeWord_84 rfl (by decide) rfl rfl (Nat.le_of_ble_eq_true rfl) (c_X4_isRoomForLine (s := tkd t n p) (a := a) ((wr_ne (by omega)).trans ((wr_ne (by omega)).trans wr_eq)) (by omega) hkd (by rw [Fo_1w (by decide), Fo_1w (by decide), Fo_1w (by decide)]; exact hS)) (fun r85 M85 h85 => ?_)
          obtain ⟨rfl, h85⟩ := h85
          have h85 := h85.symm
          subst h85
          refine g_ifB_eq 95 91 dX4_takeWord_88 rfl rfl (fun c88 => ?_) (fun c88 => ?_)
          · refine g_iconst 96 (nI 3) dX4_takeWord_95 rfl rfl ?_
            exact g_iret rfl dX4_takeWord_96 ⟨fun z => absurd (by omega) z, fun _ => ⟨by rw [c88]; rfl, rfl⟩⟩
          · refine g_iconst 92 (nI 0) dX4_takeWord_91 rfl rfl ?_
            refine g_goto 96 dX4_takeWord_92 rfl ?_
            exact g_iret rfl dX4_takeWord_96 ⟨fun z => absurd (by omega) z, fun _ => ⟨by rw [c88]; rfl, rfl⟩⟩
        · exact absurd c58 (by omega)
  · refine g_aload_n 8 0 dX4_takeWord_7 rfl rfl ?_
    refine g_geto 11 dX4_takeWord_8 rfl fX4_20 rfl (by decide) rfl ?_
    refine g_get 14 (nI (tkd t n p)) dX4_takeWord_11 rfl fX4_38 rfl (by decide) rfl hK.1 ?_
    refine g_iconst 15 (nI 4) dX4_takeWord_14 rfl rfl ?_
    refine g_icmpN_ne 22 18 dX4_takeWord_15 rfl rfl (by omega) (by omega) (fun c15 => ?_) (fun c15 => ?_)
    · refine g_iconst 23 (nI 0) dX4_takeWord_22 rfl rfl ?_
      refine g_goto 56 dX4_takeWord_23 rfl ?_
      refine g_istore_n 57 [(1, .int (nI 0)), (0, .ref (g 15 0))] dX4_takeWord_56 rfl (by decide) rfl ?_
      refine g_iload_n 58 0 dX4_takeWord_57 rfl rfl ?_
      refine g_ifN_ne 63 61 dX4_takeWord_58 rfl rfl (by omega) (fun c58 => ?_) (fun c58 => ?_)
      · exact absurd c58 (by omega)
      · refine g_iconst 62 (nI 1) dX4_takeWord_61 rfl rfl ?_
        exact g_iret rfl dX4_takeWord_62 ⟨fun _ => ⟨rfl, rfl⟩, fun z => absurd z (by omega)⟩
    · refine g_iconst 19 (nI 1) dX4_takeWord_18 rfl rfl ?_
      refine g_goto 56 dX4_takeWord_19 rfl ?_
      refine g_istore_n 57 [(1, .int (nI 1)), (0, .ref (g 15 0))] dX4_takeWord_56 rfl (by decide) rfl ?_
      refine g_iload_n 58 0 dX4_takeWord_57 rfl rfl ?_
      refine g_ifN_ne 63 61 dX4_takeWord_58 rfl rfl (by omega) (fun c58 => ?_) (fun c58 => ?_)
      · refine g_aload_n 64 1 dX4_takeWord_63 rfl rfl ?_
        refine g_aload_n 65 1 dX4_takeWord_64 rfl rfl ?_
        refine g_geto 68 dX4_takeWord_65 rfl fX4_20 rfl (by decide) rfl ?_
        refine g_get 71 (nI (tkd t n p)) dX4_takeWord_68 rfl fX4_38 rfl (by decide) rfl hK.1 ?_
        refine g_put 74 dX4_takeWord_71 rfl fX4_81 pX4_2 rfl (by decide) rfl ?_
        refine g_aload_n 75 1 dX4_takeWord_74 rfl rfl ?_
        refine g_iconst 76 (nI 0) dX4_takeWord_75 rfl rfl ?_
        refine g_put 79 dX4_takeWord_76 rfl fX4_69 pX4_3 rfl (by decide) rfl ?_
        refine g_aload_n 80 1 dX4_takeWord_79 rfl rfl ?_
        refine g_iconst 81 (nI 1) dX4_takeWord_80 rfl rfl ?_
        refine g_putz 84 dX4_takeWord_81 rfl fX4_44 pX4_4 rfl (by decide) rfl (by decide) ?_
        refine g_aload_n 85 1 dX4_takeWord_84 rfl rfl ?_
        refine g_callVi 88 md_X4_isRoomForLine [] [] dX4_takeWord_85 rfl e_X4_takeWord_84 rfl (by decide) rfl rfl (Nat.le_of_ble_eq_true rfl) (c_X4_isRoomForLine (s := tkd t n p) (a := a) ((wr_ne (by omega)).trans ((wr_ne (by omega)).trans wr_eq)) (by omega) hkd (by rw [Fo_1w (by decide), Fo_1w (by decide), Fo_1w (by decide)]; exact hS)) (fun r85 M85 h85 => ?_)
        obtain ⟨rfl, h85⟩ := h85
        have h85 := h85.symm
        subst h85
        refine g_ifB_eq 95 91 dX4_takeWord_88 rfl rfl (fun c88 => ?_) (fun c88 => ?_)
        · refine g_iconst 96 (nI 3) dX4_takeWord_95 rfl rfl ?_
          exact g_iret rfl dX4_takeWord_96 ⟨fun z => absurd (by omega) z, fun _ => ⟨by rw [c88]; rfl, rfl⟩⟩
        · refine g_iconst 92 (nI 0) dX4_takeWord_91 rfl rfl ?_
          refine g_goto 96 dX4_takeWord_92 rfl ?_
          exact g_iret rfl dX4_takeWord_96 ⟨fun z => absurd (by omega) z, fun _ => ⟨by rw [c88]; rfl, rfl⟩⟩
      · exact absurd c58 (by omega)

theorem tld_71 {a : Sa} {w x : Nat} (h : tld 7 1 a w x = true) : x < a 0 1 ∧ asked a w x = false := by
  have h : (decide (x < a 0 1) && !asked a w x) = true := h
  rw [Bool.and_eq_true] at h
  refine ⟨of_decide_eq_true h.1, ?_⟩
  cases q : asked a w x with
  | false => rfl
  | true => rw [q] at h; exact absurd h.2 (by decide)

set_option maxHeartbeats 4000000 in
set_option maxRecDepth 100000 in
theorem c_X4_addLine {l : Launch} {D : va_G} {g : Nat → Nat → Nat} {ca : Nat → ClassId} {M : Mm} {s ln : Nat} {a : Sa} {v : Nat → Nat} (hs : M.1 15 0 2 = nI s) (hN : VN M (nol s) v) (hV : VT s (nol s) a v) (hR : rmS s a = true) (hD : DR (M.1 1) s ln a) : Ct l D g ca md_X4_addLine [.ref (g 15 0)] M (Rv (fun M1 => SK (M1.1 1) (addS s a v) ∧ Fo 1 M M1)) := by
  refine Ct.of (by decide) rfl (Nat.le_of_ble_eq_true rfl) ?_
  have hs4 := DR_s hD
  show G l D g ca md_X4_addLine 0 [(0, .ref (g 15 0))] [] M _
  refine g_aload_n 1 0 dX4_addLine_0 rfl rfl ?_
  refine g_get 4 (nI s) dX4_addLine_1 rfl fX4_81 rfl (by decide) rfl hs ?_
  rcases hs4 with rfl | rfl | rfl | rfl
  · refine g_tableOut 118 dX4_addLine_4 (by decide) rfl ?_
    obtain ⟨_, _, hZ⟩ := DR_4 hD
    refine g_aload_n 119 0 dX4_addLine_118 rfl rfl ?_
    refine g_geto 122 dX4_addLine_119 rfl fX4_24 rfl (by decide) rfl ?_
    refine g_aload_n 123 0 dX4_addLine_122 rfl rfl ?_
    refine g_geta 126 6 dX4_addLine_123 rfl fX4_11 rfl (by decide) rfl rfl ?_
    refine g_iconst 127 (nI 0) dX4_addLine_126 rfl rfl ?_
    refine g_iald 128 (nI (v 0)) dX4_addLine_127 rfl rfl (by decide) rfl (by decide) (by omega) (hN 0 (by decide)) ?_
    refine g_put 131 dX4_addLine_128 rfl fX4_137 pX2_1 rfl (by decide) rfl ?_
    exact g_vret rfl dX4_addLine_131 ⟨(show SK _ (gs (v 0)) from ZC_SK hZ (of_decide_eq_true (hV 0 (by decide)).1).1 (of_decide_eq_true (hV 0 (by decide)).1).2), Fo.wr⟩
  · refine g_tableIn 32 dX4_addLine_4 (by decide) (by decide) rfl rfl ?_
    obtain ⟨hS, hL, hct⟩ := DR_5 hD (by omega)
    have hr : a 0 2 < 6 := of_decide_eq_true hR
    refine g_aload_n 33 0 dX4_addLine_32 rfl rfl ?_
    refine g_geto 36 dX4_addLine_33 rfl fX4_24 rfl (by decide) rfl ?_
    refine g_aload_n 37 0 dX4_addLine_36 rfl rfl ?_
    refine g_geta 40 6 dX4_addLine_37 rfl fX4_11 rfl (by decide) rfl rfl ?_
    refine g_iconst 41 (nI 0) dX4_addLine_40 rfl rfl ?_
    refine g_iald 42 (nI (v 0)) dX4_addLine_41 rfl rfl (by decide) rfl (by decide) (by omega) (hN 0 (by decide)) ?_
    refine g_callVv 45 md_X2_addCustomer [.int (nI (v 0))] [] dX4_addLine_42 rfl e_X4_addLine_126 rfl (by decide) rfl rfl (Nat.le_of_ble_eq_true rfl) (c_X2_addCustomer (o := 1) rfl hS.1 (v 0) hr) (fun M42 h42 => ?_)
    subst h42
    refine g_goto 131 dX4_addLine_45 rfl ?_
    exact g_vret rfl dX4_addLine_131 ⟨(show SK _ (addC a (v 0)) from SK_mk (RP_addC hS.1 hr (fun j i h0 h1 h2 => by rw [wr_ne (by omega), wr_ne (by omega)]) wr_eq (by rw [wr_ne (by omega), wr_eq])) (RR_addC hS.2.1 (fun i => by rw [wr_ne (by omega), wr_ne (by omega)])) (Ok_addC (SK_ok hS) hr (hV 0 (by decide)).2)), (Fo.tr Fo.wr Fo.wr)⟩
  · refine g_tableIn 48 dX4_addLine_4 (by decide) (by decide) rfl rfl ?_
    obtain ⟨hS, hL, hct⟩ := DR_5 hD (by omega)
    have hr : a 0 3 < 12 := of_decide_eq_true hR
    have v0 : v 0 < a 0 1 := of_decide_eq_true (hV 0 (by decide)).1
    have k0 := (hV 0 (by decide)).2
    have k1 := (hV 1 (by decide)).2
    have k2 := (hV 2 (by decide)).2
    have k3 := (hV 3 (by decide)).2
    refine g_aload_n 49 0 dX4_addLine_48 rfl rfl ?_
    refine g_geto 52 dX4_addLine_49 rfl fX4_24 rfl (by decide) rfl ?_
    refine g_aload_n 53 0 dX4_addLine_52 rfl rfl ?_
    refine g_geta 56 6 dX4_addLine_53 rfl fX4_11 rfl (by decide) rfl rfl ?_
    refine g_iconst 57 (nI 0) dX4_addLine_56 rfl rfl ?_
    refine g_iald 58 (nI (v 0)) dX4_addLine_57 rfl rfl (by decide) rfl (by decide) (by omega) (hN 0 (by decide)) ?_
    refine g_aload_n 59 0 dX4_addLine_58 rfl rfl ?_
    refine g_geta 62 6 dX4_addLine_59 rfl fX4_11 rfl (by decide) rfl rfl ?_
    refine g_iconst 63 (nI 1) dX4_addLine_62 rfl rfl ?_
    refine g_iald 64 (nI (v 1)) dX4_addLine_63 rfl rfl (by decide) rfl (by decide) (by omega) (hN 1 (by decide)) ?_
    refine g_aload_n 65 0 dX4_addLine_64 rfl rfl ?_
    refine g_geta 68 6 dX4_addLine_65 rfl fX4_11 rfl (by decide) rfl rfl ?_
    refine g_iconst 69 (nI 2) dX4_addLine_68 rfl rfl ?_
    refine g_iald 70 (nI (v 2)) dX4_addLine_69 rfl rfl (by decide) rfl (by decide) (by omega) (hN 2 (by decide)) ?_
    refine g_aload_n 71 0 dX4_addLine_70 rfl rfl ?_
    refine g_geta 74 6 dX4_addLine_71 rfl fX4_11 rfl (by decide) rfl rfl ?_
    refine g_iconst 75 (nI 3) dX4_addLine_74 rfl rfl ?_
    refine g_iald 76 (nI (v 3)) dX4_addLine_75 rfl rfl (by decide) rfl (by decide) (by omega) (hN 3 (by decide)) ?_
    refine g_callVi 79 md_X2_addLot [.int (nI (v 0)), .int (nI (v 1)), .int (nI (v 2)), .int (nI (v 3))] [] dX4_addLine_76 rfl e_X4_addLine_130 rfl (by decide) rfl rfl (Nat.le_of_ble_eq_true rfl) (c_X2_addLot (o := 1) rfl hS.1 (v 0) (v 1) (v 2) (v 3) (by omega)) (fun r76 M76 h76 => ?_)
    obtain ⟨rfl, h76⟩ := h76
    subst h76
    refine g_pop 80 dX4_addLine_79 rfl rfl ?_
    refine g_goto 131 dX4_addLine_80 rfl ?_
    exact g_vret rfl dX4_addLine_131 ⟨(show SK _ (addL a (v 0) (v 1) (v 2) (v 3)) from SK_mk (RP_addL hS.1 (by omega) (fun j i h0 h1 h2 => by rw [wr_ne (by omega), wr_ne (by omega), wr_ne (by omega), wr_ne (by omega), wr_ne (by omega)]) wr_eq (by rw [wr_ne (by omega), wr_ne (by omega), wr_ne (by omega), wr_ne (by omega), wr_eq]) (by rw [wr_ne (by omega), wr_ne (by omega), wr_ne (by omega), wr_eq]) (by rw [wr_ne (by omega), wr_ne (by omega), wr_eq]) (by rw [wr_ne (by omega), wr_eq])) (RR_addL hS.2.1 hS.2.2.2.1 (fun i => by rw [wr_ne (by omega), wr_ne (by omega), wr_ne (by omega), wr_ne (by omega), wr_ne (by omega)])) (Ok_addL (SK_ok hS) (by omega) v0 (by omega) (by omega) (by omega))), (Fo.tr (Fo.tr (Fo.tr (Fo.tr Fo.wr Fo.wr) Fo.wr) Fo.wr) Fo.wr)⟩
  · refine g_tableIn 83 dX4_addLine_4 (by decide) (by decide) rfl rfl ?_
    obtain ⟨hS, hL, hct⟩ := DR_5 hD (by omega)
    have hr : a 0 4 < 12 := of_decide_eq_true hR
    have v0 : v 0 < a 0 2 := of_decide_eq_true (hV 0 (by decide)).1
    have v1 : v 1 < a 0 1 ∧ asked a (v 0) (v 1) = false := tld_71 (hV 1 (by decide)).1
    have v2 : 1 ≤ v 2 ∧ v 2 ≤ 99 := of_decide_eq_true (hV 2 (by decide)).1
    have k0 := (hV 0 (by decide)).2
    have k1 := (hV 1 (by decide)).2
    have k2 := (hV 2 (by decide)).2
    have k3 := (hV 3 (by decide)).2
    refine g_aload_n 84 0 dX4_addLine_83 rfl rfl ?_
    refine g_geto 87 dX4_addLine_84 rfl fX4_24 rfl (by decide) rfl ?_
    refine g_aload_n 88 0 dX4_addLine_87 rfl rfl ?_
    refine g_geta 91 6 dX4_addLine_88 rfl fX4_11 rfl (by decide) rfl rfl ?_
    refine g_iconst 92 (nI 0) dX4_addLine_91 rfl rfl ?_
    refine g_iald 93 (nI (v 0)) dX4_addLine_92 rfl rfl (by decide) rfl (by decide) (by omega) (hN 0 (by decide)) ?_
    refine g_aload_n 94 0 dX4_addLine_93 rfl rfl ?_
    refine g_geta 97 6 dX4_addLine_94 rfl fX4_11 rfl (by decide) rfl rfl ?_
    refine g_iconst 98 (nI 1) dX4_addLine_97 rfl rfl ?_
    refine g_iald 99 (nI (v 1)) dX4_addLine_98 rfl rfl (by decide) rfl (by decide) (by omega) (hN 1 (by decide)) ?_
    refine g_aload_n 100 0 dX4_addLine_99 rfl rfl ?_
    refine g_geta 103 6 dX4_addLine_100 rfl fX4_11 rfl (by decide) rfl rfl ?_
    refine g_iconst 104 (nI 2) dX4_addLine_103 rfl rfl ?_
    refine g_iald 105 (nI (v 2)) dX4_addLine_104 rfl rfl (by decide) rfl (by decide) (by omega) (hN 2 (by decide)) ?_
    refine g_aload_n 106 0 dX4_addLine_105 rfl rfl ?_
    refine g_geta 109 6 dX4_addLine_106 rfl fX4_11 rfl (by decide) rfl rfl ?_
    refine g_iconst 110 (nI 3) dX4_addLine_109 rfl rfl ?_
    refine g_iald 111 (nI (v 3)) dX4_addLine_110 rfl rfl (by decide) rfl (by decide) (by omega) (hN 3 (by decide)) ?_
    refine g_callVi 114 md_X2_addOrder [.int (nI (v 0)), .int (nI (v 1)), .int (nI (v 2)), .int (nI (v 3))] [] dX4_addLine_111 rfl e_X4_addLine_134 rfl (by decide) rfl rfl (Nat.le_of_ble_eq_true rfl) (c_X2_addOrder (o := 1) rfl hS.1 (v 0) (v 1) (v 2) (v 3) (by omega)) (fun r111 M111 h111 => ?_)
    obtain ⟨rfl, h111⟩ := h111
    subst h111
    refine g_pop 115 dX4_addLine_114 rfl rfl ?_
    refine g_goto 131 dX4_addLine_115 rfl ?_
    exact g_vret rfl dX4_addLine_131 ⟨(show SK _ (addO a (v 0) (v 1) (v 2) (v 3)) from SK_mk (RP_addO hS.1 (by omega) (fun j i h0 h1 h2 => by rw [wr_ne (by omega), wr_ne (by omega), wr_ne (by omega), wr_ne (by omega), wr_ne (by omega), wr_ne (by omega), wr_ne (by omega)]) wr_eq (by rw [wr_ne (by omega), wr_ne (by omega), wr_ne (by omega), wr_ne (by omega), wr_ne (by omega), wr_ne (by omega), wr_eq]) (by rw [wr_ne (by omega), wr_ne (by omega), wr_ne (by omega), wr_ne (by omega), wr_ne (by omega), wr_eq]) (by rw [wr_ne (by omega), wr_ne (by omega), wr_ne (by omega), wr_ne (by omega), wr_eq]) (by rw [wr_ne (by omega), wr_ne (by omega), wr_ne (by omega), wr_eq]) (by rw [wr_ne (by omega), wr_ne (by omega), wr_eq]) (by rw [wr_ne (by omega), wr_eq])) (RR_addO hS.2.1 hS.2.2.2.1 (fun i => by rw [wr_ne (by omega), wr_ne (by omega), wr_ne (by omega), wr_ne (by omega), wr_ne (by omega), wr_ne (by omega), wr_ne (by omega)])) (Ok_addO (SK_ok hS) (by omega) v0 v1.1 v2.1 (by omega) (by omega) v1.2)), (Fo.tr (Fo.tr (Fo.tr (Fo.tr (Fo.tr (Fo.tr Fo.wr Fo.wr) Fo.wr) Fo.wr) Fo.wr) Fo.wr) Fo.wr)⟩

set_option maxHeartbeats 4000000 in
set_option maxRecDepth 100000 in
theorem c_X4_takeStop {l : Launch} {D : va_G} {g : Nat → Nat → Nat} {ca : Nat → ClassId} {M : Mm} {t : Nat → Nat} {n p s ln : Nat} {a : Sa} {v : Nat → Nat} (hK : TK M t n p) (hl : M.1 15 0 6 = nI ln) (hs : M.1 15 0 2 = nI s) (hN : VN M (nol s) v) (hV : VT s (nol s) a v) (hR : rmS s a = true) (hD : DR (M.1 1) s ln a) : Ct l D g ca md_X4_takeStop [.ref (g 15 0)] M (Ri (fun r M1 => SpP M t n p s ln a v r M1)) := by
  refine Ct.of (by decide) rfl (Nat.le_of_ble_eq_true rfl) ?_
  have hkd := tkd_le (t := t) (n := n) (p := p)
  show G l D g ca md_X4_takeStop 0 [(0, .ref (g 15 0))] [] M _
  refine g_aload_n 1 0 dX4_takeStop_0 rfl rfl ?_
  refine g_geto 4 dX4_takeStop_1 rfl fX4_20 rfl (by decide) rfl ?_
  refine g_get 7 (nI (tkd t n p)) dX4_takeStop_4 rfl fX4_38 rfl (by decide) rfl hK.1 ?_
  refine g_iconst 8 (nI 3) dX4_takeStop_7 rfl rfl ?_
  refine g_icmpN_eq 13 11 dX4_takeStop_8 rfl rfl (by omega) (by omega) (fun c8 => ?_) (fun c8 => ?_)
  · refine g_aload_n 14 0 dX4_takeStop_13 rfl rfl ?_
    refine g_callVv 17 md_X4_addLine [] [] dX4_takeStop_14 rfl e_X4_takeStop_123 rfl (by decide) rfl rfl (Nat.le_of_ble_eq_true rfl) (c_X4_addLine hs hN hV hR hD) (fun N h14 => ?_)
    obtain ⟨a1, a2⟩ := h14
    refine g_aload_n 18 0 dX4_takeStop_17 rfl rfl ?_
    refine g_iconst 19 (nI 0) dX4_takeStop_18 rfl rfl ?_
    refine g_putz 22 dX4_takeStop_19 rfl fX4_44 pX4_4 rfl (by decide) rfl (by decide) ?_
    refine g_aload_n 23 0 dX4_takeStop_22 rfl rfl ?_
    refine g_dup 24 dX4_takeStop_23 rfl rfl ?_
    refine g_get 27 (nI ln) dX4_takeStop_24 rfl fX4_41 rfl (by decide) rfl ((wr_ne (by omega)).trans ((a2.1 _ _ _ (by decide)).trans hl)) ?_
    refine g_iconst 28 (nI 1) dX4_takeStop_27 rfl rfl ?_
    refine g_iadd 29 (nI (ln + 1)) dX4_takeStop_28 rfl (nI_add ln 1) ?_
    refine g_put 32 dX4_takeStop_29 rfl fX4_41 pX4_6 rfl (by decide) rfl ?_
    refine g_iconst 33 (nI 0) dX4_takeStop_32 rfl rfl ?_
    exact g_iret rfl dX4_takeStop_33 ⟨fun z => absurd c8 z, fun _ => ⟨rfl, N, a1, a2, rfl⟩⟩
  · refine g_iconst 12 (nI 1) dX4_takeStop_11 rfl rfl ?_
    exact g_iret rfl dX4_takeStop_12 ⟨fun _ => ⟨rfl, rfl⟩, fun z => absurd z (by omega)⟩
