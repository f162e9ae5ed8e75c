set_option maxHeartbeats 4000000 in
set_option maxRecDepth 100000 in
theorem c_X6_now {l : Launch} {D : va_G} {g : Nat → Nat → Nat} {ca : Nat → ClassId} {M : Mm} {a : Sa} (hK : SK (M.1 0) a) {sm tp : Nat} (hsm : M.1 17 0 2 = nI sm) (htp : M.1 13 0 1 = nI tp) (x : Int32) : Ct l D g ca md_X6_now [.ref (g 12 0), .int x] M (Ri (fun r M1 => r = A_now a sm tp x ∧ M1 = M)) := by
  refine Ct.of (by decide) rfl (Nat.le_of_ble_eq_true rfl) ?_
  have hS := hK.1
  have hR := hK.2.1
  have hI := hK.2.2.1
  have hr := hK.2.2.2.1
  have hs := hK.2.2.2.2
  have b0 := hI.today
  have b1 := hI.g4
  have b2 := hI.c6
  have b3 := hI.l24
  have b4 := hr.2
  have hib := hK.ib
  show G l D g ca md_X6_now 0 [(0, .ref (g 12 0)), (1, .int x)] [] M _
  refine g_iload_n 1 1 dX6_now_0 rfl rfl ?_
  cases hx : inr x 12 with
  | false =>
    refine g_tableOut 160 dX6_now_1 (by have h9 := inr_out hx; omega) rfl ?_
    refine g_iconst 161 ((-1)) dX6_now_160 rfl rfl ?_
    exact g_iret rfl dX6_now_161 ⟨(A_now_no hx).symm, rfl⟩
  | true =>
    obtain ⟨jx, hjx, rfl⟩ := inr_of hx
    rcases (show jx = 0 ∨ jx = 1 ∨ jx = 2 ∨ jx = 3 ∨ jx = 4 ∨ jx = 5 ∨ jx = 6 ∨ jx = 7 ∨ jx = 8 ∨ jx = 9 ∨ jx = 10 ∨ jx = 11 by omega) with rfl | rfl | rfl | rfl | rfl | rfl | rfl | rfl | rfl | rfl | rfl | rfl
    · refine g_tableIn 64 dX6_now_1 (by decide) (by decide) rfl rfl ?_
      refine g_aload_n 65 0 dX6_now_64 rfl rfl ?_
      refine g_geto 68 dX6_now_65 rfl fX6_19 rfl (by decide) rfl ?_
      refine g_get 71 (nI (a 0 0)) dX6_now_68 rfl fX6_84 rfl (by decide) rfl (hS.sc (by decide)) ?_
      exact g_iret rfl dX6_now_71 ⟨(A_now_at (k := 0) (by decide)).symm, rfl⟩
    · refine g_tableIn 72 dX6_now_1 (by decide) (by decide) rfl rfl ?_
      refine g_aload_n 73 0 dX6_now_72 rfl rfl ?_
      refine g_geto 76 dX6_now_73 rfl fX6_19 rfl (by decide) rfl ?_
      refine g_get 79 (nI (a 0 1)) dX6_now_76 rfl fX6_54 rfl (by decide) rfl (hS.sc (by decide)) ?_
      exact g_iret rfl dX6_now_79 ⟨(A_now_at (k := 1) (by decide)).symm, rfl⟩
    · refine g_tableIn 80 dX6_now_1 (by decide) (by decide) rfl rfl ?_
      refine g_aload_n 81 0 dX6_now_80 rfl rfl ?_
      refine g_geto 84 dX6_now_81 rfl fX6_19 rfl (by decide) rfl ?_
      refine g_get 87 (nI (a 0 2)) dX6_now_84 rfl fX6_87 rfl (by decide) rfl (hS.sc (by decide)) ?_
      exact g_iret rfl dX6_now_87 ⟨(A_now_at (k := 2) (by decide)).symm, rfl⟩
    · refine g_tableIn 88 dX6_now_1 (by decide) (by decide) rfl rfl ?_
      refine g_aload_n 89 0 dX6_now_88 rfl rfl ?_
      refine g_geto 92 dX6_now_89 rfl fX6_19 rfl (by decide) rfl ?_
      refine g_get 95 (nI (a 0 3)) dX6_now_92 rfl fX6_90 rfl (by decide) rfl (hS.sc (by decide)) ?_
      exact g_iret rfl dX6_now_95 ⟨(A_now_at (k := 3) (by decide)).symm, rfl⟩
    · refine g_tableIn 96 dX6_now_1 (by decide) (by decide) rfl rfl ?_
      refine g_aload_n 97 0 dX6_now_96 rfl rfl ?_
      refine g_geto 100 dX6_now_97 rfl fX6_19 rfl (by decide) rfl ?_
      refine g_get 103 (nI (a 0 4)) dX6_now_100 rfl fX6_93 rfl (by decide) rfl (hS.sc (by decide)) ?_
      exact g_iret rfl dX6_now_103 ⟨(A_now_at (k := 4) (by decide)).symm, rfl⟩
    · refine g_tableIn 104 dX6_now_1 (by decide) (by decide) rfl rfl ?_
      refine g_aload_n 105 0 dX6_now_104 rfl rfl ?_
      refine g_geto 108 dX6_now_105 rfl fX6_19 rfl (by decide) rfl ?_
      refine g_callVi 111 md_X2_countOpen [] [] dX6_now_108 rfl e_X6_now_96 rfl (by decide) rfl rfl (Nat.le_of_ble_eq_true rfl) (c_X2_countOpen rfl hS hI ) (fun r108 M108 h108 => ?_)
      obtain ⟨rfl, h108⟩ := h108
      have h108 := h108.symm
      subst h108
      exact g_iret rfl dX6_now_111 ⟨(A_now_at (k := 5) (by decide)).symm, rfl⟩
    · refine g_tableIn 112 dX6_now_1 (by decide) (by decide) rfl rfl ?_
      refine g_aload_n 113 0 dX6_now_112 rfl rfl ?_
      refine g_geto 116 dX6_now_113 rfl fX6_19 rfl (by decide) rfl ?_
      refine g_callVi 119 md_X2_sumLeft [] [] dX6_now_116 rfl e_X6_now_100 rfl (by decide) rfl rfl (Nat.le_of_ble_eq_true rfl) (c_X2_sumLeft rfl hS hI ) (fun r116 M116 h116 => ?_)
      obtain ⟨rfl, h116⟩ := h116
      have h116 := h116.symm
      subst h116
      exact g_iret rfl dX6_now_119 ⟨(A_now_at (k := 6) (by decide)).symm, rfl⟩
    · refine g_tableIn 120 dX6_now_1 (by decide) (by decide) rfl rfl ?_
      refine g_aload_n 121 0 dX6_now_120 rfl rfl ?_
      refine g_geto 124 dX6_now_121 rfl fX6_19 rfl (by decide) rfl ?_
      refine g_callVi 127 md_X2_sumReserved [] [] dX6_now_124 rfl e_X6_now_103 rfl (by decide) rfl rfl (Nat.le_of_ble_eq_true rfl) (c_X2_sumReserved rfl hS hI hR hr) (fun r124 M124 h124 => ?_)
      obtain ⟨rfl, h124⟩ := h124
      have h124 := h124.symm
      subst h124
      exact g_iret rfl dX6_now_127 ⟨(A_now_at (k := 7) (by decide)).symm, rfl⟩
    · refine g_tableIn 128 dX6_now_1 (by decide) (by decide) rfl rfl ?_
      refine g_aload_n 129 0 dX6_now_128 rfl rfl ?_
      refine g_geto 132 dX6_now_129 rfl fX6_19 rfl (by decide) rfl ?_
      refine g_get 135 (nI (a 0 5)) dX6_now_132 rfl fX6_106 rfl (by decide) rfl (hS.sc (by decide)) ?_
      exact g_iret rfl dX6_now_135 ⟨(A_now_at (k := 8) (by decide)).symm, rfl⟩
    · refine g_tableIn 136 dX6_now_1 (by decide) (by decide) rfl rfl ?_
      refine g_aload_n 137 0 dX6_now_136 rfl rfl ?_
      refine g_geto 140 dX6_now_137 rfl fX6_19 rfl (by decide) rfl ?_
      refine g_get 143 (nI (a 0 6)) dX6_now_140 rfl fX6_109 rfl (by decide) rfl (hS.sc (by decide)) ?_
      exact g_iret rfl dX6_now_143 ⟨(A_now_at (k := 9) (by decide)).symm, rfl⟩
    · refine g_tableIn 144 dX6_now_1 (by decide) (by decide) rfl rfl ?_
      refine g_aload_n 145 0 dX6_now_144 rfl rfl ?_
      refine g_geto 148 dX6_now_145 rfl fX6_47 rfl (by decide) rfl ?_
      refine g_get 151 (nI sm) dX6_now_148 rfl fX6_112 rfl (by decide) rfl hsm ?_
      exact g_iret rfl dX6_now_151 ⟨(A_now_at (k := 10) (by decide)).symm, rfl⟩
    · refine g_tableIn 152 dX6_now_1 (by decide) (by decide) rfl rfl ?_
      refine g_aload_n 153 0 dX6_now_152 rfl rfl ?_
      refine g_geto 156 dX6_now_153 rfl fX6_10 rfl (by decide) rfl ?_
      refine g_get 159 (nI tp) dX6_now_156 rfl fX6_58 rfl (by decide) rfl htp ?_
      exact g_iret rfl dX6_now_159 ⟨(A_now_at (k := 11) (by decide)).symm, rfl⟩

set_option maxHeartbeats 4000000 in
set_option maxRecDepth 100000 in
theorem c_X6_reserved {l : Launch} {D : va_G} {g : Nat → Nat → Nat} {ca : Nat → ClassId} {M : Mm} {a : Sa} (hK : SK (M.1 0) a) (x y : Int32) : Ct l D g ca md_X6_reserved [.ref (g 12 0), .int x, .int y] M (Ri (fun r M1 => r = A_res a x y ∧ M1 = M)) := by
  refine Ct.of (by decide) rfl (Nat.le_of_ble_eq_true rfl) ?_
  have hS := hK.1
  have hR := hK.2.1
  have hI := hK.2.2.1
  have hr := hK.2.2.2.1
  have hs := hK.2.2.2.2
  have b0 := hI.today
  have b1 := hI.g4
  have b2 := hI.c6
  have b3 := hI.l24
  have b4 := hr.2
  have hib := hK.ib
  show G l D g ca md_X6_reserved 0 [(0, .ref (g 12 0)), (1, .int x), (2, .int y)] [] M _
  refine g_aload_n 1 0 dX6_reserved_0 rfl rfl ?_
  refine g_geto 4 dX6_reserved_1 rfl fX6_19 rfl (by decide) rfl ?_
  refine g_iload_n 5 1 dX6_reserved_4 rfl rfl ?_
  refine g_callVi 8 md_X2_hasLot [.int x] [] dX6_reserved_5 rfl e_X6_reserved_115 rfl (by decide) rfl rfl (Nat.le_of_ble_eq_true rfl) (c_X2_hasLot rfl hS hI x) (fun r5 M5 h5 => ?_)
  obtain ⟨rfl, h5⟩ := h5
  have h5 := h5.symm
  subst h5
  refine g_ifB_eq 22 11 dX6_reserved_8 rfl rfl (fun c8 => ?_) (fun c8 => ?_)
  · refine g_iconst 23 ((-1)) dX6_reserved_22 rfl rfl ?_
    exact g_iret rfl dX6_reserved_23 ⟨(A_res_no (by first | exact Or.inl c8 | exact Or.inr c19)).symm, rfl⟩
  · refine g_aload_n 12 0 dX6_reserved_11 rfl rfl ?_
    refine g_geto 15 dX6_reserved_12 rfl fX6_19 rfl (by decide) rfl ?_
    refine g_iload_n 16 2 dX6_reserved_15 rfl rfl ?_
    refine g_callVi 19 md_X2_hasOrder [.int y] [] dX6_reserved_16 rfl e_X6_reserved_145 rfl (by decide) rfl rfl (Nat.le_of_ble_eq_true rfl) (c_X2_hasOrder rfl hS hI y) (fun r16 M16 h16 => ?_)
    obtain ⟨rfl, h16⟩ := h16
    have h16 := h16.symm
    subst h16
    refine g_ifB_ne 24 22 dX6_reserved_19 rfl rfl (fun c19 => ?_) (fun c19 => ?_)
    · obtain ⟨p, hp, rfl⟩ := inr_of c8
      obtain ⟨q, hq, rfl⟩ := inr_of c19
      refine g_aload_n 25 0 dX6_reserved_24 rfl rfl ?_
      refine g_geto 28 dX6_reserved_25 rfl fX6_19 rfl (by decide) rfl ?_
      refine g_iload_n 29 1 dX6_reserved_28 rfl rfl ?_
      refine g_iload_n 30 2 dX6_reserved_29 rfl rfl ?_
      refine g_callVi 33 md_X2_reservedFor [.int (nI p), .int (nI q)] [] dX6_reserved_30 rfl e_X6_reserved_173 rfl (by decide) rfl rfl (Nat.le_of_ble_eq_true rfl) (c_X2_reservedFor rfl hS hI hR hr p q (by omega) (by omega)) (fun r30 M30 h30 => ?_)
      obtain ⟨rfl, h30⟩ := h30
      have h30 := h30.symm
      subst h30
      exact g_iret rfl dX6_reserved_33 ⟨(A_res_at hp hq b3 b4).symm, rfl⟩
    · refine g_iconst 23 ((-1)) dX6_reserved_22 rfl rfl ?_
      exact g_iret rfl dX6_reserved_23 ⟨(A_res_no (by first | exact Or.inl c8 | exact Or.inr c19)).symm, rfl⟩

set_option maxHeartbeats 4000000 in
set_option maxRecDepth 100000 in
theorem c_X6_customer {l : Launch} {D : va_G} {g : Nat → Nat → Nat} {ca : Nat → ClassId} {M : Mm} {a : Sa} (hK : SK (M.1 0) a) (x y : Int32) : Ct l D g ca md_X6_customer [.ref (g 12 0), .int x, .int y] M (Ri (fun r M1 => r = A_cus a x y ∧ M1 = M)) := by
  refine Ct.of (by decide) rfl (Nat.le_of_ble_eq_true rfl) ?_
  have hS := hK.1
  have hR := hK.2.1
  have hI := hK.2.2.1
  have hr := hK.2.2.2.1
  have hs := hK.2.2.2.2
  have b0 := hI.today
  have b1 := hI.g4
  have b2 := hI.c6
  have b3 := hI.l24
  have b4 := hr.2
  have hib := hK.ib
  show G l D g ca md_X6_customer 0 [(0, .ref (g 12 0)), (1, .int x), (2, .int y)] [] M _
  refine g_aload_n 1 0 dX6_customer_0 rfl rfl ?_
  refine g_geto 4 dX6_customer_1 rfl fX6_19 rfl (by decide) rfl ?_
  refine g_iload_n 5 1 dX6_customer_4 rfl rfl ?_
  refine g_callVi 8 md_X2_hasCustomer [.int x] [] dX6_customer_5 rfl e_X6_customer_177 rfl (by decide) rfl rfl (Nat.le_of_ble_eq_true rfl) (c_X2_hasCustomer rfl hS hI x) (fun r5 M5 h5 => ?_)
  obtain ⟨rfl, h5⟩ := h5
  have h5 := h5.symm
  subst h5
  refine g_ifB_ne 13 11 dX6_customer_8 rfl rfl (fun c8 => ?_) (fun c8 => ?_)
  · obtain ⟨p, hp, rfl⟩ := inr_of c8
    refine g_iload_n 14 2 dX6_customer_13 rfl rfl ?_
    refine g_iconst 15 ((-1)) dX6_customer_14 rfl rfl ?_
    refine g_icmp_ne 28 18 dX6_customer_15 rfl rfl (fun c15 => ?_) (fun c15 => ?_)
    · refine g_aload_n 29 0 dX6_customer_28 rfl rfl ?_
      refine g_geto 32 dX6_customer_29 rfl fX6_19 rfl (by decide) rfl ?_
      refine g_iload_n 33 2 dX6_customer_32 rfl rfl ?_
      refine g_callVi 36 md_X2_hasGood [.int y] [] dX6_customer_33 rfl e_X6_customer_183 rfl (by decide) rfl rfl (Nat.le_of_ble_eq_true rfl) (c_X2_hasGood rfl hS hI y) (fun r33 M33 h33 => ?_)
      obtain ⟨rfl, h33⟩ := h33
      have h33 := h33.symm
      subst h33
      refine g_ifB_eq 51 39 dX6_customer_36 rfl rfl (fun c36 => ?_) (fun c36 => ?_)
      · refine g_iconst 52 ((-1)) dX6_customer_51 rfl rfl ?_
        exact g_iret rfl dX6_customer_52 ⟨(A_cus_n hp b2 c15 c36).symm, rfl⟩
      · obtain ⟨gd, hg, rfl⟩ := inr_of c36
        refine g_aload_n 40 0 dX6_customer_39 rfl rfl ?_
        refine g_geto 43 dX6_customer_40 rfl fX6_19 rfl (by decide) rfl ?_
        refine g_iload_n 44 1 dX6_customer_43 rfl rfl ?_
        refine g_iload_n 45 2 dX6_customer_44 rfl rfl ?_
        refine g_callVi 48 md_X2_latestOf [.int (nI p), .int (nI gd)] [] dX6_customer_45 rfl e_X6_customer_186 rfl (by decide) rfl rfl (Nat.le_of_ble_eq_true rfl) (c_X2_latestOf rfl hS hI p gd (by omega) (by omega)) (fun r45 M45 h45 => ?_)
        obtain ⟨rfl, h45⟩ := h45
        have h45 := h45.symm
        subst h45
        refine g_goto 52 dX6_customer_48 rfl ?_
        exact g_iret rfl dX6_customer_52 ⟨(A_cus_g hp b2 hg b1).symm, rfl⟩
    · refine g_aload_n 19 0 dX6_customer_18 rfl rfl ?_
      refine g_geto 22 dX6_customer_19 rfl fX6_19 rfl (by decide) rfl ?_
      refine g_geta 25 8 dX6_customer_22 rfl fX6_180 rfl (by decide) rfl rfl ?_
      refine g_iload_n 26 1 dX6_customer_25 rfl rfl ?_
      refine g_iald 27 (nI (a 8 p)) dX6_customer_26 rfl rfl (by decide) rfl (by decide) (by omega) (hS.life (by omega)) ?_
      exact g_iret rfl dX6_customer_27 ⟨(A_cus_l hp b2 c15).symm, rfl⟩
  · refine g_iconst 12 ((-1)) dX6_customer_11 rfl rfl ?_
    exact g_iret rfl dX6_customer_12 ⟨(A_cus_no c8).symm, rfl⟩

set_option maxHeartbeats 4000000 in
set_option maxRecDepth 100000 in
theorem c_X6_suits {l : Launch} {D : va_G} {g : Nat → Nat → Nat} {ca : Nat → ClassId} {M : Mm} {a : Sa} (hK : SK (M.1 0) a) (x y : Int32) : Ct l D g ca md_X6_suits [.ref (g 12 0), .int x, .int y] M (Ri (fun r M1 => r = bi (A_suits a x y) ∧ M1 = M)) := by
  refine Ct.of (by decide) rfl (Nat.le_of_ble_eq_true rfl) ?_
  have hS := hK.1
  have hR := hK.2.1
  have hI := hK.2.2.1
  have hr := hK.2.2.2.1
  have hs := hK.2.2.2.2
  have b0 := hI.today
  have b1 := hI.g4
  have b2 := hI.c6
  have b3 := hI.l24
  have b4 := hr.2
  have hib := hK.ib
  show G l D g ca md_X6_suits 0 [(0, .ref (g 12 0)), (1, .int x), (2, .int y)] [] M _
  refine g_aload_n 1 0 dX6_suits_0 rfl rfl ?_
  refine g_geto 4 dX6_suits_1 rfl fX6_19 rfl (by decide) rfl ?_
  refine g_iload_n 5 1 dX6_suits_4 rfl rfl ?_
  refine g_callVi 8 md_X2_hasLot [.int x] [] dX6_suits_5 rfl e_X6_suits_115 rfl (by decide) rfl rfl (Nat.le_of_ble_eq_true rfl) (c_X2_hasLot rfl hS hI x) (fun r5 M5 h5 => ?_)
  obtain ⟨rfl, h5⟩ := h5
  have h5 := h5.symm
  subst h5
  refine g_ifB_eq 38 11 dX6_suits_8 rfl rfl (fun c8 => ?_) (fun c8 => ?_)
  · refine g_iconst 39 (nI 0) dX6_suits_38 rfl rfl ?_
    exact g_zret rfl dX6_suits_39 rfl ⟨by unfold A_suits; first | (rw [c8]; rfl) | (rw [c19, Bool.and_false]; rfl), rfl⟩
  · refine g_aload_n 12 0 dX6_suits_11 rfl rfl ?_
    refine g_geto 15 dX6_suits_12 rfl fX6_19 rfl (by decide) rfl ?_
    refine g_iload_n 16 2 dX6_suits_15 rfl rfl ?_
    refine g_callVi 19 md_X2_isOpen [.int y] [] dX6_suits_16 rfl e_X6_suits_189 rfl (by decide) rfl rfl (Nat.le_of_ble_eq_true rfl) (c_X2_isOpen rfl hS hI y) (fun r16 M16 h16 => ?_)
    obtain ⟨rfl, h16⟩ := h16
    have h16 := h16.symm
    subst h16
    refine g_ifB_eq 38 22 dX6_suits_19 rfl rfl (fun c19 => ?_) (fun c19 => ?_)
    · refine g_iconst 39 (nI 0) dX6_suits_38 rfl rfl ?_
      exact g_zret rfl dX6_suits_39 rfl ⟨by unfold A_suits; first | (rw [c8]; rfl) | (rw [c19, Bool.and_false]; rfl), rfl⟩
    · obtain ⟨p, hp, rfl⟩ := inr_of c8
      obtain ⟨q, hq, rfl, h18⟩ := opn_of c19 (by omega)
      refine g_aload_n 23 0 dX6_suits_22 rfl rfl ?_
      refine g_geto 26 dX6_suits_23 rfl fX6_19 rfl (by decide) rfl ?_
      refine g_iload_n 27 1 dX6_suits_26 rfl rfl ?_
      refine g_iload_n 28 2 dX6_suits_27 rfl rfl ?_
      refine g_callVi 31 md_X2_fits [.int (nI p), .int (nI q)] [] dX6_suits_28 rfl e_X6_suits_192 rfl (by decide) rfl rfl (Nat.le_of_ble_eq_true rfl) (c_X2_fits rfl hS hI q p (by omega) (by omega)) (fun r28 M28 h28 => ?_)
      obtain ⟨rfl, h28⟩ := h28
      have h28 := h28.symm
      subst h28
      refine g_ifB_eq 38 34 dX6_suits_31 rfl rfl (fun c31 => ?_) (fun c31 => ?_)
      · refine g_iconst 39 (nI 0) dX6_suits_38 rfl rfl ?_
        exact g_zret rfl dX6_suits_39 rfl ⟨by rw [A_suits_at hp b3 (by omega) c19, c31]; rfl, rfl⟩
      · refine g_iconst 35 (nI 1) dX6_suits_34 rfl rfl ?_
        refine g_goto 39 dX6_suits_35 rfl ?_
        exact g_zret rfl dX6_suits_39 rfl ⟨by rw [A_suits_at hp b3 (by omega) c19, c31]; rfl, rfl⟩

set_option maxHeartbeats 4000000 in
set_option maxRecDepth 100000 in
theorem c_X6_waste {l : Launch} {D : va_G} {g : Nat → Nat → Nat} {ca : Nat → ClassId} {M : Mm} {a : Sa} (hK : SK (M.1 0) a) (x d : Int32) : Ct l D g ca md_X6_waste [.ref (g 12 0), .int x, .int d] M (Ri (fun r M1 => r = A_waste a x d ∧ M1 = M)) := by
  refine Ct.of (by decide) rfl (Nat.le_of_ble_eq_true rfl) ?_
  have hS := hK.1
  have hR := hK.2.1
  have hI := hK.2.2.1
  have hr := hK.2.2.2.1
  have hs := hK.2.2.2.2
  have b0 := hI.today
  have b1 := hI.g4
  have b2 := hI.c6
  have b3 := hI.l24
  have b4 := hr.2
  have hib := hK.ib
  show G l D g ca md_X6_waste 0 [(0, .ref (g 12 0)), (1, .int x), (2, .int d)] [] M _
  refine g_aload_n 1 0 dX6_waste_0 rfl rfl ?_
  refine g_geto 4 dX6_waste_1 rfl fX6_19 rfl (by decide) rfl ?_
  refine g_iload_n 5 1 dX6_waste_4 rfl rfl ?_
  refine g_callVi 8 md_X2_hasGood [.int x] [] dX6_waste_5 rfl e_X6_waste_183 rfl (by decide) rfl rfl (Nat.le_of_ble_eq_true rfl) (c_X2_hasGood rfl hS hI x) (fun r5 M5 h5 => ?_)
  obtain ⟨rfl, h5⟩ := h5
  have h5 := h5.symm
  subst h5
  refine g_ifB_eq 22 11 dX6_waste_8 rfl rfl (fun c8 => ?_) (fun c8 => ?_)
  · refine g_iconst 23 ((-1)) dX6_waste_22 rfl rfl ?_
    exact g_iret rfl dX6_waste_23 ⟨(A_waste_no (by first | (rw [c8]; rfl) | (rw [c19, Bool.and_false]))).symm, rfl⟩
  · refine g_aload_n 12 0 dX6_waste_11 rfl rfl ?_
    refine g_geto 15 dX6_waste_12 rfl fX6_19 rfl (by decide) rfl ?_
    refine g_iload_n 16 2 dX6_waste_15 rfl rfl ?_
    refine g_callVi 19 md_X2_isAhead [.int d] [] dX6_waste_16 rfl e_X6_waste_206 rfl (by decide) rfl rfl (Nat.le_of_ble_eq_true rfl) (c_X2_isAhead rfl hS hI d) (fun r16 M16 h16 => ?_)
    obtain ⟨rfl, h16⟩ := h16
    have h16 := h16.symm
    subst h16
    refine g_ifB_ne 24 22 dX6_waste_19 rfl rfl (fun c19 => ?_) (fun c19 => ?_)
    · obtain ⟨gd, j, hgd, rfl, hj1, hj2, rfl, w1, w2⟩ := wok (a := a) (x := x) (d := d) (by rw [c8, c19]; rfl)
      refine g_iconst 25 (nI 0) dX6_waste_24 rfl rfl ?_
      refine g_istore_n 26 [(3, .int (nI 0)), (0, .ref (g 12 0)), (1, .int (nI gd)), (2, .int (nI j))] dX6_waste_25 rfl (by decide) rfl ?_
      refine g_iconst 27 (nI 0) dX6_waste_26 rfl rfl ?_
      refine g_istore 29 [(4, .int (nI 0)), (3, .int (nI 0)), (0, .ref (g 12 0)), (1, .int (nI gd)), (2, .int (nI j))] dX6_waste_27 rfl (by decide) rfl ?_
      have L29 : ∀ k, k ≤ a 0 3 → ∀ v, v = fb_sm (fun p => if a 10 p = gd ∧ a 11 p ≤ j then a 12 p - rof a p else 0) k → G l D g ca md_X6_waste 29 [(4, .int (nI k)), (3, .int (nI v)), (0, .ref (g 12 0)), (1, .int (nI gd)), (2, .int (nI j))] [] M (Ri (fun r M1 => r = A_waste a (nI gd) (nI j) ∧ M1 = M)) := by
        refine upto ?_
        intro k hk ih29 v hv
        refine g_iload 31 0 dX6_waste_29 rfl rfl ?_
        refine g_aload_n 32 2 dX6_waste_31 rfl rfl ?_
        refine g_geto 35 dX6_waste_32 rfl fX6_19 rfl (by decide) rfl ?_
        refine g_get 38 (nI (a 0 3)) dX6_waste_35 rfl fX6_90 rfl (by decide) rfl (hS.sc (by decide)) ?_
        refine g_icmpN_ge 98 41 dX6_waste_38 rfl rfl (by omega) (by omega) (fun c38 => ?_) (fun c38 => ?_)
        · refine g_iload_n 99 1 dX6_waste_98 rfl rfl ?_
          exact g_iret rfl dX6_waste_99 ⟨by rw [A_waste_at w1 w2 (by omega) (by omega), hv, show k = a 0 3 by omega], rfl⟩
        · refine g_aload_n 42 2 dX6_waste_41 rfl rfl ?_
          refine g_geto 45 dX6_waste_42 rfl fX6_19 rfl (by decide) rfl ?_
          refine g_geta 48 10 dX6_waste_45 rfl fX6_126 rfl (by decide) rfl rfl ?_
          refine g_iload 50 0 dX6_waste_48 rfl rfl ?_
          refine g_iald 51 (nI (a 10 k)) dX6_waste_50 rfl rfl (by decide) rfl (by decide) (by omega) (hS.lot (by decide) (by decide) (by omega)) ?_
          refine g_iload_n 52 3 dX6_waste_51 rfl rfl ?_
          refine g_icmpN_ne 92 55 dX6_waste_52 rfl rfl (by have := hI.lot (l := k) (by omega); omega) (by omega) (fun c52 => ?_) (fun c52 => ?_)
          · refine g_iinc 95 (nI (k + 1)) [(4, .int (nI (k + 1))), (3, .int (nI v)), (0, .ref (g 12 0)), (1, .int (nI gd)), (2, .int (nI j))] dX6_waste_92 rfl 0 rfl (nI_add k 1) (by decide) rfl ?_
            refine g_goto 29 dX6_waste_95 rfl ?_
            exact ih29 (by omega) _ (by rw [fb_sm_succ, hv]; split <;> omega)
          · refine g_aload_n 56 2 dX6_waste_55 rfl rfl ?_
            refine g_geto 59 dX6_waste_56 rfl fX6_19 rfl (by decide) rfl ?_
            refine g_geta 62 11 dX6_waste_59 rfl fX6_130 rfl (by decide) rfl rfl ?_
            refine g_iload 64 0 dX6_waste_62 rfl rfl ?_
            refine g_iald 65 (nI (a 11 k)) dX6_waste_64 rfl rfl (by decide) rfl (by decide) (by omega) (hS.lot (by decide) (by decide) (by omega)) ?_
            refine g_iload_n 66 4 dX6_waste_65 rfl rfl ?_
            refine g_icmpN_gt 92 69 dX6_waste_66 rfl rfl (by have := hI.lot (l := k) (by omega); omega) (by omega) (fun c66 => ?_) (fun c66 => ?_)
            · refine g_iinc 95 (nI (k + 1)) [(4, .int (nI (k + 1))), (3, .int (nI v)), (0, .ref (g 12 0)), (1, .int (nI gd)), (2, .int (nI j))] dX6_waste_92 rfl 0 rfl (nI_add k 1) (by decide) rfl ?_
              refine g_goto 29 dX6_waste_95 rfl ?_
              exact ih29 (by omega) _ (by rw [fb_sm_succ, hv]; split <;> omega)
            · refine g_iload_n 70 1 dX6_waste_69 rfl rfl ?_
              refine g_aload_n 71 2 dX6_waste_70 rfl rfl ?_
              refine g_geto 74 dX6_waste_71 rfl fX6_19 rfl (by decide) rfl ?_
              refine g_geta 77 12 dX6_waste_74 rfl fX6_133 rfl (by decide) rfl rfl ?_
              refine g_iload 79 0 dX6_waste_77 rfl rfl ?_
              refine g_iald 80 (nI (a 12 k)) dX6_waste_79 rfl rfl (by decide) rfl (by decide) (by omega) (hS.lot (by decide) (by decide) (by omega)) ?_
              refine g_aload_n 81 2 dX6_waste_80 rfl rfl ?_
              refine g_geto 84 dX6_waste_81 rfl fX6_19 rfl (by decide) rfl ?_
              refine g_iload 86 0 dX6_waste_84 rfl rfl ?_
              refine g_callVi 89 md_X2_reservedOfLot [.int (nI k)] [.int (nI (a 12 k)), .int (nI v)] dX6_waste_86 rfl e_X6_waste_139 rfl (by decide) rfl rfl (Nat.le_of_ble_eq_true rfl) (c_X2_reservedOfLot rfl hS hI hR hr k (by omega)) (fun r86 M86 h86 => ?_)
              obtain ⟨rfl, h86⟩ := h86
              have h86 := h86.symm
              subst h86
              refine g_isub 90 (nI (a 12 k - rof a k)) dX6_waste_89 rfl (pk_sub (hs k (by omega))) ?_
              refine g_iadd 91 (nI (v + (a 12 k - rof a k))) dX6_waste_90 rfl (nI_add v (a 12 k - rof a k)) ?_
              refine g_istore_n 92 [(3, .int (nI (v + (a 12 k - rof a k)))), (4, .int (nI k)), (0, .ref (g 12 0)), (1, .int (nI gd)), (2, .int (nI j))] dX6_waste_91 rfl (by decide) rfl ?_
              refine g_iinc 95 (nI (k + 1)) [(4, .int (nI (k + 1))), (3, .int (nI (v + (a 12 k - rof a k)))), (0, .ref (g 12 0)), (1, .int (nI gd)), (2, .int (nI j))] dX6_waste_92 rfl 1 rfl (nI_add k 1) (by decide) rfl ?_
              refine g_goto 29 dX6_waste_95 rfl ?_
              exact ih29 (by omega) _ (by rw [fb_sm_succ, hv]; split <;> omega)
      exact L29 0 (Nat.zero_le _) 0 rfl
    · refine g_iconst 23 ((-1)) dX6_waste_22 rfl rfl ?_
      exact g_iret rfl dX6_waste_23 ⟨(A_waste_no (by first | (rw [c8]; rfl) | (rw [c19, Bool.and_false]))).symm, rfl⟩

set_option maxHeartbeats 4000000 in
set_option maxRecDepth 100000 in
theorem c_X6_least {l : Launch} {D : va_G} {g : Nat → Nat → Nat} {ca : Nat → ClassId} {M : Mm} {a : Sa} (hK : SK (M.1 0) a) (x d : Int32) : Ct l D g ca md_X6_least [.ref (g 12 0), .int x, .int d] M (Ri (fun r M1 => r = A_least a x d ∧ Fo 16 M M1)) := by
  refine Ct.of (by decide) rfl (Nat.le_of_ble_eq_true rfl) ?_
  have hS := hK.1
  have hR := hK.2.1
  have hI := hK.2.2.1
  have hr := hK.2.2.2.1
  have hs := hK.2.2.2.2
  have b0 := hI.today
  have b1 := hI.g4
  have b2 := hI.c6
  have b3 := hI.l24
  have b4 := hr.2
  have hib := hK.ib
  show G l D g ca md_X6_least 0 [(0, .ref (g 12 0)), (1, .int x), (2, .int d)] [] M _
  refine g_aload_n 1 0 dX6_least_0 rfl rfl ?_
  refine g_geto 4 dX6_least_1 rfl fX6_19 rfl (by decide) rfl ?_
  refine g_iload_n 5 1 dX6_least_4 rfl rfl ?_
  refine g_callVi 8 md_X2_hasGood [.int x] [] dX6_least_5 rfl e_X6_least_183 rfl (by decide) rfl rfl (Nat.le_of_ble_eq_true rfl) (c_X2_hasGood rfl hS hI x) (fun r5 M5 h5 => ?_)
  obtain ⟨rfl, h5⟩ := h5
  have h5 := h5.symm
  subst h5
  refine g_ifB_eq 22 11 dX6_least_8 rfl rfl (fun c8 => ?_) (fun c8 => ?_)
  · refine g_iconst 23 ((-1)) dX6_least_22 rfl rfl ?_
    exact g_iret rfl dX6_least_23 ⟨(A_least_no (by first | (rw [c8]; rfl) | (rw [c19, Bool.and_false]))).symm, Fo.rf⟩
  · refine g_aload_n 12 0 dX6_least_11 rfl rfl ?_
    refine g_geto 15 dX6_least_12 rfl fX6_19 rfl (by decide) rfl ?_
    refine g_iload_n 16 2 dX6_least_15 rfl rfl ?_
    refine g_callVi 19 md_X2_isAhead [.int d] [] dX6_least_16 rfl e_X6_least_206 rfl (by decide) rfl rfl (Nat.le_of_ble_eq_true rfl) (c_X2_isAhead rfl hS hI d) (fun r16 M16 h16 => ?_)
    obtain ⟨rfl, h16⟩ := h16
    have h16 := h16.symm
    subst h16
    refine g_ifB_ne 24 22 dX6_least_19 rfl rfl (fun c19 => ?_) (fun c19 => ?_)
    · obtain ⟨gd, j, hgd, rfl, hj1, hj2, rfl, w1, w2⟩ := wok (a := a) (x := x) (d := d) (by rw [c8, c19]; rfl)
      refine g_aload_n 25 0 dX6_least_24 rfl rfl ?_
      refine g_geto 28 dX6_least_25 rfl fX6_40 rfl (by decide) rfl ?_
      refine g_aload_n 29 0 dX6_least_28 rfl rfl ?_
      refine g_geto 32 dX6_least_29 rfl fX6_19 rfl (by decide) rfl ?_
      refine g_iload_n 33 1 dX6_least_32 rfl rfl ?_
      refine g_callVv 36 md_X1_make [.ref (g 0 0), .int (nI gd)] [] dX6_least_33 rfl e_X6_least_196 rfl (by decide) rfl rfl (Nat.le_of_ble_eq_true rfl) (c_X1_make rfl hS hI gd (by omega)) (fun N h33 => ?_)
      obtain ⟨hP, hF⟩ := h33
      have hS_N : RP (N.1 0) a := RP_fun hS (funext (fun c => funext (fun i => hF.1 0 c i (by decide))))
      refine g_aload_n 37 0 dX6_least_36 rfl rfl ?_
      refine g_geto 40 dX6_least_37 rfl fX6_40 rfl (by decide) rfl ?_
      refine g_iload_n 41 2 dX6_least_40 rfl rfl ?_
      refine g_callVi 44 md_X1_sumRestTo [.int (nI j)] [] dX6_least_41 rfl e_X6_least_209 rfl (by decide) rfl rfl (Nat.le_of_ble_eq_true rfl) (c_X1_sumRestTo rfl hI hP hS_N j (by omega)) (fun r41 M41 h41 => ?_)
      obtain ⟨rfl, h41⟩ := h41
      have h41 := h41.symm
      subst h41
      exact g_iret rfl dX6_least_44 ⟨(A_least_at w1 w2 (by omega) (by omega)).symm, hF⟩
    · refine g_iconst 23 ((-1)) dX6_least_22 rfl rfl ?_
      exact g_iret rfl dX6_least_23 ⟨(A_least_no (by first | (rw [c8]; rfl) | (rw [c19, Bool.and_false]))).symm, Fo.rf⟩

set_option maxHeartbeats 4000000 in
set_option maxRecDepth 100000 in
theorem c_X6_plan {l : Launch} {D : va_G} {g : Nat → Nat → Nat} {ca : Nat → ClassId} {M : Mm} {a : Sa} (hK : SK (M.1 0) a) (x y : Int32) : Ct l D g ca md_X6_plan [.ref (g 12 0), .int x, .int y] M (Ri (fun r M1 => r = A_plan a x y ∧ Fo 16 M M1)) := by
  refine Ct.of (by decide) rfl (Nat.le_of_ble_eq_true rfl) ?_
  have hS := hK.1
  have hR := hK.2.1
  have hI := hK.2.2.1
  have hr := hK.2.2.2.1
  have hs := hK.2.2.2.2
  have b0 := hI.today
  have b1 := hI.g4
  have b2 := hI.c6
  have b3 := hI.l24
  have b4 := hr.2
  have hib := hK.ib
  show G l D g ca md_X6_plan 0 [(0, .ref (g 12 0)), (1, .int x), (2, .int y)] [] M _
  refine g_iload_n 1 1 dX6_plan_0 rfl rfl ?_
  refine g_iconst 2 ((-1)) dX6_plan_1 rfl rfl ?_
  refine g_icmp_ne 9 5 dX6_plan_2 rfl rfl (fun c2 => ?_) (fun c2 => ?_)
  · refine g_iconst 10 (nI 0) dX6_plan_9 rfl rfl ?_
    refine g_istore_n 11 [(3, .int (nI 0)), (0, .ref (g 12 0)), (1, .int x), (2, .int y)] dX6_plan_10 rfl (by decide) rfl ?_
    refine g_aload_n 12 1 dX6_plan_11 rfl rfl ?_
    refine g_geto 15 dX6_plan_12 rfl fX6_19 rfl (by decide) rfl ?_
    refine g_iload_n 16 3 dX6_plan_15 rfl rfl ?_
    refine g_callVi 19 md_X2_isOpen [.int y] [] dX6_plan_16 rfl e_X6_plan_189 rfl (by decide) rfl rfl (Nat.le_of_ble_eq_true rfl) (c_X2_isOpen rfl hS hI y) (fun r16 M16 h16 => ?_)
    obtain ⟨rfl, h16⟩ := h16
    have h16 := h16.symm
    subst h16
    refine g_ifB_eq 37 22 dX6_plan_19 rfl rfl (fun c19 => ?_) (fun c19 => ?_)
    · refine g_iconst 38 ((-1)) dX6_plan_37 rfl rfl ?_
      exact g_iret rfl dX6_plan_38 ⟨(A_plan_no (by first | exact Or.inr c19 | exact Or.inl ⟨c2, c34⟩)).symm, Fo.rf⟩
    · refine g_iload_n 23 0 dX6_plan_22 rfl rfl ?_
      refine g_ifN_ne 39 26 dX6_plan_23 rfl rfl (by omega) (fun c23 => ?_) (fun c23 => ?_)
      · exact absurd c23 (by omega)
      · refine g_aload_n 27 1 dX6_plan_26 rfl rfl ?_
        refine g_geto 30 dX6_plan_27 rfl fX6_19 rfl (by decide) rfl ?_
        refine g_iload_n 31 2 dX6_plan_30 rfl rfl ?_
        refine g_callVi 34 md_X2_hasLot [.int x] [] dX6_plan_31 rfl e_X6_plan_115 rfl (by decide) rfl rfl (Nat.le_of_ble_eq_true rfl) (c_X2_hasLot rfl hS hI x) (fun r31 M31 h31 => ?_)
        obtain ⟨rfl, h31⟩ := h31
        have h31 := h31.symm
        subst h31
        refine g_ifB_ne 39 37 dX6_plan_34 rfl rfl (fun c34 => ?_) (fun c34 => ?_)
        · obtain ⟨p, hp, rfl⟩ := inr_of c34
          obtain ⟨q, hq, rfl, h18⟩ := opn_of c19 (by omega)
          have hoq := hI.ord hq
          refine g_aload_n 40 1 dX6_plan_39 rfl rfl ?_
          refine g_geto 43 dX6_plan_40 rfl fX6_40 rfl (by decide) rfl ?_
          refine g_aload_n 44 1 dX6_plan_43 rfl rfl ?_
          refine g_geto 47 dX6_plan_44 rfl fX6_19 rfl (by decide) rfl ?_
          refine g_aload_n 48 1 dX6_plan_47 rfl rfl ?_
          refine g_geto 51 dX6_plan_48 rfl fX6_19 rfl (by decide) rfl ?_
          refine g_geta 54 15 dX6_plan_51 rfl fX6_153 rfl (by decide) rfl rfl ?_
          refine g_iload_n 55 3 dX6_plan_54 rfl rfl ?_
          refine g_iald 56 (nI (a 15 q)) dX6_plan_55 rfl rfl (by decide) rfl (by decide) (by omega) (hS.ord (by decide) (by decide) (by omega)) ?_
          refine g_callVv 59 md_X1_make [.ref (g 0 0), .int (nI (a 15 q))] [] dX6_plan_56 rfl e_X6_plan_196 rfl (by decide) rfl rfl (Nat.le_of_ble_eq_true rfl) (c_X1_make rfl hS hI (a 15 q) (by omega)) (fun N h56 => ?_)
          obtain ⟨hP, hF⟩ := h56
          have hS_N : RP (N.1 0) a := RP_fun hS (funext (fun c => funext (fun i => hF.1 0 c i (by decide))))
          refine g_iload_n 60 0 dX6_plan_59 rfl rfl ?_
          refine g_ifN_eq 74 63 dX6_plan_60 rfl rfl (by omega) (fun c60 => ?_) (fun c60 => ?_)
          · refine g_aload_n 75 1 dX6_plan_74 rfl rfl ?_
            refine g_geto 78 dX6_plan_75 rfl fX6_40 rfl (by decide) rfl ?_
            refine g_iload_n 79 2 dX6_plan_78 rfl rfl ?_
            refine g_iload_n 80 3 dX6_plan_79 rfl rfl ?_
            refine g_callVi 83 md_X1_shareOf [.int (nI p), .int (nI q)] [] dX6_plan_80 rfl e_X6_plan_203 rfl (by decide) rfl rfl (Nat.le_of_ble_eq_true rfl) (c_X1_shareOf rfl hI hP q hq rfl h18 p hp) (fun r80 M80 h80 => ?_)
            obtain ⟨rfl, h80⟩ := h80
            have h80 := h80.symm
            subst h80
            exact g_iret rfl dX6_plan_83 ⟨(A_plan_one hp b3 (by omega) c19).symm, hF⟩
          · exact absurd c60 (by omega)
        · refine g_iconst 38 ((-1)) dX6_plan_37 rfl rfl ?_
          exact g_iret rfl dX6_plan_38 ⟨(A_plan_no (by first | exact Or.inr c19 | exact Or.inl ⟨c2, c34⟩)).symm, Fo.rf⟩
  · refine g_iconst 6 (nI 1) dX6_plan_5 rfl rfl ?_
    refine g_goto 10 dX6_plan_6 rfl ?_
    refine g_istore_n 11 [(3, .int (nI 1)), (0, .ref (g 12 0)), (1, .int x), (2, .int y)] dX6_plan_10 rfl (by decide) rfl ?_
    refine g_aload_n 12 1 dX6_plan_11 rfl rfl ?_
    refine g_geto 15 dX6_plan_12 rfl fX6_19 rfl (by decide) rfl ?_
    refine g_iload_n 16 3 dX6_plan_15 rfl rfl ?_
    refine g_callVi 19 md_X2_isOpen [.int y] [] dX6_plan_16 rfl e_X6_plan_189 rfl (by decide) rfl rfl (Nat.le_of_ble_eq_true rfl) (c_X2_isOpen rfl hS hI y) (fun r16 M16 h16 => ?_)
    obtain ⟨rfl, h16⟩ := h16
    have h16 := h16.symm
    subst h16
    refine g_ifB_eq 37 22 dX6_plan_19 rfl rfl (fun c19 => ?_) (fun c19 => ?_)
    · refine g_iconst 38 ((-1)) dX6_plan_37 rfl rfl ?_
      exact g_iret rfl dX6_plan_38 ⟨(A_plan_no (by first | exact Or.inr c19 | exact Or.inl ⟨c2, c34⟩)).symm, Fo.rf⟩
    · refine g_iload_n 23 0 dX6_plan_22 rfl rfl ?_
      refine g_ifN_ne 39 26 dX6_plan_23 rfl rfl (by omega) (fun c23 => ?_) (fun c23 => ?_)
      · obtain ⟨q, hq, rfl, h18⟩ := opn_of c19 (by omega)
        have hoq := hI.ord hq
        refine g_aload_n 40 1 dX6_plan_39 rfl rfl ?_
        refine g_geto 43 dX6_plan_40 rfl fX6_40 rfl (by decide) rfl ?_
        refine g_aload_n 44 1 dX6_plan_43 rfl rfl ?_
        refine g_geto 47 dX6_plan_44 rfl fX6_19 rfl (by decide) rfl ?_
        refine g_aload_n 48 1 dX6_plan_47 rfl rfl ?_
        refine g_geto 51 dX6_plan_48 rfl fX6_19 rfl (by decide) rfl ?_
        refine g_geta 54 15 dX6_plan_51 rfl fX6_153 rfl (by decide) rfl rfl ?_
        refine g_iload_n 55 3 dX6_plan_54 rfl rfl ?_
        refine g_iald 56 (nI (a 15 q)) dX6_plan_55 rfl rfl (by decide) rfl (by decide) (by omega) (hS.ord (by decide) (by decide) (by omega)) ?_
        refine g_callVv 59 md_X1_make [.ref (g 0 0), .int (nI (a 15 q))] [] dX6_plan_56 rfl e_X6_plan_196 rfl (by decide) rfl rfl (Nat.le_of_ble_eq_true rfl) (c_X1_make rfl hS hI (a 15 q) (by omega)) (fun N h56 => ?_)
        obtain ⟨hP, hF⟩ := h56
        have hS_N : RP (N.1 0) a := RP_fun hS (funext (fun c => funext (fun i => hF.1 0 c i (by decide))))
        refine g_iload_n 60 0 dX6_plan_59 rfl rfl ?_
        refine g_ifN_eq 74 63 dX6_plan_60 rfl rfl (by omega) (fun c60 => ?_) (fun c60 => ?_)
        · exact absurd c60 (by omega)
        · refine g_aload_n 64 1 dX6_plan_63 rfl rfl ?_
          refine g_geto 67 dX6_plan_64 rfl fX6_40 rfl (by decide) rfl ?_
          refine g_iload_n 68 3 dX6_plan_67 rfl rfl ?_
          refine g_callVi 71 md_X1_grantOf [.int (nI q)] [] dX6_plan_68 rfl e_X6_plan_200 rfl (by decide) rfl rfl (Nat.le_of_ble_eq_true rfl) (c_X1_grantOf rfl hI hP q hq rfl h18) (fun r68 M68 h68 => ?_)
          obtain ⟨rfl, h68⟩ := h68
          have h68 := h68.symm
          subst h68
          refine g_goto 83 dX6_plan_71 rfl ?_
          exact g_iret rfl dX6_plan_83 ⟨(A_plan_all c2 (by omega) c19).symm, hF⟩
      · exact absurd c23 (by omega)
