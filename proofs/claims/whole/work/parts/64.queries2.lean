set_option maxHeartbeats 4000000 in
set_option maxRecDepth 100000 in
theorem c_X7_now {l : Launch} {D : va_G} {g : Nat → Nat → Nat} {ca : Nat → ClassId} {M : Mm} {a : Sa} (hN : RM (M.1 18 12) a) (hI : Iv a) {sm tp : Nat} (hsm : M.1 18 0 14 = nI sm) (htp : M.1 18 0 2 = nI tp) (x : Int32) : Ct l D g ca md_X7_now [.ref (g 18 0), .int x] M (Ri (fun r M1 => r = A_now a sm tp x ∧ M1 = wr M 18 0 0 (nI 0))) := by
  refine Ct.of (by decide) rfl (Nat.le_of_ble_eq_true rfl) ?_
  have b0 := hI.today
  have b1 := hI.g4
  have b1' := hI.g1
  have b2 := hN.c6
  have b3 := hN.l24
  have b4 := hN.o40
  show G l D g ca md_X7_now 0 [(0, .ref (g 18 0)), (1, .int x)] [] M _
  refine g_aload_n 1 0 dX7_now_0 rfl rfl ?_
  refine g_iconst 2 (nI 0) dX7_now_1 rfl rfl ?_
  refine g_put 5 dX7_now_2 rfl fX7_1 pX7_0 rfl (by decide) rfl ?_
  refine g_iload_n 6 1 dX7_now_5 rfl rfl ?_
  cases hx : inr x 12 with
  | false =>
    refine g_tableOut 145 dX7_now_6 (by have h9 := inr_out hx; omega) rfl ?_
    refine g_iconst 146 ((-1)) dX7_now_145 rfl rfl ?_
    exact g_iret rfl dX7_now_146 ⟨(A_now_no hx).symm, rfl⟩
  | true =>
    obtain ⟨jx, hjx, rfl⟩ := inr_of hx
    rcases (show jx = 0 ∨ jx = 1 ∨ jx = 2 ∨ jx = 3 ∨ jx = 4 ∨ jx = 5 ∨ jx = 6 ∨ jx = 7 ∨ jx = 8 ∨ jx = 9 ∨ jx = 10 ∨ jx = 11 by omega) with rfl | rfl | rfl | rfl | rfl | rfl | rfl | rfl | rfl | rfl | rfl | rfl
    · refine g_tableIn 68 dX7_now_6 (by decide) (by decide) rfl rfl ?_
      refine g_aload_n 69 0 dX7_now_68 rfl rfl ?_
      refine g_callVi 72 md_X7_today [] [] dX7_now_69 rfl e_X7_now_192 rfl (by decide) rfl rfl (Nat.le_of_ble_eq_true rfl) (c_X7_today (RM_w (by decide) hN) hI) (fun r69 M69 h69 => ?_)
      obtain ⟨rfl, h69⟩ := h69
      have h69 := h69.symm
      subst h69
      exact g_iret rfl dX7_now_72 ⟨(A_now_at (k := 0) (by decide)).symm, rfl⟩
    · refine g_tableIn 73 dX7_now_6 (by decide) (by decide) rfl rfl ?_
      refine g_aload_n 74 0 dX7_now_73 rfl rfl ?_
      refine g_geta 77 12 dX7_now_74 rfl fX7_64 rfl (by decide) rfl rfl ?_
      refine g_iconst 78 (nI 1) dX7_now_77 rfl rfl ?_
      refine g_iald 79 (nI (a 0 1)) dX7_now_78 rfl rfl (by decide) rfl (by decide) (by omega) ((wr_ne (by omega)).trans (hN.sc (by decide))) ?_
      exact g_iret rfl dX7_now_79 ⟨(A_now_at (k := 1) (by decide)).symm, rfl⟩
    · refine g_tableIn 80 dX7_now_6 (by decide) (by decide) rfl rfl ?_
      refine g_aload_n 81 0 dX7_now_80 rfl rfl ?_
      refine g_geta 84 12 dX7_now_81 rfl fX7_64 rfl (by decide) rfl rfl ?_
      refine g_iconst 85 (nI 2) dX7_now_84 rfl rfl ?_
      refine g_iald 86 (nI (a 0 2)) dX7_now_85 rfl rfl (by decide) rfl (by decide) (by omega) ((wr_ne (by omega)).trans (hN.sc (by decide))) ?_
      exact g_iret rfl dX7_now_86 ⟨(A_now_at (k := 2) (by decide)).symm, rfl⟩
    · refine g_tableIn 87 dX7_now_6 (by decide) (by decide) rfl rfl ?_
      refine g_aload_n 88 0 dX7_now_87 rfl rfl ?_
      refine g_geta 91 12 dX7_now_88 rfl fX7_64 rfl (by decide) rfl rfl ?_
      refine g_iconst 92 (nI 3) dX7_now_91 rfl rfl ?_
      refine g_iald 93 (nI (a 0 3)) dX7_now_92 rfl rfl (by decide) rfl (by decide) (by omega) ((wr_ne (by omega)).trans (hN.sc (by decide))) ?_
      exact g_iret rfl dX7_now_93 ⟨(A_now_at (k := 3) (by decide)).symm, rfl⟩
    · refine g_tableIn 94 dX7_now_6 (by decide) (by decide) rfl rfl ?_
      refine g_aload_n 95 0 dX7_now_94 rfl rfl ?_
      refine g_geta 98 12 dX7_now_95 rfl fX7_64 rfl (by decide) rfl rfl ?_
      refine g_iconst 99 (nI 4) dX7_now_98 rfl rfl ?_
      refine g_iald 100 (nI (a 0 4)) dX7_now_99 rfl rfl (by decide) rfl (by decide) (by omega) ((wr_ne (by omega)).trans (hN.sc (by decide))) ?_
      exact g_iret rfl dX7_now_100 ⟨(A_now_at (k := 4) (by decide)).symm, rfl⟩
    · refine g_tableIn 101 dX7_now_6 (by decide) (by decide) rfl rfl ?_
      refine g_aload_n 102 0 dX7_now_101 rfl rfl ?_
      refine g_callVi 105 md_X7_openMany [] [] dX7_now_102 rfl e_X7_now_196 rfl (by decide) rfl rfl (Nat.le_of_ble_eq_true rfl) (c_X7_openMany (RM_w (by decide) hN) hI) (fun r102 M102 h102 => ?_)
      obtain ⟨rfl, h102⟩ := h102
      have h102 := h102.symm
      subst h102
      exact g_iret rfl dX7_now_105 ⟨(A_now_at (k := 5) (by decide)).symm, rfl⟩
    · refine g_tableIn 106 dX7_now_6 (by decide) (by decide) rfl rfl ?_
      refine g_aload_n 107 0 dX7_now_106 rfl rfl ?_
      refine g_iconst 108 (nI 2) dX7_now_107 rfl rfl ?_
      refine g_callVi 111 md_X7_sumOf [.int (nI 2)] [] dX7_now_108 rfl e_X7_now_199 rfl (by decide) rfl rfl (Nat.le_of_ble_eq_true rfl) (c_X7_sumOf (RM_w (by decide) hN) hI 2 (by decide)) (fun r108 M108 h108 => ?_)
      obtain ⟨rfl, h108⟩ := h108
      have h108 := h108.symm
      subst h108
      exact g_iret rfl dX7_now_111 ⟨by rw [A_now_at (by decide)]; exact congrArg nI (fb_sm_cong (fun p _ => if_pos rfl)), rfl⟩
    · refine g_tableIn 112 dX7_now_6 (by decide) (by decide) rfl rfl ?_
      refine g_aload_n 113 0 dX7_now_112 rfl rfl ?_
      refine g_sipush 116 (nI 373) dX7_now_113 rfl rfl ?_
      refine g_callVi 119 md_X7_sumOf [.int (nI 373)] [] dX7_now_116 rfl e_X7_now_199 rfl (by decide) rfl rfl (Nat.le_of_ble_eq_true rfl) (c_X7_sumOf (RM_w (by decide) hN) hI 373 (by decide)) (fun r116 M116 h116 => ?_)
      obtain ⟨rfl, h116⟩ := h116
      have h116 := h116.symm
      subst h116
      exact g_iret rfl dX7_now_119 ⟨by rw [A_now_at (by decide)]; exact congrArg nI (fb_sm_cong (fun p _ => if_neg (by decide))), rfl⟩
    · refine g_tableIn 120 dX7_now_6 (by decide) (by decide) rfl rfl ?_
      refine g_aload_n 121 0 dX7_now_120 rfl rfl ?_
      refine g_geta 124 12 dX7_now_121 rfl fX7_64 rfl (by decide) rfl rfl ?_
      refine g_iconst 125 (nI 5) dX7_now_124 rfl rfl ?_
      refine g_iald 126 (nI (a 0 5)) dX7_now_125 rfl rfl (by decide) rfl (by decide) (by omega) ((wr_ne (by omega)).trans (hN.sc (by decide))) ?_
      exact g_iret rfl dX7_now_126 ⟨(A_now_at (k := 8) (by decide)).symm, rfl⟩
    · refine g_tableIn 127 dX7_now_6 (by decide) (by decide) rfl rfl ?_
      refine g_aload_n 128 0 dX7_now_127 rfl rfl ?_
      refine g_geta 131 12 dX7_now_128 rfl fX7_64 rfl (by decide) rfl rfl ?_
      refine g_bipush 133 (nI 6) dX7_now_131 rfl rfl ?_
      refine g_iald 134 (nI (a 0 6)) dX7_now_133 rfl rfl (by decide) rfl (by decide) (by omega) ((wr_ne (by omega)).trans (hN.sc (by decide))) ?_
      exact g_iret rfl dX7_now_134 ⟨(A_now_at (k := 9) (by decide)).symm, rfl⟩
    · refine g_tableIn 135 dX7_now_6 (by decide) (by decide) rfl rfl ?_
      refine g_aload_n 136 0 dX7_now_135 rfl rfl ?_
      refine g_get 139 (nI sm) dX7_now_136 rfl fX7_163 rfl (by decide) rfl ((wr_ne (by omega)).trans hsm) ?_
      exact g_iret rfl dX7_now_139 ⟨(A_now_at (k := 10) (by decide)).symm, rfl⟩
    · refine g_tableIn 140 dX7_now_6 (by decide) (by decide) rfl rfl ?_
      refine g_aload_n 141 0 dX7_now_140 rfl rfl ?_
      refine g_get 144 (nI tp) dX7_now_141 rfl fX7_11 rfl (by decide) rfl ((wr_ne (by omega)).trans htp) ?_
      exact g_iret rfl dX7_now_144 ⟨(A_now_at (k := 11) (by decide)).symm, rfl⟩

set_option maxHeartbeats 4000000 in
set_option maxRecDepth 100000 in
theorem c_X7_lot {l : Launch} {D : va_G} {g : Nat → Nat → Nat} {ca : Nat → ClassId} {M : Mm} {a : Sa} (hN : RM (M.1 18 12) a) (hI : Iv a) (x w : Int32) : Ct l D g ca md_X7_lot [.ref (g 18 0), .int x, .int w] M (Ri (fun r M1 => (M1 = wr (wr M 18 0 0 (nI 0)) 18 0 0 (nI 1) ∧ T_lot a x w = true) ∨ (M1 = wr M 18 0 0 (nI 0) ∧ T_lot a x w = false ∧ ∃ p k, x = nI p ∧ w = nI k ∧ r = nI (V_lot a p k) ∧ p < a 0 3 ∧ k < 5))) := by
  refine Ct.of (by decide) rfl (Nat.le_of_ble_eq_true rfl) ?_
  have b0 := hI.today
  have b1 := hI.g4
  have b1' := hI.g1
  have b2 := hN.c6
  have b3 := hN.l24
  have b4 := hN.o40
  show G l D g ca md_X7_lot 0 [(0, .ref (g 18 0)), (1, .int x), (2, .int w)] [] M _
  refine g_aload_n 1 0 dX7_lot_0 rfl rfl ?_
  refine g_iconst 2 (nI 0) dX7_lot_1 rfl rfl ?_
  refine g_put 5 dX7_lot_2 rfl fX7_1 pX7_0 rfl (by decide) rfl ?_
  refine g_aload_n 6 0 dX7_lot_5 rfl rfl ?_
  refine g_iload_n 7 1 dX7_lot_6 rfl rfl ?_
  refine g_callVi 10 md_X7_isLot [.int x] [] dX7_lot_7 rfl e_X7_lot_202 rfl (by decide) rfl rfl (Nat.le_of_ble_eq_true rfl) (c_X7_isLot (RM_w (by decide) hN) hI x) (fun r7 M7 h7 => ?_)
  obtain ⟨rfl, h7⟩ := h7
  have h7 := h7.symm
  subst h7
  refine g_ifB_eq 22 13 dX7_lot_10 rfl rfl (fun c10 => ?_) (fun c10 => ?_)
  · refine g_aload_n 23 0 dX7_lot_22 rfl rfl ?_
    refine g_callVi 26 md_X7_refuse [] [] dX7_lot_23 rfl e_X7_lot_205 rfl (by decide) rfl rfl (Nat.le_of_ble_eq_true rfl) c_X7_refuse (fun r23 M23 h23 => ?_)
    obtain ⟨rfl, h23⟩ := h23
    have h23 := h23.symm
    subst h23
    exact g_iret rfl dX7_lot_26 (Or.inl ⟨rfl, by unfold T_lot; first | (rw [c10]; rfl) | (rw [show inr w 5 = false from c19, Bool.and_false]; rfl)⟩)
  · refine g_iload_n 14 2 dX7_lot_13 rfl rfl ?_
    refine g_iconst 15 (nI 0) dX7_lot_14 rfl rfl ?_
    refine g_iconst 16 (nI 4) dX7_lot_15 rfl rfl ?_
    refine g_callSi 19 md_X7_isIn [.int w, .int (nI 0), .int (nI 4)] [] dX7_lot_16 rfl e_X7_lot_101 rfl rfl (Nat.le_of_ble_eq_true rfl) (c_X7_isIn (w) (nI 0) (nI 4)) (fun r16 M16 h16 => ?_)
    obtain ⟨rfl, h16⟩ := h16
    have h16 := h16.symm
    subst h16
    rw [isin_inr5 (by decide)]
    refine g_ifB_ne 27 22 dX7_lot_19 rfl rfl (fun c19 => ?_) (fun c19 => ?_)
    · obtain ⟨p, hp, rfl⟩ := inr_of c10
      obtain ⟨v, hv, rfl⟩ := inr_of c19
      refine g_iload_n 28 2 dX7_lot_27 rfl rfl ?_
      refine g_iconst 29 (nI 4) dX7_lot_28 rfl rfl ?_
      refine g_icmpN_ge 41 32 dX7_lot_29 rfl rfl (by omega) (by omega) (fun c29 => ?_) (fun c29 => ?_)
      · refine g_aload_n 42 0 dX7_lot_41 rfl rfl ?_
        refine g_iload_n 43 1 dX7_lot_42 rfl rfl ?_
        refine g_callVi 46 md_X7_ofLot [.int (nI p)] [] dX7_lot_43 rfl e_X7_lot_186 rfl (by decide) rfl rfl (Nat.le_of_ble_eq_true rfl) (c_X7_ofLot (RM_w (by decide) hN) hI p (by omega)) (fun r43 M43 h43 => ?_)
        obtain ⟨rfl, h43⟩ := h43
        have h43 := h43.symm
        subst h43
        exact g_iret rfl dX7_lot_46 (Or.inr ⟨rfl, by unfold T_lot; rw [c10, show inr (nI v) 5 = true from c19]; rfl, p, v, rfl, rfl, by unfold V_lot; first | rw [if_pos c29] | (rw [if_neg (by omega)]; rfl), hp, by omega⟩)
      · refine g_aload_n 33 0 dX7_lot_32 rfl rfl ?_
        refine g_iload_n 34 1 dX7_lot_33 rfl rfl ?_
        refine g_iload_n 35 2 dX7_lot_34 rfl rfl ?_
        refine g_callVi 38 md_X7_lies [.int (nI p), .int (nI v)] [] dX7_lot_35 rfl e_X7_lot_176 rfl (by decide) rfl rfl (Nat.le_of_ble_eq_true rfl) (c_X7_lies (RM_w (by decide) hN) hI p v (10 + v) hp (by omega) rfl) (fun r35 M35 h35 => ?_)
        obtain ⟨rfl, h35⟩ := h35
        have h35 := h35.symm
        subst h35
        refine g_goto 46 dX7_lot_38 rfl ?_
        exact g_iret rfl dX7_lot_46 (Or.inr ⟨rfl, by unfold T_lot; rw [c10, show inr (nI v) 5 = true from c19]; rfl, p, v, rfl, rfl, by unfold V_lot; first | rw [if_pos c29] | (rw [if_neg (by omega)]; rfl), hp, by omega⟩)
    · refine g_aload_n 23 0 dX7_lot_22 rfl rfl ?_
      refine g_callVi 26 md_X7_refuse [] [] dX7_lot_23 rfl e_X7_lot_205 rfl (by decide) rfl rfl (Nat.le_of_ble_eq_true rfl) c_X7_refuse (fun r23 M23 h23 => ?_)
      obtain ⟨rfl, h23⟩ := h23
      have h23 := h23.symm
      subst h23
      exact g_iret rfl dX7_lot_26 (Or.inl ⟨rfl, by unfold T_lot; first | (rw [c10]; rfl) | (rw [show inr w 5 = false from c19, Bool.and_false]; rfl)⟩)

set_option maxHeartbeats 4000000 in
set_option maxRecDepth 100000 in
theorem c_X7_order {l : Launch} {D : va_G} {g : Nat → Nat → Nat} {ca : Nat → ClassId} {M : Mm} {a : Sa} (hN : RM (M.1 18 12) a) (hI : Iv a) (x w : Int32) : Ct l D g ca md_X7_order [.ref (g 18 0), .int x, .int w] M (Ri (fun r M1 => (M1 = wr (wr M 18 0 0 (nI 0)) 18 0 0 (nI 1) ∧ T_ord a x w = true) ∨ (M1 = wr M 18 0 0 (nI 0) ∧ T_ord a x w = false ∧ ∃ p k, x = nI p ∧ w = nI k ∧ r = nI (V_ord a p k) ∧ p < a 0 4 ∧ k < 7))) := by
  refine Ct.of (by decide) rfl (Nat.le_of_ble_eq_true rfl) ?_
  have b0 := hI.today
  have b1 := hI.g4
  have b1' := hI.g1
  have b2 := hN.c6
  have b3 := hN.l24
  have b4 := hN.o40
  show G l D g ca md_X7_order 0 [(0, .ref (g 18 0)), (1, .int x), (2, .int w)] [] M _
  refine g_aload_n 1 0 dX7_order_0 rfl rfl ?_
  refine g_iconst 2 (nI 0) dX7_order_1 rfl rfl ?_
  refine g_put 5 dX7_order_2 rfl fX7_1 pX7_0 rfl (by decide) rfl ?_
  refine g_aload_n 6 0 dX7_order_5 rfl rfl ?_
  refine g_iload_n 7 1 dX7_order_6 rfl rfl ?_
  refine g_callVi 10 md_X7_isOrder [.int x] [] dX7_order_7 rfl e_X7_order_166 rfl (by decide) rfl rfl (Nat.le_of_ble_eq_true rfl) (c_X7_isOrder (RM_w (by decide) hN) hI x) (fun r7 M7 h7 => ?_)
  obtain ⟨rfl, h7⟩ := h7
  have h7 := h7.symm
  subst h7
  refine g_ifB_eq 23 13 dX7_order_10 rfl rfl (fun c10 => ?_) (fun c10 => ?_)
  · refine g_aload_n 24 0 dX7_order_23 rfl rfl ?_
    refine g_callVi 27 md_X7_refuse [] [] dX7_order_24 rfl e_X7_order_205 rfl (by decide) rfl rfl (Nat.le_of_ble_eq_true rfl) c_X7_refuse (fun r24 M24 h24 => ?_)
    obtain ⟨rfl, h24⟩ := h24
    have h24 := h24.symm
    subst h24
    exact g_iret rfl dX7_order_27 (Or.inl ⟨rfl, by unfold T_ord; first | (rw [c10]; rfl) | (rw [show inr w 7 = false from c20, Bool.and_false]; rfl)⟩)
  · refine g_iload_n 14 2 dX7_order_13 rfl rfl ?_
    refine g_iconst 15 (nI 0) dX7_order_14 rfl rfl ?_
    refine g_bipush 17 (nI 6) dX7_order_15 rfl rfl ?_
    refine g_callSi 20 md_X7_isIn [.int w, .int (nI 0), .int (nI 6)] [] dX7_order_17 rfl e_X7_order_101 rfl rfl (Nat.le_of_ble_eq_true rfl) (c_X7_isIn (w) (nI 0) (nI 6)) (fun r17 M17 h17 => ?_)
    obtain ⟨rfl, h17⟩ := h17
    have h17 := h17.symm
    subst h17
    rw [isin_inr5 (by decide)]
    refine g_ifB_ne 28 23 dX7_order_20 rfl rfl (fun c20 => ?_) (fun c20 => ?_)
    · obtain ⟨p, hp, rfl⟩ := inr_of c10
      obtain ⟨v, hv, rfl⟩ := inr_of c20
      refine g_iload_n 29 2 dX7_order_28 rfl rfl ?_
      refine g_iconst 30 (nI 5) dX7_order_29 rfl rfl ?_
      refine g_icmpN_ge 42 33 dX7_order_30 rfl rfl (by omega) (by omega) (fun c30 => ?_) (fun c30 => ?_)
      · refine g_iload_n 43 2 dX7_order_42 rfl rfl ?_
        refine g_iconst 44 (nI 5) dX7_order_43 rfl rfl ?_
        refine g_icmpN_ne 55 47 dX7_order_44 rfl rfl (by omega) (by omega) (fun c44 => ?_) (fun c44 => ?_)
        · refine g_aload_n 56 0 dX7_order_55 rfl rfl ?_
          refine g_iload_n 57 1 dX7_order_56 rfl rfl ?_
          refine g_iconst 58 (nI 5) dX7_order_57 rfl rfl ?_
          refine g_callVi 61 md_X7_ordered [.int (nI p), .int (nI 5)] [] dX7_order_58 rfl e_X7_order_169 rfl (by decide) rfl rfl (Nat.le_of_ble_eq_true rfl) (c_X7_ordered (RM_w (by decide) hN) hI p 5 19 hp (by decide) rfl) (fun r58 M58 h58 => ?_)
          obtain ⟨rfl, h58⟩ := h58
          have h58 := h58.symm
          subst h58
          exact g_iret rfl dX7_order_61 (Or.inr ⟨rfl, by unfold T_ord; rw [c10, show inr (nI v) 7 = true from c20]; rfl, p, v, rfl, rfl, by unfold V_ord; first | rw [if_pos c30] | (rw [if_neg (by omega), if_pos c44]) | (rw [if_neg (by omega), if_neg c44]), hp, by omega⟩)
        · refine g_aload_n 48 0 dX7_order_47 rfl rfl ?_
          refine g_iload_n 49 1 dX7_order_48 rfl rfl ?_
          refine g_callVi 52 md_X7_forOrder [.int (nI p)] [] dX7_order_49 rfl e_X7_order_208 rfl (by decide) rfl rfl (Nat.le_of_ble_eq_true rfl) (c_X7_forOrder (RM_w (by decide) hN) hI p (by omega)) (fun r49 M49 h49 => ?_)
          obtain ⟨rfl, h49⟩ := h49
          have h49 := h49.symm
          subst h49
          refine g_goto 61 dX7_order_52 rfl ?_
          exact g_iret rfl dX7_order_61 (Or.inr ⟨rfl, by unfold T_ord; rw [c10, show inr (nI v) 7 = true from c20]; rfl, p, v, rfl, rfl, by unfold V_ord; first | rw [if_pos c30] | (rw [if_neg (by omega), if_pos c44]) | (rw [if_neg (by omega), if_neg c44]), hp, by omega⟩)
      · refine g_aload_n 34 0 dX7_order_33 rfl rfl ?_
        refine g_iload_n 35 1 dX7_order_34 rfl rfl ?_
        refine g_iload_n 36 2 dX7_order_35 rfl rfl ?_
        refine g_callVi 39 md_X7_ordered [.int (nI p), .int (nI v)] [] dX7_order_36 rfl e_X7_order_169 rfl (by decide) rfl rfl (Nat.le_of_ble_eq_true rfl) (c_X7_ordered (RM_w (by decide) hN) hI p v (14 + v) hp (by omega) rfl) (fun r36 M36 h36 => ?_)
        obtain ⟨rfl, h36⟩ := h36
        have h36 := h36.symm
        subst h36
        refine g_goto 61 dX7_order_39 rfl ?_
        exact g_iret rfl dX7_order_61 (Or.inr ⟨rfl, by unfold T_ord; rw [c10, show inr (nI v) 7 = true from c20]; rfl, p, v, rfl, rfl, by unfold V_ord; first | rw [if_pos c30] | (rw [if_neg (by omega), if_pos c44]) | (rw [if_neg (by omega), if_neg c44]), hp, by omega⟩)
    · refine g_aload_n 24 0 dX7_order_23 rfl rfl ?_
      refine g_callVi 27 md_X7_refuse [] [] dX7_order_24 rfl e_X7_order_205 rfl (by decide) rfl rfl (Nat.le_of_ble_eq_true rfl) c_X7_refuse (fun r24 M24 h24 => ?_)
      obtain ⟨rfl, h24⟩ := h24
      have h24 := h24.symm
      subst h24
      exact g_iret rfl dX7_order_27 (Or.inl ⟨rfl, by unfold T_ord; first | (rw [c10]; rfl) | (rw [show inr w 7 = false from c20, Bool.and_false]; rfl)⟩)

set_option maxHeartbeats 4000000 in
set_option maxRecDepth 100000 in
theorem c_X7_reserved {l : Launch} {D : va_G} {g : Nat → Nat → Nat} {ca : Nat → ClassId} {M : Mm} {a : Sa} (hN : RM (M.1 18 12) a) (hI : Iv a) (x y : Int32) : Ct l D g ca md_X7_reserved [.ref (g 18 0), .int x, .int y] M (Ri (fun r M1 => r = A_res a x y ∧ M1 = wr M 18 0 0 (nI 0))) := by
  refine Ct.of (by decide) rfl (Nat.le_of_ble_eq_true rfl) ?_
  have b0 := hI.today
  have b1 := hI.g4
  have b1' := hI.g1
  have b2 := hN.c6
  have b3 := hN.l24
  have b4 := hN.o40
  show G l D g ca md_X7_reserved 0 [(0, .ref (g 18 0)), (1, .int x), (2, .int y)] [] M _
  refine g_aload_n 1 0 dX7_reserved_0 rfl rfl ?_
  refine g_iconst 2 (nI 0) dX7_reserved_1 rfl rfl ?_
  refine g_put 5 dX7_reserved_2 rfl fX7_1 pX7_0 rfl (by decide) rfl ?_
  refine g_aload_n 6 0 dX7_reserved_5 rfl rfl ?_
  refine g_iload_n 7 1 dX7_reserved_6 rfl rfl ?_
  refine g_callVi 10 md_X7_isLot [.int x] [] dX7_reserved_7 rfl e_X7_reserved_202 rfl (by decide) rfl rfl (Nat.le_of_ble_eq_true rfl) (c_X7_isLot (RM_w (by decide) hN) hI x) (fun r7 M7 h7 => ?_)
  obtain ⟨rfl, h7⟩ := h7
  have h7 := h7.symm
  subst h7
  refine g_ifB_eq 30 13 dX7_reserved_10 rfl rfl (fun c10 => ?_) (fun c10 => ?_)
  · refine g_iconst 31 ((-1)) dX7_reserved_30 rfl rfl ?_
    exact g_iret rfl dX7_reserved_31 ⟨(A_res_no (by first | exact Or.inl c10 | exact Or.inr c18)).symm, rfl⟩
  · refine g_aload_n 14 0 dX7_reserved_13 rfl rfl ?_
    refine g_iload_n 15 2 dX7_reserved_14 rfl rfl ?_
    refine g_callVi 18 md_X7_isOrder [.int y] [] dX7_reserved_15 rfl e_X7_reserved_166 rfl (by decide) rfl rfl (Nat.le_of_ble_eq_true rfl) (c_X7_isOrder (RM_w (by decide) hN) hI y) (fun r15 M15 h15 => ?_)
    obtain ⟨rfl, h15⟩ := h15
    have h15 := h15.symm
    subst h15
    refine g_ifB_eq 30 21 dX7_reserved_18 rfl rfl (fun c18 => ?_) (fun c18 => ?_)
    · refine g_iconst 31 ((-1)) dX7_reserved_30 rfl rfl ?_
      exact g_iret rfl dX7_reserved_31 ⟨(A_res_no (by first | exact Or.inl c10 | exact Or.inr c18)).symm, rfl⟩
    · obtain ⟨p, hp, rfl⟩ := inr_of c10
      obtain ⟨q, hq, rfl⟩ := inr_of c18
      refine g_aload_n 22 0 dX7_reserved_21 rfl rfl ?_
      refine g_iload_n 23 1 dX7_reserved_22 rfl rfl ?_
      refine g_iload_n 24 2 dX7_reserved_23 rfl rfl ?_
      refine g_callVi 27 md_X7_cell [.int (nI p), .int (nI q)] [] dX7_reserved_24 rfl e_X7_reserved_173 rfl (by decide) rfl rfl (Nat.le_of_ble_eq_true rfl) (c_X7_cell (RM_w (by decide) hN) hI p q (by omega) (by omega)) (fun r24 M24 h24 => ?_)
      obtain ⟨rfl, h24⟩ := h24
      have h24 := h24.symm
      subst h24
      refine g_goto 31 dX7_reserved_27 rfl ?_
      exact g_iret rfl dX7_reserved_31 ⟨(A_res_at hp hq b3 b4).symm, rfl⟩

set_option maxHeartbeats 4000000 in
set_option maxRecDepth 100000 in
theorem c_X7_customer {l : Launch} {D : va_G} {g : Nat → Nat → Nat} {ca : Nat → ClassId} {M : Mm} {a : Sa} (hN : RM (M.1 18 12) a) (hI : Iv a) (x y : Int32) : Ct l D g ca md_X7_customer [.ref (g 18 0), .int x, .int y] M (Ri (fun r M1 => r = A_cus a x y ∧ M1 = wr M 18 0 0 (nI 0))) := by
  refine Ct.of (by decide) rfl (Nat.le_of_ble_eq_true rfl) ?_
  have b0 := hI.today
  have b1 := hI.g4
  have b1' := hI.g1
  have b2 := hN.c6
  have b3 := hN.l24
  have b4 := hN.o40
  show G l D g ca md_X7_customer 0 [(0, .ref (g 18 0)), (1, .int x), (2, .int y)] [] M _
  refine g_aload_n 1 0 dX7_customer_0 rfl rfl ?_
  refine g_iconst 2 (nI 0) dX7_customer_1 rfl rfl ?_
  refine g_put 5 dX7_customer_2 rfl fX7_1 pX7_0 rfl (by decide) rfl ?_
  refine g_aload_n 6 0 dX7_customer_5 rfl rfl ?_
  refine g_iload_n 7 1 dX7_customer_6 rfl rfl ?_
  refine g_callVi 10 md_X7_isCustomerThere [.int x] [] dX7_customer_7 rfl e_X7_customer_211 rfl (by decide) rfl rfl (Nat.le_of_ble_eq_true rfl) (c_X7_isCustomerThere (RM_w (by decide) hN) hI x) (fun r7 M7 h7 => ?_)
  obtain ⟨rfl, h7⟩ := h7
  have h7 := h7.symm
  subst h7
  refine g_ifB_ne 15 13 dX7_customer_10 rfl rfl (fun c10 => ?_) (fun c10 => ?_)
  · obtain ⟨p, hp, rfl⟩ := inr_of c10
    refine g_iload_n 16 2 dX7_customer_15 rfl rfl ?_
    refine g_iconst 17 ((-1)) dX7_customer_16 rfl rfl ?_
    refine g_icmp_ne 28 20 dX7_customer_17 rfl rfl (fun c17 => ?_) (fun c17 => ?_)
    · refine g_aload_n 29 0 dX7_customer_28 rfl rfl ?_
      refine g_iload_n 30 2 dX7_customer_29 rfl rfl ?_
      refine g_callVi 33 md_X7_isGood [.int y] [] dX7_customer_30 rfl e_X7_customer_214 rfl (by decide) rfl rfl (Nat.le_of_ble_eq_true rfl) (c_X7_isGood (RM_w (by decide) hN) hI y) (fun r30 M30 h30 => ?_)
      obtain ⟨rfl, h30⟩ := h30
      have h30 := h30.symm
      subst h30
      refine g_ifB_eq 56 36 dX7_customer_33 rfl rfl (fun c33 => ?_) (fun c33 => ?_)
      · refine g_iconst 57 ((-1)) dX7_customer_56 rfl rfl ?_
        exact g_iret rfl dX7_customer_57 ⟨(A_cus_n hp b2 c17 c33).symm, rfl⟩
      · obtain ⟨gd, hg, rfl⟩ := inr_of c33
        refine g_aload_n 37 0 dX7_customer_36 rfl rfl ?_
        refine g_geta 40 12 dX7_customer_37 rfl fX7_64 rfl (by decide) rfl rfl ?_
        refine g_bipush 42 (nI 7) dX7_customer_40 rfl rfl ?_
        refine g_iconst 43 (nI 5) dX7_customer_42 rfl rfl ?_
        refine g_iload_n 44 1 dX7_customer_43 rfl rfl ?_
        refine g_imul 45 (nI (5 * p)) dX7_customer_44 rfl (pk_mul 5 p) ?_
        refine g_iadd 46 (nI (7 + (5 * p))) dX7_customer_45 rfl (nI_add 7 (5 * p)) ?_
        refine g_iconst 47 (nI 1) dX7_customer_46 rfl rfl ?_
        refine g_iadd 48 (nI ((7 + (5 * p)) + 1)) dX7_customer_47 rfl (nI_add (7 + (5 * p)) 1) ?_
        refine g_iload_n 49 2 dX7_customer_48 rfl rfl ?_
        refine g_iadd 50 (nI (((7 + (5 * p)) + 1) + gd)) dX7_customer_49 rfl (nI_add ((7 + (5 * p)) + 1) gd) ?_
        refine g_iald 51 (nI (a 9 (p * 4 + gd))) dX7_customer_50 rfl rfl (by decide) rfl (by decide) (by omega) ((wr_ne (by omega)).trans (hN.latest (by omega) (by omega))) ?_
        refine g_iconst 52 (nI 1) dX7_customer_51 rfl rfl ?_
        refine g_isub 53 (nI (a 9 (p * 4 + gd)) - 1) dX7_customer_52 rfl rfl ?_
        refine g_goto 57 dX7_customer_53 rfl ?_
        exact g_iret rfl dX7_customer_57 ⟨(A_cus_g hp b2 hg b1).symm, rfl⟩
    · refine g_aload_n 21 0 dX7_customer_20 rfl rfl ?_
      refine g_iload_n 22 1 dX7_customer_21 rfl rfl ?_
      refine g_callVi 25 md_X7_lifeOf [.int (nI p)] [] dX7_customer_22 rfl e_X7_customer_179 rfl (by decide) rfl rfl (Nat.le_of_ble_eq_true rfl) (c_X7_lifeOf (RM_w (by decide) hN) hI p (by omega)) (fun r22 M22 h22 => ?_)
      obtain ⟨rfl, h22⟩ := h22
      have h22 := h22.symm
      subst h22
      refine g_goto 57 dX7_customer_25 rfl ?_
      exact g_iret rfl dX7_customer_57 ⟨(A_cus_l hp b2 c17).symm, rfl⟩
  · refine g_iconst 14 ((-1)) dX7_customer_13 rfl rfl ?_
    exact g_iret rfl dX7_customer_14 ⟨(A_cus_no c10).symm, rfl⟩

set_option maxHeartbeats 4000000 in
set_option maxRecDepth 100000 in
theorem c_X7_suits {l : Launch} {D : va_G} {g : Nat → Nat → Nat} {ca : Nat → ClassId} {M : Mm} {a : Sa} (hN : RM (M.1 18 12) a) (hI : Iv a) (x y : Int32) : Ct l D g ca md_X7_suits [.ref (g 18 0), .int x, .int y] M (Ri (fun r M1 => r = bi (A_suits a x y) ∧ M1 = wr M 18 0 0 (nI 0))) := by
  refine Ct.of (by decide) rfl (Nat.le_of_ble_eq_true rfl) ?_
  have b0 := hI.today
  have b1 := hI.g4
  have b1' := hI.g1
  have b2 := hN.c6
  have b3 := hN.l24
  have b4 := hN.o40
  show G l D g ca md_X7_suits 0 [(0, .ref (g 18 0)), (1, .int x), (2, .int y)] [] M _
  refine g_aload_n 1 0 dX7_suits_0 rfl rfl ?_
  refine g_iconst 2 (nI 0) dX7_suits_1 rfl rfl ?_
  refine g_put 5 dX7_suits_2 rfl fX7_1 pX7_0 rfl (by decide) rfl ?_
  refine g_aload_n 6 0 dX7_suits_5 rfl rfl ?_
  refine g_iload_n 7 1 dX7_suits_6 rfl rfl ?_
  refine g_callVi 10 md_X7_isLot [.int x] [] dX7_suits_7 rfl e_X7_suits_202 rfl (by decide) rfl rfl (Nat.le_of_ble_eq_true rfl) (c_X7_isLot (RM_w (by decide) hN) hI x) (fun r7 M7 h7 => ?_)
  obtain ⟨rfl, h7⟩ := h7
  have h7 := h7.symm
  subst h7
  refine g_ifB_eq 34 13 dX7_suits_10 rfl rfl (fun c10 => ?_) (fun c10 => ?_)
  · refine g_iconst 35 (nI 0) dX7_suits_34 rfl rfl ?_
    exact g_zret rfl dX7_suits_35 rfl ⟨by unfold A_suits; first | (rw [c10]; rfl) | (rw [c18, Bool.and_false]; rfl), rfl⟩
  · refine g_aload_n 14 0 dX7_suits_13 rfl rfl ?_
    refine g_iload_n 15 2 dX7_suits_14 rfl rfl ?_
    refine g_callVi 18 md_X7_isOpen [.int y] [] dX7_suits_15 rfl e_X7_suits_189 rfl (by decide) rfl rfl (Nat.le_of_ble_eq_true rfl) (c_X7_isOpen (RM_w (by decide) hN) hI y) (fun r15 M15 h15 => ?_)
    obtain ⟨rfl, h15⟩ := h15
    have h15 := h15.symm
    subst h15
    refine g_ifB_eq 34 21 dX7_suits_18 rfl rfl (fun c18 => ?_) (fun c18 => ?_)
    · refine g_iconst 35 (nI 0) dX7_suits_34 rfl rfl ?_
      exact g_zret rfl dX7_suits_35 rfl ⟨by unfold A_suits; first | (rw [c10]; rfl) | (rw [c18, Bool.and_false]; rfl), rfl⟩
    · obtain ⟨p, hp, rfl⟩ := inr_of c10
      obtain ⟨q, hq, rfl, h18⟩ := opn_of c18 (by omega)
      refine g_aload_n 22 0 dX7_suits_21 rfl rfl ?_
      refine g_iload_n 23 1 dX7_suits_22 rfl rfl ?_
      refine g_iload_n 24 2 dX7_suits_23 rfl rfl ?_
      refine g_callVi 27 md_X7_isFit [.int (nI p), .int (nI q)] [] dX7_suits_24 rfl e_X7_suits_217 rfl (by decide) rfl rfl (Nat.le_of_ble_eq_true rfl) (c_X7_isFit (RM_w (by decide) hN) hI p q (by omega) (by omega)) (fun r24 M24 h24 => ?_)
      obtain ⟨rfl, h24⟩ := h24
      have h24 := h24.symm
      subst h24
      refine g_ifB_eq 34 30 dX7_suits_27 rfl rfl (fun c27 => ?_) (fun c27 => ?_)
      · refine g_iconst 35 (nI 0) dX7_suits_34 rfl rfl ?_
        exact g_zret rfl dX7_suits_35 rfl ⟨by rw [A_suits_at hp b3 (by omega) c18, c27]; rfl, rfl⟩
      · refine g_iconst 31 (nI 1) dX7_suits_30 rfl rfl ?_
        refine g_goto 35 dX7_suits_31 rfl ?_
        exact g_zret rfl dX7_suits_35 rfl ⟨by rw [A_suits_at hp b3 (by omega) c18, c27]; rfl, rfl⟩

set_option maxHeartbeats 4000000 in
set_option maxRecDepth 100000 in
theorem c_X7_waste {l : Launch} {D : va_G} {g : Nat → Nat → Nat} {ca : Nat → ClassId} {M : Mm} {a : Sa} (hN : RM (M.1 18 12) a) (hI : Iv a) (hs : Is a) (x d : Int32) : Ct l D g ca md_X7_waste [.ref (g 18 0), .int x, .int d] M (Ri (fun r M1 => r = A_waste a x d ∧ M1 = wr M 18 0 0 (nI 0))) := by
  refine Ct.of (by decide) rfl (Nat.le_of_ble_eq_true rfl) ?_
  have b0 := hI.today
  have b1 := hI.g4
  have b1' := hI.g1
  have b2 := hN.c6
  have b3 := hN.l24
  have b4 := hN.o40
  show G l D g ca md_X7_waste 0 [(0, .ref (g 18 0)), (1, .int x), (2, .int d)] [] M _
  refine g_aload_n 1 0 dX7_waste_0 rfl rfl ?_
  refine g_iconst 2 (nI 0) dX7_waste_1 rfl rfl ?_
  refine g_put 5 dX7_waste_2 rfl fX7_1 pX7_0 rfl (by decide) rfl ?_
  refine g_aload_n 6 0 dX7_waste_5 rfl rfl ?_
  refine g_iload_n 7 1 dX7_waste_6 rfl rfl ?_
  refine g_iload_n 8 2 dX7_waste_7 rfl rfl ?_
  refine g_callVi 11 md_X7_canWaste [.int x, .int d] [] dX7_waste_8 rfl e_X7_waste_292 rfl (by decide) rfl rfl (Nat.le_of_ble_eq_true rfl) (c_X7_canWaste (RM_w (by decide) hN) hI x d) (fun r8 M8 h8 => ?_)
  obtain ⟨rfl, h8⟩ := h8
  have h8 := h8.symm
  subst h8
  refine g_ifB_ne 16 14 dX7_waste_11 rfl rfl (fun c11 => ?_) (fun c11 => ?_)
  · obtain ⟨gd, j, hgd, rfl, hj1, hj2, rfl, w1, w2⟩ := wok c11
    refine g_iconst 17 (nI 0) dX7_waste_16 rfl rfl ?_
    refine g_istore_n 18 [(3, .int (nI 0)), (0, .ref (g 18 0)), (1, .int (nI gd)), (2, .int (nI j))] dX7_waste_17 rfl (by decide) rfl ?_
    refine g_iconst 19 (nI 0) dX7_waste_18 rfl rfl ?_
    refine g_istore 21 [(4, .int (nI 0)), (3, .int (nI 0)), (0, .ref (g 18 0)), (1, .int (nI gd)), (2, .int (nI j))] dX7_waste_19 rfl (by decide) rfl ?_
    have L21 : ∀ k, k ≤ a 0 3 → ∀ v, v = fb_sm (fun p => if a 10 p = gd ∧ a 11 p ≤ j then a 12 p - rof a p else 0) k → G l D g ca md_X7_waste 21 [(4, .int (nI k)), (3, .int (nI v)), (0, .ref (g 18 0)), (1, .int (nI gd)), (2, .int (nI j))] [] (wr M 18 0 0 (nI 0)) (Ri (fun r M1 => r = A_waste a (nI gd) (nI j) ∧ M1 = wr M 18 0 0 (nI 0))) := by
      refine upto ?_
      intro k hk ih21 v hv
      refine g_iload 23 0 dX7_waste_21 rfl rfl ?_
      refine g_aload_n 24 2 dX7_waste_23 rfl rfl ?_
      refine g_geta 27 12 dX7_waste_24 rfl fX7_64 rfl (by decide) rfl rfl ?_
      refine g_iconst 28 (nI 3) dX7_waste_27 rfl rfl ?_
      refine g_iald 29 (nI (a 0 3)) dX7_waste_28 rfl rfl (by decide) rfl (by decide) (by omega) ((wr_ne (by omega)).trans (hN.sc (by decide))) ?_
      refine g_icmpN_ge 77 32 dX7_waste_29 rfl rfl (by omega) (by omega) (fun c29 => ?_) (fun c29 => ?_)
      · refine g_iload_n 78 1 dX7_waste_77 rfl rfl ?_
        exact g_iret rfl dX7_waste_78 ⟨by rw [A_waste_at w1 w2 (by omega) (by omega), hv, show k = a 0 3 by omega], rfl⟩
      · refine g_aload_n 33 2 dX7_waste_32 rfl rfl ?_
        refine g_iload 35 0 dX7_waste_33 rfl rfl ?_
        refine g_iconst 36 (nI 0) dX7_waste_35 rfl rfl ?_
        refine g_callVi 39 md_X7_lies [.int (nI k), .int (nI 0)] [] dX7_waste_36 rfl e_X7_waste_176 rfl (by decide) rfl rfl (Nat.le_of_ble_eq_true rfl) (c_X7_lies (RM_w (by decide) hN) hI k 0 10 (by omega) (by decide) rfl) (fun r36 M36 h36 => ?_)
        obtain ⟨rfl, h36⟩ := h36
        have h36 := h36.symm
        subst h36
        refine g_iload_n 40 3 dX7_waste_39 rfl rfl ?_
        refine g_icmpN_ne 71 43 dX7_waste_40 rfl rfl (by have := hI.lot (l := k) (by omega); omega) (by omega) (fun c40 => ?_) (fun c40 => ?_)
        · refine g_iinc 74 (nI (k + 1)) [(4, .int (nI (k + 1))), (3, .int (nI v)), (0, .ref (g 18 0)), (1, .int (nI gd)), (2, .int (nI j))] dX7_waste_71 rfl 0 rfl (nI_add k 1) (by decide) rfl ?_
          refine g_goto 21 dX7_waste_74 rfl ?_
          exact ih21 (by omega) _ (by rw [fb_sm_succ, hv]; split <;> omega)
        · refine g_aload_n 44 2 dX7_waste_43 rfl rfl ?_
          refine g_iload 46 0 dX7_waste_44 rfl rfl ?_
          refine g_iconst 47 (nI 1) dX7_waste_46 rfl rfl ?_
          refine g_callVi 50 md_X7_lies [.int (nI k), .int (nI 1)] [] dX7_waste_47 rfl e_X7_waste_176 rfl (by decide) rfl rfl (Nat.le_of_ble_eq_true rfl) (c_X7_lies (RM_w (by decide) hN) hI k 1 11 (by omega) (by decide) rfl) (fun r47 M47 h47 => ?_)
          obtain ⟨rfl, h47⟩ := h47
          have h47 := h47.symm
          subst h47
          refine g_iload_n 51 4 dX7_waste_50 rfl rfl ?_
          refine g_icmpN_gt 71 54 dX7_waste_51 rfl rfl (by have := hI.lot (l := k) (by omega); omega) (by omega) (fun c51 => ?_) (fun c51 => ?_)
          · refine g_iinc 74 (nI (k + 1)) [(4, .int (nI (k + 1))), (3, .int (nI v)), (0, .ref (g 18 0)), (1, .int (nI gd)), (2, .int (nI j))] dX7_waste_71 rfl 0 rfl (nI_add k 1) (by decide) rfl ?_
            refine g_goto 21 dX7_waste_74 rfl ?_
            exact ih21 (by omega) _ (by rw [fb_sm_succ, hv]; split <;> omega)
          · refine g_iload_n 55 1 dX7_waste_54 rfl rfl ?_
            refine g_aload_n 56 2 dX7_waste_55 rfl rfl ?_
            refine g_iload 58 0 dX7_waste_56 rfl rfl ?_
            refine g_iconst 59 (nI 2) dX7_waste_58 rfl rfl ?_
            refine g_callVi 62 md_X7_lies [.int (nI k), .int (nI 2)] [.int (nI v)] dX7_waste_59 rfl e_X7_waste_176 rfl (by decide) rfl rfl (Nat.le_of_ble_eq_true rfl) (c_X7_lies (RM_w (by decide) hN) hI k 2 12 (by omega) (by decide) rfl) (fun r59 M59 h59 => ?_)
            obtain ⟨rfl, h59⟩ := h59
            have h59 := h59.symm
            subst h59
            refine g_aload_n 63 2 dX7_waste_62 rfl rfl ?_
            refine g_iload 65 0 dX7_waste_63 rfl rfl ?_
            refine g_callVi 68 md_X7_ofLot [.int (nI k)] [.int (nI (a 12 k)), .int (nI v)] dX7_waste_65 rfl e_X7_waste_186 rfl (by decide) rfl rfl (Nat.le_of_ble_eq_true rfl) (c_X7_ofLot (RM_w (by decide) hN) hI k (by omega)) (fun r65 M65 h65 => ?_)
            obtain ⟨rfl, h65⟩ := h65
            have h65 := h65.symm
            subst h65
            refine g_isub 69 (nI (a 12 k - rof a k)) dX7_waste_68 rfl (pk_sub (hs k (by omega))) ?_
            refine g_iadd 70 (nI (v + (a 12 k - rof a k))) dX7_waste_69 rfl (nI_add v (a 12 k - rof a k)) ?_
            refine g_istore_n 71 [(3, .int (nI (v + (a 12 k - rof a k)))), (4, .int (nI k)), (0, .ref (g 18 0)), (1, .int (nI gd)), (2, .int (nI j))] dX7_waste_70 rfl (by decide) rfl ?_
            refine g_iinc 74 (nI (k + 1)) [(4, .int (nI (k + 1))), (3, .int (nI (v + (a 12 k - rof a k)))), (0, .ref (g 18 0)), (1, .int (nI gd)), (2, .int (nI j))] dX7_waste_71 rfl 1 rfl (nI_add k 1) (by decide) rfl ?_
            refine g_goto 21 dX7_waste_74 rfl ?_
            exact ih21 (by omega) _ (by rw [fb_sm_succ, hv]; split <;> omega)
    exact L21 0 (Nat.zero_le _) 0 rfl
  · refine g_iconst 15 ((-1)) dX7_waste_14 rfl rfl ?_
    exact g_iret rfl dX7_waste_15 ⟨(A_waste_no c11).symm, rfl⟩

set_option maxHeartbeats 4000000 in
set_option maxRecDepth 100000 in
theorem c_X7_least {l : Launch} {D : va_G} {g : Nat → Nat → Nat} {ca : Nat → ClassId} {M : Mm} {a : Sa} (hN : RM (M.1 18 12) a) (hI : Iv a) (x d : Int32) : Ct l D g ca md_X7_least [.ref (g 18 0), .int x, .int d] M (Ri (fun r M1 => r = A_least a x d ∧ FPn (wr M 18 0 0 (nI 0)) M1)) := by
  refine Ct.of (by decide) rfl (Nat.le_of_ble_eq_true rfl) ?_
  have b0 := hI.today
  have b1 := hI.g4
  have b1' := hI.g1
  have b2 := hN.c6
  have b3 := hN.l24
  have b4 := hN.o40
  show G l D g ca md_X7_least 0 [(0, .ref (g 18 0)), (1, .int x), (2, .int d)] [] M _
  refine g_aload_n 1 0 dX7_least_0 rfl rfl ?_
  refine g_iconst 2 (nI 0) dX7_least_1 rfl rfl ?_
  refine g_put 5 dX7_least_2 rfl fX7_1 pX7_0 rfl (by decide) rfl ?_
  refine g_aload_n 6 0 dX7_least_5 rfl rfl ?_
  refine g_iload_n 7 1 dX7_least_6 rfl rfl ?_
  refine g_iload_n 8 2 dX7_least_7 rfl rfl ?_
  refine g_callVi 11 md_X7_canWaste [.int x, .int d] [] dX7_least_8 rfl e_X7_least_292 rfl (by decide) rfl rfl (Nat.le_of_ble_eq_true rfl) (c_X7_canWaste (RM_w (by decide) hN) hI x d) (fun r8 M8 h8 => ?_)
  obtain ⟨rfl, h8⟩ := h8
  have h8 := h8.symm
  subst h8
  refine g_ifB_ne 16 14 dX7_least_11 rfl rfl (fun c11 => ?_) (fun c11 => ?_)
  · obtain ⟨gd, j, hgd, rfl, hj1, hj2, rfl, w1, w2⟩ := wok c11
    refine g_aload_n 17 0 dX7_least_16 rfl rfl ?_
    refine g_iload_n 18 1 dX7_least_17 rfl rfl ?_
    refine g_callVv 21 md_X7_plansNow [.int (nI gd)] [] dX7_least_18 rfl e_X7_least_283 rfl (by decide) rfl rfl (Nat.le_of_ble_eq_true rfl) (c_X7_plansNow (RM_w (by decide) hN) hI gd (by first | omega | exact (hI.ord hq).2.1)) (fun N h18 => ?_)
    obtain ⟨⟨hP, hT⟩, hF⟩ := h18
    have hN_N := hF.rm (RM_w (by decide) hN)
    have htn := TuN_le hI (gd := gd)
    have hag := AgN_le (a := a) (gd := gd)
    refine g_iconst 22 (nI 0) dX7_least_21 rfl rfl ?_
    refine g_istore_n 23 [(3, .int (nI 0)), (0, .ref (g 18 0)), (1, .int (nI gd)), (2, .int (nI j))] dX7_least_22 rfl (by decide) rfl ?_
    refine g_iconst 24 (nI 0) dX7_least_23 rfl rfl ?_
    refine g_istore 26 [(4, .int (nI 0)), (3, .int (nI 0)), (0, .ref (g 18 0)), (1, .int (nI gd)), (2, .int (nI j))] dX7_least_24 rfl (by decide) rfl ?_
    have L26 : ∀ k, k ≤ AgN a gd → ∀ v, v = fb_sm (fun k => if a 11 (Ag a gd k) ≤ j then prp a gd (TuN a gd) k else 0) k → G l D g ca md_X7_least 26 [(4, .int (nI k)), (3, .int (nI v)), (0, .ref (g 18 0)), (1, .int (nI gd)), (2, .int (nI j))] [] N (Ri (fun r M1 => r = A_least a (nI gd) (nI j) ∧ FPn (wr M 18 0 0 (nI 0)) M1)) := by
      refine upto ?_
      intro k hk ih26 v hv
      refine g_iload 28 0 dX7_least_26 rfl rfl ?_
      refine g_aload_n 29 2 dX7_least_28 rfl rfl ?_
      refine g_get 32 (nI (AgN a gd)) dX7_least_29 rfl fX7_224 rfl (by decide) rfl hP.am_ ?_
      refine g_icmpN_ge 66 35 dX7_least_32 rfl rfl (by omega) (by omega) (fun c32 => ?_) (fun c32 => ?_)
      · refine g_iload_n 67 1 dX7_least_66 rfl rfl ?_
        exact g_iret rfl dX7_least_67 ⟨by rw [A_least_at w1 w2 (by omega) (by omega), hv, show k = AgN a gd by omega], hF⟩
      · refine g_aload_n 36 2 dX7_least_35 rfl rfl ?_
        refine g_aload_n 37 2 dX7_least_36 rfl rfl ?_
        refine g_geta 40 18 dX7_least_37 rfl fX7_76 rfl (by decide) rfl rfl ?_
        refine g_iload 42 0 dX7_least_40 rfl rfl ?_
        refine g_iald 43 (nI (Ag a gd k)) dX7_least_42 rfl rfl (by decide) rfl (by decide) (by omega) (hP.age (by omega)) ?_
        refine g_iconst 44 (nI 1) dX7_least_43 rfl rfl ?_
        refine g_callVi 47 md_X7_lies [.int (nI (Ag a gd k)), .int (nI 1)] [] dX7_least_44 rfl e_X7_least_176 rfl (by decide) rfl rfl (Nat.le_of_ble_eq_true rfl) (c_X7_lies hN_N hI (Ag a gd k) 1 11 (Ag_in (by omega)).1 (by decide) rfl) (fun r44 M44 h44 => ?_)
        obtain ⟨rfl, h44⟩ := h44
        have h44 := h44.symm
        subst h44
        refine g_iload_n 48 4 dX7_least_47 rfl rfl ?_
        refine g_icmpN_gt 60 51 dX7_least_48 rfl rfl (by have := hI.lot (Ag_in (a := a) (gd := gd) (k := k) (by omega)).1; omega) (by omega) (fun c48 => ?_) (fun c48 => ?_)
        · refine g_iinc 63 (nI (k + 1)) [(4, .int (nI (k + 1))), (3, .int (nI v)), (0, .ref (g 18 0)), (1, .int (nI gd)), (2, .int (nI j))] dX7_least_60 rfl 0 rfl (nI_add k 1) (by decide) rfl ?_
          refine g_goto 26 dX7_least_63 rfl ?_
          exact ih26 (by omega) _ (by rw [fb_sm_succ, hv]; split <;> omega)
        · refine g_iload_n 52 1 dX7_least_51 rfl rfl ?_
          refine g_aload_n 53 2 dX7_least_52 rfl rfl ?_
          refine g_iload 55 0 dX7_least_53 rfl rfl ?_
          refine g_callVi 58 md_X7_spareOf [.int (nI k)] [.int (nI v)] dX7_least_55 rfl e_X7_least_252 rfl (by decide) rfl rfl (Nat.le_of_ble_eq_true rfl) (c_X7_spareOf (PMd_cg hP (mu' := msb a gd (TuN a gd) 0) (fun k q hk hq => mus_fin hq)) hN_N hI (fun k hk => (Ag_in hk).1) (sp := fun k => prp a gd (TuN a gd) k) (fun k hk => by have h9 := fin_used (ft := ftp a gd) (left := lfb a gd) (want := wnb a gd) (tn := TuN a gd) (k := k); rw [fin_spr] at h9; exact h9) k (by omega)) (fun r55 M55 h55 => ?_)
          obtain ⟨rfl, h55⟩ := h55
          have h55 := h55.symm
          subst h55
          refine g_iadd 59 (nI (v + (prp a gd (TuN a gd) k))) dX7_least_58 rfl (nI_add v (prp a gd (TuN a gd) k)) ?_
          refine g_istore_n 60 [(3, .int (nI (v + (prp a gd (TuN a gd) k)))), (4, .int (nI k)), (0, .ref (g 18 0)), (1, .int (nI gd)), (2, .int (nI j))] dX7_least_59 rfl (by decide) rfl ?_
          refine g_iinc 63 (nI (k + 1)) [(4, .int (nI (k + 1))), (3, .int (nI (v + (prp a gd (TuN a gd) k)))), (0, .ref (g 18 0)), (1, .int (nI gd)), (2, .int (nI j))] dX7_least_60 rfl 1 rfl (nI_add k 1) (by decide) rfl ?_
          refine g_goto 26 dX7_least_63 rfl ?_
          exact ih26 (by omega) _ (by rw [fb_sm_succ, hv]; split <;> omega)
    exact L26 0 (Nat.zero_le _) 0 rfl
  · refine g_iconst 15 ((-1)) dX7_least_14 rfl rfl ?_
    exact g_iret rfl dX7_least_15 ⟨(A_least_no c11).symm, FPn.rf⟩
