set_option maxHeartbeats 4000000 in
set_option maxRecDepth 100000 in
theorem c_X2_cell {l : Launch} {D : va_G} {g : Nat → Nat → Nat} {ca : Nat → ClassId} {M : Mm} {o : Nat} {a : Sa} (hko : kd o = 2) (hS : RP (M.1 o) a) (hI : Iv a) (p q : Nat) (hp : p < a 0 3) (hq : q < a 0 4) : Ct l D g ca md_X2_cell [.ref (g o 0), .int (nI p), .int (nI q)] M (Ri (fun r M1 => r = nI (p * 6 + a 14 q) ∧ M1 = M)) := by
  refine Ct.of (by decide) rfl (Nat.le_of_ble_eq_true rfl) ?_
  have b2 := hS.c6
  have b3 := hS.l24
  have b4 := hS.o41
  have b0 := hI.today
  have b1 := hI.g4
  have b1' := hI.g1
  show G l D g ca md_X2_cell 0 [(0, .ref (g o 0)), (1, .int (nI p)), (2, .int (nI q))] [] M _
  refine g_iload_n 1 1 dX2_cell_0 rfl rfl ?_
  refine g_bipush 3 (nI 6) dX2_cell_1 rfl rfl ?_
  refine g_imul 4 (nI (p * 6)) dX2_cell_3 rfl (pk_mul p 6) ?_
  refine g_aload_n 5 0 dX2_cell_4 rfl rfl ?_
  refine g_geta 8 14 dX2_cell_5 rfl fX2_30 hko (by decide) rfl rfl ?_
  refine g_iload_n 9 2 dX2_cell_8 rfl rfl ?_
  refine g_iald 10 (nI (a 14 q)) dX2_cell_9 rfl hko (by decide) rfl (by decide) (by omega) (hS.ord (by decide) (by decide) (by omega)) ?_
  refine g_iadd 11 (nI ((p * 6) + (a 14 q))) dX2_cell_10 rfl (nI_add (p * 6) (a 14 q)) ?_
  exact g_iret rfl dX2_cell_11 ⟨rfl, rfl⟩

set_option maxHeartbeats 4000000 in
set_option maxRecDepth 100000 in
theorem c_X2_reservedFor {l : Launch} {D : va_G} {g : Nat → Nat → Nat} {ca : Nat → ClassId} {M : Mm} {o : Nat} {a : Sa} (hko : kd o = 2) (hS : RP (M.1 o) a) (hI : Iv a) (hR : RR (M.1 o) a) (hr : Ir a) (p q : Nat) (hp : p < a 0 3) (hq : q < a 0 4) : Ct l D g ca md_X2_reservedFor [.ref (g o 0), .int (nI p), .int (nI q)] M (Ri (fun r M1 => r = nI (res a p q) ∧ M1 = M)) := by
  refine Ct.of (by decide) rfl (Nat.le_of_ble_eq_true rfl) ?_
  have b2 := hS.c6
  have b3 := hS.l24
  have b4 := hS.o41
  have b0 := hI.today
  have b1 := hI.g4
  have b1' := hI.g1
  have b5 := hr.2
  show G l D g ca md_X2_reservedFor 0 [(0, .ref (g o 0)), (1, .int (nI p)), (2, .int (nI q))] [] M _
  refine g_aload_n 1 0 dX2_reservedFor_0 rfl rfl ?_
  refine g_geta 4 18 dX2_reservedFor_1 rfl fX2_42 hko (by decide) rfl rfl ?_
  refine g_iload_n 5 2 dX2_reservedFor_4 rfl rfl ?_
  refine g_iald 6 (nI (a 18 q)) dX2_reservedFor_5 rfl hko (by decide) rfl (by decide) (by omega) (hS.ord (by decide) (by decide) (by omega)) ?_
  refine g_ifN_ne 24 9 dX2_reservedFor_6 rfl rfl (by have := hI.ord (o := q) (by omega); omega) (fun c6 => ?_) (fun c6 => ?_)
  · refine g_iconst 25 (nI 0) dX2_reservedFor_24 rfl rfl ?_
    exact g_iret rfl dX2_reservedFor_25 ⟨by first | rw [rc_one hI hq (by assumption) (Eq.symm (by assumption))] | (rw [res_0 hr (by omega) (fun z => by omega)]), rfl⟩
  · refine g_aload_n 10 0 dX2_reservedFor_9 rfl rfl ?_
    refine g_geta 13 10 dX2_reservedFor_10 rfl fX2_18 hko (by decide) rfl rfl ?_
    refine g_iload_n 14 1 dX2_reservedFor_13 rfl rfl ?_
    refine g_iald 15 (nI (a 10 p)) dX2_reservedFor_14 rfl hko (by decide) rfl (by decide) (by omega) (hS.lot (by decide) (by decide) (by omega)) ?_
    refine g_aload_n 16 0 dX2_reservedFor_15 rfl rfl ?_
    refine g_geta 19 15 dX2_reservedFor_16 rfl fX2_33 hko (by decide) rfl rfl ?_
    refine g_iload_n 20 2 dX2_reservedFor_19 rfl rfl ?_
    refine g_iald 21 (nI (a 15 q)) dX2_reservedFor_20 rfl hko (by decide) rfl (by decide) (by omega) (hS.ord (by decide) (by decide) (by omega)) ?_
    refine g_icmpN_eq 26 24 dX2_reservedFor_21 rfl rfl (by have := hI.lot (l := p) (by omega); omega) (by have := hI.ord (o := q) (by omega); omega) (fun c21 => ?_) (fun c21 => ?_)
    · refine g_aload_n 27 0 dX2_reservedFor_26 rfl rfl ?_
      refine g_geta 30 20 dX2_reservedFor_27 rfl fX2_48 hko (by decide) rfl rfl ?_
      refine g_aload_n 31 0 dX2_reservedFor_30 rfl rfl ?_
      refine g_iload_n 32 1 dX2_reservedFor_31 rfl rfl ?_
      refine g_iload_n 33 2 dX2_reservedFor_32 rfl rfl ?_
      refine g_callVi 36 md_X2_cell [.int (nI p), .int (nI q)] [.ref (g o 20)] dX2_reservedFor_33 rfl e_X2_reservedFor_100 hko (by decide) rfl rfl (Nat.le_of_ble_eq_true rfl) (c_X2_cell hko hS hI p q (by omega) (by omega)) (fun r33 M33 h33 => ?_)
      obtain ⟨rfl, h33⟩ := h33
      have h33 := h33.symm
      subst h33
      refine g_iald 37 (nI (rc a p (a 14 q))) dX2_reservedFor_36 rfl hko (by decide) rfl (by decide) (by have := hI.ord (o := q) (by omega); omega) (hR p (by omega) (a 14 q) (by have := hI.ord (o := q) (by omega); omega)) ?_
      exact g_iret rfl dX2_reservedFor_37 ⟨by first | rw [rc_one hI hq (by assumption) (Eq.symm (by assumption))] | (rw [res_0 hr (by omega) (fun z => by omega)]), rfl⟩
    · refine g_iconst 25 (nI 0) dX2_reservedFor_24 rfl rfl ?_
      exact g_iret rfl dX2_reservedFor_25 ⟨by first | rw [rc_one hI hq (by assumption) (Eq.symm (by assumption))] | (rw [res_0 hr (by omega) (fun z => by omega)]), rfl⟩

set_option maxHeartbeats 4000000 in
set_option maxRecDepth 100000 in
theorem c_X2_setReserved {l : Launch} {D : va_G} {g : Nat → Nat → Nat} {ca : Nat → ClassId} {M : Mm} {o : Nat} {a : Sa} (hko : kd o = 2) (hS : RP (M.1 o) a) (hI : Iv a) (p q : Nat) (hp : p < a 0 3) (hq : q < a 0 4) (v : Nat) : Ct l D g ca md_X2_setReserved [.ref (g o 0), .int (nI p), .int (nI q), .int (nI v)] M (Rv (fun M1 => M1 = wr M o 20 (p * 6 + a 14 q) (nI v))) := by
  refine Ct.of (by decide) rfl (Nat.le_of_ble_eq_true rfl) ?_
  have b2 := hS.c6
  have b3 := hS.l24
  have b4 := hS.o41
  have b0 := hI.today
  have b1 := hI.g4
  have b1' := hI.g1
  show G l D g ca md_X2_setReserved 0 [(0, .ref (g o 0)), (1, .int (nI p)), (2, .int (nI q)), (3, .int (nI v))] [] M _
  refine g_aload_n 1 0 dX2_setReserved_0 rfl rfl ?_
  refine g_geta 4 20 dX2_setReserved_1 rfl fX2_48 hko (by decide) rfl rfl ?_
  refine g_aload_n 5 0 dX2_setReserved_4 rfl rfl ?_
  refine g_iload_n 6 1 dX2_setReserved_5 rfl rfl ?_
  refine g_iload_n 7 2 dX2_setReserved_6 rfl rfl ?_
  refine g_callVi 10 md_X2_cell [.int (nI p), .int (nI q)] [.ref (g o 20)] dX2_setReserved_7 rfl e_X2_setReserved_100 hko (by decide) rfl rfl (Nat.le_of_ble_eq_true rfl) (c_X2_cell hko hS hI p q (by omega) (by omega)) (fun r7 M7 h7 => ?_)
  obtain ⟨rfl, h7⟩ := h7
  have h7 := h7.symm
  subst h7
  refine g_iload_n 11 3 dX2_setReserved_10 rfl rfl ?_
  refine g_iast 12 dX2_setReserved_11 rfl hko (by decide) rfl (by decide) (by have := hI.ord (o := q) (by omega); omega) ?_
  exact g_vret rfl dX2_setReserved_12 rfl

set_option maxHeartbeats 4000000 in
set_option maxRecDepth 100000 in
theorem c_X2_reservedOfLot {l : Launch} {D : va_G} {g : Nat → Nat → Nat} {ca : Nat → ClassId} {M : Mm} {o : Nat} {a : Sa} (hko : kd o = 2) (hS : RP (M.1 o) a) (hI : Iv a) (hR : RR (M.1 o) a) (hr : Ir a) (p : Nat) (hp : p < a 0 3) : Ct l D g ca md_X2_reservedOfLot [.ref (g o 0), .int (nI p)] M (Ri (fun r M1 => r = nI (fb_sm (res a p) (a 0 4)) ∧ M1 = M)) := by
  refine Ct.of (by decide) rfl (Nat.le_of_ble_eq_true rfl) ?_
  have b2 := hS.c6
  have b3 := hS.l24
  have b4 := hS.o41
  have b0 := hI.today
  have b1 := hI.g4
  have b1' := hI.g1
  have b5 := hr.2
  show G l D g ca md_X2_reservedOfLot 0 [(0, .ref (g o 0)), (1, .int (nI p))] [] M _
  refine g_iconst 1 (nI 0) dX2_reservedOfLot_0 rfl rfl ?_
  refine g_istore_n 2 [(2, .int (nI 0)), (0, .ref (g o 0)), (1, .int (nI p))] dX2_reservedOfLot_1 rfl (by decide) rfl ?_
  refine g_iconst 3 (nI 0) dX2_reservedOfLot_2 rfl rfl ?_
  refine g_istore_n 4 [(3, .int (nI 0)), (2, .int (nI 0)), (0, .ref (g o 0)), (1, .int (nI p))] dX2_reservedOfLot_3 rfl (by decide) rfl ?_
  have L4 : ∀ k, k ≤ a 0 2 → ∀ v, v = fb_sm (rc a p) k → G l D g ca md_X2_reservedOfLot 4 [(3, .int (nI k)), (2, .int (nI v)), (0, .ref (g o 0)), (1, .int (nI p))] [] M (Ri (fun r M1 => r = nI (fb_sm (res a p) (a 0 4)) ∧ M1 = M)) := by
    refine upto ?_
    intro k hk ih4 v hv
    refine g_iload_n 5 0 dX2_reservedOfLot_4 rfl rfl ?_
    refine g_aload_n 6 2 dX2_reservedOfLot_5 rfl rfl ?_
    refine g_get 9 (nI (a 0 2)) dX2_reservedOfLot_6 rfl fX2_58 hko (by decide) rfl (hS.sc (by decide)) ?_
    refine g_icmpN_ge 32 12 dX2_reservedOfLot_9 rfl rfl (by omega) (by omega) (fun c9 => ?_) (fun c9 => ?_)
    · refine g_iload_n 33 1 dX2_reservedOfLot_32 rfl rfl ?_
      exact g_iret rfl dX2_reservedOfLot_33 ⟨by rw [hv, show k = a 0 2 by omega, rc_sum hI hr], rfl⟩
    · refine g_iload_n 13 1 dX2_reservedOfLot_12 rfl rfl ?_
      refine g_aload_n 14 2 dX2_reservedOfLot_13 rfl rfl ?_
      refine g_geta 17 20 dX2_reservedOfLot_14 rfl fX2_48 hko (by decide) rfl rfl ?_
      refine g_iload_n 18 3 dX2_reservedOfLot_17 rfl rfl ?_
      refine g_bipush 20 (nI 6) dX2_reservedOfLot_18 rfl rfl ?_
      refine g_imul 21 (nI (p * 6)) dX2_reservedOfLot_20 rfl (pk_mul p 6) ?_
      refine g_iload_n 22 0 dX2_reservedOfLot_21 rfl rfl ?_
      refine g_iadd 23 (nI ((p * 6) + k)) dX2_reservedOfLot_22 rfl (nI_add (p * 6) k) ?_
      refine g_iald 24 (nI (rc a p k)) dX2_reservedOfLot_23 rfl hko (by decide) rfl (by decide) (by omega) (hR p (by omega) k (by omega)) ?_
      refine g_iadd 25 (nI (v + (rc a p k))) dX2_reservedOfLot_24 rfl (nI_add v (rc a p k)) ?_
      refine g_istore_n 26 [(2, .int (nI (v + (rc a p k)))), (3, .int (nI k)), (0, .ref (g o 0)), (1, .int (nI p))] dX2_reservedOfLot_25 rfl (by decide) rfl ?_
      refine g_iinc 29 (nI (k + 1)) [(3, .int (nI (k + 1))), (2, .int (nI (v + (rc a p k)))), (0, .ref (g o 0)), (1, .int (nI p))] dX2_reservedOfLot_26 rfl 1 rfl (nI_add k 1) (by decide) rfl ?_
      refine g_goto 4 dX2_reservedOfLot_29 rfl ?_
      exact ih4 (by omega) _ (by rw [fb_sm_succ, hv])
  exact L4 0 (Nat.zero_le _) 0 rfl

set_option maxHeartbeats 4000000 in
set_option maxRecDepth 100000 in
theorem c_X2_reservedForOrder {l : Launch} {D : va_G} {g : Nat → Nat → Nat} {ca : Nat → ClassId} {M : Mm} {o : Nat} {a : Sa} (hko : kd o = 2) (hS : RP (M.1 o) a) (hI : Iv a) (hR : RR (M.1 o) a) (hr : Ir a) (q : Nat) (hq : q < a 0 4) : Ct l D g ca md_X2_reservedForOrder [.ref (g o 0), .int (nI q)] M (Ri (fun r M1 => r = nI (fb_sm (fun p => res a p q) (a 0 3)) ∧ M1 = M)) := by
  refine Ct.of (by decide) rfl (Nat.le_of_ble_eq_true rfl) ?_
  have b2 := hS.c6
  have b3 := hS.l24
  have b4 := hS.o41
  have b0 := hI.today
  have b1 := hI.g4
  have b1' := hI.g1
  have b5 := hr.2
  show G l D g ca md_X2_reservedForOrder 0 [(0, .ref (g o 0)), (1, .int (nI q))] [] M _
  refine g_iconst 1 (nI 0) dX2_reservedForOrder_0 rfl rfl ?_
  refine g_istore_n 2 [(2, .int (nI 0)), (0, .ref (g o 0)), (1, .int (nI q))] dX2_reservedForOrder_1 rfl (by decide) rfl ?_
  refine g_iconst 3 (nI 0) dX2_reservedForOrder_2 rfl rfl ?_
  refine g_istore_n 4 [(3, .int (nI 0)), (2, .int (nI 0)), (0, .ref (g o 0)), (1, .int (nI q))] dX2_reservedForOrder_3 rfl (by decide) rfl ?_
  have L4 : ∀ k, k ≤ a 0 3 → ∀ v, v = fb_sm (fun p => res a p q) k → G l D g ca md_X2_reservedForOrder 4 [(3, .int (nI k)), (2, .int (nI v)), (0, .ref (g o 0)), (1, .int (nI q))] [] M (Ri (fun r M1 => r = nI (fb_sm (fun p => res a p q) (a 0 3)) ∧ M1 = M)) := by
    refine upto ?_
    intro k hk ih4 v hv
    refine g_iload_n 5 0 dX2_reservedForOrder_4 rfl rfl ?_
    refine g_aload_n 6 2 dX2_reservedForOrder_5 rfl rfl ?_
    refine g_get 9 (nI (a 0 3)) dX2_reservedForOrder_6 rfl fX2_61 hko (by decide) rfl (hS.sc (by decide)) ?_
    refine g_icmpN_ge 27 12 dX2_reservedForOrder_9 rfl rfl (by omega) (by omega) (fun c9 => ?_) (fun c9 => ?_)
    · refine g_iload_n 28 1 dX2_reservedForOrder_27 rfl rfl ?_
      exact g_iret rfl dX2_reservedForOrder_28 ⟨by rw [hv, show k = a 0 3 by omega], rfl⟩
    · refine g_iload_n 13 1 dX2_reservedForOrder_12 rfl rfl ?_
      refine g_aload_n 14 2 dX2_reservedForOrder_13 rfl rfl ?_
      refine g_iload_n 15 0 dX2_reservedForOrder_14 rfl rfl ?_
      refine g_iload_n 16 3 dX2_reservedForOrder_15 rfl rfl ?_
      refine g_callVi 19 md_X2_reservedFor [.int (nI k), .int (nI q)] [.int (nI v)] dX2_reservedForOrder_16 rfl e_X2_reservedForOrder_103 hko (by decide) rfl rfl (Nat.le_of_ble_eq_true rfl) (c_X2_reservedFor hko hS hI hR hr k q (by omega) (by omega)) (fun r16 M16 h16 => ?_)
      obtain ⟨rfl, h16⟩ := h16
      have h16 := h16.symm
      subst h16
      refine g_iadd 20 (nI (v + (res a k q))) dX2_reservedForOrder_19 rfl (nI_add v (res a k q)) ?_
      refine g_istore_n 21 [(2, .int (nI (v + (res a k q)))), (3, .int (nI k)), (0, .ref (g o 0)), (1, .int (nI q))] dX2_reservedForOrder_20 rfl (by decide) rfl ?_
      refine g_iinc 24 (nI (k + 1)) [(3, .int (nI (k + 1))), (2, .int (nI (v + (res a k q)))), (0, .ref (g o 0)), (1, .int (nI q))] dX2_reservedForOrder_21 rfl 1 rfl (nI_add k 1) (by decide) rfl ?_
      refine g_goto 4 dX2_reservedForOrder_24 rfl ?_
      exact ih4 (by omega) _ (by rw [fb_sm_succ, hv])
  exact L4 0 (Nat.zero_le _) 0 rfl

set_option maxHeartbeats 4000000 in
set_option maxRecDepth 100000 in
theorem c_X2_sumReserved {l : Launch} {D : va_G} {g : Nat → Nat → Nat} {ca : Nat → ClassId} {M : Mm} {o : Nat} {a : Sa} (hko : kd o = 2) (hS : RP (M.1 o) a) (hI : Iv a) (hR : RR (M.1 o) a) (hr : Ir a) : Ct l D g ca md_X2_sumReserved [.ref (g o 0)] M (Ri (fun r M1 => r = nI (fb_sm (fun p => fb_sm (res a p) (a 0 4)) (a 0 3)) ∧ M1 = M)) := by
  refine Ct.of (by decide) rfl (Nat.le_of_ble_eq_true rfl) ?_
  have b2 := hS.c6
  have b3 := hS.l24
  have b4 := hS.o41
  have b0 := hI.today
  have b1 := hI.g4
  have b1' := hI.g1
  have b5 := hr.2
  show G l D g ca md_X2_sumReserved 0 [(0, .ref (g o 0))] [] M _
  refine g_iconst 1 (nI 0) dX2_sumReserved_0 rfl rfl ?_
  refine g_istore_n 2 [(1, .int (nI 0)), (0, .ref (g o 0))] dX2_sumReserved_1 rfl (by decide) rfl ?_
  refine g_iconst 3 (nI 0) dX2_sumReserved_2 rfl rfl ?_
  refine g_istore_n 4 [(2, .int (nI 0)), (1, .int (nI 0)), (0, .ref (g o 0))] dX2_sumReserved_3 rfl (by decide) rfl ?_
  have L4 : ∀ k, k ≤ a 0 3 → ∀ v, v = fb_sm (fun p => fb_sm (res a p) (a 0 4)) k → G l D g ca md_X2_sumReserved 4 [(2, .int (nI k)), (1, .int (nI v)), (0, .ref (g o 0))] [] M (Ri (fun r M1 => r = nI (fb_sm (fun p => fb_sm (res a p) (a 0 4)) (a 0 3)) ∧ M1 = M)) := by
    refine upto ?_
    intro k hk ih4 v hv
    refine g_iload_n 5 0 dX2_sumReserved_4 rfl rfl ?_
    refine g_aload_n 6 2 dX2_sumReserved_5 rfl rfl ?_
    refine g_get 9 (nI (a 0 3)) dX2_sumReserved_6 rfl fX2_61 hko (by decide) rfl (hS.sc (by decide)) ?_
    refine g_icmpN_ge 26 12 dX2_sumReserved_9 rfl rfl (by omega) (by omega) (fun c9 => ?_) (fun c9 => ?_)
    · refine g_iload_n 27 1 dX2_sumReserved_26 rfl rfl ?_
      exact g_iret rfl dX2_sumReserved_27 ⟨by rw [hv, show k = a 0 3 by omega], rfl⟩
    · refine g_iload_n 13 1 dX2_sumReserved_12 rfl rfl ?_
      refine g_aload_n 14 2 dX2_sumReserved_13 rfl rfl ?_
      refine g_iload_n 15 0 dX2_sumReserved_14 rfl rfl ?_
      refine g_callVi 18 md_X2_reservedOfLot [.int (nI k)] [.int (nI v)] dX2_sumReserved_15 rfl e_X2_sumReserved_93 hko (by decide) rfl rfl (Nat.le_of_ble_eq_true rfl) (c_X2_reservedOfLot hko hS hI hR hr k (by omega)) (fun r15 M15 h15 => ?_)
      obtain ⟨rfl, h15⟩ := h15
      have h15 := h15.symm
      subst h15
      refine g_iadd 19 (nI (v + (fb_sm (res a k) (a 0 4)))) dX2_sumReserved_18 rfl (nI_add v (fb_sm (res a k) (a 0 4))) ?_
      refine g_istore_n 20 [(1, .int (nI (v + (fb_sm (res a k) (a 0 4))))), (2, .int (nI k)), (0, .ref (g o 0))] dX2_sumReserved_19 rfl (by decide) rfl ?_
      refine g_iinc 23 (nI (k + 1)) [(2, .int (nI (k + 1))), (1, .int (nI (v + (fb_sm (res a k) (a 0 4))))), (0, .ref (g o 0))] dX2_sumReserved_20 rfl 1 rfl (nI_add k 1) (by decide) rfl ?_
      refine g_goto 4 dX2_sumReserved_23 rfl ?_
      exact ih4 (by omega) _ (by rw [fb_sm_succ, hv])
  exact L4 0 (Nat.zero_le _) 0 rfl

set_option maxHeartbeats 4000000 in
set_option maxRecDepth 100000 in
theorem c_X2_release {l : Launch} {D : va_G} {g : Nat → Nat → Nat} {ca : Nat → ClassId} {M : Mm} {o : Nat} {a : Sa} (hko : kd o = 2) (hS : RP (M.1 o) a) (hI : Iv a) (hR : RR (M.1 o) a) (hr : Ir a) (p q : Nat) (hp : p < a 0 3) (hq : q < a 0 4) (hb : res a p q < 2147483648) : Ct l D g ca md_X2_release [.ref (g o 0), .int (nI p), .int (nI q)] M (Ri (fun r M1 => r = nI (res a p q) ∧ RR (M1.1 o) (ua a 21 (64 * p + q) 0) ∧ F20 o M M1)) := by
  refine Ct.of (by decide) rfl (Nat.le_of_ble_eq_true rfl) ?_
  have b2 := hS.c6
  have b3 := hS.l24
  have b4 := hS.o41
  have b0 := hI.today
  have b1 := hI.g4
  have b1' := hI.g1
  have b5 := hr.2
  show G l D g ca md_X2_release 0 [(0, .ref (g o 0)), (1, .int (nI p)), (2, .int (nI q))] [] M _
  refine g_aload_n 1 0 dX2_release_0 rfl rfl ?_
  refine g_iload_n 2 1 dX2_release_1 rfl rfl ?_
  refine g_iload_n 3 2 dX2_release_2 rfl rfl ?_
  refine g_callVi 6 md_X2_reservedFor [.int (nI p), .int (nI q)] [] dX2_release_3 rfl e_X2_release_103 hko (by decide) rfl rfl (Nat.le_of_ble_eq_true rfl) (c_X2_reservedFor hko hS hI hR hr p q (by omega) (by omega)) (fun r3 M3 h3 => ?_)
  obtain ⟨rfl, h3⟩ := h3
  have h3 := h3.symm
  subst h3
  refine g_istore_n 7 [(3, .int (nI (res a p q))), (0, .ref (g o 0)), (1, .int (nI p)), (2, .int (nI q))] dX2_release_6 rfl (by decide) rfl ?_
  refine g_iload_n 8 0 dX2_release_7 rfl rfl ?_
  refine g_ifN_le 18 11 dX2_release_8 rfl rfl (by first | omega | exact hb) (fun c8 => ?_) (fun c8 => ?_)
  · refine g_iload_n 19 0 dX2_release_18 rfl rfl ?_
    exact g_iret rfl dX2_release_19 ⟨rfl, RR_of (fun _ _ => rfl) (fun j i hj => ua_nj (by omega)) (fun p' q' hp' hq' => release_0 (by omega) (by omega) c8) hR, F20.rf⟩
  · refine g_aload_n 12 1 dX2_release_11 rfl rfl ?_
    refine g_iload_n 13 2 dX2_release_12 rfl rfl ?_
    refine g_iload_n 14 3 dX2_release_13 rfl rfl ?_
    refine g_iconst 15 (nI 0) dX2_release_14 rfl rfl ?_
    refine g_callVv 18 md_X2_setReserved [.int (nI p), .int (nI q), .int (nI 0)] [] dX2_release_15 rfl e_X2_release_109 hko (by decide) rfl rfl (Nat.le_of_ble_eq_true rfl) (c_X2_setReserved hko hS hI p q (by omega) (by omega) 0) (fun M15 h15 => ?_)
    subst h15
    refine g_iload_n 19 0 dX2_release_18 rfl rfl ?_
    exact g_iret rfl dX2_release_19 ⟨rfl, RR_set hI hr (by omega) hq (hr.1 p q (by omega) (by omega)).2.2.1 (hr.1 p q (by omega) (by omega)).2.2.2 (fun i hi hne => wr_ne (by omega)) wr_eq hR, F20.wr⟩
