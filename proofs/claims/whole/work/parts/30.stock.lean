set_option maxHeartbeats 4000000 in
set_option maxRecDepth 100000 in
theorem c_X2_hasGood {l : Launch} {D : va_G} {g : Nat → Nat → Nat} {ca : Nat → ClassId} {M : Mm} {o : Nat} {a : Sa} (hko : kd o = 2) (hS : RP (M.1 o) a) (hI : Iv a) (x : Int32) : Ct l D g ca md_X2_hasGood [.ref (g o 0), .int x] M (Ri (fun r M1 => r = bi (inr x (a 0 1)) ∧ M1 = M)) := by
  refine Ct.of (by decide) rfl (Nat.le_of_ble_eq_true rfl) ?_
  have b2 := hS.c6
  have b3 := hS.l24
  have b4 := hS.o41
  have b0 := hI.today
  have b1 := hI.g4
  have b1' := hI.g1
  show G l D g ca md_X2_hasGood 0 [(0, .ref (g o 0)), (1, .int x)] [] M _
  refine g_iload_n 1 1 dX2_hasGood_0 rfl rfl ?_
  refine g_if_lt 16 4 dX2_hasGood_1 rfl rfl (fun c1 => ?_) (fun c1 => ?_)
  · refine g_iconst 17 (nI 0) dX2_hasGood_16 rfl rfl ?_
    exact g_zret rfl dX2_hasGood_17 rfl ⟨(by first | (rw [inr_t (by omega) (by assumption) (by assumption)]; rfl) | (rw [inr_f1 (by assumption)]; rfl) | (rw [inr_f2 (by omega) (by assumption)]; rfl)), rfl⟩
  · refine g_iload_n 5 1 dX2_hasGood_4 rfl rfl ?_
    refine g_aload_n 6 0 dX2_hasGood_5 rfl rfl ?_
    refine g_get 9 (nI (a 0 1)) dX2_hasGood_6 rfl fX2_55 hko (by decide) rfl (hS.sc (by decide)) ?_
    refine g_icmp_ge 16 12 dX2_hasGood_9 rfl rfl (fun c9 => ?_) (fun c9 => ?_)
    · refine g_iconst 17 (nI 0) dX2_hasGood_16 rfl rfl ?_
      exact g_zret rfl dX2_hasGood_17 rfl ⟨(by first | (rw [inr_t (by omega) (by assumption) (by assumption)]; rfl) | (rw [inr_f1 (by assumption)]; rfl) | (rw [inr_f2 (by omega) (by assumption)]; rfl)), rfl⟩
    · refine g_iconst 13 (nI 1) dX2_hasGood_12 rfl rfl ?_
      refine g_goto 17 dX2_hasGood_13 rfl ?_
      exact g_zret rfl dX2_hasGood_17 rfl ⟨(by first | (rw [inr_t (by omega) (by assumption) (by assumption)]; rfl) | (rw [inr_f1 (by assumption)]; rfl) | (rw [inr_f2 (by omega) (by assumption)]; rfl)), rfl⟩

set_option maxHeartbeats 4000000 in
set_option maxRecDepth 100000 in
theorem c_X2_hasCustomer {l : Launch} {D : va_G} {g : Nat → Nat → Nat} {ca : Nat → ClassId} {M : Mm} {o : Nat} {a : Sa} (hko : kd o = 2) (hS : RP (M.1 o) a) (hI : Iv a) (x : Int32) : Ct l D g ca md_X2_hasCustomer [.ref (g o 0), .int x] M (Ri (fun r M1 => r = bi (inr x (a 0 2)) ∧ M1 = M)) := by
  refine Ct.of (by decide) rfl (Nat.le_of_ble_eq_true rfl) ?_
  have b2 := hS.c6
  have b3 := hS.l24
  have b4 := hS.o41
  have b0 := hI.today
  have b1 := hI.g4
  have b1' := hI.g1
  show G l D g ca md_X2_hasCustomer 0 [(0, .ref (g o 0)), (1, .int x)] [] M _
  refine g_iload_n 1 1 dX2_hasCustomer_0 rfl rfl ?_
  refine g_if_lt 16 4 dX2_hasCustomer_1 rfl rfl (fun c1 => ?_) (fun c1 => ?_)
  · refine g_iconst 17 (nI 0) dX2_hasCustomer_16 rfl rfl ?_
    exact g_zret rfl dX2_hasCustomer_17 rfl ⟨(by first | (rw [inr_t (by omega) (by assumption) (by assumption)]; rfl) | (rw [inr_f1 (by assumption)]; rfl) | (rw [inr_f2 (by omega) (by assumption)]; rfl)), rfl⟩
  · refine g_iload_n 5 1 dX2_hasCustomer_4 rfl rfl ?_
    refine g_aload_n 6 0 dX2_hasCustomer_5 rfl rfl ?_
    refine g_get 9 (nI (a 0 2)) dX2_hasCustomer_6 rfl fX2_58 hko (by decide) rfl (hS.sc (by decide)) ?_
    refine g_icmp_ge 16 12 dX2_hasCustomer_9 rfl rfl (fun c9 => ?_) (fun c9 => ?_)
    · refine g_iconst 17 (nI 0) dX2_hasCustomer_16 rfl rfl ?_
      exact g_zret rfl dX2_hasCustomer_17 rfl ⟨(by first | (rw [inr_t (by omega) (by assumption) (by assumption)]; rfl) | (rw [inr_f1 (by assumption)]; rfl) | (rw [inr_f2 (by omega) (by assumption)]; rfl)), rfl⟩
    · refine g_iconst 13 (nI 1) dX2_hasCustomer_12 rfl rfl ?_
      refine g_goto 17 dX2_hasCustomer_13 rfl ?_
      exact g_zret rfl dX2_hasCustomer_17 rfl ⟨(by first | (rw [inr_t (by omega) (by assumption) (by assumption)]; rfl) | (rw [inr_f1 (by assumption)]; rfl) | (rw [inr_f2 (by omega) (by assumption)]; rfl)), rfl⟩

set_option maxHeartbeats 4000000 in
set_option maxRecDepth 100000 in
theorem c_X2_hasLot {l : Launch} {D : va_G} {g : Nat → Nat → Nat} {ca : Nat → ClassId} {M : Mm} {o : Nat} {a : Sa} (hko : kd o = 2) (hS : RP (M.1 o) a) (hI : Iv a) (x : Int32) : Ct l D g ca md_X2_hasLot [.ref (g o 0), .int x] M (Ri (fun r M1 => r = bi (inr x (a 0 3)) ∧ M1 = M)) := by
  refine Ct.of (by decide) rfl (Nat.le_of_ble_eq_true rfl) ?_
  have b2 := hS.c6
  have b3 := hS.l24
  have b4 := hS.o41
  have b0 := hI.today
  have b1 := hI.g4
  have b1' := hI.g1
  show G l D g ca md_X2_hasLot 0 [(0, .ref (g o 0)), (1, .int x)] [] M _
  refine g_iload_n 1 1 dX2_hasLot_0 rfl rfl ?_
  refine g_if_lt 16 4 dX2_hasLot_1 rfl rfl (fun c1 => ?_) (fun c1 => ?_)
  · refine g_iconst 17 (nI 0) dX2_hasLot_16 rfl rfl ?_
    exact g_zret rfl dX2_hasLot_17 rfl ⟨(by first | (rw [inr_t (by omega) (by assumption) (by assumption)]; rfl) | (rw [inr_f1 (by assumption)]; rfl) | (rw [inr_f2 (by omega) (by assumption)]; rfl)), rfl⟩
  · refine g_iload_n 5 1 dX2_hasLot_4 rfl rfl ?_
    refine g_aload_n 6 0 dX2_hasLot_5 rfl rfl ?_
    refine g_get 9 (nI (a 0 3)) dX2_hasLot_6 rfl fX2_61 hko (by decide) rfl (hS.sc (by decide)) ?_
    refine g_icmp_ge 16 12 dX2_hasLot_9 rfl rfl (fun c9 => ?_) (fun c9 => ?_)
    · refine g_iconst 17 (nI 0) dX2_hasLot_16 rfl rfl ?_
      exact g_zret rfl dX2_hasLot_17 rfl ⟨(by first | (rw [inr_t (by omega) (by assumption) (by assumption)]; rfl) | (rw [inr_f1 (by assumption)]; rfl) | (rw [inr_f2 (by omega) (by assumption)]; rfl)), rfl⟩
    · refine g_iconst 13 (nI 1) dX2_hasLot_12 rfl rfl ?_
      refine g_goto 17 dX2_hasLot_13 rfl ?_
      exact g_zret rfl dX2_hasLot_17 rfl ⟨(by first | (rw [inr_t (by omega) (by assumption) (by assumption)]; rfl) | (rw [inr_f1 (by assumption)]; rfl) | (rw [inr_f2 (by omega) (by assumption)]; rfl)), rfl⟩

set_option maxHeartbeats 4000000 in
set_option maxRecDepth 100000 in
theorem c_X2_hasOrder {l : Launch} {D : va_G} {g : Nat → Nat → Nat} {ca : Nat → ClassId} {M : Mm} {o : Nat} {a : Sa} (hko : kd o = 2) (hS : RP (M.1 o) a) (hI : Iv a) (x : Int32) : Ct l D g ca md_X2_hasOrder [.ref (g o 0), .int x] M (Ri (fun r M1 => r = bi (inr x (a 0 4)) ∧ M1 = M)) := by
  refine Ct.of (by decide) rfl (Nat.le_of_ble_eq_true rfl) ?_
  have b2 := hS.c6
  have b3 := hS.l24
  have b4 := hS.o41
  have b0 := hI.today
  have b1 := hI.g4
  have b1' := hI.g1
  show G l D g ca md_X2_hasOrder 0 [(0, .ref (g o 0)), (1, .int x)] [] M _
  refine g_iload_n 1 1 dX2_hasOrder_0 rfl rfl ?_
  refine g_if_lt 16 4 dX2_hasOrder_1 rfl rfl (fun c1 => ?_) (fun c1 => ?_)
  · refine g_iconst 17 (nI 0) dX2_hasOrder_16 rfl rfl ?_
    exact g_zret rfl dX2_hasOrder_17 rfl ⟨(by first | (rw [inr_t (by omega) (by assumption) (by assumption)]; rfl) | (rw [inr_f1 (by assumption)]; rfl) | (rw [inr_f2 (by omega) (by assumption)]; rfl)), rfl⟩
  · refine g_iload_n 5 1 dX2_hasOrder_4 rfl rfl ?_
    refine g_aload_n 6 0 dX2_hasOrder_5 rfl rfl ?_
    refine g_get 9 (nI (a 0 4)) dX2_hasOrder_6 rfl fX2_64 hko (by decide) rfl (hS.sc (by decide)) ?_
    refine g_icmp_ge 16 12 dX2_hasOrder_9 rfl rfl (fun c9 => ?_) (fun c9 => ?_)
    · refine g_iconst 17 (nI 0) dX2_hasOrder_16 rfl rfl ?_
      exact g_zret rfl dX2_hasOrder_17 rfl ⟨(by first | (rw [inr_t (by omega) (by assumption) (by assumption)]; rfl) | (rw [inr_f1 (by assumption)]; rfl) | (rw [inr_f2 (by omega) (by assumption)]; rfl)), rfl⟩
    · refine g_iconst 13 (nI 1) dX2_hasOrder_12 rfl rfl ?_
      refine g_goto 17 dX2_hasOrder_13 rfl ?_
      exact g_zret rfl dX2_hasOrder_17 rfl ⟨(by first | (rw [inr_t (by omega) (by assumption) (by assumption)]; rfl) | (rw [inr_f1 (by assumption)]; rfl) | (rw [inr_f2 (by omega) (by assumption)]; rfl)), rfl⟩

set_option maxHeartbeats 4000000 in
set_option maxRecDepth 100000 in
theorem c_X2_isOpen {l : Launch} {D : va_G} {g : Nat → Nat → Nat} {ca : Nat → ClassId} {M : Mm} {o : Nat} {a : Sa} (hko : kd o = 2) (hS : RP (M.1 o) a) (hI : Iv a) (x : Int32) : Ct l D g ca md_X2_isOpen [.ref (g o 0), .int x] M (Ri (fun r M1 => r = bi (opn a x) ∧ M1 = M)) := by
  refine Ct.of (by decide) rfl (Nat.le_of_ble_eq_true rfl) ?_
  have b2 := hS.c6
  have b3 := hS.l24
  have b4 := hS.o41
  have b0 := hI.today
  have b1 := hI.g4
  have b1' := hI.g1
  show G l D g ca md_X2_isOpen 0 [(0, .ref (g o 0)), (1, .int x)] [] M _
  refine g_aload_n 1 0 dX2_isOpen_0 rfl rfl ?_
  refine g_iload_n 2 1 dX2_isOpen_1 rfl rfl ?_
  refine g_callVi 5 md_X2_hasOrder [.int x] [] dX2_isOpen_2 rfl e_X2_isOpen_89 hko (by decide) rfl rfl (Nat.le_of_ble_eq_true rfl) (c_X2_hasOrder hko hS hI x) (fun r2 M2 h2 => ?_)
  obtain ⟨rfl, h2⟩ := h2
  have h2 := h2.symm
  subst h2
  refine g_ifB_eq 21 8 dX2_isOpen_5 rfl rfl (fun c5 => ?_) (fun c5 => ?_)
  · refine g_iconst 22 (nI 0) dX2_isOpen_21 rfl rfl ?_
    exact g_zret rfl dX2_isOpen_22 rfl ⟨(by first | (rw [opn_f1 (by assumption)]; rfl) | (rw [opn_nI hj (by omega)]; first | (rw [decide_eq_true (by assumption)]; rfl) | (rw [decide_eq_false (by omega)]; rfl))), rfl⟩
  · obtain ⟨j, hj, rfl⟩ := inr_of c5
    refine g_aload_n 9 0 dX2_isOpen_8 rfl rfl ?_
    refine g_geta 12 18 dX2_isOpen_9 rfl fX2_42 hko (by decide) rfl rfl ?_
    refine g_iload_n 13 1 dX2_isOpen_12 rfl rfl ?_
    refine g_iald 14 (nI (a 18 j)) dX2_isOpen_13 rfl hko (by decide) rfl (by decide) (by omega) (hS.ord (by decide) (by decide) (by omega)) ?_
    refine g_ifN_ne 21 17 dX2_isOpen_14 rfl rfl (by have := hI.ord (o := j) (by omega); omega) (fun c14 => ?_) (fun c14 => ?_)
    · refine g_iconst 22 (nI 0) dX2_isOpen_21 rfl rfl ?_
      exact g_zret rfl dX2_isOpen_22 rfl ⟨(by first | (rw [opn_f1 (by assumption)]; rfl) | (rw [opn_nI hj (by omega)]; first | (rw [decide_eq_true (by assumption)]; rfl) | (rw [decide_eq_false (by omega)]; rfl))), rfl⟩
    · refine g_iconst 18 (nI 1) dX2_isOpen_17 rfl rfl ?_
      refine g_goto 22 dX2_isOpen_18 rfl ?_
      exact g_zret rfl dX2_isOpen_22 rfl ⟨(by first | (rw [opn_f1 (by assumption)]; rfl) | (rw [opn_nI hj (by omega)]; first | (rw [decide_eq_true (by assumption)]; rfl) | (rw [decide_eq_false (by omega)]; rfl))), rfl⟩

set_option maxHeartbeats 4000000 in
set_option maxRecDepth 100000 in
theorem c_X2_isAhead {l : Launch} {D : va_G} {g : Nat → Nat → Nat} {ca : Nat → ClassId} {M : Mm} {o : Nat} {a : Sa} (hko : kd o = 2) (hS : RP (M.1 o) a) (hI : Iv a) (x : Int32) : Ct l D g ca md_X2_isAhead [.ref (g o 0), .int x] M (Ri (fun r M1 => r = bi (ahead a x) ∧ M1 = M)) := by
  refine Ct.of (by decide) rfl (Nat.le_of_ble_eq_true rfl) ?_
  have b2 := hS.c6
  have b3 := hS.l24
  have b4 := hS.o41
  have b0 := hI.today
  have b1 := hI.g4
  have b1' := hI.g1
  show G l D g ca md_X2_isAhead 0 [(0, .ref (g o 0)), (1, .int x)] [] M _
  refine g_iload_n 1 1 dX2_isAhead_0 rfl rfl ?_
  refine g_aload_n 2 0 dX2_isAhead_1 rfl rfl ?_
  refine g_get 5 (nI (a 0 0)) dX2_isAhead_2 rfl fX2_51 hko (by decide) rfl (hS.sc (by decide)) ?_
  refine g_icmp_lt 23 8 dX2_isAhead_5 rfl rfl (fun c5 => ?_) (fun c5 => ?_)
  · refine g_iconst 24 (nI 0) dX2_isAhead_23 rfl rfl ?_
    exact g_zret rfl dX2_isAhead_24 rfl ⟨(by first | (rw [ahead_t b0 (by first | assumption | exact Decidable.byContradiction (fun z => absurd (fa_of_nle z) (by assumption))) (by first | assumption | exact Decidable.byContradiction (fun z => absurd (fa_of_nle z) (by assumption)))]; rfl) | (rw [ahead_f1 b0 (by intro z; exact (fa_of_lt (by assumption)).2.1 z)]; rfl) | (rw [ahead_f2 b0 (by intro z; exact (fa_of_lt (by assumption)).2.1 z)]; rfl)), rfl⟩
  · refine g_iload_n 9 1 dX2_isAhead_8 rfl rfl ?_
    refine g_aload_n 10 0 dX2_isAhead_9 rfl rfl ?_
    refine g_get 13 (nI (a 0 0)) dX2_isAhead_10 rfl fX2_51 hko (by decide) rfl (hS.sc (by decide)) ?_
    refine g_bipush 15 (nI 99) dX2_isAhead_13 rfl rfl ?_
    refine g_iadd 16 (nI ((a 0 0) + 99)) dX2_isAhead_15 rfl (nI_add (a 0 0) 99) ?_
    refine g_icmp_gt 23 19 dX2_isAhead_16 rfl rfl (fun c16 => ?_) (fun c16 => ?_)
    · refine g_iconst 24 (nI 0) dX2_isAhead_23 rfl rfl ?_
      exact g_zret rfl dX2_isAhead_24 rfl ⟨(by first | (rw [ahead_t b0 (by first | assumption | exact Decidable.byContradiction (fun z => absurd (fa_of_nle z) (by assumption))) (by first | assumption | exact Decidable.byContradiction (fun z => absurd (fa_of_nle z) (by assumption)))]; rfl) | (rw [ahead_f1 b0 (by intro z; exact (fa_of_lt (by assumption)).2.1 z)]; rfl) | (rw [ahead_f2 b0 (by intro z; exact (fa_of_lt (by assumption)).2.1 z)]; rfl)), rfl⟩
    · refine g_iconst 20 (nI 1) dX2_isAhead_19 rfl rfl ?_
      refine g_goto 24 dX2_isAhead_20 rfl ?_
      exact g_zret rfl dX2_isAhead_24 rfl ⟨(by first | (rw [ahead_t b0 (by first | assumption | exact Decidable.byContradiction (fun z => absurd (fa_of_nle z) (by assumption))) (by first | assumption | exact Decidable.byContradiction (fun z => absurd (fa_of_nle z) (by assumption)))]; rfl) | (rw [ahead_f1 b0 (by intro z; exact (fa_of_lt (by assumption)).2.1 z)]; rfl) | (rw [ahead_f2 b0 (by intro z; exact (fa_of_lt (by assumption)).2.1 z)]; rfl)), rfl⟩

set_option maxHeartbeats 4000000 in
set_option maxRecDepth 100000 in
theorem c_X2_countOpen {l : Launch} {D : va_G} {g : Nat → Nat → Nat} {ca : Nat → ClassId} {M : Mm} {o : Nat} {a : Sa} (hko : kd o = 2) (hS : RP (M.1 o) a) (hI : Iv a) : Ct l D g ca md_X2_countOpen [.ref (g o 0)] M (Ri (fun r M1 => r = nI (fb_ct (fun i => decide (a 18 i = 0)) (a 0 4)) ∧ M1 = M)) := by
  refine Ct.of (by decide) rfl (Nat.le_of_ble_eq_true rfl) ?_
  have b2 := hS.c6
  have b3 := hS.l24
  have b4 := hS.o41
  have b0 := hI.today
  have b1 := hI.g4
  have b1' := hI.g1
  show G l D g ca md_X2_countOpen 0 [(0, .ref (g o 0))] [] M _
  refine g_iconst 1 (nI 0) dX2_countOpen_0 rfl rfl ?_
  refine g_istore_n 2 [(1, .int (nI 0)), (0, .ref (g o 0))] dX2_countOpen_1 rfl (by decide) rfl ?_
  refine g_iconst 3 (nI 0) dX2_countOpen_2 rfl rfl ?_
  refine g_istore_n 4 [(2, .int (nI 0)), (1, .int (nI 0)), (0, .ref (g o 0))] dX2_countOpen_3 rfl (by decide) rfl ?_
  have L4 : ∀ k, k ≤ a 0 4 → ∀ v, v = fb_ct (fun i => decide (a 18 i = 0)) k → G l D g ca md_X2_countOpen 4 [(2, .int (nI k)), (1, .int (nI v)), (0, .ref (g o 0))] [] M (Ri (fun r M1 => r = nI (fb_ct (fun i => decide (a 18 i = 0)) (a 0 4)) ∧ M1 = M)) := by
    refine upto ?_
    intro k hk ih4 v hv
    refine g_iload_n 5 0 dX2_countOpen_4 rfl rfl ?_
    refine g_aload_n 6 2 dX2_countOpen_5 rfl rfl ?_
    refine g_get 9 (nI (a 0 4)) dX2_countOpen_6 rfl fX2_64 hko (by decide) rfl (hS.sc (by decide)) ?_
    refine g_icmpN_ge 35 12 dX2_countOpen_9 rfl rfl (by omega) (by omega) (fun c9 => ?_) (fun c9 => ?_)
    · refine g_iload_n 36 1 dX2_countOpen_35 rfl rfl ?_
      exact g_iret rfl dX2_countOpen_36 ⟨by rw [hv, show k = a 0 4 by omega], rfl⟩
    · refine g_iload_n 13 1 dX2_countOpen_12 rfl rfl ?_
      refine g_aload_n 14 2 dX2_countOpen_13 rfl rfl ?_
      refine g_geta 17 18 dX2_countOpen_14 rfl fX2_42 hko (by decide) rfl rfl ?_
      refine g_iload_n 18 0 dX2_countOpen_17 rfl rfl ?_
      refine g_iald 19 (nI (a 18 k)) dX2_countOpen_18 rfl hko (by decide) rfl (by decide) (by omega) (hS.ord (by decide) (by decide) (by omega)) ?_
      refine g_ifN_ne 26 22 dX2_countOpen_19 rfl rfl (by have := hI.ord (o := k) (by omega); omega) (fun c19 => ?_) (fun c19 => ?_)
      · refine g_iconst 27 (nI 0) dX2_countOpen_26 rfl rfl ?_
        refine g_iadd 28 (nI (v + 0)) dX2_countOpen_27 rfl (nI_add v 0) ?_
        refine g_istore_n 29 [(1, .int (nI (v + 0))), (2, .int (nI k)), (0, .ref (g o 0))] dX2_countOpen_28 rfl (by decide) rfl ?_
        refine g_iinc 32 (nI (k + 1)) [(2, .int (nI (k + 1))), (1, .int (nI (v + 0))), (0, .ref (g o 0))] dX2_countOpen_29 rfl 1 rfl (nI_add k 1) (by decide) rfl ?_
        refine g_goto 4 dX2_countOpen_32 rfl ?_
        exact ih4 (by omega) _ (by rw [fb_ct_succ, hv]; first | rw [if_pos (decide_eq_true (by assumption))] | rw [if_neg (by rw [decide_eq_false (by omega)]; decide)])
      · refine g_iconst 23 (nI 1) dX2_countOpen_22 rfl rfl ?_
        refine g_goto 27 dX2_countOpen_23 rfl ?_
        refine g_iadd 28 (nI (v + 1)) dX2_countOpen_27 rfl (nI_add v 1) ?_
        refine g_istore_n 29 [(1, .int (nI (v + 1))), (2, .int (nI k)), (0, .ref (g o 0))] dX2_countOpen_28 rfl (by decide) rfl ?_
        refine g_iinc 32 (nI (k + 1)) [(2, .int (nI (k + 1))), (1, .int (nI (v + 1))), (0, .ref (g o 0))] dX2_countOpen_29 rfl 1 rfl (nI_add k 1) (by decide) rfl ?_
        refine g_goto 4 dX2_countOpen_32 rfl ?_
        exact ih4 (by omega) _ (by rw [fb_ct_succ, hv]; first | rw [if_pos (decide_eq_true (by assumption))] | rw [if_neg (by rw [decide_eq_false (by omega)]; decide)])
  exact L4 0 (Nat.zero_le _) 0 rfl

set_option maxHeartbeats 4000000 in
set_option maxRecDepth 100000 in
theorem c_X2_sumLeft {l : Launch} {D : va_G} {g : Nat → Nat → Nat} {ca : Nat → ClassId} {M : Mm} {o : Nat} {a : Sa} (hko : kd o = 2) (hS : RP (M.1 o) a) (hI : Iv a) : Ct l D g ca md_X2_sumLeft [.ref (g o 0)] M (Ri (fun r M1 => r = nI (fb_sm (a 12) (a 0 3)) ∧ M1 = M)) := by
  refine Ct.of (by decide) rfl (Nat.le_of_ble_eq_true rfl) ?_
  have b2 := hS.c6
  have b3 := hS.l24
  have b4 := hS.o41
  have b0 := hI.today
  have b1 := hI.g4
  have b1' := hI.g1
  show G l D g ca md_X2_sumLeft 0 [(0, .ref (g o 0))] [] M _
  refine g_iconst 1 (nI 0) dX2_sumLeft_0 rfl rfl ?_
  refine g_istore_n 2 [(1, .int (nI 0)), (0, .ref (g o 0))] dX2_sumLeft_1 rfl (by decide) rfl ?_
  refine g_iconst 3 (nI 0) dX2_sumLeft_2 rfl rfl ?_
  refine g_istore_n 4 [(2, .int (nI 0)), (1, .int (nI 0)), (0, .ref (g o 0))] dX2_sumLeft_3 rfl (by decide) rfl ?_
  have L4 : ∀ k, k ≤ a 0 3 → ∀ v, v = fb_sm (a 12) k → G l D g ca md_X2_sumLeft 4 [(2, .int (nI k)), (1, .int (nI v)), (0, .ref (g o 0))] [] M (Ri (fun r M1 => r = nI (fb_sm (a 12) (a 0 3)) ∧ M1 = M)) := by
    refine upto ?_
    intro k hk ih4 v hv
    refine g_iload_n 5 0 dX2_sumLeft_4 rfl rfl ?_
    refine g_aload_n 6 2 dX2_sumLeft_5 rfl rfl ?_
    refine g_get 9 (nI (a 0 3)) dX2_sumLeft_6 rfl fX2_61 hko (by decide) rfl (hS.sc (by decide)) ?_
    refine g_icmpN_ge 27 12 dX2_sumLeft_9 rfl rfl (by omega) (by omega) (fun c9 => ?_) (fun c9 => ?_)
    · refine g_iload_n 28 1 dX2_sumLeft_27 rfl rfl ?_
      exact g_iret rfl dX2_sumLeft_28 ⟨by rw [hv, show k = a 0 3 by omega], rfl⟩
    · refine g_iload_n 13 1 dX2_sumLeft_12 rfl rfl ?_
      refine g_aload_n 14 2 dX2_sumLeft_13 rfl rfl ?_
      refine g_geta 17 12 dX2_sumLeft_14 rfl fX2_24 hko (by decide) rfl rfl ?_
      refine g_iload_n 18 0 dX2_sumLeft_17 rfl rfl ?_
      refine g_iald 19 (nI (a 12 k)) dX2_sumLeft_18 rfl hko (by decide) rfl (by decide) (by omega) (hS.lot (by decide) (by decide) (by omega)) ?_
      refine g_iadd 20 (nI (v + (a 12 k))) dX2_sumLeft_19 rfl (nI_add v (a 12 k)) ?_
      refine g_istore_n 21 [(1, .int (nI (v + (a 12 k)))), (2, .int (nI k)), (0, .ref (g o 0))] dX2_sumLeft_20 rfl (by decide) rfl ?_
      refine g_iinc 24 (nI (k + 1)) [(2, .int (nI (k + 1))), (1, .int (nI (v + (a 12 k)))), (0, .ref (g o 0))] dX2_sumLeft_21 rfl 1 rfl (nI_add k 1) (by decide) rfl ?_
      refine g_goto 4 dX2_sumLeft_24 rfl ?_
      exact ih4 (by omega) _ (by rw [fb_sm_succ, hv])
  exact L4 0 (Nat.zero_le _) 0 rfl

set_option maxHeartbeats 4000000 in
set_option maxRecDepth 100000 in
theorem c_X2_openOrder {l : Launch} {D : va_G} {g : Nat → Nat → Nat} {ca : Nat → ClassId} {M : Mm} {o : Nat} {a : Sa} (hko : kd o = 2) (hS : RP (M.1 o) a) (hI : Iv a) (c gd : Nat) (hc : c < 65536) (hg : gd < 65536) : Ct l D g ca md_X2_openOrder [.ref (g o 0), .int (nI c), .int (nI gd)] M (Ri (fun r M1 => r = oop a c gd ∧ M1 = M)) := by
  refine Ct.of (by decide) rfl (Nat.le_of_ble_eq_true rfl) ?_
  have b2 := hS.c6
  have b3 := hS.l24
  have b4 := hS.o41
  have b0 := hI.today
  have b1 := hI.g4
  have b1' := hI.g1
  show G l D g ca md_X2_openOrder 0 [(0, .ref (g o 0)), (1, .int (nI c)), (2, .int (nI gd))] [] M _
  refine g_iconst 1 (nI 0) dX2_openOrder_0 rfl rfl ?_
  refine g_istore_n 2 [(3, .int (nI 0)), (0, .ref (g o 0)), (1, .int (nI c)), (2, .int (nI gd))] dX2_openOrder_1 rfl (by decide) rfl ?_
  have L2 : ∀ k, k ≤ a 0 4 → (∀ i, i < k → ¬ (a 14 i = c ∧ a 15 i = gd ∧ a 18 i = 0)) → G l D g ca md_X2_openOrder 2 [(3, .int (nI k)), (0, .ref (g o 0)), (1, .int (nI c)), (2, .int (nI gd))] [] M (Ri (fun r M1 => r = oop a c gd ∧ M1 = M)) := by
    refine upto ?_
    intro k hk ih2 hv
    refine g_iload_n 3 0 dX2_openOrder_2 rfl rfl ?_
    refine g_aload_n 4 1 dX2_openOrder_3 rfl rfl ?_
    refine g_get 7 (nI (a 0 4)) dX2_openOrder_4 rfl fX2_64 hko (by decide) rfl (hS.sc (by decide)) ?_
    refine g_icmpN_ge 47 10 dX2_openOrder_7 rfl rfl (by omega) (by omega) (fun c7 => ?_) (fun c7 => ?_)
    · refine g_iconst 48 ((-1)) dX2_openOrder_47 rfl rfl ?_
      exact g_iret rfl dX2_openOrder_48 ⟨by first | exact (oop_no (by intro i hi; exact hv i (by omega))).symm | exact (oop_yes (by omega) ⟨by assumption, by assumption, by assumption⟩ hv).symm, rfl⟩
    · refine g_aload_n 11 1 dX2_openOrder_10 rfl rfl ?_
      refine g_geta 14 14 dX2_openOrder_11 rfl fX2_30 hko (by decide) rfl rfl ?_
      refine g_iload_n 15 0 dX2_openOrder_14 rfl rfl ?_
      refine g_iald 16 (nI (a 14 k)) dX2_openOrder_15 rfl hko (by decide) rfl (by decide) (by omega) (hS.ord (by decide) (by decide) (by omega)) ?_
      refine g_iload_n 17 2 dX2_openOrder_16 rfl rfl ?_
      refine g_icmpN_ne 41 20 dX2_openOrder_17 rfl rfl (by have := hI.ord (o := k) (by omega); omega) (by omega) (fun c17 => ?_) (fun c17 => ?_)
      · refine g_iinc 44 (nI (k + 1)) [(3, .int (nI (k + 1))), (0, .ref (g o 0)), (1, .int (nI c)), (2, .int (nI gd))] dX2_openOrder_41 rfl 0 rfl (nI_add k 1) (by decide) rfl ?_
        refine g_goto 2 dX2_openOrder_44 rfl ?_
        exact ih2 (by omega) (lt_s hv (by omega))
      · refine g_aload_n 21 1 dX2_openOrder_20 rfl rfl ?_
        refine g_geta 24 15 dX2_openOrder_21 rfl fX2_33 hko (by decide) rfl rfl ?_
        refine g_iload_n 25 0 dX2_openOrder_24 rfl rfl ?_
        refine g_iald 26 (nI (a 15 k)) dX2_openOrder_25 rfl hko (by decide) rfl (by decide) (by omega) (hS.ord (by decide) (by decide) (by omega)) ?_
        refine g_iload_n 27 3 dX2_openOrder_26 rfl rfl ?_
        refine g_icmpN_ne 41 30 dX2_openOrder_27 rfl rfl (by have := hI.ord (o := k) (by omega); omega) (by omega) (fun c27 => ?_) (fun c27 => ?_)
        · refine g_iinc 44 (nI (k + 1)) [(3, .int (nI (k + 1))), (0, .ref (g o 0)), (1, .int (nI c)), (2, .int (nI gd))] dX2_openOrder_41 rfl 0 rfl (nI_add k 1) (by decide) rfl ?_
          refine g_goto 2 dX2_openOrder_44 rfl ?_
          exact ih2 (by omega) (lt_s hv (by omega))
        · refine g_aload_n 31 1 dX2_openOrder_30 rfl rfl ?_
          refine g_geta 34 18 dX2_openOrder_31 rfl fX2_42 hko (by decide) rfl rfl ?_
          refine g_iload_n 35 0 dX2_openOrder_34 rfl rfl ?_
          refine g_iald 36 (nI (a 18 k)) dX2_openOrder_35 rfl hko (by decide) rfl (by decide) (by omega) (hS.ord (by decide) (by decide) (by omega)) ?_
          refine g_ifN_ne 41 39 dX2_openOrder_36 rfl rfl (by have := hI.ord (o := k) (by omega); omega) (fun c36 => ?_) (fun c36 => ?_)
          · refine g_iinc 44 (nI (k + 1)) [(3, .int (nI (k + 1))), (0, .ref (g o 0)), (1, .int (nI c)), (2, .int (nI gd))] dX2_openOrder_41 rfl 0 rfl (nI_add k 1) (by decide) rfl ?_
            refine g_goto 2 dX2_openOrder_44 rfl ?_
            exact ih2 (by omega) (lt_s hv (by omega))
          · refine g_iload_n 40 0 dX2_openOrder_39 rfl rfl ?_
            exact g_iret rfl dX2_openOrder_40 ⟨by first | exact (oop_no (by intro i hi; exact hv i (by omega))).symm | exact (oop_yes (by omega) ⟨by assumption, by assumption, by assumption⟩ hv).symm, rfl⟩
  exact L2 0 (Nat.zero_le _) (fun i hi => absurd hi (Nat.not_lt_zero i))

set_option maxHeartbeats 4000000 in
set_option maxRecDepth 100000 in
theorem c_X2_latestOf {l : Launch} {D : va_G} {g : Nat → Nat → Nat} {ca : Nat → ClassId} {M : Mm} {o : Nat} {a : Sa} (hko : kd o = 2) (hS : RP (M.1 o) a) (hI : Iv a) (c gd : Nat) (hc : c < 6) (hg : gd < 4) : Ct l D g ca md_X2_latestOf [.ref (g o 0), .int (nI c), .int (nI gd)] M (Ri (fun r M1 => r = nI (a 9 (c * 4 + gd)) - 1 ∧ M1 = M)) := by
  refine Ct.of (by decide) rfl (Nat.le_of_ble_eq_true rfl) ?_
  have b2 := hS.c6
  have b3 := hS.l24
  have b4 := hS.o41
  have b0 := hI.today
  have b1 := hI.g4
  have b1' := hI.g1
  show G l D g ca md_X2_latestOf 0 [(0, .ref (g o 0)), (1, .int (nI c)), (2, .int (nI gd))] [] M _
  refine g_aload_n 1 0 dX2_latestOf_0 rfl rfl ?_
  refine g_geta 4 9 dX2_latestOf_1 rfl fX2_15 hko (by decide) rfl rfl ?_
  refine g_iload_n 5 1 dX2_latestOf_4 rfl rfl ?_
  refine g_iconst 6 (nI 4) dX2_latestOf_5 rfl rfl ?_
  refine g_imul 7 (nI (c * 4)) dX2_latestOf_6 rfl (pk_mul c 4) ?_
  refine g_iload_n 8 2 dX2_latestOf_7 rfl rfl ?_
  refine g_iadd 9 (nI ((c * 4) + gd)) dX2_latestOf_8 rfl (nI_add (c * 4) gd) ?_
  refine g_iald 10 (nI (a 9 ((c * 4) + gd)) - 1) dX2_latestOf_9 rfl hko (by decide) rfl (by decide) (by omega) (hS.latest (by omega)) ?_
  exact g_iret rfl dX2_latestOf_10 ⟨rfl, rfl⟩

set_option maxHeartbeats 4000000 in
set_option maxRecDepth 100000 in
theorem c_X2_fits {l : Launch} {D : va_G} {g : Nat → Nat → Nat} {ca : Nat → ClassId} {M : Mm} {o : Nat} {a : Sa} (hko : kd o = 2) (hS : RP (M.1 o) a) (hI : Iv a) (q p : Nat) (ho : q < a 0 4) (hl : p < a 0 3) : Ct l D g ca md_X2_fits [.ref (g o 0), .int (nI p), .int (nI q)] M (Ri (fun r M1 => r = bi (fit a p q) ∧ M1 = M)) := by
  refine Ct.of (by decide) rfl (Nat.le_of_ble_eq_true rfl) ?_
  have b2 := hS.c6
  have b3 := hS.l24
  have b4 := hS.o41
  have b0 := hI.today
  have b1 := hI.g4
  have b1' := hI.g1
  show G l D g ca md_X2_fits 0 [(0, .ref (g o 0)), (1, .int (nI p)), (2, .int (nI q))] [] M _
  refine g_aload_n 1 0 dX2_fits_0 rfl rfl ?_
  refine g_geta 4 14 dX2_fits_1 rfl fX2_30 hko (by decide) rfl rfl ?_
  refine g_iload_n 5 2 dX2_fits_4 rfl rfl ?_
  refine g_iald 6 (nI (a 14 q)) dX2_fits_5 rfl hko (by decide) rfl (by decide) (by omega) (hS.ord (by decide) (by decide) (by omega)) ?_
  refine g_istore_n 7 [(3, .int (nI (a 14 q))), (0, .ref (g o 0)), (1, .int (nI p)), (2, .int (nI q))] dX2_fits_6 rfl (by decide) rfl ?_
  refine g_aload_n 8 1 dX2_fits_7 rfl rfl ?_
  refine g_geta 11 10 dX2_fits_8 rfl fX2_18 hko (by decide) rfl rfl ?_
  refine g_iload_n 12 2 dX2_fits_11 rfl rfl ?_
  refine g_iald 13 (nI (a 10 p)) dX2_fits_12 rfl hko (by decide) rfl (by decide) (by omega) (hS.lot (by decide) (by decide) (by omega)) ?_
  refine g_aload_n 14 1 dX2_fits_13 rfl rfl ?_
  refine g_geta 17 15 dX2_fits_14 rfl fX2_33 hko (by decide) rfl rfl ?_
  refine g_iload_n 18 3 dX2_fits_17 rfl rfl ?_
  refine g_iald 19 (nI (a 15 q)) dX2_fits_18 rfl hko (by decide) rfl (by decide) (by omega) (hS.ord (by decide) (by decide) (by omega)) ?_
  refine g_icmpN_ne 83 22 dX2_fits_19 rfl rfl (by have := hI.lot (l := p) (by omega); omega) (by have := hI.ord (o := q) (by omega); omega) (fun c19 => ?_) (fun c19 => ?_)
  · refine g_iconst 84 (nI 0) dX2_fits_83 rfl rfl ?_
    exact g_zret rfl dX2_fits_84 rfl ⟨by have h1 := hI.ord ho; have h2 := hI.lot hl; have h3 := hI.life h1.1; have h4 := hI.latest (a 14 q * 4 + a 15 q); first | exact congrArg bi (fit_t c19 (by first | exact (nI_sub_le (by omega) (by omega) (by omega)).mp (fa_of_nlt c41)) (by exact (nI_m1_le (by omega) (by omega)).mp (fa_of_nlt c61)) c76).symm | exact congrArg bi (fit_f1 c19).symm | exact congrArg bi (fit_f2 (fun z => (fa_of_lt c41).2.1 ((nI_sub_le (by omega) (by omega) (by omega)).mpr z))).symm | exact congrArg bi (fit_f3 (fun z => (fa_of_lt c61).2.1 ((nI_m1_le (by omega) (by omega)).mpr z))).symm | exact congrArg bi (fit_f4 (by omega)).symm, rfl⟩
  · refine g_aload_n 23 1 dX2_fits_22 rfl rfl ?_
    refine g_geta 26 11 dX2_fits_23 rfl fX2_21 hko (by decide) rfl rfl ?_
    refine g_iload_n 27 2 dX2_fits_26 rfl rfl ?_
    refine g_iald 28 (nI (a 11 p)) dX2_fits_27 rfl hko (by decide) rfl (by decide) (by omega) (hS.lot (by decide) (by decide) (by omega)) ?_
    refine g_aload_n 29 1 dX2_fits_28 rfl rfl ?_
    refine g_geta 32 17 dX2_fits_29 rfl fX2_39 hko (by decide) rfl rfl ?_
    refine g_iload_n 33 3 dX2_fits_32 rfl rfl ?_
    refine g_iald 34 (nI (a 17 q)) dX2_fits_33 rfl hko (by decide) rfl (by decide) (by omega) (hS.ord (by decide) (by decide) (by omega)) ?_
    refine g_isub 35 ((nI (a 11 p)) - (nI (a 17 q))) dX2_fits_34 rfl rfl ?_
    refine g_aload_n 36 1 dX2_fits_35 rfl rfl ?_
    refine g_geta 39 8 dX2_fits_36 rfl fX2_9 hko (by decide) rfl rfl ?_
    refine g_iload_n 40 0 dX2_fits_39 rfl rfl ?_
    refine g_iald 41 (nI (a 8 (a 14 q))) dX2_fits_40 rfl hko (by decide) rfl (by decide) (by have := hI.ord (o := q) (by omega); omega) (hS.life (by have := hI.ord (o := q) (by omega); omega)) ?_
    refine g_icmp_lt 83 44 dX2_fits_41 rfl rfl (fun c41 => ?_) (fun c41 => ?_)
    · refine g_iconst 84 (nI 0) dX2_fits_83 rfl rfl ?_
      exact g_zret rfl dX2_fits_84 rfl ⟨by have h1 := hI.ord ho; have h2 := hI.lot hl; have h3 := hI.life h1.1; have h4 := hI.latest (a 14 q * 4 + a 15 q); first | exact congrArg bi (fit_t c19 (by first | exact (nI_sub_le (by omega) (by omega) (by omega)).mp (fa_of_nlt c41)) (by exact (nI_m1_le (by omega) (by omega)).mp (fa_of_nlt c61)) c76).symm | exact congrArg bi (fit_f1 c19).symm | exact congrArg bi (fit_f2 (fun z => (fa_of_lt c41).2.1 ((nI_sub_le (by omega) (by omega) (by omega)).mpr z))).symm | exact congrArg bi (fit_f3 (fun z => (fa_of_lt c61).2.1 ((nI_m1_le (by omega) (by omega)).mpr z))).symm | exact congrArg bi (fit_f4 (by omega)).symm, rfl⟩
    · refine g_aload_n 45 1 dX2_fits_44 rfl rfl ?_
      refine g_geta 48 11 dX2_fits_45 rfl fX2_21 hko (by decide) rfl rfl ?_
      refine g_iload_n 49 2 dX2_fits_48 rfl rfl ?_
      refine g_iald 50 (nI (a 11 p)) dX2_fits_49 rfl hko (by decide) rfl (by decide) (by omega) (hS.lot (by decide) (by decide) (by omega)) ?_
      refine g_aload_n 51 1 dX2_fits_50 rfl rfl ?_
      refine g_iload_n 52 0 dX2_fits_51 rfl rfl ?_
      refine g_aload_n 53 1 dX2_fits_52 rfl rfl ?_
      refine g_geta 56 15 dX2_fits_53 rfl fX2_33 hko (by decide) rfl rfl ?_
      refine g_iload_n 57 3 dX2_fits_56 rfl rfl ?_
      refine g_iald 58 (nI (a 15 q)) dX2_fits_57 rfl hko (by decide) rfl (by decide) (by omega) (hS.ord (by decide) (by decide) (by omega)) ?_
      refine g_callVi 61 md_X2_latestOf [.int (nI (a 14 q)), .int (nI (a 15 q))] [.int (nI (a 11 p))] dX2_fits_58 rfl e_X2_fits_97 hko (by decide) rfl rfl (Nat.le_of_ble_eq_true rfl) (c_X2_latestOf hko hS hI (a 14 q) (a 15 q) (by have := hI.ord (o := q) (by omega); omega) (by have := hI.ord (o := q) (by omega); omega)) (fun r58 M58 h58 => ?_)
      obtain ⟨rfl, h58⟩ := h58
      have h58 := h58.symm
      subst h58
      refine g_icmp_lt 83 64 dX2_fits_61 rfl rfl (fun c61 => ?_) (fun c61 => ?_)
      · refine g_iconst 84 (nI 0) dX2_fits_83 rfl rfl ?_
        exact g_zret rfl dX2_fits_84 rfl ⟨by have h1 := hI.ord ho; have h2 := hI.lot hl; have h3 := hI.life h1.1; have h4 := hI.latest (a 14 q * 4 + a 15 q); first | exact congrArg bi (fit_t c19 (by first | exact (nI_sub_le (by omega) (by omega) (by omega)).mp (fa_of_nlt c41)) (by exact (nI_m1_le (by omega) (by omega)).mp (fa_of_nlt c61)) c76).symm | exact congrArg bi (fit_f1 c19).symm | exact congrArg bi (fit_f2 (fun z => (fa_of_lt c41).2.1 ((nI_sub_le (by omega) (by omega) (by omega)).mpr z))).symm | exact congrArg bi (fit_f3 (fun z => (fa_of_lt c61).2.1 ((nI_m1_le (by omega) (by omega)).mpr z))).symm | exact congrArg bi (fit_f4 (by omega)).symm, rfl⟩
      · refine g_aload_n 65 1 dX2_fits_64 rfl rfl ?_
        refine g_geta 68 13 dX2_fits_65 rfl fX2_27 hko (by decide) rfl rfl ?_
        refine g_iload_n 69 2 dX2_fits_68 rfl rfl ?_
        refine g_iald 70 (nI (a 13 p)) dX2_fits_69 rfl hko (by decide) rfl (by decide) (by omega) (hS.lot (by decide) (by decide) (by omega)) ?_
        refine g_aload_n 71 1 dX2_fits_70 rfl rfl ?_
        refine g_geta 74 17 dX2_fits_71 rfl fX2_39 hko (by decide) rfl rfl ?_
        refine g_iload_n 75 3 dX2_fits_74 rfl rfl ?_
        refine g_iald 76 (nI (a 17 q)) dX2_fits_75 rfl hko (by decide) rfl (by decide) (by omega) (hS.ord (by decide) (by decide) (by omega)) ?_
        refine g_icmpN_gt 83 79 dX2_fits_76 rfl rfl (by have := hI.lot (l := p) (by omega); omega) (by have := hI.ord (o := q) (by omega); omega) (fun c76 => ?_) (fun c76 => ?_)
        · refine g_iconst 84 (nI 0) dX2_fits_83 rfl rfl ?_
          exact g_zret rfl dX2_fits_84 rfl ⟨by have h1 := hI.ord ho; have h2 := hI.lot hl; have h3 := hI.life h1.1; have h4 := hI.latest (a 14 q * 4 + a 15 q); first | exact congrArg bi (fit_t c19 (by first | exact (nI_sub_le (by omega) (by omega) (by omega)).mp (fa_of_nlt c41)) (by exact (nI_m1_le (by omega) (by omega)).mp (fa_of_nlt c61)) c76).symm | exact congrArg bi (fit_f1 c19).symm | exact congrArg bi (fit_f2 (fun z => (fa_of_lt c41).2.1 ((nI_sub_le (by omega) (by omega) (by omega)).mpr z))).symm | exact congrArg bi (fit_f3 (fun z => (fa_of_lt c61).2.1 ((nI_m1_le (by omega) (by omega)).mpr z))).symm | exact congrArg bi (fit_f4 (by omega)).symm, rfl⟩
        · refine g_iconst 80 (nI 1) dX2_fits_79 rfl rfl ?_
          refine g_goto 84 dX2_fits_80 rfl ?_
          exact g_zret rfl dX2_fits_84 rfl ⟨by have h1 := hI.ord ho; have h2 := hI.lot hl; have h3 := hI.life h1.1; have h4 := hI.latest (a 14 q * 4 + a 15 q); first | exact congrArg bi (fit_t c19 (by first | exact (nI_sub_le (by omega) (by omega) (by omega)).mp (fa_of_nlt c41)) (by exact (nI_m1_le (by omega) (by omega)).mp (fa_of_nlt c61)) c76).symm | exact congrArg bi (fit_f1 c19).symm | exact congrArg bi (fit_f2 (fun z => (fa_of_lt c41).2.1 ((nI_sub_le (by omega) (by omega) (by omega)).mpr z))).symm | exact congrArg bi (fit_f3 (fun z => (fa_of_lt c61).2.1 ((nI_m1_le (by omega) (by omega)).mpr z))).symm | exact congrArg bi (fit_f4 (by omega)).symm, rfl⟩
