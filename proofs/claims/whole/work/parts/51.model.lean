set_option maxHeartbeats 4000000 in
set_option maxRecDepth 100000 in
theorem c_X7_thrown {l : Launch} {D : va_G} {g : Nat → Nat → Nat} {ca : Nat → ClassId} {M : Mm}  : Ct l D g ca md_X7_thrown [.ref (g 18 0)] M (Ri (fun r M1 => r = M.1 18 0 0 ∧ M1 = M)) := by
  refine Ct.of (by decide) rfl (Nat.le_of_ble_eq_true rfl) ?_
  show G l D g ca md_X7_thrown 0 [(0, .ref (g 18 0))] [] M _
  refine g_aload_n 1 0 dX7_thrown_0 rfl rfl ?_
  refine g_get 4 ((M.1 18 0 0)) dX7_thrown_1 rfl fX7_1 rfl (by decide) rfl rfl ?_
  exact g_iret rfl dX7_thrown_4 ⟨rfl, rfl⟩

set_option maxHeartbeats 4000000 in
set_option maxRecDepth 100000 in
theorem c_X7_refuse {l : Launch} {D : va_G} {g : Nat → Nat → Nat} {ca : Nat → ClassId} {M : Mm}  : Ct l D g ca md_X7_refuse [.ref (g 18 0)] M (Ri (fun r M1 => r = nI 0 ∧ M1 = wr M 18 0 0 (nI 1))) := by
  refine Ct.of (by decide) rfl (Nat.le_of_ble_eq_true rfl) ?_
  show G l D g ca md_X7_refuse 0 [(0, .ref (g 18 0))] [] M _
  refine g_aload_n 1 0 dX7_refuse_0 rfl rfl ?_
  refine g_iconst 2 (nI 1) dX7_refuse_1 rfl rfl ?_
  refine g_put 5 dX7_refuse_2 rfl fX7_1 pX7_0 rfl (by decide) rfl ?_
  refine g_iconst 6 (nI 0) dX7_refuse_5 rfl rfl ?_
  exact g_iret rfl dX7_refuse_6 ⟨rfl, rfl⟩

set_option maxHeartbeats 4000000 in
set_option maxRecDepth 100000 in
theorem c_X7_isIn {l : Launch} {D : va_G} {g : Nat → Nat → Nat} {ca : Nat → ClassId} {M : Mm} (x y z : Int32) : Ct l D g ca md_X7_isIn [.int x, .int y, .int z] M (Ri (fun r M1 => r = bi (isin x y z) ∧ M1 = M)) := by
  refine Ct.of (by decide) rfl (Nat.le_of_ble_eq_true rfl) ?_
  show G l D g ca md_X7_isIn 0 [(0, .int x), (1, .int y), (2, .int z)] [] M _
  refine g_iload_n 1 0 dX7_isIn_0 rfl rfl ?_
  refine g_iload_n 2 1 dX7_isIn_1 rfl rfl ?_
  refine g_icmp_lt 14 5 dX7_isIn_2 rfl rfl (fun c2 => ?_) (fun c2 => ?_)
  · refine g_iconst 15 (nI 0) dX7_isIn_14 rfl rfl ?_
    exact g_zret rfl dX7_isIn_15 rfl ⟨by unfold isin; first | (rw [decide_eq_true ⟨fa_of_nlt c2, fa_of_nlt c7⟩]; rfl) | (rw [decide_eq_false (fun q => (fa_of_lt c2).2.1 q.1)]; rfl) | (rw [decide_eq_false (fun q => (fa_of_lt c7).2.1 q.2)]; rfl), rfl⟩
  · refine g_iload_n 6 0 dX7_isIn_5 rfl rfl ?_
    refine g_iload_n 7 2 dX7_isIn_6 rfl rfl ?_
    refine g_icmp_gt 14 10 dX7_isIn_7 rfl rfl (fun c7 => ?_) (fun c7 => ?_)
    · refine g_iconst 15 (nI 0) dX7_isIn_14 rfl rfl ?_
      exact g_zret rfl dX7_isIn_15 rfl ⟨by unfold isin; first | (rw [decide_eq_true ⟨fa_of_nlt c2, fa_of_nlt c7⟩]; rfl) | (rw [decide_eq_false (fun q => (fa_of_lt c2).2.1 q.1)]; rfl) | (rw [decide_eq_false (fun q => (fa_of_lt c7).2.1 q.2)]; rfl), rfl⟩
    · refine g_iconst 11 (nI 1) dX7_isIn_10 rfl rfl ?_
      refine g_goto 15 dX7_isIn_11 rfl ?_
      exact g_zret rfl dX7_isIn_15 rfl ⟨by unfold isin; first | (rw [decide_eq_true ⟨fa_of_nlt c2, fa_of_nlt c7⟩]; rfl) | (rw [decide_eq_false (fun q => (fa_of_lt c2).2.1 q.1)]; rfl) | (rw [decide_eq_false (fun q => (fa_of_lt c7).2.1 q.2)]; rfl), rfl⟩

set_option maxHeartbeats 4000000 in
set_option maxRecDepth 100000 in
theorem c_X7_today {l : Launch} {D : va_G} {g : Nat → Nat → Nat} {ca : Nat → ClassId} {M : Mm} {a : Sa} (hN : RM (M.1 18 12) a) (hI : Iv a) : Ct l D g ca md_X7_today [.ref (g 18 0)] M (Ri (fun r M1 => r = nI (a 0 0) ∧ M1 = M)) := by
  refine Ct.of (by decide) rfl (Nat.le_of_ble_eq_true rfl) ?_
  have b0 := hI.today
  have b1 := hI.g4
  have b1' := hI.g1
  have b2 := hN.c6
  have b3 := hN.l24
  have b4 := hN.o40
  show G l D g ca md_X7_today 0 [(0, .ref (g 18 0))] [] M _
  refine g_aload_n 1 0 dX7_today_0 rfl rfl ?_
  refine g_geta 4 12 dX7_today_1 rfl fX7_64 rfl (by decide) rfl rfl ?_
  refine g_iconst 5 (nI 0) dX7_today_4 rfl rfl ?_
  refine g_iald 6 (nI (a 0 0)) dX7_today_5 rfl rfl (by decide) rfl (by decide) (by omega) (hN.sc (by decide)) ?_
  exact g_iret rfl dX7_today_6 ⟨rfl, rfl⟩

set_option maxHeartbeats 4000000 in
set_option maxRecDepth 100000 in
theorem c_X7_isGood {l : Launch} {D : va_G} {g : Nat → Nat → Nat} {ca : Nat → ClassId} {M : Mm} {a : Sa} (hN : RM (M.1 18 12) a) (hI : Iv a) (x : Int32) : Ct l D g ca md_X7_isGood [.ref (g 18 0), .int x] M (Ri (fun r M1 => r = bi (inr x (a 0 1)) ∧ M1 = M)) := by
  refine Ct.of (by decide) rfl (Nat.le_of_ble_eq_true rfl) ?_
  have b0 := hI.today
  have b1 := hI.g4
  have b1' := hI.g1
  have b2 := hN.c6
  have b3 := hN.l24
  have b4 := hN.o40
  show G l D g ca md_X7_isGood 0 [(0, .ref (g 18 0)), (1, .int x)] [] M _
  refine g_iload_n 1 1 dX7_isGood_0 rfl rfl ?_
  refine g_iconst 2 (nI 0) dX7_isGood_1 rfl rfl ?_
  refine g_aload_n 3 0 dX7_isGood_2 rfl rfl ?_
  refine g_geta 6 12 dX7_isGood_3 rfl fX7_64 rfl (by decide) rfl rfl ?_
  refine g_iconst 7 (nI 1) dX7_isGood_6 rfl rfl ?_
  refine g_iald 8 (nI (a 0 1)) dX7_isGood_7 rfl rfl (by decide) rfl (by decide) (by omega) (hN.sc (by decide)) ?_
  refine g_iconst 9 (nI 1) dX7_isGood_8 rfl rfl ?_
  refine g_isub 10 ((nI (a 0 1)) - (nI 1)) dX7_isGood_9 rfl rfl ?_
  refine g_callSi 13 md_X7_isIn [.int x, .int (nI 0), .int ((nI (a 0 1)) - (nI 1))] [] dX7_isGood_10 rfl e_X7_isGood_101 rfl rfl (Nat.le_of_ble_eq_true rfl) (c_X7_isIn (x) (nI 0) ((nI (a 0 1)) - (nI 1))) (fun r10 M10 h10 => ?_)
  obtain ⟨rfl, h10⟩ := h10
  have h10 := h10.symm
  subst h10
  exact g_zret rfl dX7_isGood_13 (bi_nar _) ⟨congrArg bi (isin_inr (by omega)), rfl⟩

set_option maxHeartbeats 4000000 in
set_option maxRecDepth 100000 in
theorem c_X7_isLot {l : Launch} {D : va_G} {g : Nat → Nat → Nat} {ca : Nat → ClassId} {M : Mm} {a : Sa} (hN : RM (M.1 18 12) a) (hI : Iv a) (x : Int32) : Ct l D g ca md_X7_isLot [.ref (g 18 0), .int x] M (Ri (fun r M1 => r = bi (inr x (a 0 3)) ∧ M1 = M)) := by
  refine Ct.of (by decide) rfl (Nat.le_of_ble_eq_true rfl) ?_
  have b0 := hI.today
  have b1 := hI.g4
  have b1' := hI.g1
  have b2 := hN.c6
  have b3 := hN.l24
  have b4 := hN.o40
  show G l D g ca md_X7_isLot 0 [(0, .ref (g 18 0)), (1, .int x)] [] M _
  refine g_iload_n 1 1 dX7_isLot_0 rfl rfl ?_
  refine g_iconst 2 (nI 0) dX7_isLot_1 rfl rfl ?_
  refine g_aload_n 3 0 dX7_isLot_2 rfl rfl ?_
  refine g_geta 6 12 dX7_isLot_3 rfl fX7_64 rfl (by decide) rfl rfl ?_
  refine g_iconst 7 (nI 3) dX7_isLot_6 rfl rfl ?_
  refine g_iald 8 (nI (a 0 3)) dX7_isLot_7 rfl rfl (by decide) rfl (by decide) (by omega) (hN.sc (by decide)) ?_
  refine g_iconst 9 (nI 1) dX7_isLot_8 rfl rfl ?_
  refine g_isub 10 ((nI (a 0 3)) - (nI 1)) dX7_isLot_9 rfl rfl ?_
  refine g_callSi 13 md_X7_isIn [.int x, .int (nI 0), .int ((nI (a 0 3)) - (nI 1))] [] dX7_isLot_10 rfl e_X7_isLot_101 rfl rfl (Nat.le_of_ble_eq_true rfl) (c_X7_isIn (x) (nI 0) ((nI (a 0 3)) - (nI 1))) (fun r10 M10 h10 => ?_)
  obtain ⟨rfl, h10⟩ := h10
  have h10 := h10.symm
  subst h10
  exact g_zret rfl dX7_isLot_13 (bi_nar _) ⟨congrArg bi (isin_inr (by omega)), rfl⟩

set_option maxHeartbeats 4000000 in
set_option maxRecDepth 100000 in
theorem c_X7_isOrder {l : Launch} {D : va_G} {g : Nat → Nat → Nat} {ca : Nat → ClassId} {M : Mm} {a : Sa} (hN : RM (M.1 18 12) a) (hI : Iv a) (x : Int32) : Ct l D g ca md_X7_isOrder [.ref (g 18 0), .int x] M (Ri (fun r M1 => r = bi (inr x (a 0 4)) ∧ M1 = M)) := by
  refine Ct.of (by decide) rfl (Nat.le_of_ble_eq_true rfl) ?_
  have b0 := hI.today
  have b1 := hI.g4
  have b1' := hI.g1
  have b2 := hN.c6
  have b3 := hN.l24
  have b4 := hN.o40
  show G l D g ca md_X7_isOrder 0 [(0, .ref (g 18 0)), (1, .int x)] [] M _
  refine g_iload_n 1 1 dX7_isOrder_0 rfl rfl ?_
  refine g_iconst 2 (nI 0) dX7_isOrder_1 rfl rfl ?_
  refine g_aload_n 3 0 dX7_isOrder_2 rfl rfl ?_
  refine g_geta 6 12 dX7_isOrder_3 rfl fX7_64 rfl (by decide) rfl rfl ?_
  refine g_iconst 7 (nI 4) dX7_isOrder_6 rfl rfl ?_
  refine g_iald 8 (nI (a 0 4)) dX7_isOrder_7 rfl rfl (by decide) rfl (by decide) (by omega) (hN.sc (by decide)) ?_
  refine g_iconst 9 (nI 1) dX7_isOrder_8 rfl rfl ?_
  refine g_isub 10 ((nI (a 0 4)) - (nI 1)) dX7_isOrder_9 rfl rfl ?_
  refine g_callSi 13 md_X7_isIn [.int x, .int (nI 0), .int ((nI (a 0 4)) - (nI 1))] [] dX7_isOrder_10 rfl e_X7_isOrder_101 rfl rfl (Nat.le_of_ble_eq_true rfl) (c_X7_isIn (x) (nI 0) ((nI (a 0 4)) - (nI 1))) (fun r10 M10 h10 => ?_)
  obtain ⟨rfl, h10⟩ := h10
  have h10 := h10.symm
  subst h10
  exact g_zret rfl dX7_isOrder_13 (bi_nar _) ⟨congrArg bi (isin_inr (by omega)), rfl⟩

set_option maxHeartbeats 4000000 in
set_option maxRecDepth 100000 in
theorem c_X7_isCustomerThere {l : Launch} {D : va_G} {g : Nat → Nat → Nat} {ca : Nat → ClassId} {M : Mm} {a : Sa} (hN : RM (M.1 18 12) a) (hI : Iv a) (x : Int32) : Ct l D g ca md_X7_isCustomerThere [.ref (g 18 0), .int x] M (Ri (fun r M1 => r = bi (inr x (a 0 2)) ∧ M1 = M)) := by
  refine Ct.of (by decide) rfl (Nat.le_of_ble_eq_true rfl) ?_
  have b0 := hI.today
  have b1 := hI.g4
  have b1' := hI.g1
  have b2 := hN.c6
  have b3 := hN.l24
  have b4 := hN.o40
  show G l D g ca md_X7_isCustomerThere 0 [(0, .ref (g 18 0)), (1, .int x)] [] M _
  refine g_iload_n 1 1 dX7_isCustomerThere_0 rfl rfl ?_
  refine g_iconst 2 (nI 0) dX7_isCustomerThere_1 rfl rfl ?_
  refine g_aload_n 3 0 dX7_isCustomerThere_2 rfl rfl ?_
  refine g_geta 6 12 dX7_isCustomerThere_3 rfl fX7_64 rfl (by decide) rfl rfl ?_
  refine g_iconst 7 (nI 2) dX7_isCustomerThere_6 rfl rfl ?_
  refine g_iald 8 (nI (a 0 2)) dX7_isCustomerThere_7 rfl rfl (by decide) rfl (by decide) (by omega) (hN.sc (by decide)) ?_
  refine g_iconst 9 (nI 1) dX7_isCustomerThere_8 rfl rfl ?_
  refine g_isub 10 ((nI (a 0 2)) - (nI 1)) dX7_isCustomerThere_9 rfl rfl ?_
  refine g_callSi 13 md_X7_isIn [.int x, .int (nI 0), .int ((nI (a 0 2)) - (nI 1))] [] dX7_isCustomerThere_10 rfl e_X7_isCustomerThere_101 rfl rfl (Nat.le_of_ble_eq_true rfl) (c_X7_isIn (x) (nI 0) ((nI (a 0 2)) - (nI 1))) (fun r10 M10 h10 => ?_)
  obtain ⟨rfl, h10⟩ := h10
  have h10 := h10.symm
  subst h10
  exact g_zret rfl dX7_isCustomerThere_13 (bi_nar _) ⟨congrArg bi (isin_inr (by omega)), rfl⟩

set_option maxHeartbeats 4000000 in
set_option maxRecDepth 100000 in
theorem c_X7_lies {l : Launch} {D : va_G} {g : Nat → Nat → Nat} {ca : Nat → ClassId} {M : Mm} {a : Sa} (hN : RM (M.1 18 12) a) (hI : Iv a) (p w j : Nat) (hp : p < a 0 3) (hw : w < 4) (hj : 10 + w = j) : Ct l D g ca md_X7_lies [.ref (g 18 0), .int (nI p), .int (nI w)] M (Ri (fun r M1 => r = nI (a j p) ∧ M1 = M)) := by
  refine Ct.of (by decide) rfl (Nat.le_of_ble_eq_true rfl) ?_
  have b0 := hI.today
  have b1 := hI.g4
  have b1' := hI.g1
  have b2 := hN.c6
  have b3 := hN.l24
  have b4 := hN.o40
  show G l D g ca md_X7_lies 0 [(0, .ref (g 18 0)), (1, .int (nI p)), (2, .int (nI w))] [] M _
  refine g_aload_n 1 0 dX7_lies_0 rfl rfl ?_
  refine g_geta 4 12 dX7_lies_1 rfl fX7_64 rfl (by decide) rfl rfl ?_
  refine g_bipush 6 (nI 37) dX7_lies_4 rfl rfl ?_
  refine g_iconst 7 (nI 4) dX7_lies_6 rfl rfl ?_
  refine g_iload_n 8 1 dX7_lies_7 rfl rfl ?_
  refine g_imul 9 (nI (4 * p)) dX7_lies_8 rfl (pk_mul 4 p) ?_
  refine g_iadd 10 (nI (37 + (4 * p))) dX7_lies_9 rfl (nI_add 37 (4 * p)) ?_
  refine g_iload_n 11 2 dX7_lies_10 rfl rfl ?_
  refine g_iadd 12 (nI ((37 + (4 * p)) + w)) dX7_lies_11 rfl (nI_add (37 + (4 * p)) w) ?_
  refine g_iald 13 (nI (a j p)) dX7_lies_12 rfl rfl (by decide) rfl (by decide) (by omega) (hN.lot (by omega) (by omega) hj) ?_
  exact g_iret rfl dX7_lies_13 ⟨rfl, rfl⟩

set_option maxHeartbeats 4000000 in
set_option maxRecDepth 100000 in
theorem c_X7_ordered {l : Launch} {D : va_G} {g : Nat → Nat → Nat} {ca : Nat → ClassId} {M : Mm} {a : Sa} (hN : RM (M.1 18 12) a) (hI : Iv a) (q w j : Nat) (hq : q < a 0 4) (hw : w < 6) (hj : 14 + w = j) : Ct l D g ca md_X7_ordered [.ref (g 18 0), .int (nI q), .int (nI w)] M (Ri (fun r M1 => r = nI (a j q) ∧ M1 = M)) := by
  refine Ct.of (by decide) rfl (Nat.le_of_ble_eq_true rfl) ?_
  have b0 := hI.today
  have b1 := hI.g4
  have b1' := hI.g1
  have b2 := hN.c6
  have b3 := hN.l24
  have b4 := hN.o40
  show G l D g ca md_X7_ordered 0 [(0, .ref (g 18 0)), (1, .int (nI q)), (2, .int (nI w))] [] M _
  refine g_aload_n 1 0 dX7_ordered_0 rfl rfl ?_
  refine g_geta 4 12 dX7_ordered_1 rfl fX7_64 rfl (by decide) rfl rfl ?_
  refine g_sipush 7 (nI 133) dX7_ordered_4 rfl rfl ?_
  refine g_bipush 9 (nI 6) dX7_ordered_7 rfl rfl ?_
  refine g_iload_n 10 1 dX7_ordered_9 rfl rfl ?_
  refine g_imul 11 (nI (6 * q)) dX7_ordered_10 rfl (pk_mul 6 q) ?_
  refine g_iadd 12 (nI (133 + (6 * q))) dX7_ordered_11 rfl (nI_add 133 (6 * q)) ?_
  refine g_iload_n 13 2 dX7_ordered_12 rfl rfl ?_
  refine g_iadd 14 (nI ((133 + (6 * q)) + w)) dX7_ordered_13 rfl (nI_add (133 + (6 * q)) w) ?_
  refine g_iald 15 (nI (a j q)) dX7_ordered_14 rfl rfl (by decide) rfl (by decide) (by omega) (hN.ord (by omega) (by omega) hj) ?_
  exact g_iret rfl dX7_ordered_15 ⟨rfl, rfl⟩

set_option maxHeartbeats 4000000 in
set_option maxRecDepth 100000 in
theorem c_X7_cell {l : Launch} {D : va_G} {g : Nat → Nat → Nat} {ca : Nat → ClassId} {M : Mm} {a : Sa} (hN : RM (M.1 18 12) a) (hI : Iv a) (p q : Nat) (hp : p < 24) (hq : q < 40) : Ct l D g ca md_X7_cell [.ref (g 18 0), .int (nI p), .int (nI q)] M (Ri (fun r M1 => r = nI (res a p q) ∧ M1 = M)) := by
  refine Ct.of (by decide) rfl (Nat.le_of_ble_eq_true rfl) ?_
  have b0 := hI.today
  have b1 := hI.g4
  have b1' := hI.g1
  have b2 := hN.c6
  have b3 := hN.l24
  have b4 := hN.o40
  show G l D g ca md_X7_cell 0 [(0, .ref (g 18 0)), (1, .int (nI p)), (2, .int (nI q))] [] M _
  refine g_aload_n 1 0 dX7_cell_0 rfl rfl ?_
  refine g_geta 4 12 dX7_cell_1 rfl fX7_64 rfl (by decide) rfl rfl ?_
  refine g_sipush 7 (nI 373) dX7_cell_4 rfl rfl ?_
  refine g_bipush 9 (nI 40) dX7_cell_7 rfl rfl ?_
  refine g_iload_n 10 1 dX7_cell_9 rfl rfl ?_
  refine g_imul 11 (nI (40 * p)) dX7_cell_10 rfl (pk_mul 40 p) ?_
  refine g_iadd 12 (nI (373 + (40 * p))) dX7_cell_11 rfl (nI_add 373 (40 * p)) ?_
  refine g_iload_n 13 2 dX7_cell_12 rfl rfl ?_
  refine g_iadd 14 (nI ((373 + (40 * p)) + q)) dX7_cell_13 rfl (nI_add (373 + (40 * p)) q) ?_
  refine g_iald 15 (nI (res a p q)) dX7_cell_14 rfl rfl (by decide) rfl (by decide) (by omega) (hN.res (by omega) (by omega)) ?_
  exact g_iret rfl dX7_cell_15 ⟨rfl, rfl⟩

set_option maxHeartbeats 4000000 in
set_option maxRecDepth 100000 in
theorem c_X7_isOpen {l : Launch} {D : va_G} {g : Nat → Nat → Nat} {ca : Nat → ClassId} {M : Mm} {a : Sa} (hN : RM (M.1 18 12) a) (hI : Iv a) (x : Int32) : Ct l D g ca md_X7_isOpen [.ref (g 18 0), .int x] M (Ri (fun r M1 => r = bi (opn a x) ∧ M1 = M)) := by
  refine Ct.of (by decide) rfl (Nat.le_of_ble_eq_true rfl) ?_
  have b0 := hI.today
  have b1 := hI.g4
  have b1' := hI.g1
  have b2 := hN.c6
  have b3 := hN.l24
  have b4 := hN.o40
  show G l D g ca md_X7_isOpen 0 [(0, .ref (g 18 0)), (1, .int x)] [] M _
  refine g_aload_n 1 0 dX7_isOpen_0 rfl rfl ?_
  refine g_iload_n 2 1 dX7_isOpen_1 rfl rfl ?_
  refine g_callVi 5 md_X7_isOrder [.int x] [] dX7_isOpen_2 rfl e_X7_isOpen_166 rfl (by decide) rfl rfl (Nat.le_of_ble_eq_true rfl) (c_X7_isOrder hN hI x) (fun r2 M2 h2 => ?_)
  obtain ⟨rfl, h2⟩ := h2
  have h2 := h2.symm
  subst h2
  refine g_ifB_eq 21 8 dX7_isOpen_5 rfl rfl (fun c5 => ?_) (fun c5 => ?_)
  · refine g_iconst 22 (nI 0) dX7_isOpen_21 rfl rfl ?_
    exact g_zret rfl dX7_isOpen_22 rfl ⟨(by first | (rw [opn_f1 (by assumption)]; rfl) | (rw [opn_nI hj (by omega)]; first | (rw [decide_eq_true (by assumption)]; rfl) | (rw [decide_eq_false (by omega)]; rfl))), rfl⟩
  · obtain ⟨j, hj, rfl⟩ := inr_of c5
    refine g_aload_n 9 0 dX7_isOpen_8 rfl rfl ?_
    refine g_iload_n 10 1 dX7_isOpen_9 rfl rfl ?_
    refine g_iconst 11 (nI 4) dX7_isOpen_10 rfl rfl ?_
    refine g_callVi 14 md_X7_ordered [.int (nI j), .int (nI 4)] [] dX7_isOpen_11 rfl e_X7_isOpen_169 rfl (by decide) rfl rfl (Nat.le_of_ble_eq_true rfl) (c_X7_ordered hN hI j 4 18 (by omega) (by decide) rfl) (fun r11 M11 h11 => ?_)
    obtain ⟨rfl, h11⟩ := h11
    have h11 := h11.symm
    subst h11
    refine g_ifN_ne 21 17 dX7_isOpen_14 rfl rfl (by have := hI.ord (o := j) (by omega); omega) (fun c14 => ?_) (fun c14 => ?_)
    · refine g_iconst 22 (nI 0) dX7_isOpen_21 rfl rfl ?_
      exact g_zret rfl dX7_isOpen_22 rfl ⟨(by first | (rw [opn_f1 (by assumption)]; rfl) | (rw [opn_nI hj (by omega)]; first | (rw [decide_eq_true (by assumption)]; rfl) | (rw [decide_eq_false (by omega)]; rfl))), rfl⟩
    · refine g_iconst 18 (nI 1) dX7_isOpen_17 rfl rfl ?_
      refine g_goto 22 dX7_isOpen_18 rfl ?_
      exact g_zret rfl dX7_isOpen_22 rfl ⟨(by first | (rw [opn_f1 (by assumption)]; rfl) | (rw [opn_nI hj (by omega)]; first | (rw [decide_eq_true (by assumption)]; rfl) | (rw [decide_eq_false (by omega)]; rfl))), rfl⟩

set_option maxHeartbeats 4000000 in
set_option maxRecDepth 100000 in
theorem c_X7_ofLot {l : Launch} {D : va_G} {g : Nat → Nat → Nat} {ca : Nat → ClassId} {M : Mm} {a : Sa} (hN : RM (M.1 18 12) a) (hI : Iv a) (p : Nat) (hp : p < a 0 3) : Ct l D g ca md_X7_ofLot [.ref (g 18 0), .int (nI p)] M (Ri (fun r M1 => r = nI (fb_sm (res a p) (a 0 4)) ∧ M1 = M)) := by
  refine Ct.of (by decide) rfl (Nat.le_of_ble_eq_true rfl) ?_
  have b0 := hI.today
  have b1 := hI.g4
  have b1' := hI.g1
  have b2 := hN.c6
  have b3 := hN.l24
  have b4 := hN.o40
  show G l D g ca md_X7_ofLot 0 [(0, .ref (g 18 0)), (1, .int (nI p))] [] M _
  refine g_iconst 1 (nI 0) dX7_ofLot_0 rfl rfl ?_
  refine g_istore_n 2 [(2, .int (nI 0)), (0, .ref (g 18 0)), (1, .int (nI p))] dX7_ofLot_1 rfl (by decide) rfl ?_
  refine g_iconst 3 (nI 0) dX7_ofLot_2 rfl rfl ?_
  refine g_istore_n 4 [(3, .int (nI 0)), (2, .int (nI 0)), (0, .ref (g 18 0)), (1, .int (nI p))] dX7_ofLot_3 rfl (by decide) rfl ?_
  have L4 : ∀ k, k ≤ a 0 4 → ∀ v, v = fb_sm (res a p) k → G l D g ca md_X7_ofLot 4 [(3, .int (nI k)), (2, .int (nI v)), (0, .ref (g 18 0)), (1, .int (nI p))] [] M (Ri (fun r M1 => r = nI (fb_sm (res a p) (a 0 4)) ∧ M1 = M)) := by
    refine upto ?_
    intro k hk ih4 v hv
    refine g_iload_n 5 0 dX7_ofLot_4 rfl rfl ?_
    refine g_aload_n 6 2 dX7_ofLot_5 rfl rfl ?_
    refine g_geta 9 12 dX7_ofLot_6 rfl fX7_64 rfl (by decide) rfl rfl ?_
    refine g_iconst 10 (nI 4) dX7_ofLot_9 rfl rfl ?_
    refine g_iald 11 (nI (a 0 4)) dX7_ofLot_10 rfl rfl (by decide) rfl (by decide) (by omega) (hN.sc (by decide)) ?_
    refine g_icmpN_ge 29 14 dX7_ofLot_11 rfl rfl (by omega) (by omega) (fun c11 => ?_) (fun c11 => ?_)
    · refine g_iload_n 30 1 dX7_ofLot_29 rfl rfl ?_
      exact g_iret rfl dX7_ofLot_30 ⟨by rw [hv, show k = a 0 4 by omega], rfl⟩
    · refine g_iload_n 15 1 dX7_ofLot_14 rfl rfl ?_
      refine g_aload_n 16 2 dX7_ofLot_15 rfl rfl ?_
      refine g_iload_n 17 3 dX7_ofLot_16 rfl rfl ?_
      refine g_iload_n 18 0 dX7_ofLot_17 rfl rfl ?_
      refine g_callVi 21 md_X7_cell [.int (nI p), .int (nI k)] [.int (nI v)] dX7_ofLot_18 rfl e_X7_ofLot_173 rfl (by decide) rfl rfl (Nat.le_of_ble_eq_true rfl) (c_X7_cell hN hI p k (by omega) (by omega)) (fun r18 M18 h18 => ?_)
      obtain ⟨rfl, h18⟩ := h18
      have h18 := h18.symm
      subst h18
      refine g_iadd 22 (nI (v + (res a p k))) dX7_ofLot_21 rfl (nI_add v (res a p k)) ?_
      refine g_istore_n 23 [(2, .int (nI (v + (res a p k)))), (3, .int (nI k)), (0, .ref (g 18 0)), (1, .int (nI p))] dX7_ofLot_22 rfl (by decide) rfl ?_
      refine g_iinc 26 (nI (k + 1)) [(3, .int (nI (k + 1))), (2, .int (nI (v + (res a p k)))), (0, .ref (g 18 0)), (1, .int (nI p))] dX7_ofLot_23 rfl 1 rfl (nI_add k 1) (by decide) rfl ?_
      refine g_goto 4 dX7_ofLot_26 rfl ?_
      exact ih4 (by omega) _ (by rw [fb_sm_succ, hv])
  exact L4 0 (Nat.zero_le _) 0 rfl

set_option maxHeartbeats 4000000 in
set_option maxRecDepth 100000 in
theorem c_X7_forOrder {l : Launch} {D : va_G} {g : Nat → Nat → Nat} {ca : Nat → ClassId} {M : Mm} {a : Sa} (hN : RM (M.1 18 12) a) (hI : Iv a) (q : Nat) (hq : q < a 0 4) : Ct l D g ca md_X7_forOrder [.ref (g 18 0), .int (nI q)] M (Ri (fun r M1 => r = nI (ro a q) ∧ M1 = M)) := by
  refine Ct.of (by decide) rfl (Nat.le_of_ble_eq_true rfl) ?_
  have b0 := hI.today
  have b1 := hI.g4
  have b1' := hI.g1
  have b2 := hN.c6
  have b3 := hN.l24
  have b4 := hN.o40
  show G l D g ca md_X7_forOrder 0 [(0, .ref (g 18 0)), (1, .int (nI q))] [] M _
  refine g_iconst 1 (nI 0) dX7_forOrder_0 rfl rfl ?_
  refine g_istore_n 2 [(2, .int (nI 0)), (0, .ref (g 18 0)), (1, .int (nI q))] dX7_forOrder_1 rfl (by decide) rfl ?_
  refine g_iconst 3 (nI 0) dX7_forOrder_2 rfl rfl ?_
  refine g_istore_n 4 [(3, .int (nI 0)), (2, .int (nI 0)), (0, .ref (g 18 0)), (1, .int (nI q))] dX7_forOrder_3 rfl (by decide) rfl ?_
  have L4 : ∀ k, k ≤ a 0 3 → ∀ v, v = fb_sm (fun p => res a p q) k → G l D g ca md_X7_forOrder 4 [(3, .int (nI k)), (2, .int (nI v)), (0, .ref (g 18 0)), (1, .int (nI q))] [] M (Ri (fun r M1 => r = nI (ro a q) ∧ M1 = M)) := by
    refine upto ?_
    intro k hk ih4 v hv
    refine g_iload_n 5 0 dX7_forOrder_4 rfl rfl ?_
    refine g_aload_n 6 2 dX7_forOrder_5 rfl rfl ?_
    refine g_geta 9 12 dX7_forOrder_6 rfl fX7_64 rfl (by decide) rfl rfl ?_
    refine g_iconst 10 (nI 3) dX7_forOrder_9 rfl rfl ?_
    refine g_iald 11 (nI (a 0 3)) dX7_forOrder_10 rfl rfl (by decide) rfl (by decide) (by omega) (hN.sc (by decide)) ?_
    refine g_icmpN_ge 29 14 dX7_forOrder_11 rfl rfl (by omega) (by omega) (fun c11 => ?_) (fun c11 => ?_)
    · refine g_iload_n 30 1 dX7_forOrder_29 rfl rfl ?_
      exact g_iret rfl dX7_forOrder_30 ⟨by rw [hv, show k = a 0 3 by omega]; rfl, rfl⟩
    · refine g_iload_n 15 1 dX7_forOrder_14 rfl rfl ?_
      refine g_aload_n 16 2 dX7_forOrder_15 rfl rfl ?_
      refine g_iload_n 17 0 dX7_forOrder_16 rfl rfl ?_
      refine g_iload_n 18 3 dX7_forOrder_17 rfl rfl ?_
      refine g_callVi 21 md_X7_cell [.int (nI k), .int (nI q)] [.int (nI v)] dX7_forOrder_18 rfl e_X7_forOrder_173 rfl (by decide) rfl rfl (Nat.le_of_ble_eq_true rfl) (c_X7_cell hN hI k q (by omega) (by omega)) (fun r18 M18 h18 => ?_)
      obtain ⟨rfl, h18⟩ := h18
      have h18 := h18.symm
      subst h18
      refine g_iadd 22 (nI (v + (res a k q))) dX7_forOrder_21 rfl (nI_add v (res a k q)) ?_
      refine g_istore_n 23 [(2, .int (nI (v + (res a k q)))), (3, .int (nI k)), (0, .ref (g 18 0)), (1, .int (nI q))] dX7_forOrder_22 rfl (by decide) rfl ?_
      refine g_iinc 26 (nI (k + 1)) [(3, .int (nI (k + 1))), (2, .int (nI (v + (res a k q)))), (0, .ref (g 18 0)), (1, .int (nI q))] dX7_forOrder_23 rfl 1 rfl (nI_add k 1) (by decide) rfl ?_
      refine g_goto 4 dX7_forOrder_26 rfl ?_
      exact ih4 (by omega) _ (by rw [fb_sm_succ, hv])
  exact L4 0 (Nat.zero_le _) 0 rfl

set_option maxHeartbeats 4000000 in
set_option maxRecDepth 100000 in
theorem c_X7_isFor {l : Launch} {D : va_G} {g : Nat → Nat → Nat} {ca : Nat → ClassId} {M : Mm} {a : Sa} (hN : RM (M.1 18 12) a) (hI : Iv a) (p c gd d lf : Nat) (hp : p < a 0 3) (hc : c < 6) (hg : gd < 4) (hd : d < 65536) (hlf : lf < 65536) : Ct l D g ca md_X7_isFor [.ref (g 18 0), .int (nI p), .int (nI c), .int (nI gd), .int (nI d), .int (nI lf)] M (Ri (fun r M1 => r = bi (isfor a p c gd d lf) ∧ M1 = M)) := by
  refine Ct.of (by decide) rfl (Nat.le_of_ble_eq_true rfl) ?_
  have b0 := hI.today
  have b1 := hI.g4
  have b1' := hI.g1
  have b2 := hN.c6
  have b3 := hN.l24
  have b4 := hN.o40
  show G l D g ca md_X7_isFor 0 [(0, .ref (g 18 0)), (1, .int (nI p)), (2, .int (nI c)), (3, .int (nI gd)), (4, .int (nI d)), (5, .int (nI lf))] [] M _
  refine g_aload_n 1 0 dX7_isFor_0 rfl rfl ?_
  refine g_iload_n 2 1 dX7_isFor_1 rfl rfl ?_
  refine g_iconst 3 (nI 0) dX7_isFor_2 rfl rfl ?_
  refine g_callVi 6 md_X7_lies [.int (nI p), .int (nI 0)] [] dX7_isFor_3 rfl e_X7_isFor_176 rfl (by decide) rfl rfl (Nat.le_of_ble_eq_true rfl) (c_X7_lies hN hI p 0 10 (by omega) (by decide) rfl) (fun r3 M3 h3 => ?_)
  obtain ⟨rfl, h3⟩ := h3
  have h3 := h3.symm
  subst h3
  refine g_iload_n 7 3 dX7_isFor_6 rfl rfl ?_
  refine g_icmpN_ne 65 10 dX7_isFor_7 rfl rfl (by have := hI.lot (l := p) (by omega); omega) (by omega) (fun c7 => ?_) (fun c7 => ?_)
  · refine g_iconst 66 (nI 0) dX7_isFor_65 rfl rfl ?_
    exact g_zret rfl dX7_isFor_66 rfl ⟨by have h2 := hI.lot hp; have h4 := hI.latest (c * 4 + gd); first | exact congrArg bi (isfor_t c7 ((nI_sub_le (by omega) (by omega) (by omega)).mp (fa_of_nlt c21)) ((nI_m1_le (by omega) (by omega)).mp (fa_of_nlt c47)) c58).symm | exact congrArg bi (isfor_f1 c7).symm | exact congrArg bi (isfor_f2 (fun z => (fa_of_lt c21).2.1 ((nI_sub_le (by omega) (by omega) (by omega)).mpr z))).symm | exact congrArg bi (isfor_f3 (fun z => (fa_of_lt c47).2.1 ((nI_m1_le (by omega) (by omega)).mpr z))).symm | exact congrArg bi (isfor_f4 (by omega)).symm, rfl⟩
  · refine g_aload_n 11 0 dX7_isFor_10 rfl rfl ?_
    refine g_iload_n 12 1 dX7_isFor_11 rfl rfl ?_
    refine g_iconst 13 (nI 1) dX7_isFor_12 rfl rfl ?_
    refine g_callVi 16 md_X7_lies [.int (nI p), .int (nI 1)] [] dX7_isFor_13 rfl e_X7_isFor_176 rfl (by decide) rfl rfl (Nat.le_of_ble_eq_true rfl) (c_X7_lies hN hI p 1 11 (by omega) (by decide) rfl) (fun r13 M13 h13 => ?_)
    obtain ⟨rfl, h13⟩ := h13
    have h13 := h13.symm
    subst h13
    refine g_iload 18 4 dX7_isFor_16 rfl rfl ?_
    refine g_isub 19 ((nI (a 11 p)) - (nI d)) dX7_isFor_18 rfl rfl ?_
    refine g_iload 21 5 dX7_isFor_19 rfl rfl ?_
    refine g_icmp_lt 65 24 dX7_isFor_21 rfl rfl (fun c21 => ?_) (fun c21 => ?_)
    · refine g_iconst 66 (nI 0) dX7_isFor_65 rfl rfl ?_
      exact g_zret rfl dX7_isFor_66 rfl ⟨by have h2 := hI.lot hp; have h4 := hI.latest (c * 4 + gd); first | exact congrArg bi (isfor_t c7 ((nI_sub_le (by omega) (by omega) (by omega)).mp (fa_of_nlt c21)) ((nI_m1_le (by omega) (by omega)).mp (fa_of_nlt c47)) c58).symm | exact congrArg bi (isfor_f1 c7).symm | exact congrArg bi (isfor_f2 (fun z => (fa_of_lt c21).2.1 ((nI_sub_le (by omega) (by omega) (by omega)).mpr z))).symm | exact congrArg bi (isfor_f3 (fun z => (fa_of_lt c47).2.1 ((nI_m1_le (by omega) (by omega)).mpr z))).symm | exact congrArg bi (isfor_f4 (by omega)).symm, rfl⟩
    · refine g_aload_n 25 0 dX7_isFor_24 rfl rfl ?_
      refine g_iload_n 26 1 dX7_isFor_25 rfl rfl ?_
      refine g_iconst 27 (nI 1) dX7_isFor_26 rfl rfl ?_
      refine g_callVi 30 md_X7_lies [.int (nI p), .int (nI 1)] [] dX7_isFor_27 rfl e_X7_isFor_176 rfl (by decide) rfl rfl (Nat.le_of_ble_eq_true rfl) (c_X7_lies hN hI p 1 11 (by omega) (by decide) rfl) (fun r27 M27 h27 => ?_)
      obtain ⟨rfl, h27⟩ := h27
      have h27 := h27.symm
      subst h27
      refine g_aload_n 31 0 dX7_isFor_30 rfl rfl ?_
      refine g_geta 34 12 dX7_isFor_31 rfl fX7_64 rfl (by decide) rfl rfl ?_
      refine g_bipush 36 (nI 7) dX7_isFor_34 rfl rfl ?_
      refine g_iconst 37 (nI 5) dX7_isFor_36 rfl rfl ?_
      refine g_iload_n 38 2 dX7_isFor_37 rfl rfl ?_
      refine g_imul 39 (nI (5 * c)) dX7_isFor_38 rfl (pk_mul 5 c) ?_
      refine g_iadd 40 (nI (7 + (5 * c))) dX7_isFor_39 rfl (nI_add 7 (5 * c)) ?_
      refine g_iconst 41 (nI 1) dX7_isFor_40 rfl rfl ?_
      refine g_iadd 42 (nI ((7 + (5 * c)) + 1)) dX7_isFor_41 rfl (nI_add (7 + (5 * c)) 1) ?_
      refine g_iload_n 43 3 dX7_isFor_42 rfl rfl ?_
      refine g_iadd 44 (nI (((7 + (5 * c)) + 1) + gd)) dX7_isFor_43 rfl (nI_add ((7 + (5 * c)) + 1) gd) ?_
      refine g_iald 45 (nI (a 9 (c * 4 + gd))) dX7_isFor_44 rfl rfl (by decide) rfl (by decide) (by omega) (hN.latest (by omega) (by omega)) ?_
      refine g_iconst 46 (nI 1) dX7_isFor_45 rfl rfl ?_
      refine g_isub 47 (nI (a 9 (c * 4 + gd)) - 1) dX7_isFor_46 rfl rfl ?_
      refine g_icmp_lt 65 50 dX7_isFor_47 rfl rfl (fun c47 => ?_) (fun c47 => ?_)
      · refine g_iconst 66 (nI 0) dX7_isFor_65 rfl rfl ?_
        exact g_zret rfl dX7_isFor_66 rfl ⟨by have h2 := hI.lot hp; have h4 := hI.latest (c * 4 + gd); first | exact congrArg bi (isfor_t c7 ((nI_sub_le (by omega) (by omega) (by omega)).mp (fa_of_nlt c21)) ((nI_m1_le (by omega) (by omega)).mp (fa_of_nlt c47)) c58).symm | exact congrArg bi (isfor_f1 c7).symm | exact congrArg bi (isfor_f2 (fun z => (fa_of_lt c21).2.1 ((nI_sub_le (by omega) (by omega) (by omega)).mpr z))).symm | exact congrArg bi (isfor_f3 (fun z => (fa_of_lt c47).2.1 ((nI_m1_le (by omega) (by omega)).mpr z))).symm | exact congrArg bi (isfor_f4 (by omega)).symm, rfl⟩
      · refine g_aload_n 51 0 dX7_isFor_50 rfl rfl ?_
        refine g_iload_n 52 1 dX7_isFor_51 rfl rfl ?_
        refine g_iconst 53 (nI 3) dX7_isFor_52 rfl rfl ?_
        refine g_callVi 56 md_X7_lies [.int (nI p), .int (nI 3)] [] dX7_isFor_53 rfl e_X7_isFor_176 rfl (by decide) rfl rfl (Nat.le_of_ble_eq_true rfl) (c_X7_lies hN hI p 3 13 (by omega) (by decide) rfl) (fun r53 M53 h53 => ?_)
        obtain ⟨rfl, h53⟩ := h53
        have h53 := h53.symm
        subst h53
        refine g_iload 58 4 dX7_isFor_56 rfl rfl ?_
        refine g_icmpN_gt 65 61 dX7_isFor_58 rfl rfl (by have := hI.lot (l := p) (by omega); omega) (by omega) (fun c58 => ?_) (fun c58 => ?_)
        · refine g_iconst 66 (nI 0) dX7_isFor_65 rfl rfl ?_
          exact g_zret rfl dX7_isFor_66 rfl ⟨by have h2 := hI.lot hp; have h4 := hI.latest (c * 4 + gd); first | exact congrArg bi (isfor_t c7 ((nI_sub_le (by omega) (by omega) (by omega)).mp (fa_of_nlt c21)) ((nI_m1_le (by omega) (by omega)).mp (fa_of_nlt c47)) c58).symm | exact congrArg bi (isfor_f1 c7).symm | exact congrArg bi (isfor_f2 (fun z => (fa_of_lt c21).2.1 ((nI_sub_le (by omega) (by omega) (by omega)).mpr z))).symm | exact congrArg bi (isfor_f3 (fun z => (fa_of_lt c47).2.1 ((nI_m1_le (by omega) (by omega)).mpr z))).symm | exact congrArg bi (isfor_f4 (by omega)).symm, rfl⟩
        · refine g_iconst 62 (nI 1) dX7_isFor_61 rfl rfl ?_
          refine g_goto 66 dX7_isFor_62 rfl ?_
          exact g_zret rfl dX7_isFor_66 rfl ⟨by have h2 := hI.lot hp; have h4 := hI.latest (c * 4 + gd); first | exact congrArg bi (isfor_t c7 ((nI_sub_le (by omega) (by omega) (by omega)).mp (fa_of_nlt c21)) ((nI_m1_le (by omega) (by omega)).mp (fa_of_nlt c47)) c58).symm | exact congrArg bi (isfor_f1 c7).symm | exact congrArg bi (isfor_f2 (fun z => (fa_of_lt c21).2.1 ((nI_sub_le (by omega) (by omega) (by omega)).mpr z))).symm | exact congrArg bi (isfor_f3 (fun z => (fa_of_lt c47).2.1 ((nI_m1_le (by omega) (by omega)).mpr z))).symm | exact congrArg bi (isfor_f4 (by omega)).symm, rfl⟩

set_option maxHeartbeats 4000000 in
set_option maxRecDepth 100000 in
theorem c_X7_lifeOf {l : Launch} {D : va_G} {g : Nat → Nat → Nat} {ca : Nat → ClassId} {M : Mm} {a : Sa} (hN : RM (M.1 18 12) a) (hI : Iv a) (c : Nat) (hc : c < a 0 2) : Ct l D g ca md_X7_lifeOf [.ref (g 18 0), .int (nI c)] M (Ri (fun r M1 => r = nI (a 8 c) ∧ M1 = M)) := by
  refine Ct.of (by decide) rfl (Nat.le_of_ble_eq_true rfl) ?_
  have b0 := hI.today
  have b1 := hI.g4
  have b1' := hI.g1
  have b2 := hN.c6
  have b3 := hN.l24
  have b4 := hN.o40
  show G l D g ca md_X7_lifeOf 0 [(0, .ref (g 18 0)), (1, .int (nI c))] [] M _
  refine g_aload_n 1 0 dX7_lifeOf_0 rfl rfl ?_
  refine g_geta 4 12 dX7_lifeOf_1 rfl fX7_64 rfl (by decide) rfl rfl ?_
  refine g_bipush 6 (nI 7) dX7_lifeOf_4 rfl rfl ?_
  refine g_iconst 7 (nI 5) dX7_lifeOf_6 rfl rfl ?_
  refine g_iload_n 8 1 dX7_lifeOf_7 rfl rfl ?_
  refine g_imul 9 (nI (5 * c)) dX7_lifeOf_8 rfl (pk_mul 5 c) ?_
  refine g_iadd 10 (nI (7 + (5 * c))) dX7_lifeOf_9 rfl (nI_add 7 (5 * c)) ?_
  refine g_iald 11 (nI (a 8 c)) dX7_lifeOf_10 rfl rfl (by decide) rfl (by decide) (by omega) (hN.life (by omega)) ?_
  exact g_iret rfl dX7_lifeOf_11 ⟨rfl, rfl⟩

set_option maxHeartbeats 4000000 in
set_option maxRecDepth 100000 in
theorem c_X7_isFit {l : Launch} {D : va_G} {g : Nat → Nat → Nat} {ca : Nat → ClassId} {M : Mm} {a : Sa} (hN : RM (M.1 18 12) a) (hI : Iv a) (p q : Nat) (hp : p < a 0 3) (hq : q < a 0 4) : Ct l D g ca md_X7_isFit [.ref (g 18 0), .int (nI p), .int (nI q)] M (Ri (fun r M1 => r = bi (fit a p q) ∧ M1 = M)) := by
  refine Ct.of (by decide) rfl (Nat.le_of_ble_eq_true rfl) ?_
  have b0 := hI.today
  have b1 := hI.g4
  have b1' := hI.g1
  have b2 := hN.c6
  have b3 := hN.l24
  have b4 := hN.o40
  show G l D g ca md_X7_isFit 0 [(0, .ref (g 18 0)), (1, .int (nI p)), (2, .int (nI q))] [] M _
  refine g_aload_n 1 0 dX7_isFit_0 rfl rfl ?_
  refine g_iload_n 2 1 dX7_isFit_1 rfl rfl ?_
  refine g_aload_n 3 0 dX7_isFit_2 rfl rfl ?_
  refine g_iload_n 4 2 dX7_isFit_3 rfl rfl ?_
  refine g_iconst 5 (nI 0) dX7_isFit_4 rfl rfl ?_
  refine g_callVi 8 md_X7_ordered [.int (nI q), .int (nI 0)] [.int (nI p), .ref (g 18 0)] dX7_isFit_5 rfl e_X7_isFit_169 rfl (by decide) rfl rfl (Nat.le_of_ble_eq_true rfl) (c_X7_ordered hN hI q 0 14 (by omega) (by decide) rfl) (fun r5 M5 h5 => ?_)
  obtain ⟨rfl, h5⟩ := h5
  have h5 := h5.symm
  subst h5
  refine g_aload_n 9 0 dX7_isFit_8 rfl rfl ?_
  refine g_iload_n 10 2 dX7_isFit_9 rfl rfl ?_
  refine g_iconst 11 (nI 1) dX7_isFit_10 rfl rfl ?_
  refine g_callVi 14 md_X7_ordered [.int (nI q), .int (nI 1)] [.int (nI (a 14 q)), .int (nI p), .ref (g 18 0)] dX7_isFit_11 rfl e_X7_isFit_169 rfl (by decide) rfl rfl (Nat.le_of_ble_eq_true rfl) (c_X7_ordered hN hI q 1 15 (by omega) (by decide) rfl) (fun r11 M11 h11 => ?_)
  obtain ⟨rfl, h11⟩ := h11
  have h11 := h11.symm
  subst h11
  refine g_aload_n 15 0 dX7_isFit_14 rfl rfl ?_
  refine g_iload_n 16 2 dX7_isFit_15 rfl rfl ?_
  refine g_iconst 17 (nI 3) dX7_isFit_16 rfl rfl ?_
  refine g_callVi 20 md_X7_ordered [.int (nI q), .int (nI 3)] [.int (nI (a 15 q)), .int (nI (a 14 q)), .int (nI p), .ref (g 18 0)] dX7_isFit_17 rfl e_X7_isFit_169 rfl (by decide) rfl rfl (Nat.le_of_ble_eq_true rfl) (c_X7_ordered hN hI q 3 17 (by omega) (by decide) rfl) (fun r17 M17 h17 => ?_)
  obtain ⟨rfl, h17⟩ := h17
  have h17 := h17.symm
  subst h17
  refine g_aload_n 21 0 dX7_isFit_20 rfl rfl ?_
  refine g_aload_n 22 0 dX7_isFit_21 rfl rfl ?_
  refine g_iload_n 23 2 dX7_isFit_22 rfl rfl ?_
  refine g_iconst 24 (nI 0) dX7_isFit_23 rfl rfl ?_
  refine g_callVi 27 md_X7_ordered [.int (nI q), .int (nI 0)] [.ref (g 18 0), .int (nI (a 17 q)), .int (nI (a 15 q)), .int (nI (a 14 q)), .int (nI p), .ref (g 18 0)] dX7_isFit_24 rfl e_X7_isFit_169 rfl (by decide) rfl rfl (Nat.le_of_ble_eq_true rfl) (c_X7_ordered hN hI q 0 14 (by omega) (by decide) rfl) (fun r24 M24 h24 => ?_)
  obtain ⟨rfl, h24⟩ := h24
  have h24 := h24.symm
  subst h24
  refine g_callVi 30 md_X7_lifeOf [.int (nI (a 14 q))] [.int (nI (a 17 q)), .int (nI (a 15 q)), .int (nI (a 14 q)), .int (nI p), .ref (g 18 0)] dX7_isFit_27 rfl e_X7_isFit_179 rfl (by decide) rfl rfl (Nat.le_of_ble_eq_true rfl) (c_X7_lifeOf hN hI (a 14 q) (by have := hI.ord (o := q) (by omega); omega)) (fun r27 M27 h27 => ?_)
  obtain ⟨rfl, h27⟩ := h27
  have h27 := h27.symm
  subst h27
  refine g_callVi 33 md_X7_isFor [.int (nI p), .int (nI (a 14 q)), .int (nI (a 15 q)), .int (nI (a 17 q)), .int (nI (a 8 (a 14 q)))] [] dX7_isFit_30 rfl e_X7_isFit_182 rfl (by decide) rfl rfl (Nat.le_of_ble_eq_true rfl) (c_X7_isFor hN hI p (a 14 q) (a 15 q) (a 17 q) (a 8 (a 14 q)) (by omega) (by have := hI.ord (o := q) (by omega); omega) (by have := hI.ord (o := q) (by omega); omega) (by have := hI.ord (o := q) (by omega); omega) (by have := hI.ord (o := q) (by omega); have := hI.life (c := (a 14 q)) (by omega); omega)) (fun r30 M30 h30 => ?_)
  obtain ⟨rfl, h30⟩ := h30
  have h30 := h30.symm
  subst h30
  exact g_zret rfl dX7_isFit_33 (bi_nar _) ⟨rfl, rfl⟩

set_option maxHeartbeats 4000000 in
set_option maxRecDepth 100000 in
theorem c_X7_sumOf {l : Launch} {D : va_G} {g : Nat → Nat → Nat} {ca : Nat → ClassId} {M : Mm} {a : Sa} (hN : RM (M.1 18 12) a) (hI : Iv a) (s : Nat) (hs : s < 65536) : Ct l D g ca md_X7_sumOf [.ref (g 18 0), .int (nI s)] M (Ri (fun r M1 => r = nI (fb_sm (fun p => if s = 2 then a 12 p else fb_sm (res a p) (a 0 4)) (a 0 3)) ∧ M1 = M)) := by
  refine Ct.of (by decide) rfl (Nat.le_of_ble_eq_true rfl) ?_
  have b0 := hI.today
  have b1 := hI.g4
  have b1' := hI.g1
  have b2 := hN.c6
  have b3 := hN.l24
  have b4 := hN.o40
  show G l D g ca md_X7_sumOf 0 [(0, .ref (g 18 0)), (1, .int (nI s))] [] M _
  refine g_iconst 1 (nI 0) dX7_sumOf_0 rfl rfl ?_
  refine g_istore_n 2 [(2, .int (nI 0)), (0, .ref (g 18 0)), (1, .int (nI s))] dX7_sumOf_1 rfl (by decide) rfl ?_
  refine g_iconst 3 (nI 0) dX7_sumOf_2 rfl rfl ?_
  refine g_istore_n 4 [(3, .int (nI 0)), (2, .int (nI 0)), (0, .ref (g 18 0)), (1, .int (nI s))] dX7_sumOf_3 rfl (by decide) rfl ?_
  have L4 : ∀ k, k ≤ a 0 3 → ∀ v, v = fb_sm (fun p => if s = 2 then a 12 p else fb_sm (res a p) (a 0 4)) k → G l D g ca md_X7_sumOf 4 [(3, .int (nI k)), (2, .int (nI v)), (0, .ref (g 18 0)), (1, .int (nI s))] [] M (Ri (fun r M1 => r = nI (fb_sm (fun p => if s = 2 then a 12 p else fb_sm (res a p) (a 0 4)) (a 0 3)) ∧ M1 = M)) := by
    refine upto ?_
    intro k hk ih4 v hv
    refine g_iload_n 5 0 dX7_sumOf_4 rfl rfl ?_
    refine g_aload_n 6 2 dX7_sumOf_5 rfl rfl ?_
    refine g_geta 9 12 dX7_sumOf_6 rfl fX7_64 rfl (by decide) rfl rfl ?_
    refine g_iconst 10 (nI 3) dX7_sumOf_9 rfl rfl ?_
    refine g_iald 11 (nI (a 0 3)) dX7_sumOf_10 rfl rfl (by decide) rfl (by decide) (by omega) (hN.sc (by decide)) ?_
    refine g_icmpN_ge 42 14 dX7_sumOf_11 rfl rfl (by omega) (by omega) (fun c11 => ?_) (fun c11 => ?_)
    · refine g_iload_n 43 1 dX7_sumOf_42 rfl rfl ?_
      exact g_iret rfl dX7_sumOf_43 ⟨by rw [hv, show k = a 0 3 by omega], rfl⟩
    · refine g_iload_n 15 1 dX7_sumOf_14 rfl rfl ?_
      refine g_iload_n 16 3 dX7_sumOf_15 rfl rfl ?_
      refine g_iconst 17 (nI 2) dX7_sumOf_16 rfl rfl ?_
      refine g_icmpN_ne 29 20 dX7_sumOf_17 rfl rfl (by omega) (by omega) (fun c17 => ?_) (fun c17 => ?_)
      · refine g_aload_n 30 2 dX7_sumOf_29 rfl rfl ?_
        refine g_iload_n 31 0 dX7_sumOf_30 rfl rfl ?_
        refine g_callVi 34 md_X7_ofLot [.int (nI k)] [.int (nI v)] dX7_sumOf_31 rfl e_X7_sumOf_186 rfl (by decide) rfl rfl (Nat.le_of_ble_eq_true rfl) (c_X7_ofLot hN hI k (by omega)) (fun r31 M31 h31 => ?_)
        obtain ⟨rfl, h31⟩ := h31
        have h31 := h31.symm
        subst h31
        refine g_iadd 35 (nI (v + (fb_sm (res a k) (a 0 4)))) dX7_sumOf_34 rfl (nI_add v (fb_sm (res a k) (a 0 4))) ?_
        refine g_istore_n 36 [(2, .int (nI (v + (fb_sm (res a k) (a 0 4))))), (3, .int (nI k)), (0, .ref (g 18 0)), (1, .int (nI s))] dX7_sumOf_35 rfl (by decide) rfl ?_
        refine g_iinc 39 (nI (k + 1)) [(3, .int (nI (k + 1))), (2, .int (nI (v + (fb_sm (res a k) (a 0 4))))), (0, .ref (g 18 0)), (1, .int (nI s))] dX7_sumOf_36 rfl 1 rfl (nI_add k 1) (by decide) rfl ?_
        refine g_goto 4 dX7_sumOf_39 rfl ?_
        exact ih4 (by omega) _ (by rw [fb_sm_succ, hv]; first | rw [if_pos c17] | rw [if_neg c17])
      · refine g_aload_n 21 2 dX7_sumOf_20 rfl rfl ?_
        refine g_iload_n 22 0 dX7_sumOf_21 rfl rfl ?_
        refine g_iconst 23 (nI 2) dX7_sumOf_22 rfl rfl ?_
        refine g_callVi 26 md_X7_lies [.int (nI k), .int (nI 2)] [.int (nI v)] dX7_sumOf_23 rfl e_X7_sumOf_176 rfl (by decide) rfl rfl (Nat.le_of_ble_eq_true rfl) (c_X7_lies hN hI k 2 12 (by omega) (by decide) rfl) (fun r23 M23 h23 => ?_)
        obtain ⟨rfl, h23⟩ := h23
        have h23 := h23.symm
        subst h23
        refine g_goto 34 dX7_sumOf_26 rfl ?_
        refine g_iadd 35 (nI (v + (a 12 k))) dX7_sumOf_34 rfl (nI_add v (a 12 k)) ?_
        refine g_istore_n 36 [(2, .int (nI (v + (a 12 k)))), (3, .int (nI k)), (0, .ref (g 18 0)), (1, .int (nI s))] dX7_sumOf_35 rfl (by decide) rfl ?_
        refine g_iinc 39 (nI (k + 1)) [(3, .int (nI (k + 1))), (2, .int (nI (v + (a 12 k)))), (0, .ref (g 18 0)), (1, .int (nI s))] dX7_sumOf_36 rfl 1 rfl (nI_add k 1) (by decide) rfl ?_
        refine g_goto 4 dX7_sumOf_39 rfl ?_
        exact ih4 (by omega) _ (by rw [fb_sm_succ, hv]; first | rw [if_pos c17] | rw [if_neg c17])
  exact L4 0 (Nat.zero_le _) 0 rfl

set_option maxHeartbeats 4000000 in
set_option maxRecDepth 100000 in
theorem c_X7_openMany {l : Launch} {D : va_G} {g : Nat → Nat → Nat} {ca : Nat → ClassId} {M : Mm} {a : Sa} (hN : RM (M.1 18 12) a) (hI : Iv a) : Ct l D g ca md_X7_openMany [.ref (g 18 0)] M (Ri (fun r M1 => r = nI (fb_ct (fun i => decide (a 18 i = 0)) (a 0 4)) ∧ M1 = M)) := by
  refine Ct.of (by decide) rfl (Nat.le_of_ble_eq_true rfl) ?_
  have b0 := hI.today
  have b1 := hI.g4
  have b1' := hI.g1
  have b2 := hN.c6
  have b3 := hN.l24
  have b4 := hN.o40
  show G l D g ca md_X7_openMany 0 [(0, .ref (g 18 0))] [] M _
  refine g_iconst 1 (nI 0) dX7_openMany_0 rfl rfl ?_
  refine g_istore_n 2 [(1, .int (nI 0)), (0, .ref (g 18 0))] dX7_openMany_1 rfl (by decide) rfl ?_
  refine g_iconst 3 (nI 0) dX7_openMany_2 rfl rfl ?_
  refine g_istore_n 4 [(2, .int (nI 0)), (1, .int (nI 0)), (0, .ref (g 18 0))] dX7_openMany_3 rfl (by decide) rfl ?_
  have L4 : ∀ k, k ≤ a 0 4 → ∀ v, v = fb_ct (fun i => decide (a 18 i = 0)) k → G l D g ca md_X7_openMany 4 [(2, .int (nI k)), (1, .int (nI v)), (0, .ref (g 18 0))] [] M (Ri (fun r M1 => r = nI (fb_ct (fun i => decide (a 18 i = 0)) (a 0 4)) ∧ M1 = M)) := by
    refine upto ?_
    intro k hk ih4 v hv
    refine g_iload_n 5 0 dX7_openMany_4 rfl rfl ?_
    refine g_aload_n 6 2 dX7_openMany_5 rfl rfl ?_
    refine g_geta 9 12 dX7_openMany_6 rfl fX7_64 rfl (by decide) rfl rfl ?_
    refine g_iconst 10 (nI 4) dX7_openMany_9 rfl rfl ?_
    refine g_iald 11 (nI (a 0 4)) dX7_openMany_10 rfl rfl (by decide) rfl (by decide) (by omega) (hN.sc (by decide)) ?_
    refine g_icmpN_ge 31 14 dX7_openMany_11 rfl rfl (by omega) (by omega) (fun c11 => ?_) (fun c11 => ?_)
    · refine g_iload_n 32 1 dX7_openMany_31 rfl rfl ?_
      exact g_iret rfl dX7_openMany_32 ⟨by rw [hv, show k = a 0 4 by omega], rfl⟩
    · refine g_aload_n 15 2 dX7_openMany_14 rfl rfl ?_
      refine g_iload_n 16 0 dX7_openMany_15 rfl rfl ?_
      refine g_callVi 19 md_X7_isOpen [.int (nI k)] [] dX7_openMany_16 rfl e_X7_openMany_189 rfl (by decide) rfl rfl (Nat.le_of_ble_eq_true rfl) (c_X7_isOpen hN hI (nI k)) (fun r16 M16 h16 => ?_)
      obtain ⟨rfl, h16⟩ := h16
      have h16 := h16.symm
      subst h16
      rw [opn_nI (by omega) (by omega)]
      refine g_ifB_eq 25 22 dX7_openMany_19 rfl rfl (fun c19 => ?_) (fun c19 => ?_)
      · refine g_iinc 28 (nI (k + 1)) [(2, .int (nI (k + 1))), (1, .int (nI v)), (0, .ref (g 18 0))] dX7_openMany_25 rfl 0 rfl (nI_add k 1) (by decide) rfl ?_
        refine g_goto 4 dX7_openMany_28 rfl ?_
        exact ih4 (by omega) _ (by rw [fb_ct_succ, hv, c19]; rfl)
      · refine g_iinc 25 (nI (v + 1)) [(1, .int (nI (v + 1))), (2, .int (nI k)), (0, .ref (g 18 0))] dX7_openMany_22 rfl 1 rfl (nI_add v 1) (by decide) rfl ?_
        refine g_iinc 28 (nI (k + 1)) [(2, .int (nI (k + 1))), (1, .int (nI (v + 1))), (0, .ref (g 18 0))] dX7_openMany_25 rfl 1 rfl (nI_add k 1) (by decide) rfl ?_
        refine g_goto 4 dX7_openMany_28 rfl ?_
        exact ih4 (by omega) _ (by rw [fb_ct_succ, hv, c19]; rfl)
  exact L4 0 (Nat.zero_le _) 0 rfl
