set_option maxHeartbeats 4000000 in
set_option maxRecDepth 100000 in
theorem c_X7_turnOf {l : Launch} {D : va_G} {g : Nat → Nat → Nat} {ca : Nat → ClassId} {M : Mm} {am : Nat} {f : Nat → Nat} (hcnt : M.1 18 0 24 = nI am) (hr : ∀ i, i < am → M.1 18 17 i = nI (f i) ∧ f i < 65536) (ha : am ≤ 8) (x : Nat) (hx : x < 65536) : Ct l D g ca md_X7_turnOf [.ref (g 18 0), .int (nI x)] M (Ri (fun r M1 => r = nI (fa_first (fun i => decide (f i = x)) am) ∧ M1 = M)) := by
  refine Ct.of (by decide) rfl (Nat.le_of_ble_eq_true rfl) ?_
  show G l D g ca md_X7_turnOf 0 [(0, .ref (g 18 0)), (1, .int (nI x))] [] M _
  refine g_iconst 1 (nI 0) dX7_turnOf_0 rfl rfl ?_
  refine g_istore_n 2 [(2, .int (nI 0)), (0, .ref (g 18 0)), (1, .int (nI x))] dX7_turnOf_1 rfl (by decide) rfl ?_
  have L2 : ∀ k, k ≤ am → (∀ i, i < k → ¬ f i = x) → G l D g ca md_X7_turnOf 2 [(2, .int (nI k)), (0, .ref (g 18 0)), (1, .int (nI x))] [] M (Ri (fun r M1 => r = nI (fa_first (fun i => decide (f i = x)) am) ∧ M1 = M)) := by
    refine upto ?_
    intro k hk ih2 hv
    refine g_iload_n 3 0 dX7_turnOf_2 rfl rfl ?_
    refine g_aload_n 4 1 dX7_turnOf_3 rfl rfl ?_
    refine g_get 7 (nI am) dX7_turnOf_4 rfl fX7_221 rfl (by decide) rfl hcnt ?_
    refine g_icmpN_ge 26 10 dX7_turnOf_7 rfl rfl (by omega) (by omega) (fun c7 => ?_) (fun c7 => ?_)
    · refine g_iload_n 27 0 dX7_turnOf_26 rfl rfl ?_
      exact g_iret rfl dX7_turnOf_27 ⟨by first | (rw [first_no (fun i hi => decide_eq_false (hv i (by omega))), show k = am by omega]) | (rw [first_eq (by omega) (decide_eq_true c17) (fun i hi => decide_eq_false (hv i hi))]), rfl⟩
    · refine g_aload_n 11 1 dX7_turnOf_10 rfl rfl ?_
      refine g_geta 14 17 dX7_turnOf_11 rfl fX7_73 rfl (by decide) rfl rfl ?_
      refine g_iload_n 15 0 dX7_turnOf_14 rfl rfl ?_
      refine g_iald 16 (nI (f k)) dX7_turnOf_15 rfl rfl (by decide) rfl (by decide) (by omega) (hr _ (by omega)).1 ?_
      refine g_iload_n 17 2 dX7_turnOf_16 rfl rfl ?_
      refine g_icmpN_eq 26 20 dX7_turnOf_17 rfl rfl (by have := (hr k (by omega)).2; omega) (by omega) (fun c17 => ?_) (fun c17 => ?_)
      · refine g_iload_n 27 0 dX7_turnOf_26 rfl rfl ?_
        exact g_iret rfl dX7_turnOf_27 ⟨by first | (rw [first_no (fun i hi => decide_eq_false (hv i (by omega))), show k = am by omega]) | (rw [first_eq (by omega) (decide_eq_true c17) (fun i hi => decide_eq_false (hv i hi))]), rfl⟩
      · refine g_iinc 23 (nI (k + 1)) [(2, .int (nI (k + 1))), (0, .ref (g 18 0)), (1, .int (nI x))] dX7_turnOf_20 rfl 0 rfl (nI_add k 1) (by decide) rfl ?_
        refine g_goto 2 dX7_turnOf_23 rfl ?_
        exact ih2 (by omega) (lt_s hv c17)
  exact L2 0 (Nat.zero_le _) (fun i h => absurd h (Nat.not_lt_zero i))

set_option maxHeartbeats 4000000 in
set_option maxRecDepth 100000 in
theorem c_X7_ageOf {l : Launch} {D : va_G} {g : Nat → Nat → Nat} {ca : Nat → ClassId} {M : Mm} {am : Nat} {f : Nat → Nat} (hcnt : M.1 18 0 25 = nI am) (hr : ∀ i, i < am → M.1 18 18 i = nI (f i) ∧ f i < 65536) (ha : am ≤ 24) (x : Nat) (hx : x < 65536) : Ct l D g ca md_X7_ageOf [.ref (g 18 0), .int (nI x)] M (Ri (fun r M1 => r = nI (fa_first (fun i => decide (f i = x)) am) ∧ M1 = M)) := by
  refine Ct.of (by decide) rfl (Nat.le_of_ble_eq_true rfl) ?_
  show G l D g ca md_X7_ageOf 0 [(0, .ref (g 18 0)), (1, .int (nI x))] [] M _
  refine g_iconst 1 (nI 0) dX7_ageOf_0 rfl rfl ?_
  refine g_istore_n 2 [(2, .int (nI 0)), (0, .ref (g 18 0)), (1, .int (nI x))] dX7_ageOf_1 rfl (by decide) rfl ?_
  have L2 : ∀ k, k ≤ am → (∀ i, i < k → ¬ f i = x) → G l D g ca md_X7_ageOf 2 [(2, .int (nI k)), (0, .ref (g 18 0)), (1, .int (nI x))] [] M (Ri (fun r M1 => r = nI (fa_first (fun i => decide (f i = x)) am) ∧ M1 = M)) := by
    refine upto ?_
    intro k hk ih2 hv
    refine g_iload_n 3 0 dX7_ageOf_2 rfl rfl ?_
    refine g_aload_n 4 1 dX7_ageOf_3 rfl rfl ?_
    refine g_get 7 (nI am) dX7_ageOf_4 rfl fX7_224 rfl (by decide) rfl hcnt ?_
    refine g_icmpN_ge 26 10 dX7_ageOf_7 rfl rfl (by omega) (by omega) (fun c7 => ?_) (fun c7 => ?_)
    · refine g_iload_n 27 0 dX7_ageOf_26 rfl rfl ?_
      exact g_iret rfl dX7_ageOf_27 ⟨by first | (rw [first_no (fun i hi => decide_eq_false (hv i (by omega))), show k = am by omega]) | (rw [first_eq (by omega) (decide_eq_true c17) (fun i hi => decide_eq_false (hv i hi))]), rfl⟩
    · refine g_aload_n 11 1 dX7_ageOf_10 rfl rfl ?_
      refine g_geta 14 18 dX7_ageOf_11 rfl fX7_76 rfl (by decide) rfl rfl ?_
      refine g_iload_n 15 0 dX7_ageOf_14 rfl rfl ?_
      refine g_iald 16 (nI (f k)) dX7_ageOf_15 rfl rfl (by decide) rfl (by decide) (by omega) (hr _ (by omega)).1 ?_
      refine g_iload_n 17 2 dX7_ageOf_16 rfl rfl ?_
      refine g_icmpN_eq 26 20 dX7_ageOf_17 rfl rfl (by have := (hr k (by omega)).2; omega) (by omega) (fun c17 => ?_) (fun c17 => ?_)
      · refine g_iload_n 27 0 dX7_ageOf_26 rfl rfl ?_
        exact g_iret rfl dX7_ageOf_27 ⟨by first | (rw [first_no (fun i hi => decide_eq_false (hv i (by omega))), show k = am by omega]) | (rw [first_eq (by omega) (decide_eq_true c17) (fun i hi => decide_eq_false (hv i hi))]), rfl⟩
      · refine g_iinc 23 (nI (k + 1)) [(2, .int (nI (k + 1))), (0, .ref (g 18 0)), (1, .int (nI x))] dX7_ageOf_20 rfl 0 rfl (nI_add k 1) (by decide) rfl ?_
        refine g_goto 2 dX7_ageOf_23 rfl ?_
        exact ih2 (by omega) (lt_s hv c17)
  exact L2 0 (Nat.zero_le _) (fun i h => absurd h (Nat.not_lt_zero i))

set_option maxHeartbeats 4000000 in
set_option maxRecDepth 100000 in
theorem c_X7_canWaste {l : Launch} {D : va_G} {g : Nat → Nat → Nat} {ca : Nat → ClassId} {M : Mm} {a : Sa} (hN : RM (M.1 18 12) a) (hI : Iv a) (x d : Int32) : Ct l D g ca md_X7_canWaste [.ref (g 18 0), .int x, .int d] M (Ri (fun r M1 => r = bi (inr x (a 0 1) && ahead a d) ∧ M1 = M)) := by
  refine Ct.of (by decide) rfl (Nat.le_of_ble_eq_true rfl) ?_
  have b0 := hI.today
  have b1 := hI.g4
  have b1' := hI.g1
  have b2 := hN.c6
  have b3 := hN.l24
  have b4 := hN.o40
  show G l D g ca md_X7_canWaste 0 [(0, .ref (g 18 0)), (1, .int x), (2, .int d)] [] M _
  refine g_aload_n 1 0 dX7_canWaste_0 rfl rfl ?_
  refine g_iload_n 2 1 dX7_canWaste_1 rfl rfl ?_
  refine g_callVi 5 md_X7_isGood [.int x] [] dX7_canWaste_2 rfl e_X7_canWaste_214 rfl (by decide) rfl rfl (Nat.le_of_ble_eq_true rfl) (c_X7_isGood hN hI x) (fun r2 M2 h2 => ?_)
  obtain ⟨rfl, h2⟩ := h2
  have h2 := h2.symm
  subst h2
  refine g_ifB_eq 30 8 dX7_canWaste_5 rfl rfl (fun c5 => ?_) (fun c5 => ?_)
  · refine g_iconst 31 (nI 0) dX7_canWaste_30 rfl rfl ?_
    exact g_zret rfl dX7_canWaste_31 rfl ⟨by first | (rw [c5, c23]; rfl) | (rw [c5]; rfl) | (rw [c23, Bool.and_false]; rfl), rfl⟩
  · refine g_iload_n 9 2 dX7_canWaste_8 rfl rfl ?_
    refine g_aload_n 10 0 dX7_canWaste_9 rfl rfl ?_
    refine g_callVi 13 md_X7_today [] [.int d] dX7_canWaste_10 rfl e_X7_canWaste_192 rfl (by decide) rfl rfl (Nat.le_of_ble_eq_true rfl) (c_X7_today hN hI) (fun r10 M10 h10 => ?_)
    obtain ⟨rfl, h10⟩ := h10
    have h10 := h10.symm
    subst h10
    refine g_aload_n 14 0 dX7_canWaste_13 rfl rfl ?_
    refine g_callVi 17 md_X7_today [] [.int (nI (a 0 0)), .int d] dX7_canWaste_14 rfl e_X7_canWaste_192 rfl (by decide) rfl rfl (Nat.le_of_ble_eq_true rfl) (c_X7_today hN hI) (fun r14 M14 h14 => ?_)
    obtain ⟨rfl, h14⟩ := h14
    have h14 := h14.symm
    subst h14
    refine g_bipush 19 (nI 99) dX7_canWaste_17 rfl rfl ?_
    refine g_iadd 20 (nI ((a 0 0) + 99)) dX7_canWaste_19 rfl (nI_add (a 0 0) 99) ?_
    refine g_callSi 23 md_X7_isIn [.int d, .int (nI (a 0 0)), .int (nI ((a 0 0) + 99))] [] dX7_canWaste_20 rfl e_X7_canWaste_101 rfl rfl (Nat.le_of_ble_eq_true rfl) (c_X7_isIn (d) (nI (a 0 0)) (nI ((a 0 0) + 99))) (fun r20 M20 h20 => ?_)
    obtain ⟨rfl, h20⟩ := h20
    have h20 := h20.symm
    subst h20
    rw [isin_ahead b0]
    refine g_ifB_eq 30 26 dX7_canWaste_23 rfl rfl (fun c23 => ?_) (fun c23 => ?_)
    · refine g_iconst 31 (nI 0) dX7_canWaste_30 rfl rfl ?_
      exact g_zret rfl dX7_canWaste_31 rfl ⟨by first | (rw [c5, c23]; rfl) | (rw [c5]; rfl) | (rw [c23, Bool.and_false]; rfl), rfl⟩
    · refine g_iconst 27 (nI 1) dX7_canWaste_26 rfl rfl ?_
      refine g_goto 31 dX7_canWaste_27 rfl ?_
      exact g_zret rfl dX7_canWaste_31 rfl ⟨by first | (rw [c5, c23]; rfl) | (rw [c5]; rfl) | (rw [c23, Bool.and_false]; rfl), rfl⟩

set_option maxHeartbeats 4000000 in
set_option maxRecDepth 100000 in
theorem c_X7_canAsk {l : Launch} {D : va_G} {g : Nat → Nat → Nat} {ca : Nat → ClassId} {M : Mm} {a : Sa} (hN : RM (M.1 18 12) a) (hI : Iv a) (x y s d : Int32) : Ct l D g ca md_X7_canAsk [.ref (g 18 0), .int x, .int y, .int s, .int d] M (Ri (fun r M1 => r = bi (cask a x y s d) ∧ M1 = M)) := by
  refine Ct.of (by decide) rfl (Nat.le_of_ble_eq_true rfl) ?_
  have b0 := hI.today
  have b1 := hI.g4
  have b1' := hI.g1
  have b2 := hN.c6
  have b3 := hN.l24
  have b4 := hN.o40
  show G l D g ca md_X7_canAsk 0 [(0, .ref (g 18 0)), (1, .int x), (2, .int y), (3, .int s), (4, .int d)] [] M _
  refine g_aload_n 1 0 dX7_canAsk_0 rfl rfl ?_
  refine g_iload_n 2 1 dX7_canAsk_1 rfl rfl ?_
  refine g_callVi 5 md_X7_isCustomerThere [.int x] [] dX7_canAsk_2 rfl e_X7_canAsk_211 rfl (by decide) rfl rfl (Nat.le_of_ble_eq_true rfl) (c_X7_isCustomerThere hN hI x) (fun r2 M2 h2 => ?_)
  obtain ⟨rfl, h2⟩ := h2
  have h2 := h2.symm
  subst h2
  refine g_ifB_eq 49 8 dX7_canAsk_5 rfl rfl (fun c5 => ?_) (fun c5 => ?_)
  · refine g_iconst 50 (nI 0) dX7_canAsk_49 rfl rfl ?_
    exact g_zret rfl dX7_canAsk_50 rfl ⟨by unfold cask; first | (rw [c5, c13, c23, c42]; rfl) | (rw [c5]; rfl) | (rw [c13, Bool.and_false]; rfl) | (rw [c23, Bool.and_false]; rfl) | (rw [c42, Bool.and_false]; rfl), rfl⟩
  · refine g_aload_n 9 0 dX7_canAsk_8 rfl rfl ?_
    refine g_iload_n 10 2 dX7_canAsk_9 rfl rfl ?_
    refine g_callVi 13 md_X7_isGood [.int y] [] dX7_canAsk_10 rfl e_X7_canAsk_214 rfl (by decide) rfl rfl (Nat.le_of_ble_eq_true rfl) (c_X7_isGood hN hI y) (fun r10 M10 h10 => ?_)
    obtain ⟨rfl, h10⟩ := h10
    have h10 := h10.symm
    subst h10
    refine g_ifB_eq 49 16 dX7_canAsk_13 rfl rfl (fun c13 => ?_) (fun c13 => ?_)
    · refine g_iconst 50 (nI 0) dX7_canAsk_49 rfl rfl ?_
      exact g_zret rfl dX7_canAsk_50 rfl ⟨by unfold cask; first | (rw [c5, c13, c23, c42]; rfl) | (rw [c5]; rfl) | (rw [c13, Bool.and_false]; rfl) | (rw [c23, Bool.and_false]; rfl) | (rw [c42, Bool.and_false]; rfl), rfl⟩
    · refine g_iload_n 17 3 dX7_canAsk_16 rfl rfl ?_
      refine g_iconst 18 (nI 1) dX7_canAsk_17 rfl rfl ?_
      refine g_bipush 20 (nI 99) dX7_canAsk_18 rfl rfl ?_
      refine g_callSi 23 md_X7_isIn [.int s, .int (nI 1), .int (nI 99)] [] dX7_canAsk_20 rfl e_X7_canAsk_101 rfl rfl (Nat.le_of_ble_eq_true rfl) (c_X7_isIn (s) (nI 1) (nI 99)) (fun r20 M20 h20 => ?_)
      obtain ⟨rfl, h20⟩ := h20
      have h20 := h20.symm
      subst h20
      refine g_ifB_eq 49 26 dX7_canAsk_23 rfl rfl (fun c23 => ?_) (fun c23 => ?_)
      · refine g_iconst 50 (nI 0) dX7_canAsk_49 rfl rfl ?_
        exact g_zret rfl dX7_canAsk_50 rfl ⟨by unfold cask; first | (rw [c5, c13, c23, c42]; rfl) | (rw [c5]; rfl) | (rw [c13, Bool.and_false]; rfl) | (rw [c23, Bool.and_false]; rfl) | (rw [c42, Bool.and_false]; rfl), rfl⟩
      · refine g_iload 28 4 dX7_canAsk_26 rfl rfl ?_
        refine g_aload_n 29 0 dX7_canAsk_28 rfl rfl ?_
        refine g_callVi 32 md_X7_today [] [.int d] dX7_canAsk_29 rfl e_X7_canAsk_192 rfl (by decide) rfl rfl (Nat.le_of_ble_eq_true rfl) (c_X7_today hN hI) (fun r29 M29 h29 => ?_)
        obtain ⟨rfl, h29⟩ := h29
        have h29 := h29.symm
        subst h29
        refine g_aload_n 33 0 dX7_canAsk_32 rfl rfl ?_
        refine g_callVi 36 md_X7_today [] [.int (nI (a 0 0)), .int d] dX7_canAsk_33 rfl e_X7_canAsk_192 rfl (by decide) rfl rfl (Nat.le_of_ble_eq_true rfl) (c_X7_today hN hI) (fun r33 M33 h33 => ?_)
        obtain ⟨rfl, h33⟩ := h33
        have h33 := h33.symm
        subst h33
        refine g_bipush 38 (nI 99) dX7_canAsk_36 rfl rfl ?_
        refine g_iadd 39 (nI ((a 0 0) + 99)) dX7_canAsk_38 rfl (nI_add (a 0 0) 99) ?_
        refine g_callSi 42 md_X7_isIn [.int d, .int (nI (a 0 0)), .int (nI ((a 0 0) + 99))] [] dX7_canAsk_39 rfl e_X7_canAsk_101 rfl rfl (Nat.le_of_ble_eq_true rfl) (c_X7_isIn (d) (nI (a 0 0)) (nI ((a 0 0) + 99))) (fun r39 M39 h39 => ?_)
        obtain ⟨rfl, h39⟩ := h39
        have h39 := h39.symm
        subst h39
        rw [isin_ahead b0]
        refine g_ifB_eq 49 45 dX7_canAsk_42 rfl rfl (fun c42 => ?_) (fun c42 => ?_)
        · refine g_iconst 50 (nI 0) dX7_canAsk_49 rfl rfl ?_
          exact g_zret rfl dX7_canAsk_50 rfl ⟨by unfold cask; first | (rw [c5, c13, c23, c42]; rfl) | (rw [c5]; rfl) | (rw [c13, Bool.and_false]; rfl) | (rw [c23, Bool.and_false]; rfl) | (rw [c42, Bool.and_false]; rfl), rfl⟩
        · refine g_iconst 46 (nI 1) dX7_canAsk_45 rfl rfl ?_
          refine g_goto 50 dX7_canAsk_46 rfl ?_
          exact g_zret rfl dX7_canAsk_50 rfl ⟨by unfold cask; first | (rw [c5, c13, c23, c42]; rfl) | (rw [c5]; rfl) | (rw [c13, Bool.and_false]; rfl) | (rw [c23, Bool.and_false]; rfl) | (rw [c42, Bool.and_false]; rfl), rfl⟩


set_option maxHeartbeats 4000000 in
set_option maxRecDepth 100000 in
theorem c_X7_isAskedFor12 {l : Launch} {D : va_G} {g : Nat → Nat → Nat} {ca : Nat → ClassId} {M : Mm} {a : Sa} (hN : RM (M.1 18 12) a) (hI : ∀ q, q < a 0 4 → a 14 q < 65536 ∧ a 15 q < 65536 ∧ a 18 q < 65536) (c gd : Nat) (hc : c < 65536) (hg : gd < 65536) : Ct l D g ca md_X7_isAskedFor [.ref (g 18 0), .ref (g 18 12), .int (nI c), .int (nI gd)] M (Ri (fun r M1 => r = bi (asked a c gd) ∧ M1 = M)) := by
  refine Ct.of (by decide) rfl (Nat.le_of_ble_eq_true rfl) ?_
  have b4 := hN.o40
  show G l D g ca md_X7_isAskedFor 0 [(0, .ref (g 18 0)), (1, .ref (g 18 12)), (2, .int (nI c)), (3, .int (nI gd))] [] M _
  refine g_iconst 1 (nI 0) dX7_isAskedFor_0 rfl rfl ?_
  refine g_istore 3 [(4, .int (nI 0)), (0, .ref (g 18 0)), (1, .ref (g 18 12)), (2, .int (nI c)), (3, .int (nI gd))] dX7_isAskedFor_1 rfl (by decide) rfl ?_
  have L3 : ∀ k, k ≤ a 0 4 → (∀ i, i < k → ¬ (a 14 i = c ∧ a 15 i = gd ∧ a 18 i = 0)) → G l D g ca md_X7_isAskedFor 3 [(4, .int (nI k)), (0, .ref (g 18 0)), (1, .ref (g 18 12)), (2, .int (nI c)), (3, .int (nI gd))] [] M (Ri (fun r M1 => r = bi (asked a c gd) ∧ M1 = M)) := by
    refine upto ?_
    intro k hk ih3 hv
    refine g_iload 5 0 dX7_isAskedFor_3 rfl rfl ?_
    refine g_aload_n 6 2 dX7_isAskedFor_5 rfl rfl ?_
    refine g_iconst 7 (nI 4) dX7_isAskedFor_6 rfl rfl ?_
    refine g_iald 8 (nI (a 0 4)) dX7_isAskedFor_7 rfl rfl (by decide) rfl (by decide) (by omega) (hN.sc (by decide)) ?_
    refine g_icmpN_ge 69 11 dX7_isAskedFor_8 rfl rfl (by omega) (by omega) (fun c8 => ?_) (fun c8 => ?_)
    · refine g_iconst 70 (nI 0) dX7_isAskedFor_69 rfl rfl ?_
      exact g_zret rfl dX7_isAskedFor_70 rfl ⟨by first | (rw [asked_f (fun i hi => hv i (by omega))]; rfl) | (rw [asked_t (i := k) (by omega) ⟨by assumption, by assumption, by assumption⟩]; rfl), rfl⟩
    · refine g_aload_n 12 2 dX7_isAskedFor_11 rfl rfl ?_
      refine g_sipush 15 (nI 133) dX7_isAskedFor_12 rfl rfl ?_
      refine g_bipush 17 (nI 6) dX7_isAskedFor_15 rfl rfl ?_
      refine g_iload 19 0 dX7_isAskedFor_17 rfl rfl ?_
      refine g_imul 20 (nI (6 * k)) dX7_isAskedFor_19 rfl (pk_mul 6 k) ?_
      refine g_iadd 21 (nI (133 + (6 * k))) dX7_isAskedFor_20 rfl (nI_add 133 (6 * k)) ?_
      refine g_iconst 22 (nI 0) dX7_isAskedFor_21 rfl rfl ?_
      refine g_iadd 23 (nI ((133 + (6 * k)) + 0)) dX7_isAskedFor_22 rfl (nI_add (133 + (6 * k)) 0) ?_
      refine g_iald 24 (nI (a 14 k)) dX7_isAskedFor_23 rfl rfl (by decide) rfl (by decide) (by omega) (hN.ord (by omega) (by decide) rfl) ?_
      refine g_iload_n 25 3 dX7_isAskedFor_24 rfl rfl ?_
      refine g_icmpN_ne 63 28 dX7_isAskedFor_25 rfl rfl (by have := hI k (by omega); omega) (by omega) (fun c25 => ?_) (fun c25 => ?_)
      · refine g_iinc 66 (nI (k + 1)) [(4, .int (nI (k + 1))), (0, .ref (g 18 0)), (1, .ref (g 18 12)), (2, .int (nI c)), (3, .int (nI gd))] dX7_isAskedFor_63 rfl 0 rfl (nI_add k 1) (by decide) rfl ?_
        refine g_goto 3 dX7_isAskedFor_66 rfl ?_
        exact ih3 (by omega) (lt_s hv (by omega))
      · refine g_aload_n 29 2 dX7_isAskedFor_28 rfl rfl ?_
        refine g_sipush 32 (nI 133) dX7_isAskedFor_29 rfl rfl ?_
        refine g_bipush 34 (nI 6) dX7_isAskedFor_32 rfl rfl ?_
        refine g_iload 36 0 dX7_isAskedFor_34 rfl rfl ?_
        refine g_imul 37 (nI (6 * k)) dX7_isAskedFor_36 rfl (pk_mul 6 k) ?_
        refine g_iadd 38 (nI (133 + (6 * k))) dX7_isAskedFor_37 rfl (nI_add 133 (6 * k)) ?_
        refine g_iconst 39 (nI 1) dX7_isAskedFor_38 rfl rfl ?_
        refine g_iadd 40 (nI ((133 + (6 * k)) + 1)) dX7_isAskedFor_39 rfl (nI_add (133 + (6 * k)) 1) ?_
        refine g_iald 41 (nI (a 15 k)) dX7_isAskedFor_40 rfl rfl (by decide) rfl (by decide) (by omega) (hN.ord (by omega) (by decide) rfl) ?_
        refine g_iload_n 42 4 dX7_isAskedFor_41 rfl rfl ?_
        refine g_icmpN_ne 63 45 dX7_isAskedFor_42 rfl rfl (by have := hI k (by omega); omega) (by omega) (fun c42 => ?_) (fun c42 => ?_)
        · refine g_iinc 66 (nI (k + 1)) [(4, .int (nI (k + 1))), (0, .ref (g 18 0)), (1, .ref (g 18 12)), (2, .int (nI c)), (3, .int (nI gd))] dX7_isAskedFor_63 rfl 0 rfl (nI_add k 1) (by decide) rfl ?_
          refine g_goto 3 dX7_isAskedFor_66 rfl ?_
          exact ih3 (by omega) (lt_s hv (by omega))
        · refine g_aload_n 46 2 dX7_isAskedFor_45 rfl rfl ?_
          refine g_sipush 49 (nI 133) dX7_isAskedFor_46 rfl rfl ?_
          refine g_bipush 51 (nI 6) dX7_isAskedFor_49 rfl rfl ?_
          refine g_iload 53 0 dX7_isAskedFor_51 rfl rfl ?_
          refine g_imul 54 (nI (6 * k)) dX7_isAskedFor_53 rfl (pk_mul 6 k) ?_
          refine g_iadd 55 (nI (133 + (6 * k))) dX7_isAskedFor_54 rfl (nI_add 133 (6 * k)) ?_
          refine g_iconst 56 (nI 4) dX7_isAskedFor_55 rfl rfl ?_
          refine g_iadd 57 (nI ((133 + (6 * k)) + 4)) dX7_isAskedFor_56 rfl (nI_add (133 + (6 * k)) 4) ?_
          refine g_iald 58 (nI (a 18 k)) dX7_isAskedFor_57 rfl rfl (by decide) rfl (by decide) (by omega) (hN.ord (by omega) (by decide) rfl) ?_
          refine g_ifN_ne 63 61 dX7_isAskedFor_58 rfl rfl (by have := hI k (by omega); omega) (fun c58 => ?_) (fun c58 => ?_)
          · refine g_iinc 66 (nI (k + 1)) [(4, .int (nI (k + 1))), (0, .ref (g 18 0)), (1, .ref (g 18 12)), (2, .int (nI c)), (3, .int (nI gd))] dX7_isAskedFor_63 rfl 0 rfl (nI_add k 1) (by decide) rfl ?_
            refine g_goto 3 dX7_isAskedFor_66 rfl ?_
            exact ih3 (by omega) (lt_s hv (by omega))
          · refine g_iconst 62 (nI 1) dX7_isAskedFor_61 rfl rfl ?_
            exact g_zret rfl dX7_isAskedFor_62 rfl ⟨by first | (rw [asked_f (fun i hi => hv i (by omega))]; rfl) | (rw [asked_t (i := k) (by omega) ⟨by assumption, by assumption, by assumption⟩]; rfl), rfl⟩
  exact L3 0 (Nat.zero_le _) (fun i h => absurd h (Nat.not_lt_zero i))

set_option maxHeartbeats 4000000 in
set_option maxRecDepth 100000 in
theorem c_X7_isAskedFor13 {l : Launch} {D : va_G} {g : Nat → Nat → Nat} {ca : Nat → ClassId} {M : Mm} {a : Sa} (hN : RM (M.1 18 13) a) (hI : ∀ q, q < a 0 4 → a 14 q < 65536 ∧ a 15 q < 65536 ∧ a 18 q < 65536) (c gd : Nat) (hc : c < 65536) (hg : gd < 65536) : Ct l D g ca md_X7_isAskedFor [.ref (g 18 0), .ref (g 18 13), .int (nI c), .int (nI gd)] M (Ri (fun r M1 => r = bi (asked a c gd) ∧ M1 = M)) := by
  refine Ct.of (by decide) rfl (Nat.le_of_ble_eq_true rfl) ?_
  have b4 := hN.o40
  show G l D g ca md_X7_isAskedFor 0 [(0, .ref (g 18 0)), (1, .ref (g 18 13)), (2, .int (nI c)), (3, .int (nI gd))] [] M _
  refine g_iconst 1 (nI 0) dX7_isAskedFor_0 rfl rfl ?_
  refine g_istore 3 [(4, .int (nI 0)), (0, .ref (g 18 0)), (1, .ref (g 18 13)), (2, .int (nI c)), (3, .int (nI gd))] dX7_isAskedFor_1 rfl (by decide) rfl ?_
  have L3 : ∀ k, k ≤ a 0 4 → (∀ i, i < k → ¬ (a 14 i = c ∧ a 15 i = gd ∧ a 18 i = 0)) → G l D g ca md_X7_isAskedFor 3 [(4, .int (nI k)), (0, .ref (g 18 0)), (1, .ref (g 18 13)), (2, .int (nI c)), (3, .int (nI gd))] [] M (Ri (fun r M1 => r = bi (asked a c gd) ∧ M1 = M)) := by
    refine upto ?_
    intro k hk ih3 hv
    refine g_iload 5 0 dX7_isAskedFor_3 rfl rfl ?_
    refine g_aload_n 6 2 dX7_isAskedFor_5 rfl rfl ?_
    refine g_iconst 7 (nI 4) dX7_isAskedFor_6 rfl rfl ?_
    refine g_iald 8 (nI (a 0 4)) dX7_isAskedFor_7 rfl rfl (by decide) rfl (by decide) (by omega) (hN.sc (by decide)) ?_
    refine g_icmpN_ge 69 11 dX7_isAskedFor_8 rfl rfl (by omega) (by omega) (fun c8 => ?_) (fun c8 => ?_)
    · refine g_iconst 70 (nI 0) dX7_isAskedFor_69 rfl rfl ?_
      exact g_zret rfl dX7_isAskedFor_70 rfl ⟨by first | (rw [asked_f (fun i hi => hv i (by omega))]; rfl) | (rw [asked_t (i := k) (by omega) ⟨by assumption, by assumption, by assumption⟩]; rfl), rfl⟩
    · refine g_aload_n 12 2 dX7_isAskedFor_11 rfl rfl ?_
      refine g_sipush 15 (nI 133) dX7_isAskedFor_12 rfl rfl ?_
      refine g_bipush 17 (nI 6) dX7_isAskedFor_15 rfl rfl ?_
      refine g_iload 19 0 dX7_isAskedFor_17 rfl rfl ?_
      refine g_imul 20 (nI (6 * k)) dX7_isAskedFor_19 rfl (pk_mul 6 k) ?_
      refine g_iadd 21 (nI (133 + (6 * k))) dX7_isAskedFor_20 rfl (nI_add 133 (6 * k)) ?_
      refine g_iconst 22 (nI 0) dX7_isAskedFor_21 rfl rfl ?_
      refine g_iadd 23 (nI ((133 + (6 * k)) + 0)) dX7_isAskedFor_22 rfl (nI_add (133 + (6 * k)) 0) ?_
      refine g_iald 24 (nI (a 14 k)) dX7_isAskedFor_23 rfl rfl (by decide) rfl (by decide) (by omega) (hN.ord (by omega) (by decide) rfl) ?_
      refine g_iload_n 25 3 dX7_isAskedFor_24 rfl rfl ?_
      refine g_icmpN_ne 63 28 dX7_isAskedFor_25 rfl rfl (by have := hI k (by omega); omega) (by omega) (fun c25 => ?_) (fun c25 => ?_)
      · refine g_iinc 66 (nI (k + 1)) [(4, .int (nI (k + 1))), (0, .ref (g 18 0)), (1, .ref (g 18 13)), (2, .int (nI c)), (3, .int (nI gd))] dX7_isAskedFor_63 rfl 0 rfl (nI_add k 1) (by decide) rfl ?_
        refine g_goto 3 dX7_isAskedFor_66 rfl ?_
        exact ih3 (by omega) (lt_s hv (by omega))
      · refine g_aload_n 29 2 dX7_isAskedFor_28 rfl rfl ?_
        refine g_sipush 32 (nI 133) dX7_isAskedFor_29 rfl rfl ?_
        refine g_bipush 34 (nI 6) dX7_isAskedFor_32 rfl rfl ?_
        refine g_iload 36 0 dX7_isAskedFor_34 rfl rfl ?_
        refine g_imul 37 (nI (6 * k)) dX7_isAskedFor_36 rfl (pk_mul 6 k) ?_
        refine g_iadd 38 (nI (133 + (6 * k))) dX7_isAskedFor_37 rfl (nI_add 133 (6 * k)) ?_
        refine g_iconst 39 (nI 1) dX7_isAskedFor_38 rfl rfl ?_
        refine g_iadd 40 (nI ((133 + (6 * k)) + 1)) dX7_isAskedFor_39 rfl (nI_add (133 + (6 * k)) 1) ?_
        refine g_iald 41 (nI (a 15 k)) dX7_isAskedFor_40 rfl rfl (by decide) rfl (by decide) (by omega) (hN.ord (by omega) (by decide) rfl) ?_
        refine g_iload_n 42 4 dX7_isAskedFor_41 rfl rfl ?_
        refine g_icmpN_ne 63 45 dX7_isAskedFor_42 rfl rfl (by have := hI k (by omega); omega) (by omega) (fun c42 => ?_) (fun c42 => ?_)
        · refine g_iinc 66 (nI (k + 1)) [(4, .int (nI (k + 1))), (0, .ref (g 18 0)), (1, .ref (g 18 13)), (2, .int (nI c)), (3, .int (nI gd))] dX7_isAskedFor_63 rfl 0 rfl (nI_add k 1) (by decide) rfl ?_
          refine g_goto 3 dX7_isAskedFor_66 rfl ?_
          exact ih3 (by omega) (lt_s hv (by omega))
        · refine g_aload_n 46 2 dX7_isAskedFor_45 rfl rfl ?_
          refine g_sipush 49 (nI 133) dX7_isAskedFor_46 rfl rfl ?_
          refine g_bipush 51 (nI 6) dX7_isAskedFor_49 rfl rfl ?_
          refine g_iload 53 0 dX7_isAskedFor_51 rfl rfl ?_
          refine g_imul 54 (nI (6 * k)) dX7_isAskedFor_53 rfl (pk_mul 6 k) ?_
          refine g_iadd 55 (nI (133 + (6 * k))) dX7_isAskedFor_54 rfl (nI_add 133 (6 * k)) ?_
          refine g_iconst 56 (nI 4) dX7_isAskedFor_55 rfl rfl ?_
          refine g_iadd 57 (nI ((133 + (6 * k)) + 4)) dX7_isAskedFor_56 rfl (nI_add (133 + (6 * k)) 4) ?_
          refine g_iald 58 (nI (a 18 k)) dX7_isAskedFor_57 rfl rfl (by decide) rfl (by decide) (by omega) (hN.ord (by omega) (by decide) rfl) ?_
          refine g_ifN_ne 63 61 dX7_isAskedFor_58 rfl rfl (by have := hI k (by omega); omega) (fun c58 => ?_) (fun c58 => ?_)
          · refine g_iinc 66 (nI (k + 1)) [(4, .int (nI (k + 1))), (0, .ref (g 18 0)), (1, .ref (g 18 13)), (2, .int (nI c)), (3, .int (nI gd))] dX7_isAskedFor_63 rfl 0 rfl (nI_add k 1) (by decide) rfl ?_
            refine g_goto 3 dX7_isAskedFor_66 rfl ?_
            exact ih3 (by omega) (lt_s hv (by omega))
          · refine g_iconst 62 (nI 1) dX7_isAskedFor_61 rfl rfl ?_
            exact g_zret rfl dX7_isAskedFor_62 rfl ⟨by first | (rw [asked_f (fun i hi => hv i (by omega))]; rfl) | (rw [asked_t (i := k) (by omega) ⟨by assumption, by assumption, by assumption⟩]; rfl), rfl⟩
  exact L3 0 (Nat.zero_le _) (fun i h => absurd h (Nat.not_lt_zero i))
