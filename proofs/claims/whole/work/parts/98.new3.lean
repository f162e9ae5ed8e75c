def bc2 (ca : Nat → ClassId) (h : Nat → Nat) (gd : Int32) (f r : Nat → Int32) : va_W := [(h 0, .inr (2, [.int 0, .int gd, .int 0, .int 0, .int 0, .int 0, .int 0, .ref (h 8), .ref (h 9), .ref (h 10), .ref (h 11), .ref (h 12), .ref (h 13), .ref (h 14), .ref (h 15), .ref (h 16), .ref (h 17), .ref (h 18), .ref (h 19), .ref (h 20)])), (h 8, .inl (ca 0, 6, .inl (fun _ => 0))), (h 9, .inl (ca 0, 24, .inl (f))), (h 10, .inl (ca 0, 24, .inl (fun _ => 0))), (h 11, .inl (ca 0, 24, .inl (fun _ => 0))), (h 12, .inl (ca 0, 24, .inl (fun _ => 0))), (h 13, .inl (ca 0, 24, .inl (fun _ => 0))), (h 14, .inl (ca 0, 41, .inl (fun _ => 0))), (h 15, .inl (ca 0, 41, .inl (fun _ => 0))), (h 16, .inl (ca 0, 41, .inl (fun _ => 0))), (h 17, .inl (ca 0, 41, .inl (fun _ => 0))), (h 18, .inl (ca 0, 41, .inl (fun _ => 0))), (h 19, .inl (ca 0, 41, .inl (fun _ => 0))), (h 20, .inl (ca 0, 144, .inl (r)))]
set_option maxHeartbeats 4000000 in
set_option maxRecDepth 100000 in
theorem c_X2_clearN {l : Launch} {D : va_G} {ca : Nat → ClassId} (h : Nat → Nat) : CtN l D ca md_X2_clear [.ref (h 0)] (b2 ca h) 0 0 (fun w1 => ∃ f r : Nat → Int32, (∀ i, i < 24 → f i = -1) ∧ (∀ i, i < 144 → r i = 0) ∧ w1 = bc2 ca h 0 f r) := by
  refine CtN.of (by decide) rfl (Nat.le_of_ble_eq_true rfl) ?_
  show GN l D ca md_X2_clear 0 0 0 [(0, .ref (h 0))] [] (bc2 ca h 0 (fun _ => 0) (fun _ => 0)) 0 0 _
  refine n_aload_n 1 0 dX2_clear_0 rfl rfl ?_
  refine n_iconst 2 (nI 0) dX2_clear_1 rfl rfl ?_
  refine n_put 5 0 .int false dX2_clear_2 rfl fX2_51 rfl (fun C T N h => by cases h; exact ⟨rfl, by decide +kernel, fun z => nomatch z⟩) (fun z => nomatch z) rfl rfl (Nat.le_of_ble_eq_true rfl) ?_
  show GN l D ca md_X2_clear 0 0 5 [(0, .ref (h 0))] [] (bc2 ca h 0 (fun _ => 0) (fun _ => 0)) 0 0 _
  refine n_aload_n 6 0 dX2_clear_5 rfl rfl ?_
  refine n_iconst 7 (nI 0) dX2_clear_6 rfl rfl ?_
  refine n_put 10 0 .int false dX2_clear_7 rfl fX2_55 rfl (fun C T N h => by cases h; exact ⟨rfl, by decide +kernel, fun z => nomatch z⟩) (fun z => nomatch z) rfl rfl (Nat.le_of_ble_eq_true rfl) ?_
  show GN l D ca md_X2_clear 0 0 10 [(0, .ref (h 0))] [] (bc2 ca h 0 (fun _ => 0) (fun _ => 0)) 0 0 _
  refine n_aload_n 11 0 dX2_clear_10 rfl rfl ?_
  refine n_iconst 12 (nI 0) dX2_clear_11 rfl rfl ?_
  refine n_put 15 0 .int false dX2_clear_12 rfl fX2_58 rfl (fun C T N h => by cases h; exact ⟨rfl, by decide +kernel, fun z => nomatch z⟩) (fun z => nomatch z) rfl rfl (Nat.le_of_ble_eq_true rfl) ?_
  show GN l D ca md_X2_clear 0 0 15 [(0, .ref (h 0))] [] (bc2 ca h 0 (fun _ => 0) (fun _ => 0)) 0 0 _
  refine n_aload_n 16 0 dX2_clear_15 rfl rfl ?_
  refine n_iconst 17 (nI 0) dX2_clear_16 rfl rfl ?_
  refine n_put 20 0 .int false dX2_clear_17 rfl fX2_61 rfl (fun C T N h => by cases h; exact ⟨rfl, by decide +kernel, fun z => nomatch z⟩) (fun z => nomatch z) rfl rfl (Nat.le_of_ble_eq_true rfl) ?_
  show GN l D ca md_X2_clear 0 0 20 [(0, .ref (h 0))] [] (bc2 ca h 0 (fun _ => 0) (fun _ => 0)) 0 0 _
  refine n_aload_n 21 0 dX2_clear_20 rfl rfl ?_
  refine n_iconst 22 (nI 0) dX2_clear_21 rfl rfl ?_
  refine n_put 25 0 .int false dX2_clear_22 rfl fX2_64 rfl (fun C T N h => by cases h; exact ⟨rfl, by decide +kernel, fun z => nomatch z⟩) (fun z => nomatch z) rfl rfl (Nat.le_of_ble_eq_true rfl) ?_
  show GN l D ca md_X2_clear 0 0 25 [(0, .ref (h 0))] [] (bc2 ca h 0 (fun _ => 0) (fun _ => 0)) 0 0 _
  refine n_aload_n 26 0 dX2_clear_25 rfl rfl ?_
  refine n_iconst 27 (nI 0) dX2_clear_26 rfl rfl ?_
  refine n_put 30 0 .int false dX2_clear_27 rfl fX2_67 rfl (fun C T N h => by cases h; exact ⟨rfl, by decide +kernel, fun z => nomatch z⟩) (fun z => nomatch z) rfl rfl (Nat.le_of_ble_eq_true rfl) ?_
  show GN l D ca md_X2_clear 0 0 30 [(0, .ref (h 0))] [] (bc2 ca h 0 (fun _ => 0) (fun _ => 0)) 0 0 _
  refine n_aload_n 31 0 dX2_clear_30 rfl rfl ?_
  refine n_iconst 32 (nI 0) dX2_clear_31 rfl rfl ?_
  refine n_put 35 0 .int false dX2_clear_32 rfl fX2_70 rfl (fun C T N h => by cases h; exact ⟨rfl, by decide +kernel, fun z => nomatch z⟩) (fun z => nomatch z) rfl rfl (Nat.le_of_ble_eq_true rfl) ?_
  show GN l D ca md_X2_clear 0 0 35 [(0, .ref (h 0))] [] (bc2 ca h 0 (fun _ => 0) (fun _ => 0)) 0 0 _
  have L61 : ∀ k, k ≤ 144 → ∀ f r : Nat → Int32, (∀ i, i < 24 → f i = -1) → (∀ i, i < k → r i = 0) → GN l D ca md_X2_clear 0 0 61 [(1, .int (nI k)), (0, .ref (h 0))] [] (bc2 ca h 0 f r) 0 0 (fun w1 => ∃ f r : Nat → Int32, (∀ i, i < 24 → f i = -1) ∧ (∀ i, i < 144 → r i = 0) ∧ w1 = bc2 ca h 0 f r) := by
    refine upto ?_
    intro k hk ih f r hf hv
    refine n_iload_n 62 0 dX2_clear_61 rfl rfl ?_
    refine n_aload_n 63 1 dX2_clear_62 rfl rfl ?_
    refine n_get 66 0 (.ref (h 20)) dX2_clear_63 rfl fX2_48 rfl rfl ?_
    refine n_alen 67 13 144 dX2_clear_66 rfl rfl ?_
    refine n_icmpN_ge 83 70 dX2_clear_67 rfl rfl (by omega) (by omega) (fun c9 => ?_) (fun c9 => ?_)
    · exact n_ret rfl dX2_clear_83 (Nat.le_refl _) (Nat.le_refl _) ⟨f, r, hf, fun i hi => hv i (by omega), rfl⟩
    · refine n_aload_n 71 1 dX2_clear_70 rfl rfl ?_
      refine n_get 74 0 (.ref (h 20)) dX2_clear_71 rfl fX2_48 rfl rfl ?_
      refine n_iload_n 75 0 dX2_clear_74 rfl rfl ?_
      refine n_iconst 76 (0) dX2_clear_75 rfl rfl ?_
      refine n_iast 77 13 144 k dX2_clear_76 rfl rfl (by omega) (by decide) ?_
      refine n_iinc 80 (nI (k + 1)) [(1, .int (nI (k + 1))), (0, .ref (h 0))] dX2_clear_77 rfl 0 rfl (nI_add k 1) (by decide) rfl ?_
      refine n_goto 61 dX2_clear_80 rfl ?_
      exact ih (by omega) f (upd r k (0)) hf (fun i hi => by
        unfold upd
        by_cases z : i = k
        · rw [if_pos z]
        · rw [if_neg z]; exact hv i (by omega))
  have L37 : ∀ k, k ≤ 24 → ∀ f : Nat → Int32, (∀ i, i < k → f i = -1) → GN l D ca md_X2_clear 0 0 37 [(1, .int (nI k)), (0, .ref (h 0))] [] (bc2 ca h 0 f (fun _ => 0)) 0 0 (fun w1 => ∃ f r : Nat → Int32, (∀ i, i < 24 → f i = -1) ∧ (∀ i, i < 144 → r i = 0) ∧ w1 = bc2 ca h 0 f r) := by
    refine upto ?_
    intro k hk ih f hv
    refine n_iload_n 38 0 dX2_clear_37 rfl rfl ?_
    refine n_aload_n 39 1 dX2_clear_38 rfl rfl ?_
    refine n_get 42 0 (.ref (h 9)) dX2_clear_39 rfl fX2_15 rfl rfl ?_
    refine n_alen 43 2 24 dX2_clear_42 rfl rfl ?_
    refine n_icmpN_ge 59 46 dX2_clear_43 rfl rfl (by omega) (by omega) (fun c9 => ?_) (fun c9 => ?_)
    · refine n_iconst 60 (nI 0) dX2_clear_59 rfl rfl ?_
      refine n_istore_n 61 [(1, .int (nI 0)), (0, .ref (h 0))] dX2_clear_60 rfl (by decide) rfl ?_
      exact L61 0 (Nat.zero_le _) f (fun _ => 0) (fun i hi => hv i (by omega)) (fun i hi => absurd hi (Nat.not_lt_zero i))
    · refine n_aload_n 47 1 dX2_clear_46 rfl rfl ?_
      refine n_get 50 0 (.ref (h 9)) dX2_clear_47 rfl fX2_15 rfl rfl ?_
      refine n_iload_n 51 0 dX2_clear_50 rfl rfl ?_
      refine n_iconst 52 (-1) dX2_clear_51 rfl rfl ?_
      refine n_iast 53 2 24 k dX2_clear_52 rfl rfl (by omega) (by decide) ?_
      refine n_iinc 56 (nI (k + 1)) [(1, .int (nI (k + 1))), (0, .ref (h 0))] dX2_clear_53 rfl 0 rfl (nI_add k 1) (by decide) rfl ?_
      refine n_goto 37 dX2_clear_56 rfl ?_
      exact ih (by omega) (upd f k (-1)) (fun i hi => by
        unfold upd
        by_cases z : i = k
        · rw [if_pos z]
        · rw [if_neg z]; exact hv i (by omega))
  refine n_iconst 36 (nI 0) dX2_clear_35 rfl rfl ?_
  refine n_istore_n 37 [(1, .int (nI 0)), (0, .ref (h 0))] dX2_clear_36 rfl (by decide) rfl ?_
  exact L37 0 (Nat.zero_le _) (fun _ => 0) (fun i hi => absurd hi (Nat.not_lt_zero i))

theorem ev_X6_clear : EV md_X6_init md_X2_clear 51 2 0 := ⟨(wa_2 (List.mem_of_getElem? (i := 12) (by decide +kernel)) (by decide +kernel)), (wa_2 (List.mem_of_getElem? (i := 13) (by decide +kernel)) (by decide +kernel)), (wa_2 (List.mem_of_getElem? (i := 14) (by decide +kernel)) (by decide +kernel)), (wa_1 (List.mem_of_getElem? (i := 3) (by decide +kernel)) (by decide +kernel)), (wa_2 (List.mem_of_getElem? (i := 15) rfl) (by decide +kernel)), (by decide +kernel), ⟨by decide, by decide⟩, _, rfl, rfl⟩
def bR (ca : Nat → ClassId) (qr qn qt a1 a2 : Nat) : va_W := [(qr, .inr (4, [.ref qt, .ref a2, .int 0, .int 0, .int 0, .ref qn, .int 0, .int 0, .int 0])), (qn, .inl (ca 0, 4, .inl (fun _ => 0))), (qt, .inr (5, [.ref a1, .int 0, .int 0, .int 0, .int 0]))]
def bX (x a0 a1 a2 a3 a4 a5 : Nat) : va_W := [(x, .inr (6, [.ref a0, .ref a1, .ref a2, .ref a3, .ref a4, .ref a5]))]
def w6 (ca : Nat → ClassId) (x : Nat) (hT hS hD hP : Nat → Nat) (qr qn qt qp qa : Nat) (fA : Nat → Option Nat) (hl : List (Nat → Nat)) (f r : Nat → Int32) : va_W := bX x (hT 0) (hS 0) (hD 0) qr (hP 0) qp ++ b3 ca hT ++ (b2 ca hD ++ (bR ca qr qn qt (hT 0) (hD 0) ++ (b1 ca hP (hS 0) ++ b0 ca qp qa fA hl))) ++ bc2 ca hS (nI 1) f r
theorem w6_perm {A B C D E : va_W} : ((B ++ (C ++ (D ++ E))) ++ A).Perm (A ++ B ++ C ++ D ++ E) := by
  simp only [List.append_assoc]
  have h : ((B ++ (C ++ (D ++ E))) ++ A).Perm (A ++ (B ++ (C ++ (D ++ E)))) := List.perm_append_comm
  simpa only [List.append_assoc] using h
set_option maxHeartbeats 4000000 in
set_option maxRecDepth 100000 in
theorem c_X6_init {l : Launch} {D : va_G} {ca : Nat → ClassId} (x : Nat) : CtN l D ca md_X6_init [.ref x] [(x, .inr (6, [.null, .null, .null, .null, .null, .null]))] 180 7310 (fun w1 => ∃ (hT hS hD hP : Nat → Nat) (qr qn qt qp qa : Nat) (fA : Nat → Option Nat) (hl : List (Nat → Nat)) (f r : Nat → Int32), hl.length = 10 ∧ (∀ i h, hl[i]? = some h → fA i = some (h 0)) ∧ (∀ i, i < 24 → f i = -1) ∧ (∀ i, i < 144 → r i = 0) ∧ w1 = w6 ca x hT hS hD hP qr qn qt qp qa fA hl f r) := by
  refine CtN.of (by decide) rfl (Nat.le_of_ble_eq_true rfl) ?_
  show GN l D ca md_X6_init 180 7310 0 [(0, .ref x)] [] [(x, .inr (6, [.null, .null, .null, .null, .null, .null]))] 0 0 _
  refine n_aload_n 1 0 dX6_init_0 rfl rfl ?_
  refine n_objInit 4 dX6_init_1 rfl oi_X6 (by decide) (by decide) ?_
  refine n_aload_n 5 0 dX6_init_4 rfl rfl ?_
  refine n_new 8 3 [.null, .int 0] tyX3 rfl ulX3 tyX3_ok (wa_1 (List.mem_of_getElem? (i := 27) (by decide +kernel)) (by decide +kernel)) (wa_1 (List.mem_of_getElem? (i := 28) (by decide +kernel)) (by decide +kernel)) (wa_1 (List.mem_of_getElem? (i := 2) (by decide +kernel)) (by decide +kernel)) df_3 dX6_init_5 rfl (by omega) (by omega) (fun q => ?_)
  refine n_dup 9 dX6_init_8 rfl rfl ?_
  refine n_callIN 12 md_X3_init [] [.ref q, .ref x] dX6_init_9 rfl (fun s z => z.1) en_X6_X3 rfl rfl (Nat.le_of_ble_eq_true rfl) rfl (by decide) (by decide) (c_X3_init q) (fun w1 hw1 => ?_)
  obtain ⟨hT, hq, rfl⟩ := hw1
  subst hq
  refine n_put 15 0 (.object "FreshAllotter$Tape") true dX6_init_12 rfl fX6_10 rfl (fun C T N h => by cases h; exact ⟨rfl, by decide +kernel, fun _ => rfl⟩) (fun _ => rfl) rfl rfl (Nat.le_of_ble_eq_true rfl) ?_
  show GN l D ca md_X6_init 180 7310 15 [(0, .ref x)] [] ([(x, .inr (6, [.ref (hT 0), .null, .null, .null, .null, .null]))] ++ b3 ca hT) 2 642 _
  refine n_aload_n 16 0 dX6_init_15 rfl rfl ?_
  refine n_new 19 2 [.int 0, .int 0, .int 0, .int 0, .int 0, .int 0, .int 0, .null, .null, .null, .null, .null, .null, .null, .null, .null, .null, .null, .null, .null] tyX2 rfl ulX2 tyX2_ok (wa_1 (List.mem_of_getElem? (i := 44) (by decide +kernel)) (by decide +kernel)) (wa_1 (List.mem_of_getElem? (i := 45) (by decide +kernel)) (by decide +kernel)) (wa_1 (List.mem_of_getElem? (i := 3) (by decide +kernel)) (by decide +kernel)) df_2 dX6_init_16 rfl (by omega) (by omega) (fun q => ?_)
  refine n_dup 20 dX6_init_19 rfl rfl ?_
  refine n_callIN 23 md_X2_init [] [.ref q, .ref x] dX6_init_20 rfl (fun s z => z.2.1) en_X6_X2 rfl rfl (Nat.le_of_ble_eq_true rfl) rfl (by decide) (by decide) (c_X2_init q) (fun w1 hw1 => ?_)
  obtain ⟨hS, hq, rfl⟩ := hw1
  subst hq
  refine n_put 26 0 (.object "FreshAllotter$Stock") true dX6_init_23 rfl fX6_19 rfl (fun C T N h => by cases h; exact ⟨rfl, by decide +kernel, fun _ => rfl⟩) (fun _ => rfl) rfl rfl (Nat.le_of_ble_eq_true rfl) ?_
  show GN l D ca md_X6_init 180 7310 26 [(0, .ref x)] [] ([(x, .inr (6, [.ref (hT 0), .ref (hS 0), .null, .null, .null, .null]))] ++ b3 ca hT ++ b2 ca hS) 16 1178 _
  refine n_aload_n 27 0 dX6_init_26 rfl rfl ?_
  refine n_new 30 2 [.int 0, .int 0, .int 0, .int 0, .int 0, .int 0, .int 0, .null, .null, .null, .null, .null, .null, .null, .null, .null, .null, .null, .null, .null] tyX2 rfl ulX2 tyX2_ok (wa_1 (List.mem_of_getElem? (i := 44) (by decide +kernel)) (by decide +kernel)) (wa_1 (List.mem_of_getElem? (i := 45) (by decide +kernel)) (by decide +kernel)) (wa_1 (List.mem_of_getElem? (i := 3) (by decide +kernel)) (by decide +kernel)) df_2 dX6_init_27 rfl (by omega) (by omega) (fun q => ?_)
  refine n_dup 31 dX6_init_30 rfl rfl ?_
  refine n_callIN 34 md_X2_init [] [.ref q, .ref x] dX6_init_31 rfl (fun s z => z.2.1) en_X6_X2 rfl rfl (Nat.le_of_ble_eq_true rfl) rfl (by decide) (by decide) (c_X2_init q) (fun w1 hw1 => ?_)
  obtain ⟨hD, hq, rfl⟩ := hw1
  subst hq
  refine n_put 37 0 (.object "FreshAllotter$Stock") true dX6_init_34 rfl fX6_23 rfl (fun C T N h => by cases h; exact ⟨rfl, by decide +kernel, fun _ => rfl⟩) (fun _ => rfl) rfl rfl (Nat.le_of_ble_eq_true rfl) ?_
  show GN l D ca md_X6_init 180 7310 37 [(0, .ref x)] [] ([(x, .inr (6, [.ref (hT 0), .ref (hS 0), .ref (hD 0), .null, .null, .null]))] ++ b3 ca hT ++ b2 ca hS ++ b2 ca hD) 30 1714 _
  refine n_aload_n 38 0 dX6_init_37 rfl rfl ?_
  refine n_new 41 4 [.null, .null, .int 0, .int 0, .int 0, .null, .int 0, .int 0, .int 0] tyX4 rfl ulX4 tyX4_ok (wa_1 (List.mem_of_getElem? (i := 142) (by decide +kernel)) (by decide +kernel)) (wa_1 (List.mem_of_getElem? (i := 143) (by decide +kernel)) (by decide +kernel)) (wa_1 (List.mem_of_getElem? (i := 4) (by decide +kernel)) (by decide +kernel)) df_4 dX6_init_38 rfl (by omega) (by omega) (fun qr => ?_)
  refine n_dup 42 dX6_init_41 rfl rfl ?_
  refine n_aload_n 43 0 dX6_init_42 rfl rfl ?_
  refine n_get 46 0 (.ref (hT 0)) dX6_init_43 rfl fX6_10 rfl rfl ?_
  refine n_aload_n 47 0 dX6_init_46 rfl rfl ?_
  refine n_get 50 0 (.ref (hD 0)) dX6_init_47 rfl fX6_23 rfl rfl ?_
  refine n_callI 53 md_X4_init [.ref (hT 0), .ref (hD 0)] [.ref qr, .ref x] dX6_init_50 rfl ei_X6_X4_28 rfl rfl (Nat.le_of_ble_eq_true rfl) rfl (by decide) (by decide) (c_X4_init qr (hT 0) (hD 0)) (fun w1 hw1 => ?_)
  obtain ⟨qn, qt, rfl⟩ := hw1
  refine n_put 56 0 (.object "FreshAllotter$TextReader") true dX6_init_53 rfl fX6_31 rfl (fun C T N h => by cases h; exact ⟨rfl, by decide +kernel, fun _ => rfl⟩) (fun _ => rfl) rfl rfl (Nat.le_of_ble_eq_true rfl) ?_
  show GN l D ca md_X6_init 180 7310 56 [(0, .ref x)] [] ([(x, .inr (6, [.ref (hT 0), .ref (hS 0), .ref (hD 0), .ref qr, .null, .null]))] ++ b3 ca hT ++ b2 ca hS ++ b2 ca hD ++ bR ca qr qn qt (hT 0) (hD 0)) 33 1732 _
  refine n_aload_n 57 0 dX6_init_56 rfl rfl ?_
  refine n_new 60 1 [.null, .int 0, .int 0, .null, .null, .null, .null] tyX1 rfl ulX1 tyX1_ok (wa_1 (List.mem_of_getElem? (i := 204) (by decide +kernel)) (by decide +kernel)) (wa_1 (List.mem_of_getElem? (i := 205) (by decide +kernel)) (by decide +kernel)) (wa_1 (List.mem_of_getElem? (i := 6) (by decide +kernel)) (by decide +kernel)) df_1 dX6_init_57 rfl (by omega) (by omega) (fun q => ?_)
  refine n_dup 61 dX6_init_60 rfl rfl ?_
  refine n_aload_n 62 0 dX6_init_61 rfl rfl ?_
  refine n_get 65 0 (.ref (hS 0)) dX6_init_62 rfl fX6_19 rfl rfl ?_
  refine n_callI 68 md_X1_init [.ref (hS 0)] [.ref q, .ref x] dX6_init_65 rfl ei_X6_X1_37 rfl rfl (Nat.le_of_ble_eq_true rfl) rfl (by decide) (by decide) (c_X1_init q (hS 0)) (fun w1 hw1 => ?_)
  obtain ⟨hP, hq, rfl⟩ := hw1
  subst hq
  refine n_put 71 0 (.object "FreshAllotter$Planner") true dX6_init_68 rfl fX6_40 rfl (fun C T N h => by cases h; exact ⟨rfl, by decide +kernel, fun _ => rfl⟩) (fun _ => rfl) rfl rfl (Nat.le_of_ble_eq_true rfl) ?_
  show GN l D ca md_X6_init 180 7310 71 [(0, .ref x)] [] ([(x, .inr (6, [.ref (hT 0), .ref (hS 0), .ref (hD 0), .ref qr, .ref (hP 0), .null]))] ++ b3 ca hT ++ b2 ca hS ++ b2 ca hD ++ bR ca qr qn qt (hT 0) (hD 0) ++ b1 ca hP (hS 0)) 38 1937 _
  refine n_aload_n 72 0 dX6_init_71 rfl rfl ?_
  refine n_new 75 0 [.null, .int 0, .int 0] tyX0 rfl ulX0 tyX0_ok (wa_1 (List.mem_of_getElem? (i := 232) (by decide +kernel)) (by decide +kernel)) (wa_1 (List.mem_of_getElem? (i := 233) (by decide +kernel)) (by decide +kernel)) (wa_1 (List.mem_of_getElem? (i := 7) (by decide +kernel)) (by decide +kernel)) df_0 dX6_init_72 rfl (by omega) (by omega) (fun qp => ?_)
  refine n_dup 76 dX6_init_75 rfl rfl ?_
  refine n_callI 79 md_X0_init [] [.ref qp, .ref x] dX6_init_76 rfl ei_X6_X0_46 rfl rfl (Nat.le_of_ble_eq_true rfl) rfl (by decide) (by decide) (c_X0_init qp) (fun w1 hw1 => ?_)
  obtain ⟨qa, fA, hl, hl10, hfA, rfl⟩ := hw1
  refine n_put 82 0 (.object "FreshAllotter$Past") true dX6_init_79 rfl fX6_47 rfl (fun C T N h => by cases h; exact ⟨rfl, by decide +kernel, fun _ => rfl⟩) (fun _ => rfl) rfl rfl (Nat.le_of_ble_eq_true rfl) ?_
  show GN l D ca md_X6_init 180 7310 82 [(0, .ref x)] [] (bX x (hT 0) (hS 0) (hD 0) qr (hP 0) qp ++ b3 ca hT ++ b2 ca hS ++ b2 ca hD ++ bR ca qr qn qt (hT 0) (hD 0) ++ b1 ca hP (hS 0) ++ b0 ca qp qa fA hl) 180 7310 _
  refine n_perm (w' := bX x (hT 0) (hS 0) (hD 0) qr (hP 0) qp ++ b3 ca hT ++ (b2 ca hD ++ (bR ca qr qn qt (hT 0) (hD 0) ++ (b1 ca hP (hS 0) ++ b0 ca qp qa fA hl))) ++ b2 ca hS) (by simp only [List.append_assoc]; refine List.Perm.append_left _ (List.Perm.append_left _ ?_); have h9 := w6_perm (A := b2 ca hS) (B := b2 ca hD) (C := bR ca qr qn qt (hT 0) (hD 0)) (D := b1 ca hP (hS 0)) (E := b0 ca qp qa fA hl); simpa only [List.append_assoc] using h9) ?_
  refine n_aload_n 83 0 dX6_init_82 rfl rfl ?_
  refine n_get 86 0 (.ref (hS 0)) dX6_init_83 rfl fX6_19 rfl rfl ?_
  refine n_callV 89 md_X2_clear [] dX6_init_86 rfl ev_X6_clear rfl (wc := b2 ca hS) rfl (Nat.le_of_ble_eq_true rfl) rfl (Nat.le_refl _) (Nat.le_refl _) (c_X2_clearN hS) (fun w1 hw1 => ?_)
  obtain ⟨f, r, hf, hr, rfl⟩ := hw1
  refine n_aload_n 90 0 dX6_init_89 rfl rfl ?_
  refine n_get 93 0 (.ref (hS 0)) dX6_init_90 rfl fX6_19 rfl rfl ?_
  refine n_iconst 94 (nI 1) dX6_init_93 rfl rfl ?_
  refine n_put 97 (bX x (hT 0) (hS 0) (hD 0) qr (hP 0) qp ++ b3 ca hT ++ (b2 ca hD ++ (bR ca qr qn qt (hT 0) (hD 0) ++ (b1 ca hP (hS 0) ++ b0 ca qp qa fA hl)))).length .int false dX6_init_94 rfl fX6_54 (by rw [List.getElem?_append_right (Nat.le_refl _), Nat.sub_self]; rfl) (fun C T N h => by cases h; exact ⟨rfl, by decide +kernel, fun z => nomatch z⟩) (fun z => nomatch z) rfl rfl (Nat.le_of_ble_eq_true rfl) ?_
  exact n_ret rfl dX6_init_97 (Nat.le_refl _) (Nat.le_refl _) ⟨hT, hS, hD, hP, qr, qn, qt, qp, qa, fA, hl, f, r, hl10, hfA, hf, hr, by rw [List.set_append_right _ _ (Nat.le_refl _), Nat.sub_self]; rfl⟩

