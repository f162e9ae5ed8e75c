set_option maxHeartbeats 4000000 in
set_option maxRecDepth 100000 in
theorem c_X2_endDay {l : Launch} {D : va_G} {g : Nat → Nat → Nat} {ca : Nat → ClassId} {M : Mm} {o : Nat} {a : Sa} (hko : kd o = 2) (hK : SK (M.1 o) a) (ht : a 0 0 < 900) : Ct l D g ca md_X2_endDay [.ref (g o 0)] M (Rv (fun M1 => SK (M1.1 o) (edy a) ∧ Fo o M M1)) := by
  refine Ct.of (by decide) rfl (Nat.le_of_ble_eq_true rfl) ?_
  show G l D g ca md_X2_endDay 0 [(0, .ref (g o 0))] [] M _
  refine g_iconst 1 (nI 0) dX2_endDay_0 rfl rfl ?_
  refine g_istore_n 2 [(1, .int (nI 0)), (0, .ref (g o 0))] dX2_endDay_1 rfl (by decide) rfl ?_
  have L2 : ∀ k, k ≤ a 0 4 → ∀ (N : Mm), SK (N.1 o) (lps a k) → Fo o M N → G l D g ca md_X2_endDay 2 [(1, .int (nI k)), (0, .ref (g o 0))] [] N (Rv (fun M1 => SK (M1.1 o) (edy a) ∧ Fo o M M1)) := by
    refine upto ?_
    intro k hk ih2 N hX hF
    obtain ⟨X, eX⟩ : ∃ X, X = lps a k := ⟨_, rfl⟩
    rw [← eX] at hX
    have b4 := hX.1.o41
    have b3 := hX.1.l24
    have b0 := hX.2.2.1.today
    have bo := hX.2.2.2.1.2
    have e4 : X 0 4 = a 0 4 := by rw [eX]; exact lps_lo a k 0 4 (by omega) (by omega)
    have e0 : X 0 0 = a 0 0 := by rw [eX]; exact lps_lo a k 0 0 (by omega) (by omega)
    have e3 : X 0 3 = a 0 3 := by rw [eX]; exact lps_lo a k 0 3 (by omega) (by omega)
    refine g_iload_n 3 0 dX2_endDay_2 rfl rfl ?_
    refine g_aload_n 4 1 dX2_endDay_3 rfl rfl ?_
    refine g_get 7 (nI (X 0 4)) dX2_endDay_4 rfl fX2_64 hko (by decide) rfl (hX.1.sc (by decide)) ?_
    refine g_icmpN_ge 45 10 dX2_endDay_7 rfl rfl (by omega) (by omega) (fun c7 => ?_) (fun c7 => ?_)
    · refine g_iconst 46 (nI 0) dX2_endDay_45 rfl rfl ?_
      refine g_istore_n 47 [(1, .int (nI 0)), (0, .ref (g o 0))] dX2_endDay_46 rfl (by decide) rfl ?_
      have hkk : k = a 0 4 := by omega
      obtain ⟨b, eb⟩ : ∃ b, b = X := ⟨_, rfl⟩
      rw [← eb] at hX e0 e3
      have ebl : b = lps a (a 0 4) := by rw [eb, eX, hkk]
      have eb3 := e3
      have eb0 := e0
      have L47 : ∀ k, k ≤ b 0 3 → ∀ (N : Mm), SK (N.1 o) (wos b k) → Fo o M N → G l D g ca md_X2_endDay 47 [(1, .int (nI k)), (0, .ref (g o 0))] [] N (Rv (fun M1 => SK (M1.1 o) (edy a) ∧ Fo o M M1)) := by
        refine upto ?_
        intro k hk ih47 N hX hF
        obtain ⟨X, eX⟩ : ∃ X, X = wos b k := ⟨_, rfl⟩
        rw [← eX] at hX
        have b4 := hX.1.o41
        have b3 := hX.1.l24
        have b0 := hX.2.2.1.today
        have e0 : X 0 0 = b 0 0 := by rw [eX]; exact wos_lo b k 0 0 (by omega) (by omega) (by omega)
        have e3 : X 0 3 = b 0 3 := by rw [eX]; exact wos_lo b k 0 3 (by omega) (by omega) (by omega)
        refine g_iload_n 48 0 dX2_endDay_47 rfl rfl ?_
        refine g_aload_n 49 1 dX2_endDay_48 rfl rfl ?_
        refine g_get 52 (nI (X 0 3)) dX2_endDay_49 rfl fX2_61 hko (by decide) rfl (hX.1.sc (by decide)) ?_
        refine g_icmpN_ge 79 55 dX2_endDay_52 rfl rfl (by omega) (by omega) (fun c52 => ?_) (fun c52 => ?_)
        · refine g_aload_n 80 1 dX2_endDay_79 rfl rfl ?_
          refine g_dup 81 dX2_endDay_80 rfl rfl ?_
          refine g_get 84 (nI (X 0 0)) dX2_endDay_81 rfl fX2_51 hko (by decide) rfl (hX.1.sc (by decide)) ?_
          refine g_iconst 85 (nI 1) dX2_endDay_84 rfl rfl ?_
          refine g_iadd 86 (nI ((X 0 0) + 1)) dX2_endDay_85 rfl (nI_add (X 0 0) 1) ?_
          refine g_put 89 dX2_endDay_86 rfl fX2_51 pX2_0 hko (by decide) rfl ?_
          exact g_vret rfl dX2_endDay_89 ⟨by have h9 : edy a = ua X 0 0 (X 0 0 + 1) := (by rw [e0, eb0, eX, show k = b 0 3 by omega, eb3, ebl]; rfl); rw [h9]; exact SK_today hX (by omega) (fun c i z => wr_ne (by omega)) wr_eq, hF.tr Fo.wr⟩
        · refine g_aload_n 56 1 dX2_endDay_55 rfl rfl ?_
          refine g_geta 59 11 dX2_endDay_56 rfl fX2_21 hko (by decide) rfl rfl ?_
          refine g_iload_n 60 0 dX2_endDay_59 rfl rfl ?_
          refine g_iald 61 (nI (X 11 k)) dX2_endDay_60 rfl hko (by decide) rfl (by decide) (by omega) (hX.1.lot (by decide) (by decide) (by omega)) ?_
          refine g_aload_n 62 1 dX2_endDay_61 rfl rfl ?_
          refine g_get 65 (nI (X 0 0)) dX2_endDay_62 rfl fX2_51 hko (by decide) rfl (hX.1.sc (by decide)) ?_
          refine g_icmpN_ne 73 68 dX2_endDay_65 rfl rfl (by have := hX.2.2.1.lot (l := k) (by omega); omega) (by omega) (fun c65 => ?_) (fun c65 => ?_)
          · refine g_iinc 76 (nI (k + 1)) [(1, .int (nI (k + 1))), (0, .ref (g o 0))] dX2_endDay_73 rfl 0 rfl (nI_add k 1) (by decide) rfl ?_
            refine g_goto 47 dX2_endDay_76 rfl ?_
            exact ih47 (by omega) _ (by rw [wos_f eX c65]; exact hX) hF
          · refine g_aload_n 69 1 dX2_endDay_68 rfl rfl ?_
            refine g_iload_n 70 0 dX2_endDay_69 rfl rfl ?_
            refine g_callVv 73 md_X2_writeOff [.int (nI k)] [] dX2_endDay_70 rfl e_X2_endDay_123 hko (by decide) rfl rfl (Nat.le_of_ble_eq_true rfl) (c_X2_writeOff hko hX.1 hX.2.2.1 hX.2.1 hX.2.2.2.1 hX.ib k (by omega)) (fun N2 h70 => ?_)
            obtain ⟨hS2, hR2, hF2⟩ := h70
            refine g_iinc 76 (nI (k + 1)) [(1, .int (nI (k + 1))), (0, .ref (g o 0))] dX2_endDay_73 rfl 0 rfl (nI_add k 1) (by decide) rfl ?_
            refine g_goto 47 dX2_endDay_76 rfl ?_
            exact ih47 (by omega) _ (by rw [wos_t eX c65]; exact SK_wo hX hS2 hR2) (hF.tr hF2)
      exact L47 0 (Nat.zero_le _) _ hX hF
    · refine g_aload_n 11 1 dX2_endDay_10 rfl rfl ?_
      refine g_geta 14 18 dX2_endDay_11 rfl fX2_42 hko (by decide) rfl rfl ?_
      refine g_iload_n 15 0 dX2_endDay_14 rfl rfl ?_
      refine g_iald 16 (nI (X 18 k)) dX2_endDay_15 rfl hko (by decide) rfl (by decide) (by omega) (hX.1.ord (by decide) (by decide) (by omega)) ?_
      refine g_ifN_ne 39 19 dX2_endDay_16 rfl rfl (by have := hX.2.2.1.ord (o := k) (by omega); omega) (fun c16 => ?_) (fun c16 => ?_)
      · refine g_iinc 42 (nI (k + 1)) [(1, .int (nI (k + 1))), (0, .ref (g o 0))] dX2_endDay_39 rfl 0 rfl (nI_add k 1) (by decide) rfl ?_
        refine g_goto 2 dX2_endDay_42 rfl ?_
        exact ih2 (by omega) _ (by rw [lps_f eX (by omega)]; exact hX) hF
      · refine g_aload_n 20 1 dX2_endDay_19 rfl rfl ?_
        refine g_geta 23 17 dX2_endDay_20 rfl fX2_39 hko (by decide) rfl rfl ?_
        refine g_iload_n 24 0 dX2_endDay_23 rfl rfl ?_
        refine g_iald 25 (nI (X 17 k)) dX2_endDay_24 rfl hko (by decide) rfl (by decide) (by omega) (hX.1.ord (by decide) (by decide) (by omega)) ?_
        refine g_aload_n 26 1 dX2_endDay_25 rfl rfl ?_
        refine g_get 29 (nI (X 0 0)) dX2_endDay_26 rfl fX2_51 hko (by decide) rfl (hX.1.sc (by decide)) ?_
        refine g_icmpN_ne 39 32 dX2_endDay_29 rfl rfl (by have := hX.2.2.1.ord (o := k) (by omega); omega) (by omega) (fun c29 => ?_) (fun c29 => ?_)
        · refine g_iinc 42 (nI (k + 1)) [(1, .int (nI (k + 1))), (0, .ref (g o 0))] dX2_endDay_39 rfl 0 rfl (nI_add k 1) (by decide) rfl ?_
          refine g_goto 2 dX2_endDay_42 rfl ?_
          exact ih2 (by omega) _ (by rw [lps_f eX (by omega)]; exact hX) hF
        · refine g_aload_n 33 1 dX2_endDay_32 rfl rfl ?_
          refine g_iload_n 34 0 dX2_endDay_33 rfl rfl ?_
          refine g_iconst 35 (nI 3) dX2_endDay_34 rfl rfl ?_
          refine g_callVi 38 md_X2_close [.int (nI k), .int (nI 3)] [] dX2_endDay_35 rfl e_X2_endDay_120 hko (by decide) rfl rfl (Nat.le_of_ble_eq_true rfl) (c_X2_close hko hX.1 hX.2.2.1 hX.2.1 hX.2.2.2.1 hX.ib k 3 (by omega) (by decide)) (fun r35 N2 h35 => ?_)
          obtain ⟨-, hS2, hR2, hF2⟩ := h35
          refine g_pop 39 dX2_endDay_38 rfl rfl ?_
          refine g_iinc 42 (nI (k + 1)) [(1, .int (nI (k + 1))), (0, .ref (g o 0))] dX2_endDay_39 rfl 0 rfl (nI_add k 1) (by decide) rfl ?_
          refine g_goto 2 dX2_endDay_42 rfl ?_
          exact ih2 (by omega) _ (by rw [lps_t eX c16 c29]; exact SK_clo hX (by decide) (by decide) hS2 hR2) (hF.tr hF2)
  exact L2 0 (Nat.zero_le _) M hK Fo.rf

set_option maxHeartbeats 4000000 in
set_option maxRecDepth 100000 in
theorem c_X2_clear {l : Launch} {D : va_G} {g : Nat → Nat → Nat} {ca : Nat → ClassId} {M : Mm} {o : Nat} (hko : kd o = 2) : Ct l D g ca md_X2_clear [.ref (g o 0)] M (Rv (fun M1 => (∀ k, k < 7 → M1.1 o 0 k = nI 0) ∧ (∀ i, i < 24 → M1.1 o 9 i = -1) ∧ (∀ i, i < 144 → M1.1 o 20 i = nI 0) ∧ Fo o M M1)) := by
  refine Ct.of (by decide) rfl (Nat.le_of_ble_eq_true rfl) ?_
  show G l D g ca md_X2_clear 0 [(0, .ref (g o 0))] [] M _
  refine g_aload_n 1 0 dX2_clear_0 rfl rfl ?_
  refine g_iconst 2 (nI 0) dX2_clear_1 rfl rfl ?_
  refine g_put 5 dX2_clear_2 rfl fX2_51 pX2_0 hko (by decide) rfl ?_
  refine g_aload_n 6 0 dX2_clear_5 rfl rfl ?_
  refine g_iconst 7 (nI 0) dX2_clear_6 rfl rfl ?_
  refine g_put 10 dX2_clear_7 rfl fX2_55 pX2_1 hko (by decide) rfl ?_
  refine g_aload_n 11 0 dX2_clear_10 rfl rfl ?_
  refine g_iconst 12 (nI 0) dX2_clear_11 rfl rfl ?_
  refine g_put 15 dX2_clear_12 rfl fX2_58 pX2_2 hko (by decide) rfl ?_
  refine g_aload_n 16 0 dX2_clear_15 rfl rfl ?_
  refine g_iconst 17 (nI 0) dX2_clear_16 rfl rfl ?_
  refine g_put 20 dX2_clear_17 rfl fX2_61 pX2_3 hko (by decide) rfl ?_
  refine g_aload_n 21 0 dX2_clear_20 rfl rfl ?_
  refine g_iconst 22 (nI 0) dX2_clear_21 rfl rfl ?_
  refine g_put 25 dX2_clear_22 rfl fX2_64 pX2_4 hko (by decide) rfl ?_
  refine g_aload_n 26 0 dX2_clear_25 rfl rfl ?_
  refine g_iconst 27 (nI 0) dX2_clear_26 rfl rfl ?_
  refine g_put 30 dX2_clear_27 rfl fX2_67 pX2_5 hko (by decide) rfl ?_
  refine g_aload_n 31 0 dX2_clear_30 rfl rfl ?_
  refine g_iconst 32 (nI 0) dX2_clear_31 rfl rfl ?_
  refine g_put 35 dX2_clear_32 rfl fX2_70 pX2_6 hko (by decide) rfl ?_
  refine g_iconst 36 (nI 0) dX2_clear_35 rfl rfl ?_
  refine g_istore_n 37 [(1, .int (nI 0)), (0, .ref (g o 0))] dX2_clear_36 rfl (by decide) rfl ?_
  have L37 : ∀ k, k ≤ 24 → ∀ (N : Mm), (∀ k, k < 7 → N.1 o 0 k = nI 0) → (∀ i, i < k → N.1 o 9 i = -1) → Fo o M N → G l D g ca md_X2_clear 37 [(1, .int (nI k)), (0, .ref (g o 0))] [] N (Rv (fun M1 => (∀ k, k < 7 → M1.1 o 0 k = nI 0) ∧ (∀ i, i < 24 → M1.1 o 9 i = -1) ∧ (∀ i, i < 144 → M1.1 o 20 i = nI 0) ∧ Fo o M M1)) := by
    refine upto ?_
    intro k hk ih37 N h0 h9 hF
    refine g_iload_n 38 0 dX2_clear_37 rfl rfl ?_
    refine g_aload_n 39 1 dX2_clear_38 rfl rfl ?_
    refine g_geta 42 9 dX2_clear_39 rfl fX2_15 hko (by decide) rfl rfl ?_
    refine g_alen 43 dX2_clear_42 rfl hko (by decide) rfl (by decide) ?_
    refine g_icmpN_ge 59 46 dX2_clear_43 rfl rfl (by omega) (by omega) (fun c43 => ?_) (fun c43 => ?_)
    · refine g_iconst 60 (nI 0) dX2_clear_59 rfl rfl ?_
      refine g_istore_n 61 [(1, .int (nI 0)), (0, .ref (g o 0))] dX2_clear_60 rfl (by decide) rfl ?_
      have L61 : ∀ k, k ≤ 144 → ∀ (N : Mm), (∀ k, k < 7 → N.1 o 0 k = nI 0) → (∀ i, i < 24 → N.1 o 9 i = -1) → (∀ i, i < k → N.1 o 20 i = nI 0) → Fo o M N → G l D g ca md_X2_clear 61 [(1, .int (nI k)), (0, .ref (g o 0))] [] N (Rv (fun M1 => (∀ k, k < 7 → M1.1 o 0 k = nI 0) ∧ (∀ i, i < 24 → M1.1 o 9 i = -1) ∧ (∀ i, i < 144 → M1.1 o 20 i = nI 0) ∧ Fo o M M1)) := by
        refine upto ?_
        intro k hk ih61 N h0 h9 h20 hF
        refine g_iload_n 62 0 dX2_clear_61 rfl rfl ?_
        refine g_aload_n 63 1 dX2_clear_62 rfl rfl ?_
        refine g_geta 66 20 dX2_clear_63 rfl fX2_48 hko (by decide) rfl rfl ?_
        refine g_alen 67 dX2_clear_66 rfl hko (by decide) rfl (by decide) ?_
        refine g_icmpN_ge 83 70 dX2_clear_67 rfl rfl (by omega) (by omega) (fun c67 => ?_) (fun c67 => ?_)
        · exact g_vret rfl dX2_clear_83 ⟨h0, h9, fun i hi => h20 i (by omega), hF⟩
        · refine g_aload_n 71 1 dX2_clear_70 rfl rfl ?_
          refine g_geta 74 20 dX2_clear_71 rfl fX2_48 hko (by decide) rfl rfl ?_
          refine g_iload_n 75 0 dX2_clear_74 rfl rfl ?_
          refine g_iconst 76 (nI 0) dX2_clear_75 rfl rfl ?_
          refine g_iast 77 dX2_clear_76 rfl hko (by decide) rfl (by decide) (by omega) ?_
          refine g_iinc 80 (nI (k + 1)) [(1, .int (nI (k + 1))), (0, .ref (g o 0))] dX2_clear_77 rfl 0 rfl (nI_add k 1) (by decide) rfl ?_
          refine g_goto 61 dX2_clear_80 rfl ?_
          exact ih61 (by omega) _ (fun j hj => by rw [wr_ne (by omega)]; exact h0 j hj) (fun i hi => by rw [wr_ne (by omega)]; exact h9 i hi) (fun i hi => by rcases (show i = k ∨ i < k by omega) with rfl | e <;> first | exact wr_eq | (rw [wr_ne (by omega)]; exact h20 i e)) (hF.tr Fo.wr)
      exact L61 0 (Nat.zero_le _) _ h0 (fun i hi => h9 i (by omega)) (fun i hi => absurd hi (Nat.not_lt_zero i)) hF
    · refine g_aload_n 47 1 dX2_clear_46 rfl rfl ?_
      refine g_geta 50 9 dX2_clear_47 rfl fX2_15 hko (by decide) rfl rfl ?_
      refine g_iload_n 51 0 dX2_clear_50 rfl rfl ?_
      refine g_iconst 52 ((-1)) dX2_clear_51 rfl rfl ?_
      refine g_iast 53 dX2_clear_52 rfl hko (by decide) rfl (by decide) (by omega) ?_
      refine g_iinc 56 (nI (k + 1)) [(1, .int (nI (k + 1))), (0, .ref (g o 0))] dX2_clear_53 rfl 0 rfl (nI_add k 1) (by decide) rfl ?_
      refine g_goto 37 dX2_clear_56 rfl ?_
      exact ih37 (by omega) _ (fun j hj => by rw [wr_ne (by omega)]; exact h0 j hj) (fun i hi => by rcases (show i = k ∨ i < k by omega) with rfl | e <;> first | exact wr_eq | (rw [wr_ne (by omega)]; exact h9 i e)) (hF.tr Fo.wr)
  exact L37 0 (Nat.zero_le _) _ (fun k hk => by rcases (show k = 0 ∨ k = 1 ∨ k = 2 ∨ k = 3 ∨ k = 4 ∨ k = 5 ∨ k = 6 by omega) with rfl | rfl | rfl | rfl | rfl | rfl | rfl <;> simp [wr_at]) (fun i hi => absurd hi (Nat.not_lt_zero i)) (((Fo.wr.tr Fo.wr).tr (Fo.wr.tr Fo.wr)).tr ((Fo.wr.tr Fo.wr).tr Fo.wr))

set_option maxHeartbeats 4000000 in
set_option maxRecDepth 100000 in
theorem c_X2_copyRow {l : Launch} {D : va_G} {g : Nat → Nat → Nat} {ca : Nat → ClassId} {M : Mm} {o o2 c n : Nat} (hko : kd o = 2) (hk2 : kd o2 = 2) (ha : atab 2 c = some (0, n)) (hn : n < 65536) : Ct l D g ca md_X2_copyRow [.ref (g o2 c), .ref (g o c)] M (Rv (fun M1 => M1 = cpr M o c o2 c n)) := by
  refine Ct.of (by decide) rfl (Nat.le_of_ble_eq_true rfl) ?_
  show G l D g ca md_X2_copyRow 0 [(0, .ref (g o2 c)), (1, .ref (g o c))] [] M _
  refine g_aload_n 1 0 dX2_copyRow_0 rfl rfl ?_
  refine g_iconst 2 (nI 0) dX2_copyRow_1 rfl rfl ?_
  refine g_aload_n 3 1 dX2_copyRow_2 rfl rfl ?_
  refine g_iconst 4 (nI 0) dX2_copyRow_3 rfl rfl ?_
  refine g_aload_n 5 0 dX2_copyRow_4 rfl rfl ?_
  refine g_alen 6 dX2_copyRow_5 rfl hk2 (by decide) ha (by decide) ?_
  refine g_aload_n 7 1 dX2_copyRow_6 rfl rfl ?_
  refine g_alen 8 dX2_copyRow_7 rfl hko (by decide) ha (by decide) ?_
  refine g_mmin 11 (nI n) dX2_copyRow_8 rfl ml_X2_77 (by decide) (Nat.le_of_ble_eq_true rfl) (by split <;> rfl) ?_
  refine g_copy 14 dX2_copyRow_11 rfl ml_X2_83 (by decide) (Nat.le_of_ble_eq_true rfl) hko (by decide) ha hk2 (by decide) ha (Nat.le_refl _) (Nat.le_refl _) (by omega) ?_
  exact g_vret rfl dX2_copyRow_14 rfl

theorem at_cases {c n : Nat} (h : atab 2 c = some (0, n)) : (c = 8 ∧ n = 6) ∨ (c = 9 ∧ n = 24) ∨ (c = 10 ∧ n = 24) ∨ (c = 11 ∧ n = 24) ∨ (c = 12 ∧ n = 24) ∨ (c = 13 ∧ n = 24) ∨ (c = 14 ∧ n = 41) ∨ (c = 15 ∧ n = 41) ∨ (c = 16 ∧ n = 41) ∨ (c = 17 ∧ n = 41) ∨ (c = 18 ∧ n = 41) ∨ (c = 19 ∧ n = 41) ∨ (c = 20 ∧ n = 144) := by
  unfold atab at h
  split at h <;> simp_all

set_option maxHeartbeats 4000000 in
set_option maxRecDepth 100000 in
theorem c_X2_copyFrom {l : Launch} {D : va_G} {g : Nat → Nat → Nat} {ca : Nat → ClassId} {M : Mm} {o o2 : Nat} (hko : kd o = 2) (hk2 : kd o2 = 2) (hne : o2 ≠ o) : Ct l D g ca md_X2_copyFrom [.ref (g o 0), .ref (g o2 0)] M (Rv (fun M1 => (∀ k, k < 7 → M1.1 o 0 k = M.1 o2 0 k) ∧ (∀ c n i, atab 2 c = some (0, n) → i < n → M1.1 o c i = M.1 o2 c i) ∧ Fo o M M1)) := by
  refine Ct.of (by decide) rfl (Nat.le_of_ble_eq_true rfl) ?_
  show G l D g ca md_X2_copyFrom 0 [(0, .ref (g o 0)), (1, .ref (g o2 0))] [] M _
  refine g_aload_n 1 0 dX2_copyFrom_0 rfl rfl ?_
  refine g_aload_n 2 1 dX2_copyFrom_1 rfl rfl ?_
  refine g_get 5 ((M.1 o2 0 0)) dX2_copyFrom_2 rfl fX2_51 hk2 (by decide) rfl rfl ?_
  refine g_put 8 dX2_copyFrom_5 rfl fX2_51 pX2_0 hko (by decide) rfl ?_
  refine g_aload_n 9 0 dX2_copyFrom_8 rfl rfl ?_
  refine g_aload_n 10 1 dX2_copyFrom_9 rfl rfl ?_
  refine g_get 13 ((M.1 o2 0 1)) dX2_copyFrom_10 rfl fX2_55 hk2 (by decide) rfl ((wr_ne (by omega)).trans rfl) ?_
  refine g_put 16 dX2_copyFrom_13 rfl fX2_55 pX2_1 hko (by decide) rfl ?_
  refine g_aload_n 17 0 dX2_copyFrom_16 rfl rfl ?_
  refine g_aload_n 18 1 dX2_copyFrom_17 rfl rfl ?_
  refine g_get 21 ((M.1 o2 0 2)) dX2_copyFrom_18 rfl fX2_58 hk2 (by decide) rfl ((wr_ne (by omega)).trans ((wr_ne (by omega)).trans rfl)) ?_
  refine g_put 24 dX2_copyFrom_21 rfl fX2_58 pX2_2 hko (by decide) rfl ?_
  refine g_aload_n 25 0 dX2_copyFrom_24 rfl rfl ?_
  refine g_aload_n 26 1 dX2_copyFrom_25 rfl rfl ?_
  refine g_get 29 ((M.1 o2 0 3)) dX2_copyFrom_26 rfl fX2_61 hk2 (by decide) rfl ((wr_ne (by omega)).trans ((wr_ne (by omega)).trans ((wr_ne (by omega)).trans rfl))) ?_
  refine g_put 32 dX2_copyFrom_29 rfl fX2_61 pX2_3 hko (by decide) rfl ?_
  refine g_aload_n 33 0 dX2_copyFrom_32 rfl rfl ?_
  refine g_aload_n 34 1 dX2_copyFrom_33 rfl rfl ?_
  refine g_get 37 ((M.1 o2 0 4)) dX2_copyFrom_34 rfl fX2_64 hk2 (by decide) rfl ((wr_ne (by omega)).trans ((wr_ne (by omega)).trans ((wr_ne (by omega)).trans ((wr_ne (by omega)).trans rfl)))) ?_
  refine g_put 40 dX2_copyFrom_37 rfl fX2_64 pX2_4 hko (by decide) rfl ?_
  refine g_aload_n 41 0 dX2_copyFrom_40 rfl rfl ?_
  refine g_aload_n 42 1 dX2_copyFrom_41 rfl rfl ?_
  refine g_get 45 ((M.1 o2 0 5)) dX2_copyFrom_42 rfl fX2_67 hk2 (by decide) rfl ((wr_ne (by omega)).trans ((wr_ne (by omega)).trans ((wr_ne (by omega)).trans ((wr_ne (by omega)).trans ((wr_ne (by omega)).trans rfl))))) ?_
  refine g_put 48 dX2_copyFrom_45 rfl fX2_67 pX2_5 hko (by decide) rfl ?_
  refine g_aload_n 49 0 dX2_copyFrom_48 rfl rfl ?_
  refine g_aload_n 50 1 dX2_copyFrom_49 rfl rfl ?_
  refine g_get 53 ((M.1 o2 0 6)) dX2_copyFrom_50 rfl fX2_70 hk2 (by decide) rfl ((wr_ne (by omega)).trans ((wr_ne (by omega)).trans ((wr_ne (by omega)).trans ((wr_ne (by omega)).trans ((wr_ne (by omega)).trans ((wr_ne (by omega)).trans rfl)))))) ?_
  refine g_put 56 dX2_copyFrom_53 rfl fX2_70 pX2_6 hko (by decide) rfl ?_
  refine g_aload_n 57 1 dX2_copyFrom_56 rfl rfl ?_
  refine g_geta 60 8 dX2_copyFrom_57 rfl fX2_9 hk2 (by decide) rfl rfl ?_
  refine g_aload_n 61 0 dX2_copyFrom_60 rfl rfl ?_
  refine g_geta 64 8 dX2_copyFrom_61 rfl fX2_9 hko (by decide) rfl rfl ?_
  refine g_callSv 67 md_X2_copyRow [.ref (g o2 8), .ref (g o 8)] [] dX2_copyFrom_64 rfl e_X2_copyFrom_73 rfl rfl (Nat.le_of_ble_eq_true rfl) (c_X2_copyRow hko hk2 rfl (by decide)) (fun M64 h64 => ?_)
  have h64 := h64.symm
  subst h64
  refine g_aload_n 68 1 dX2_copyFrom_67 rfl rfl ?_
  refine g_geta 71 9 dX2_copyFrom_68 rfl fX2_15 hk2 (by decide) rfl rfl ?_
  refine g_aload_n 72 0 dX2_copyFrom_71 rfl rfl ?_
  refine g_geta 75 9 dX2_copyFrom_72 rfl fX2_15 hko (by decide) rfl rfl ?_
  refine g_callSv 78 md_X2_copyRow [.ref (g o2 9), .ref (g o 9)] [] dX2_copyFrom_75 rfl e_X2_copyFrom_73 rfl rfl (Nat.le_of_ble_eq_true rfl) (c_X2_copyRow hko hk2 rfl (by decide)) (fun M75 h75 => ?_)
  have h75 := h75.symm
  subst h75
  refine g_aload_n 79 1 dX2_copyFrom_78 rfl rfl ?_
  refine g_geta 82 10 dX2_copyFrom_79 rfl fX2_18 hk2 (by decide) rfl rfl ?_
  refine g_aload_n 83 0 dX2_copyFrom_82 rfl rfl ?_
  refine g_geta 86 10 dX2_copyFrom_83 rfl fX2_18 hko (by decide) rfl rfl ?_
  refine g_callSv 89 md_X2_copyRow [.ref (g o2 10), .ref (g o 10)] [] dX2_copyFrom_86 rfl e_X2_copyFrom_73 rfl rfl (Nat.le_of_ble_eq_true rfl) (c_X2_copyRow hko hk2 rfl (by decide)) (fun M86 h86 => ?_)
  have h86 := h86.symm
  subst h86
  refine g_aload_n 90 1 dX2_copyFrom_89 rfl rfl ?_
  refine g_geta 93 11 dX2_copyFrom_90 rfl fX2_21 hk2 (by decide) rfl rfl ?_
  refine g_aload_n 94 0 dX2_copyFrom_93 rfl rfl ?_
  refine g_geta 97 11 dX2_copyFrom_94 rfl fX2_21 hko (by decide) rfl rfl ?_
  refine g_callSv 100 md_X2_copyRow [.ref (g o2 11), .ref (g o 11)] [] dX2_copyFrom_97 rfl e_X2_copyFrom_73 rfl rfl (Nat.le_of_ble_eq_true rfl) (c_X2_copyRow hko hk2 rfl (by decide)) (fun M97 h97 => ?_)
  have h97 := h97.symm
  subst h97
  refine g_aload_n 101 1 dX2_copyFrom_100 rfl rfl ?_
  refine g_geta 104 12 dX2_copyFrom_101 rfl fX2_24 hk2 (by decide) rfl rfl ?_
  refine g_aload_n 105 0 dX2_copyFrom_104 rfl rfl ?_
  refine g_geta 108 12 dX2_copyFrom_105 rfl fX2_24 hko (by decide) rfl rfl ?_
  refine g_callSv 111 md_X2_copyRow [.ref (g o2 12), .ref (g o 12)] [] dX2_copyFrom_108 rfl e_X2_copyFrom_73 rfl rfl (Nat.le_of_ble_eq_true rfl) (c_X2_copyRow hko hk2 rfl (by decide)) (fun M108 h108 => ?_)
  have h108 := h108.symm
  subst h108
  refine g_aload_n 112 1 dX2_copyFrom_111 rfl rfl ?_
  refine g_geta 115 13 dX2_copyFrom_112 rfl fX2_27 hk2 (by decide) rfl rfl ?_
  refine g_aload_n 116 0 dX2_copyFrom_115 rfl rfl ?_
  refine g_geta 119 13 dX2_copyFrom_116 rfl fX2_27 hko (by decide) rfl rfl ?_
  refine g_callSv 122 md_X2_copyRow [.ref (g o2 13), .ref (g o 13)] [] dX2_copyFrom_119 rfl e_X2_copyFrom_73 rfl rfl (Nat.le_of_ble_eq_true rfl) (c_X2_copyRow hko hk2 rfl (by decide)) (fun M119 h119 => ?_)
  have h119 := h119.symm
  subst h119
  refine g_aload_n 123 1 dX2_copyFrom_122 rfl rfl ?_
  refine g_geta 126 14 dX2_copyFrom_123 rfl fX2_30 hk2 (by decide) rfl rfl ?_
  refine g_aload_n 127 0 dX2_copyFrom_126 rfl rfl ?_
  refine g_geta 130 14 dX2_copyFrom_127 rfl fX2_30 hko (by decide) rfl rfl ?_
  refine g_callSv 133 md_X2_copyRow [.ref (g o2 14), .ref (g o 14)] [] dX2_copyFrom_130 rfl e_X2_copyFrom_73 rfl rfl (Nat.le_of_ble_eq_true rfl) (c_X2_copyRow hko hk2 rfl (by decide)) (fun M130 h130 => ?_)
  have h130 := h130.symm
  subst h130
  refine g_aload_n 134 1 dX2_copyFrom_133 rfl rfl ?_
  refine g_geta 137 15 dX2_copyFrom_134 rfl fX2_33 hk2 (by decide) rfl rfl ?_
  refine g_aload_n 138 0 dX2_copyFrom_137 rfl rfl ?_
  refine g_geta 141 15 dX2_copyFrom_138 rfl fX2_33 hko (by decide) rfl rfl ?_
  refine g_callSv 144 md_X2_copyRow [.ref (g o2 15), .ref (g o 15)] [] dX2_copyFrom_141 rfl e_X2_copyFrom_73 rfl rfl (Nat.le_of_ble_eq_true rfl) (c_X2_copyRow hko hk2 rfl (by decide)) (fun M141 h141 => ?_)
  have h141 := h141.symm
  subst h141
  refine g_aload_n 145 1 dX2_copyFrom_144 rfl rfl ?_
  refine g_geta 148 16 dX2_copyFrom_145 rfl fX2_36 hk2 (by decide) rfl rfl ?_
  refine g_aload_n 149 0 dX2_copyFrom_148 rfl rfl ?_
  refine g_geta 152 16 dX2_copyFrom_149 rfl fX2_36 hko (by decide) rfl rfl ?_
  refine g_callSv 155 md_X2_copyRow [.ref (g o2 16), .ref (g o 16)] [] dX2_copyFrom_152 rfl e_X2_copyFrom_73 rfl rfl (Nat.le_of_ble_eq_true rfl) (c_X2_copyRow hko hk2 rfl (by decide)) (fun M152 h152 => ?_)
  have h152 := h152.symm
  subst h152
  refine g_aload_n 156 1 dX2_copyFrom_155 rfl rfl ?_
  refine g_geta 159 17 dX2_copyFrom_156 rfl fX2_39 hk2 (by decide) rfl rfl ?_
  refine g_aload_n 160 0 dX2_copyFrom_159 rfl rfl ?_
  refine g_geta 163 17 dX2_copyFrom_160 rfl fX2_39 hko (by decide) rfl rfl ?_
  refine g_callSv 166 md_X2_copyRow [.ref (g o2 17), .ref (g o 17)] [] dX2_copyFrom_163 rfl e_X2_copyFrom_73 rfl rfl (Nat.le_of_ble_eq_true rfl) (c_X2_copyRow hko hk2 rfl (by decide)) (fun M163 h163 => ?_)
  have h163 := h163.symm
  subst h163
  refine g_aload_n 167 1 dX2_copyFrom_166 rfl rfl ?_
  refine g_geta 170 18 dX2_copyFrom_167 rfl fX2_42 hk2 (by decide) rfl rfl ?_
  refine g_aload_n 171 0 dX2_copyFrom_170 rfl rfl ?_
  refine g_geta 174 18 dX2_copyFrom_171 rfl fX2_42 hko (by decide) rfl rfl ?_
  refine g_callSv 177 md_X2_copyRow [.ref (g o2 18), .ref (g o 18)] [] dX2_copyFrom_174 rfl e_X2_copyFrom_73 rfl rfl (Nat.le_of_ble_eq_true rfl) (c_X2_copyRow hko hk2 rfl (by decide)) (fun M174 h174 => ?_)
  have h174 := h174.symm
  subst h174
  refine g_aload_n 178 1 dX2_copyFrom_177 rfl rfl ?_
  refine g_geta 181 19 dX2_copyFrom_178 rfl fX2_45 hk2 (by decide) rfl rfl ?_
  refine g_aload_n 182 0 dX2_copyFrom_181 rfl rfl ?_
  refine g_geta 185 19 dX2_copyFrom_182 rfl fX2_45 hko (by decide) rfl rfl ?_
  refine g_callSv 188 md_X2_copyRow [.ref (g o2 19), .ref (g o 19)] [] dX2_copyFrom_185 rfl e_X2_copyFrom_73 rfl rfl (Nat.le_of_ble_eq_true rfl) (c_X2_copyRow hko hk2 rfl (by decide)) (fun M185 h185 => ?_)
  have h185 := h185.symm
  subst h185
  refine g_aload_n 189 1 dX2_copyFrom_188 rfl rfl ?_
  refine g_geta 192 20 dX2_copyFrom_189 rfl fX2_48 hk2 (by decide) rfl rfl ?_
  refine g_aload_n 193 0 dX2_copyFrom_192 rfl rfl ?_
  refine g_geta 196 20 dX2_copyFrom_193 rfl fX2_48 hko (by decide) rfl rfl ?_
  refine g_callSv 199 md_X2_copyRow [.ref (g o2 20), .ref (g o 20)] [] dX2_copyFrom_196 rfl e_X2_copyFrom_73 rfl rfl (Nat.le_of_ble_eq_true rfl) (c_X2_copyRow hko hk2 rfl (by decide)) (fun M196 h196 => ?_)
  have h196 := h196.symm
  subst h196
  exact g_vret rfl dX2_copyFrom_199 ⟨fun k hk => by rcases (show k = 0 ∨ k = 1 ∨ k = 2 ∨ k = 3 ∨ k = 4 ∨ k = 5 ∨ k = 6 by omega) with rfl | rfl | rfl | rfl | rfl | rfl | rfl <;> simp [cpr_at, wr_at, hne], fun c n i hc hi => by rcases at_cases hc with ⟨rfl, rfl⟩ | ⟨rfl, rfl⟩ | ⟨rfl, rfl⟩ | ⟨rfl, rfl⟩ | ⟨rfl, rfl⟩ | ⟨rfl, rfl⟩ | ⟨rfl, rfl⟩ | ⟨rfl, rfl⟩ | ⟨rfl, rfl⟩ | ⟨rfl, rfl⟩ | ⟨rfl, rfl⟩ | ⟨rfl, rfl⟩ | ⟨rfl, rfl⟩ <;> simp [cpr_at, wr_at, hne, hi], ⟨fun o1 c1 i1 h1 => by simp [cpr_at, wr_at, h1], by simp only [cpr_lg, wr_lg]⟩⟩

set_option maxHeartbeats 4000000 in
set_option maxRecDepth 100000 in
theorem c_X2_addCustomer {l : Launch} {D : va_G} {g : Nat → Nat → Nat} {ca : Nat → ClassId} {M : Mm} {o : Nat} {a : Sa} (hko : kd o = 2) (hS : RP (M.1 o) a) (v : Nat) (hc : a 0 2 < 6) : Ct l D g ca md_X2_addCustomer [.ref (g o 0), .int (nI v)] M (Rv (fun M1 => M1 = wr (wr M o 8 (a 0 2) (nI v)) o 0 2 (nI (a 0 2 + 1)))) := by
  refine Ct.of (by decide) rfl (Nat.le_of_ble_eq_true rfl) ?_
  show G l D g ca md_X2_addCustomer 0 [(0, .ref (g o 0)), (1, .int (nI v))] [] M _
  refine g_aload_n 1 0 dX2_addCustomer_0 rfl rfl ?_
  refine g_get 4 (nI (a 0 2)) dX2_addCustomer_1 rfl fX2_58 hko (by decide) rfl (hS.sc (by decide)) ?_
  refine g_bipush 6 (nI 6) dX2_addCustomer_4 rfl rfl ?_
  refine g_icmpN_ge 29 9 dX2_addCustomer_6 rfl rfl (by omega) (by omega) (fun c6 => ?_) (fun c6 => ?_)
  · exact absurd c6 (by omega)
  · refine g_aload_n 10 0 dX2_addCustomer_9 rfl rfl ?_
    refine g_geta 13 8 dX2_addCustomer_10 rfl fX2_9 hko (by decide) rfl rfl ?_
    refine g_aload_n 14 0 dX2_addCustomer_13 rfl rfl ?_
    refine g_get 17 (nI (a 0 2)) dX2_addCustomer_14 rfl fX2_58 hko (by decide) rfl (hS.sc (by decide)) ?_
    refine g_iload_n 18 1 dX2_addCustomer_17 rfl rfl ?_
    refine g_iast 19 dX2_addCustomer_18 rfl hko (by decide) rfl (by decide) (by omega) ?_
    refine g_aload_n 20 0 dX2_addCustomer_19 rfl rfl ?_
    refine g_dup 21 dX2_addCustomer_20 rfl rfl ?_
    refine g_get 24 (nI (a 0 2)) dX2_addCustomer_21 rfl fX2_58 hko (by decide) rfl ((wr_ne (by omega)).trans (hS.sc (by decide))) ?_
    refine g_iconst 25 (nI 1) dX2_addCustomer_24 rfl rfl ?_
    refine g_iadd 26 (nI ((a 0 2) + 1)) dX2_addCustomer_25 rfl (nI_add (a 0 2) 1) ?_
    refine g_put 29 dX2_addCustomer_26 rfl fX2_58 pX2_2 hko (by decide) rfl ?_
    exact g_vret rfl dX2_addCustomer_29 rfl

set_option maxHeartbeats 4000000 in
set_option maxRecDepth 100000 in
theorem c_X2_addLot {l : Launch} {D : va_G} {g : Nat → Nat → Nat} {ca : Nat → ClassId} {M : Mm} {o : Nat} {a : Sa} (hko : kd o = 2) (hS : RP (M.1 o) a) (x1 x2 x3 x4 : Nat) (hc : a 0 3 < 24) : Ct l D g ca md_X2_addLot [.ref (g o 0), .int (nI x1), .int (nI x2), .int (nI x3), .int (nI x4)] M (Ri (fun r M1 => r = nI (a 0 3) ∧ M1 = wr (wr (wr (wr (wr M o 10 (a 0 3) (nI x1)) o 11 (a 0 3) (nI x2)) o 12 (a 0 3) (nI x3)) o 13 (a 0 3) (nI x4)) o 0 3 (nI (a 0 3 + 1)))) := by
  refine Ct.of (by decide) rfl (Nat.le_of_ble_eq_true rfl) ?_
  show G l D g ca md_X2_addLot 0 [(0, .ref (g o 0)), (1, .int (nI x1)), (2, .int (nI x2)), (3, .int (nI x3)), (4, .int (nI x4))] [] M _
  refine g_aload_n 1 0 dX2_addLot_0 rfl rfl ?_
  refine g_get 4 (nI (a 0 3)) dX2_addLot_1 rfl fX2_61 hko (by decide) rfl (hS.sc (by decide)) ?_
  refine g_bipush 6 (nI 24) dX2_addLot_4 rfl rfl ?_
  refine g_icmpN_lt 11 9 dX2_addLot_6 rfl rfl (by omega) (by omega) (fun c6 => ?_) (fun c6 => ?_)
  · refine g_aload_n 12 0 dX2_addLot_11 rfl rfl ?_
    refine g_geta 15 10 dX2_addLot_12 rfl fX2_18 hko (by decide) rfl rfl ?_
    refine g_aload_n 16 0 dX2_addLot_15 rfl rfl ?_
    refine g_get 19 (nI (a 0 3)) dX2_addLot_16 rfl fX2_61 hko (by decide) rfl (hS.sc (by decide)) ?_
    refine g_iload_n 20 1 dX2_addLot_19 rfl rfl ?_
    refine g_iast 21 dX2_addLot_20 rfl hko (by decide) rfl (by decide) (by omega) ?_
    refine g_aload_n 22 0 dX2_addLot_21 rfl rfl ?_
    refine g_geta 25 11 dX2_addLot_22 rfl fX2_21 hko (by decide) rfl rfl ?_
    refine g_aload_n 26 0 dX2_addLot_25 rfl rfl ?_
    refine g_get 29 (nI (a 0 3)) dX2_addLot_26 rfl fX2_61 hko (by decide) rfl ((wr_ne (by omega)).trans (hS.sc (by decide))) ?_
    refine g_iload_n 30 2 dX2_addLot_29 rfl rfl ?_
    refine g_iast 31 dX2_addLot_30 rfl hko (by decide) rfl (by decide) (by omega) ?_
    refine g_aload_n 32 0 dX2_addLot_31 rfl rfl ?_
    refine g_geta 35 12 dX2_addLot_32 rfl fX2_24 hko (by decide) rfl rfl ?_
    refine g_aload_n 36 0 dX2_addLot_35 rfl rfl ?_
    refine g_get 39 (nI (a 0 3)) dX2_addLot_36 rfl fX2_61 hko (by decide) rfl ((wr_ne (by omega)).trans ((wr_ne (by omega)).trans (hS.sc (by decide)))) ?_
    refine g_iload_n 40 3 dX2_addLot_39 rfl rfl ?_
    refine g_iast 41 dX2_addLot_40 rfl hko (by decide) rfl (by decide) (by omega) ?_
    refine g_aload_n 42 0 dX2_addLot_41 rfl rfl ?_
    refine g_geta 45 13 dX2_addLot_42 rfl fX2_27 hko (by decide) rfl rfl ?_
    refine g_aload_n 46 0 dX2_addLot_45 rfl rfl ?_
    refine g_get 49 (nI (a 0 3)) dX2_addLot_46 rfl fX2_61 hko (by decide) rfl ((wr_ne (by omega)).trans ((wr_ne (by omega)).trans ((wr_ne (by omega)).trans (hS.sc (by decide))))) ?_
    refine g_iload 51 4 dX2_addLot_49 rfl rfl ?_
    refine g_iast 52 dX2_addLot_51 rfl hko (by decide) rfl (by decide) (by omega) ?_
    refine g_aload_n 53 0 dX2_addLot_52 rfl rfl ?_
    refine g_dup 54 dX2_addLot_53 rfl rfl ?_
    refine g_get 57 (nI (a 0 3)) dX2_addLot_54 rfl fX2_61 hko (by decide) rfl ((wr_ne (by omega)).trans ((wr_ne (by omega)).trans ((wr_ne (by omega)).trans ((wr_ne (by omega)).trans (hS.sc (by decide)))))) ?_
    refine g_dup_x1 58 dX2_addLot_57 rfl rfl rfl ?_
    refine g_iconst 59 (nI 1) dX2_addLot_58 rfl rfl ?_
    refine g_iadd 60 (nI ((a 0 3) + 1)) dX2_addLot_59 rfl (nI_add (a 0 3) 1) ?_
    refine g_put 63 dX2_addLot_60 rfl fX2_61 pX2_3 hko (by decide) rfl ?_
    exact g_iret rfl dX2_addLot_63 ⟨rfl, rfl⟩
  · exact absurd c6 (by omega)

set_option maxHeartbeats 4000000 in
set_option maxRecDepth 100000 in
theorem c_X2_addOrder {l : Launch} {D : va_G} {g : Nat → Nat → Nat} {ca : Nat → ClassId} {M : Mm} {o : Nat} {a : Sa} (hko : kd o = 2) (hS : RP (M.1 o) a) (x1 x2 x3 x4 : Nat) (hc : a 0 4 < 41) : Ct l D g ca md_X2_addOrder [.ref (g o 0), .int (nI x1), .int (nI x2), .int (nI x3), .int (nI x4)] M (Ri (fun r M1 => r = nI (a 0 4) ∧ M1 = wr (wr (wr (wr (wr (wr (wr M o 14 (a 0 4) (nI x1)) o 15 (a 0 4) (nI x2)) o 16 (a 0 4) (nI x3)) o 17 (a 0 4) (nI x4)) o 18 (a 0 4) (nI 0)) o 19 (a 0 4) (nI 0)) o 0 4 (nI (a 0 4 + 1)))) := by
  refine Ct.of (by decide) rfl (Nat.le_of_ble_eq_true rfl) ?_
  show G l D g ca md_X2_addOrder 0 [(0, .ref (g o 0)), (1, .int (nI x1)), (2, .int (nI x2)), (3, .int (nI x3)), (4, .int (nI x4))] [] M _
  refine g_aload_n 1 0 dX2_addOrder_0 rfl rfl ?_
  refine g_get 4 (nI (a 0 4)) dX2_addOrder_1 rfl fX2_64 hko (by decide) rfl (hS.sc (by decide)) ?_
  refine g_bipush 6 (nI 41) dX2_addOrder_4 rfl rfl ?_
  refine g_icmpN_lt 11 9 dX2_addOrder_6 rfl rfl (by omega) (by omega) (fun c6 => ?_) (fun c6 => ?_)
  · refine g_aload_n 12 0 dX2_addOrder_11 rfl rfl ?_
    refine g_geta 15 14 dX2_addOrder_12 rfl fX2_30 hko (by decide) rfl rfl ?_
    refine g_aload_n 16 0 dX2_addOrder_15 rfl rfl ?_
    refine g_get 19 (nI (a 0 4)) dX2_addOrder_16 rfl fX2_64 hko (by decide) rfl (hS.sc (by decide)) ?_
    refine g_iload_n 20 1 dX2_addOrder_19 rfl rfl ?_
    refine g_iast 21 dX2_addOrder_20 rfl hko (by decide) rfl (by decide) (by omega) ?_
    refine g_aload_n 22 0 dX2_addOrder_21 rfl rfl ?_
    refine g_geta 25 15 dX2_addOrder_22 rfl fX2_33 hko (by decide) rfl rfl ?_
    refine g_aload_n 26 0 dX2_addOrder_25 rfl rfl ?_
    refine g_get 29 (nI (a 0 4)) dX2_addOrder_26 rfl fX2_64 hko (by decide) rfl ((wr_ne (by omega)).trans (hS.sc (by decide))) ?_
    refine g_iload_n 30 2 dX2_addOrder_29 rfl rfl ?_
    refine g_iast 31 dX2_addOrder_30 rfl hko (by decide) rfl (by decide) (by omega) ?_
    refine g_aload_n 32 0 dX2_addOrder_31 rfl rfl ?_
    refine g_geta 35 16 dX2_addOrder_32 rfl fX2_36 hko (by decide) rfl rfl ?_
    refine g_aload_n 36 0 dX2_addOrder_35 rfl rfl ?_
    refine g_get 39 (nI (a 0 4)) dX2_addOrder_36 rfl fX2_64 hko (by decide) rfl ((wr_ne (by omega)).trans ((wr_ne (by omega)).trans (hS.sc (by decide)))) ?_
    refine g_iload_n 40 3 dX2_addOrder_39 rfl rfl ?_
    refine g_iast 41 dX2_addOrder_40 rfl hko (by decide) rfl (by decide) (by omega) ?_
    refine g_aload_n 42 0 dX2_addOrder_41 rfl rfl ?_
    refine g_geta 45 17 dX2_addOrder_42 rfl fX2_39 hko (by decide) rfl rfl ?_
    refine g_aload_n 46 0 dX2_addOrder_45 rfl rfl ?_
    refine g_get 49 (nI (a 0 4)) dX2_addOrder_46 rfl fX2_64 hko (by decide) rfl ((wr_ne (by omega)).trans ((wr_ne (by omega)).trans ((wr_ne (by omega)).trans (hS.sc (by decide))))) ?_
    refine g_iload 51 4 dX2_addOrder_49 rfl rfl ?_
    refine g_iast 52 dX2_addOrder_51 rfl hko (by decide) rfl (by decide) (by omega) ?_
    refine g_aload_n 53 0 dX2_addOrder_52 rfl rfl ?_
    refine g_geta 56 18 dX2_addOrder_53 rfl fX2_42 hko (by decide) rfl rfl ?_
    refine g_aload_n 57 0 dX2_addOrder_56 rfl rfl ?_
    refine g_get 60 (nI (a 0 4)) dX2_addOrder_57 rfl fX2_64 hko (by decide) rfl ((wr_ne (by omega)).trans ((wr_ne (by omega)).trans ((wr_ne (by omega)).trans ((wr_ne (by omega)).trans (hS.sc (by decide)))))) ?_
    refine g_iconst 61 (nI 0) dX2_addOrder_60 rfl rfl ?_
    refine g_iast 62 dX2_addOrder_61 rfl hko (by decide) rfl (by decide) (by omega) ?_
    refine g_aload_n 63 0 dX2_addOrder_62 rfl rfl ?_
    refine g_geta 66 19 dX2_addOrder_63 rfl fX2_45 hko (by decide) rfl rfl ?_
    refine g_aload_n 67 0 dX2_addOrder_66 rfl rfl ?_
    refine g_get 70 (nI (a 0 4)) dX2_addOrder_67 rfl fX2_64 hko (by decide) rfl ((wr_ne (by omega)).trans ((wr_ne (by omega)).trans ((wr_ne (by omega)).trans ((wr_ne (by omega)).trans ((wr_ne (by omega)).trans (hS.sc (by decide))))))) ?_
    refine g_iconst 71 (nI 0) dX2_addOrder_70 rfl rfl ?_
    refine g_iast 72 dX2_addOrder_71 rfl hko (by decide) rfl (by decide) (by omega) ?_
    refine g_aload_n 73 0 dX2_addOrder_72 rfl rfl ?_
    refine g_dup 74 dX2_addOrder_73 rfl rfl ?_
    refine g_get 77 (nI (a 0 4)) dX2_addOrder_74 rfl fX2_64 hko (by decide) rfl ((wr_ne (by omega)).trans ((wr_ne (by omega)).trans ((wr_ne (by omega)).trans ((wr_ne (by omega)).trans ((wr_ne (by omega)).trans ((wr_ne (by omega)).trans (hS.sc (by decide)))))))) ?_
    refine g_dup_x1 78 dX2_addOrder_77 rfl rfl rfl ?_
    refine g_iconst 79 (nI 1) dX2_addOrder_78 rfl rfl ?_
    refine g_iadd 80 (nI ((a 0 4) + 1)) dX2_addOrder_79 rfl (nI_add (a 0 4) 1) ?_
    refine g_put 83 dX2_addOrder_80 rfl fX2_64 pX2_4 hko (by decide) rfl ?_
    exact g_iret rfl dX2_addOrder_83 ⟨rfl, rfl⟩
  · exact absurd c6 (by omega)
