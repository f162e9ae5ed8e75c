set_option maxHeartbeats 4000000 in
set_option maxRecDepth 100000 in
theorem c_X5_spells {l : Launch} {D : va_G} {g : Nat → Nat → Nat} {ca : Nat → ClassId} {M : Mm} {t : Nat → Nat} {n q e : Nat} (hT : TC M t n) (hB : Tb t n) (hat : M.1 14 0 1 = nI e) (hpl : M.1 14 0 3 = nI q) (hqe : q ≤ e) (hen : e ≤ n) (i : Nat) (hi : i < 4) : Ct l D g ca md_X5_spells [.ref (g 14 0), .ref (g 20 i)] M (Ri (fun r M1 => r = bi (isw t q e (4 + i)) ∧ M1 = M)) := by
  refine Ct.of (by decide) rfl (Nat.le_of_ble_eq_true rfl) ?_
  have hn := hB.1
  have hl := sLen_le hi
  show G l D g ca md_X5_spells 0 [(0, .ref (g 14 0)), (1, .ref (g 20 i))] [] M _
  refine g_aload_n 1 0 dX5_spells_0 rfl rfl ?_
  refine g_get 4 (nI e) dX5_spells_1 rfl fX5_15 rfl (by decide) rfl hat ?_
  refine g_aload_n 5 0 dX5_spells_4 rfl rfl ?_
  refine g_get 8 (nI q) dX5_spells_5 rfl fX5_22 rfl (by decide) rfl hpl ?_
  refine g_isub 9 (nI (e - q)) dX5_spells_8 rfl (pk_sub (by omega)) ?_
  refine g_aload_n 10 1 dX5_spells_9 rfl rfl ?_
  refine g_callVS 13 md_J0_length_8abf5 [] [.int (nI (e - q))] hi dX5_spells_10 rfl e_X5_spells_66 rfl rfl (Nat.le_of_ble_eq_true rfl) (c_J0_length i hi) (fun r10 M10 h10 => ?_)
  obtain ⟨rfl, h10⟩ := h10
  have h10 := h10.symm
  subst h10
  refine g_icmpN_eq 18 16 dX5_spells_13 rfl rfl (by omega) (by omega) (fun c13 => ?_) (fun c13 => ?_)
  · refine g_iconst 19 (nI 0) dX5_spells_18 rfl rfl ?_
    refine g_istore_n 20 [(2, .int (nI 0)), (0, .ref (g 14 0)), (1, .ref (g 20 i))] dX5_spells_19 rfl (by decide) rfl ?_
    have L20 : ∀ k, k ≤ sLen.getD i 0 → (∀ j, j < k → t (q + j) = (wl (4 + i)).getD j 0) → G l D g ca md_X5_spells 20 [(2, .int (nI k)), (0, .ref (g 14 0)), (1, .ref (g 20 i))] [] M (Ri (fun r M1 => r = bi (isw t q e (4 + i)) ∧ M1 = M)) := by
      refine upto ?_
      intro k hk ih20 hv
      refine g_iload_n 21 0 dX5_spells_20 rfl rfl ?_
      refine g_aload_n 22 2 dX5_spells_21 rfl rfl ?_
      refine g_callVS 25 md_J0_length_8abf5 [] [.int (nI k)] hi dX5_spells_22 rfl e_X5_spells_66 rfl rfl (Nat.le_of_ble_eq_true rfl) (c_J0_length i hi) (fun r22 M22 h22 => ?_)
      obtain ⟨rfl, h22⟩ := h22
      have h22 := h22.symm
      subst h22
      refine g_icmpN_ge 58 28 dX5_spells_25 rfl rfl (by omega) (by omega) (fun c25 => ?_) (fun c25 => ?_)
      · refine g_iconst 59 (nI 1) dX5_spells_58 rfl rfl ?_
        exact g_zret rfl dX5_spells_59 rfl ⟨by rw [isw_t hi (by omega) (fun j hj => hv j (by omega))]; rfl, rfl⟩
      · refine g_aload_n 29 1 dX5_spells_28 rfl rfl ?_
        refine g_geto 32 dX5_spells_29 rfl fX5_9 rfl (by decide) rfl ?_
        refine g_geta 35 1 dX5_spells_32 rfl fX5_33 rfl (by decide) rfl rfl ?_
        refine g_aload_n 36 1 dX5_spells_35 rfl rfl ?_
        refine g_get 39 (nI q) dX5_spells_36 rfl fX5_22 rfl (by decide) rfl hpl ?_
        refine g_iload_n 40 0 dX5_spells_39 rfl rfl ?_
        refine g_iadd 41 (nI (q + k)) dX5_spells_40 rfl (nI_add q k) ?_
        refine g_bald 42 (sb (t (q + k))) dX5_spells_41 rfl rfl (by decide) rfl (by decide) (by omega) (hT.2 _ (by omega)) ?_
        refine g_aload_n 43 2 dX5_spells_42 rfl rfl ?_
        refine g_iload_n 44 0 dX5_spells_43 rfl rfl ?_
        refine g_callVS 47 md_J0_charAt_5068e [.int (nI k)] [.int (sb (t (q + k)))] hi dX5_spells_44 rfl e_X5_spells_71 rfl rfl (Nat.le_of_ble_eq_true rfl) (c_J0_charAt i k hi (by omega)) (fun r44 M44 h44 => ?_)
        obtain ⟨rfl, h44⟩ := h44
        have h44 := h44.symm
        subst h44
        refine g_icmp_eq 52 50 dX5_spells_47 rfl rfl (fun c47 => ?_) (fun c47 => ?_)
        · refine g_iinc 55 (nI (k + 1)) [(2, .int (nI (k + 1))), (0, .ref (g 14 0)), (1, .ref (g 20 i))] dX5_spells_52 rfl 0 rfl (nI_add k 1) (by decide) rfl ?_
          refine g_goto 20 dX5_spells_55 rfl ?_
          exact ih20 (by omega) (lt_s hv ((sw_at (hB.2 _ (by omega)) hi (by omega)).mp c47))
        · refine g_iconst 51 (nI 0) dX5_spells_50 rfl rfl ?_
          exact g_zret rfl dX5_spells_51 rfl ⟨by rw [isw_f2 (k := k) hi (by omega) (fun z => c47 ((sw_at (hB.2 _ (by omega)) hi (by omega)).mpr z))]; rfl, rfl⟩
    exact L20 0 (Nat.zero_le _) (fun j h => absurd h (Nat.not_lt_zero j))
  · refine g_iconst 17 (nI 0) dX5_spells_16 rfl rfl ?_
    exact g_zret rfl dX5_spells_17 rfl ⟨by rw [isw_f1 hi (by omega)]; rfl, rfl⟩

set_option maxHeartbeats 4000000 in
set_option maxRecDepth 100000 in
theorem c_X5_wordKind {l : Launch} {D : va_G} {g : Nat → Nat → Nat} {ca : Nat → ClassId} {M : Mm} {t : Nat → Nat} {n q e : Nat} (hT : TC M t n) (hB : Tb t n) (hat : M.1 14 0 1 = nI e) (hpl : M.1 14 0 3 = nI q) (hqe : q ≤ e) (hen : e ≤ n) : Ct l D g ca md_X5_wordKind [.ref (g 14 0)] M (Ri (fun r M1 => r = nI (wkd t q e) ∧ M1 = M)) := by
  refine Ct.of (by decide) rfl (Nat.le_of_ble_eq_true rfl) ?_
  show G l D g ca md_X5_wordKind 0 [(0, .ref (g 14 0))] [] M _
  refine g_aload_n 1 0 dX5_wordKind_0 rfl rfl ?_
  refine g_ldcS 3 (i := 0) (by decide) rfl dX5_wordKind_1 rfl ?_
  refine g_callVi 6 md_X5_spells [.ref (g 20 0)] [] dX5_wordKind_3 rfl e_X5_wordKind_56 rfl (by decide) rfl rfl (Nat.le_of_ble_eq_true rfl) (c_X5_spells hT hB hat hpl hqe hen 0 (by decide)) (fun r3 M3 h3 => ?_)
  obtain ⟨rfl, h3⟩ := h3
  have h3 := h3.symm
  subst h3
  refine g_ifB_eq 11 9 dX5_wordKind_6 rfl rfl (fun c6 => ?_) (fun c6 => ?_)
  · refine g_aload_n 12 0 dX5_wordKind_11 rfl rfl ?_
    refine g_ldcS 14 (i := 1) (by decide) rfl dX5_wordKind_12 rfl ?_
    refine g_callVi 17 md_X5_spells [.ref (g 20 1)] [] dX5_wordKind_14 rfl e_X5_wordKind_56 rfl (by decide) rfl rfl (Nat.le_of_ble_eq_true rfl) (c_X5_spells hT hB hat hpl hqe hen 1 (by decide)) (fun r14 M14 h14 => ?_)
    obtain ⟨rfl, h14⟩ := h14
    have h14 := h14.symm
    subst h14
    refine g_ifB_eq 22 20 dX5_wordKind_17 rfl rfl (fun c17 => ?_) (fun c17 => ?_)
    · refine g_aload_n 23 0 dX5_wordKind_22 rfl rfl ?_
      refine g_ldcS 25 (i := 2) (by decide) rfl dX5_wordKind_23 rfl ?_
      refine g_callVi 28 md_X5_spells [.ref (g 20 2)] [] dX5_wordKind_25 rfl e_X5_wordKind_56 rfl (by decide) rfl rfl (Nat.le_of_ble_eq_true rfl) (c_X5_spells hT hB hat hpl hqe hen 2 (by decide)) (fun r25 M25 h25 => ?_)
      obtain ⟨rfl, h25⟩ := h25
      have h25 := h25.symm
      subst h25
      refine g_ifB_eq 34 31 dX5_wordKind_28 rfl rfl (fun c28 => ?_) (fun c28 => ?_)
      · refine g_aload_n 35 0 dX5_wordKind_34 rfl rfl ?_
        refine g_ldcS 37 (i := 3) (by decide) rfl dX5_wordKind_35 rfl ?_
        refine g_callVi 40 md_X5_spells [.ref (g 20 3)] [] dX5_wordKind_37 rfl e_X5_wordKind_56 rfl (by decide) rfl rfl (Nat.le_of_ble_eq_true rfl) (c_X5_spells hT hB hat hpl hqe hen 3 (by decide)) (fun r37 M37 h37 => ?_)
        obtain ⟨rfl, h37⟩ := h37
        have h37 := h37.symm
        subst h37
        refine g_ifB_eq 48 43 dX5_wordKind_40 rfl rfl (fun c40 => ?_) (fun c40 => ?_)
        · refine g_iconst 49 (nI 1) dX5_wordKind_48 rfl rfl ?_
          exact g_iret rfl dX5_wordKind_49 ⟨by unfold wkd; rw [if_neg (by rw [c6]; decide), if_neg (by rw [c17]; decide), if_neg (by rw [c28]; decide)]; first | rw [if_pos c40] | rw [if_neg (by rw [c40]; decide)], rfl⟩
        · refine g_bipush 45 (nI 7) dX5_wordKind_43 rfl rfl ?_
          refine g_goto 49 dX5_wordKind_45 rfl ?_
          exact g_iret rfl dX5_wordKind_49 ⟨by unfold wkd; rw [if_neg (by rw [c6]; decide), if_neg (by rw [c17]; decide), if_neg (by rw [c28]; decide)]; first | rw [if_pos c40] | rw [if_neg (by rw [c40]; decide)], rfl⟩
      · refine g_bipush 33 (nI 6) dX5_wordKind_31 rfl rfl ?_
        exact g_iret rfl dX5_wordKind_33 ⟨by unfold wkd; rw [if_neg (by rw [c6]; decide), if_neg (by rw [c17]; decide), if_pos c28], rfl⟩
    · refine g_iconst 21 (nI 5) dX5_wordKind_20 rfl rfl ?_
      exact g_iret rfl dX5_wordKind_21 ⟨by unfold wkd; rw [if_neg (by rw [c6]; decide), if_pos c17], rfl⟩
  · refine g_iconst 10 (nI 4) dX5_wordKind_9 rfl rfl ?_
    exact g_iret rfl dX5_wordKind_10 ⟨by unfold wkd; rw [if_pos c6], rfl⟩
