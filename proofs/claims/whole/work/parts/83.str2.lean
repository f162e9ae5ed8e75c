/-! the JDK's members that spells reaches, over the four words -/
theorem sLen_le {i : Nat} (hi : i < 4) : sLen.getD i 0 ≤ 8 := by
  rcases (show i = 0 ∨ i = 1 ∨ i = 2 ∨ i = 3 by omega) with rfl | rfl | rfl | rfl <;> decide
section STC
variable {l : Launch} {D : va_G} {g : Nat → Nat → Nat} {ca : Nat → ClassId} {M : Mm}
theorem c_J3_checkIndex (v : Value) (hv : v = .null ∨ v = .ref (g 22 0)) (k n : Nat) (hk : k < n) (hn : n < 65536) : Ct l D g ca md_J3_checkIndex_8e157 [.int (nI k), .int (nI n), v] M (Ri (fun r M1 => M1 = M)) := by
  rcases hv with rfl | rfl
  · refine Ct.of (by decide) rfl (Nat.le_of_ble_eq_true rfl) ?_
    show G l D g ca md_J3_checkIndex_8e157 0 [(0, .int (nI k)), (1, .int (nI n)), (2, .null)] [] M _
    refine g_iload_n 1 0 dJ3_checkIndex_8e157_0 rfl rfl ?_
    refine g_if_lt 9 4 dJ3_checkIndex_8e157_1 rfl rfl (fun c => ?_) (fun c => ?_)
    · exact absurd c (nI_pos (by omega))
    · refine g_iload_n 5 0 dJ3_checkIndex_8e157_4 rfl rfl ?_
      refine g_iload_n 6 1 dJ3_checkIndex_8e157_5 rfl rfl ?_
      refine g_icmpN_lt 16 9 dJ3_checkIndex_8e157_6 rfl rfl (by omega) (by omega) (fun c => ?_) (fun c => ?_)
      · refine g_iload_n 17 0 dJ3_checkIndex_8e157_16 rfl rfl ?_
        exact g_iret rfl dJ3_checkIndex_8e157_17 rfl
      · exact absurd c (by omega)
  · refine Ct.of (by decide) rfl (Nat.le_of_ble_eq_true rfl) ?_
    show G l D g ca md_J3_checkIndex_8e157 0 [(0, .int (nI k)), (1, .int (nI n)), (2, .ref (g 22 0))] [] M _
    refine g_iload_n 1 0 dJ3_checkIndex_8e157_0 rfl rfl ?_
    refine g_if_lt 9 4 dJ3_checkIndex_8e157_1 rfl rfl (fun c => ?_) (fun c => ?_)
    · exact absurd c (nI_pos (by omega))
    · refine g_iload_n 5 0 dJ3_checkIndex_8e157_4 rfl rfl ?_
      refine g_iload_n 6 1 dJ3_checkIndex_8e157_5 rfl rfl ?_
      refine g_icmpN_lt 16 9 dJ3_checkIndex_8e157_6 rfl rfl (by omega) (by omega) (fun c => ?_) (fun c => ?_)
      · refine g_iload_n 17 0 dJ3_checkIndex_8e157_16 rfl rfl ?_
        exact g_iret rfl dJ3_checkIndex_8e157_17 rfl
      · exact absurd c (by omega)
theorem c_J0_checkIndex (k n : Nat) (hk : k < n) (hn : n < 65536) : Ct l D g ca md_J0_checkIndex_df160 [.int (nI k), .int (nI n)] M (Rv (fun M1 => M1 = M)) := by
  refine Ct.of (by decide) rfl (Nat.le_of_ble_eq_true rfl) ?_
  show G l D g ca md_J0_checkIndex_df160 0 [(0, .int (nI k)), (1, .int (nI n))] [] M _
  refine g_iload_n 1 0 dJ0_checkIndex_df160_0 rfl rfl ?_
  refine g_iload_n 2 1 dJ0_checkIndex_df160_1 rfl rfl ?_
  refine g_getsF 5 dJ0_checkIndex_df160_2 rfl fJ0_1053 ?_
  refine g_callSi 8 md_J3_checkIndex_8e157 [.int (nI k), .int (nI n), sio g] [] dJ0_checkIndex_df160_5 rfl e_J0_checkIndex_1059 rfl rfl (Nat.le_of_ble_eq_true rfl) (c_J3_checkIndex (sio g) (sio_or g) k n hk hn) (fun r M1 h => ?_)
  have h := h.symm
  subst h
  refine g_pop 9 dJ0_checkIndex_df160_8 rfl rfl ?_
  exact g_vret rfl dJ0_checkIndex_df160_9 rfl
theorem c_J0_coder (i : Nat) (hi : i < 4) : Ct l D g ca md_J0_coder_7d493 [.ref (g 20 i)] M (Ri (fun r M1 => r = nI 0 ∧ M1 = M)) := by
  refine Ct.of (by decide) rfl (Nat.le_of_ble_eq_true rfl) ?_
  show G l D g ca md_J0_coder_7d493 0 [(0, .ref (g 20 i))] [] M _
  refine g_gets1 3 dJ0_coder_7d493_0 rfl fJ0_38 ?_
  refine g_if_eq 13 6 dJ0_coder_7d493_3 rfl rfl (fun c => ?_) (fun c => ?_)
  · exact absurd c (by decide)
  · refine g_aload_n 7 0 dJ0_coder_7d493_6 rfl rfl ?_
    refine g_strC 10 hi dJ0_coder_7d493_7 rfl fJ0_15 ?_
    refine g_goto 14 dJ0_coder_7d493_10 rfl ?_
    exact g_bret rfl dJ0_coder_7d493_14 rfl ⟨rfl, rfl⟩
theorem c_J0_isLatin1 (i : Nat) (hi : i < 4) : Ct l D g ca md_J0_isLatin1_aae02 [.ref (g 20 i)] M (Ri (fun r M1 => r = nI 1 ∧ M1 = M)) := by
  refine Ct.of (by decide) rfl (Nat.le_of_ble_eq_true rfl) ?_
  show G l D g ca md_J0_isLatin1_aae02 0 [(0, .ref (g 20 i))] [] M _
  refine g_gets1 3 dJ0_isLatin1_aae02_0 rfl fJ0_38 ?_
  refine g_if_eq 17 6 dJ0_isLatin1_aae02_3 rfl rfl (fun c => ?_) (fun c => ?_)
  · exact absurd c (by decide)
  · refine g_aload_n 7 0 dJ0_isLatin1_aae02_6 rfl rfl ?_
    refine g_strC 10 hi dJ0_isLatin1_aae02_7 rfl fJ0_15 ?_
    refine g_if_ne 17 13 dJ0_isLatin1_aae02_10 rfl rfl (fun c => ?_) (fun c => ?_)
    · exact absurd rfl c
    · refine g_iconst 14 (nI 1) dJ0_isLatin1_aae02_13 rfl rfl ?_
      refine g_goto 18 dJ0_isLatin1_aae02_14 rfl ?_
      exact g_zret rfl dJ0_isLatin1_aae02_18 rfl ⟨rfl, rfl⟩
theorem c_J0_length (i : Nat) (hi : i < 4) : Ct l D g ca md_J0_length_8abf5 [.ref (g 20 i)] M (Ri (fun r M1 => r = nI (sLen.getD i 0) ∧ M1 = M)) := by
  refine Ct.of (by decide) rfl (Nat.le_of_ble_eq_true rfl) ?_
  show G l D g ca md_J0_length_8abf5 0 [(0, .ref (g 20 i))] [] M _
  refine g_aload_n 1 0 dJ0_length_8abf5_0 rfl rfl ?_
  refine g_strV 4 hi dJ0_length_8abf5_1 rfl fJ0_9 ?_
  refine g_strL 5 hi dJ0_length_8abf5_4 rfl ?_
  refine g_aload_n 6 0 dJ0_length_8abf5_5 rfl rfl ?_
  refine g_callVS 9 md_J0_coder_7d493 [] [.int (nI (sLen.getD i 0))] hi dJ0_length_8abf5_6 rfl e_J0_length_335 rfl rfl (Nat.le_of_ble_eq_true rfl) (c_J0_coder i hi) (fun r M1 h => ?_)
  obtain ⟨rfl, h⟩ := h
  have h := h.symm
  subst h
  refine g_ishr 10 (nI (sLen.getD i 0)) dJ0_length_8abf5_9 rfl (by rcases (show i = 0 ∨ i = 1 ∨ i = 2 ∨ i = 3 by omega) with rfl | rfl | rfl | rfl <;> decide) ?_
  exact g_iret rfl dJ0_length_8abf5_10 ⟨rfl, rfl⟩
theorem sByt_ch : ∀ i : Fin 4, ∀ k : Fin 8, k.val < sLen.getD i.val 0 → ((((sByt.getD i.val []).getD k.val 0) &&& nI 255).toUInt32 % 65536).toInt32 = (sByt.getD i.val []).getD k.val 0 ∧ narrow .char (.int ((sByt.getD i.val []).getD k.val 0)) = .int ((sByt.getD i.val []).getD k.val 0) := by decide +kernel
theorem c_J1_charAt (i k : Nat) (hi : i < 4) (hk : k < sLen.getD i 0) : Ct l D g ca md_J1_charAt_3b067 [.ref (g 21 i), .int (nI k)] M (Ri (fun r M1 => r = (sByt.getD i []).getD k 0 ∧ M1 = M)) := by
  have hl := sLen_le hi
  have hch := sByt_ch ⟨i, hi⟩ ⟨k, by omega⟩ hk
  refine Ct.of (by decide) rfl (Nat.le_of_ble_eq_true rfl) ?_
  show G l D g ca md_J1_charAt_3b067 0 [(0, .ref (g 21 i)), (1, .int (nI k))] [] M _
  refine g_iload_n 1 1 dJ1_charAt_3b067_0 rfl rfl ?_
  refine g_aload_n 2 0 dJ1_charAt_3b067_1 rfl rfl ?_
  refine g_strL 3 hi dJ1_charAt_3b067_2 rfl ?_
  refine g_callSv 6 md_J0_checkIndex_df160 [.int (nI k), .int (nI (sLen.getD i 0))] [] dJ1_charAt_3b067_3 rfl e_J1_charAt_9 rfl rfl (Nat.le_of_ble_eq_true rfl) (c_J0_checkIndex k _ hk (by omega)) (fun M1 h => ?_)
  have h := h.symm
  subst h
  refine g_aload_n 7 0 dJ1_charAt_3b067_6 rfl rfl ?_
  refine g_iload_n 8 1 dJ1_charAt_3b067_7 rfl rfl ?_
  refine g_strB 9 hi hk (by omega) dJ1_charAt_3b067_8 rfl ?_
  refine g_sipush 12 (nI 255) dJ1_charAt_3b067_9 rfl rfl ?_
  refine g_iand 13 _ dJ1_charAt_3b067_12 rfl rfl ?_
  refine g_i2c 14 ((sByt.getD i []).getD k 0) dJ1_charAt_3b067_13 rfl hch.1 ?_
  exact g_cret rfl dJ1_charAt_3b067_14 hch.2 ⟨rfl, rfl⟩
theorem c_J0_charAt (i k : Nat) (hi : i < 4) (hk : k < sLen.getD i 0) : Ct l D g ca md_J0_charAt_5068e [.ref (g 20 i), .int (nI k)] M (Ri (fun r M1 => r = (sByt.getD i []).getD k 0 ∧ M1 = M)) := by
  have hl := sLen_le hi
  have hch := sByt_ch ⟨i, hi⟩ ⟨k, by omega⟩ hk
  refine Ct.of (by decide) rfl (Nat.le_of_ble_eq_true rfl) ?_
  show G l D g ca md_J0_charAt_5068e 0 [(0, .ref (g 20 i)), (1, .int (nI k))] [] M _
  refine g_aload_n 1 0 dJ0_charAt_5068e_0 rfl rfl ?_
  refine g_callVS 4 md_J0_isLatin1_aae02 [] [] hi dJ0_charAt_5068e_1 rfl e_J0_charAt_492 rfl rfl (Nat.le_of_ble_eq_true rfl) (c_J0_isLatin1 i hi) (fun r M1 h => ?_)
  obtain ⟨rfl, h⟩ := h
  have h := h.symm
  subst h
  refine g_if_eq 16 7 dJ0_charAt_5068e_4 rfl rfl (fun c => ?_) (fun c => ?_)
  · exact absurd c (by decide)
  · refine g_aload_n 8 0 dJ0_charAt_5068e_7 rfl rfl ?_
    refine g_strV 11 hi dJ0_charAt_5068e_8 rfl fJ0_9 ?_
    refine g_iload_n 12 1 dJ0_charAt_5068e_11 rfl rfl ?_
    refine g_callSi 15 md_J1_charAt_3b067 [.ref (g 21 i), .int (nI k)] [] dJ0_charAt_5068e_12 rfl e_J0_charAt_495 rfl rfl (Nat.le_of_ble_eq_true rfl) (c_J1_charAt i k hi hk) (fun r M1 h => ?_)
    obtain ⟨rfl, h⟩ := h
    have h := h.symm
    subst h
    exact g_cret rfl dJ0_charAt_5068e_15 hch.2 ⟨rfl, rfl⟩
end STC
