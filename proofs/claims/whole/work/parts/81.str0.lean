theorem dJ0_length_8abf5_0 : decode cJ0_length_8abf5 0 = .ok (.aload_n 0, 1) := by decide +kernel
theorem dJ0_length_8abf5_1 : decode cJ0_length_8abf5 1 = .ok (.getfield 9, 3) := by decide +kernel
theorem dJ0_length_8abf5_4 : decode cJ0_length_8abf5 4 = .ok (.arraylength, 1) := by decide +kernel
theorem dJ0_length_8abf5_5 : decode cJ0_length_8abf5 5 = .ok (.aload_n 0, 1) := by decide +kernel
theorem dJ0_length_8abf5_6 : decode cJ0_length_8abf5 6 = .ok (.invokevirtual 335, 3) := by decide +kernel
theorem dJ0_length_8abf5_9 : decode cJ0_length_8abf5 9 = .ok (.ishr, 1) := by decide +kernel
theorem dJ0_length_8abf5_10 : decode cJ0_length_8abf5 10 = .ok (.ireturn, 1) := by decide +kernel
theorem dJ0_charAt_5068e_0 : decode cJ0_charAt_5068e 0 = .ok (.aload_n 0, 1) := by decide +kernel
theorem dJ0_charAt_5068e_1 : decode cJ0_charAt_5068e 1 = .ok (.invokevirtual 492, 3) := by decide +kernel
theorem dJ0_charAt_5068e_4 : decode cJ0_charAt_5068e 4 = .ok (.ifCond .eq 12, 3) := by decide +kernel
theorem dJ0_charAt_5068e_7 : decode cJ0_charAt_5068e 7 = .ok (.aload_n 0, 1) := by decide +kernel
theorem dJ0_charAt_5068e_8 : decode cJ0_charAt_5068e 8 = .ok (.getfield 9, 3) := by decide +kernel
theorem dJ0_charAt_5068e_11 : decode cJ0_charAt_5068e 11 = .ok (.iload_n 1, 1) := by decide +kernel
theorem dJ0_charAt_5068e_12 : decode cJ0_charAt_5068e 12 = .ok (.invokestatic 495, 3) := by decide +kernel
theorem dJ0_charAt_5068e_15 : decode cJ0_charAt_5068e 15 = .ok (.ireturn, 1) := by decide +kernel
theorem dJ0_charAt_5068e_16 : decode cJ0_charAt_5068e 16 = .ok (.aload_n 0, 1) := by decide +kernel
theorem dJ0_charAt_5068e_17 : decode cJ0_charAt_5068e 17 = .ok (.getfield 9, 3) := by decide +kernel
theorem dJ0_charAt_5068e_20 : decode cJ0_charAt_5068e 20 = .ok (.iload_n 1, 1) := by decide +kernel
theorem dJ0_charAt_5068e_21 : decode cJ0_charAt_5068e 21 = .ok (.invokestatic 498, 3) := by decide +kernel
theorem dJ0_charAt_5068e_24 : decode cJ0_charAt_5068e 24 = .ok (.ireturn, 1) := by decide +kernel
theorem dJ0_coder_7d493_0 : decode cJ0_coder_7d493 0 = .ok (.getstatic 38, 3) := by decide +kernel
theorem dJ0_coder_7d493_3 : decode cJ0_coder_7d493 3 = .ok (.ifCond .eq 10, 3) := by decide +kernel
theorem dJ0_coder_7d493_6 : decode cJ0_coder_7d493 6 = .ok (.aload_n 0, 1) := by decide +kernel
theorem dJ0_coder_7d493_7 : decode cJ0_coder_7d493 7 = .ok (.getfield 15, 3) := by decide +kernel
theorem dJ0_coder_7d493_10 : decode cJ0_coder_7d493 10 = .ok (.goto 4, 3) := by decide +kernel
theorem dJ0_coder_7d493_13 : decode cJ0_coder_7d493 13 = .ok (.iconst 1, 1) := by decide +kernel
theorem dJ0_coder_7d493_14 : decode cJ0_coder_7d493 14 = .ok (.ireturn, 1) := by decide +kernel
theorem dJ0_isLatin1_aae02_0 : decode cJ0_isLatin1_aae02 0 = .ok (.getstatic 38, 3) := by decide +kernel
theorem dJ0_isLatin1_aae02_3 : decode cJ0_isLatin1_aae02 3 = .ok (.ifCond .eq 14, 3) := by decide +kernel
theorem dJ0_isLatin1_aae02_6 : decode cJ0_isLatin1_aae02 6 = .ok (.aload_n 0, 1) := by decide +kernel
theorem dJ0_isLatin1_aae02_7 : decode cJ0_isLatin1_aae02 7 = .ok (.getfield 15, 3) := by decide +kernel
theorem dJ0_isLatin1_aae02_10 : decode cJ0_isLatin1_aae02 10 = .ok (.ifCond .ne 7, 3) := by decide +kernel
theorem dJ0_isLatin1_aae02_13 : decode cJ0_isLatin1_aae02 13 = .ok (.iconst 1, 1) := by decide +kernel
theorem dJ0_isLatin1_aae02_14 : decode cJ0_isLatin1_aae02 14 = .ok (.goto 4, 3) := by decide +kernel
theorem dJ0_isLatin1_aae02_17 : decode cJ0_isLatin1_aae02 17 = .ok (.iconst 0, 1) := by decide +kernel
theorem dJ0_isLatin1_aae02_18 : decode cJ0_isLatin1_aae02 18 = .ok (.ireturn, 1) := by decide +kernel
theorem dJ0_checkIndex_df160_0 : decode cJ0_checkIndex_df160 0 = .ok (.iload_n 0, 1) := by decide +kernel
theorem dJ0_checkIndex_df160_1 : decode cJ0_checkIndex_df160 1 = .ok (.iload_n 1, 1) := by decide +kernel
theorem dJ0_checkIndex_df160_2 : decode cJ0_checkIndex_df160 2 = .ok (.getstatic 1053, 3) := by decide +kernel
theorem dJ0_checkIndex_df160_5 : decode cJ0_checkIndex_df160 5 = .ok (.invokestatic 1059, 3) := by decide +kernel
theorem dJ0_checkIndex_df160_8 : decode cJ0_checkIndex_df160 8 = .ok (.pop, 1) := by decide +kernel
theorem dJ0_checkIndex_df160_9 : decode cJ0_checkIndex_df160 9 = .ok (.return_, 1) := by decide +kernel
theorem dJ1_charAt_3b067_0 : decode cJ1_charAt_3b067 0 = .ok (.iload_n 1, 1) := by decide +kernel
theorem dJ1_charAt_3b067_1 : decode cJ1_charAt_3b067 1 = .ok (.aload_n 0, 1) := by decide +kernel
theorem dJ1_charAt_3b067_2 : decode cJ1_charAt_3b067 2 = .ok (.arraylength, 1) := by decide +kernel
theorem dJ1_charAt_3b067_3 : decode cJ1_charAt_3b067 3 = .ok (.invokestatic 9, 3) := by decide +kernel
theorem dJ1_charAt_3b067_6 : decode cJ1_charAt_3b067 6 = .ok (.aload_n 0, 1) := by decide +kernel
theorem dJ1_charAt_3b067_7 : decode cJ1_charAt_3b067 7 = .ok (.iload_n 1, 1) := by decide +kernel
theorem dJ1_charAt_3b067_8 : decode cJ1_charAt_3b067 8 = .ok (.baload, 1) := by decide +kernel
theorem dJ1_charAt_3b067_9 : decode cJ1_charAt_3b067 9 = .ok (.sipush 255, 3) := by decide +kernel
theorem dJ1_charAt_3b067_12 : decode cJ1_charAt_3b067 12 = .ok (.iand, 1) := by decide +kernel
theorem dJ1_charAt_3b067_13 : decode cJ1_charAt_3b067 13 = .ok (.i2c, 1) := by decide +kernel
theorem dJ1_charAt_3b067_14 : decode cJ1_charAt_3b067 14 = .ok (.ireturn, 1) := by decide +kernel
theorem dJ3_checkIndex_8e157_0 : decode cJ3_checkIndex_8e157 0 = .ok (.iload_n 0, 1) := by decide +kernel
theorem dJ3_checkIndex_8e157_1 : decode cJ3_checkIndex_8e157 1 = .ok (.ifCond .lt 8, 3) := by decide +kernel
theorem dJ3_checkIndex_8e157_4 : decode cJ3_checkIndex_8e157 4 = .ok (.iload_n 0, 1) := by decide +kernel
theorem dJ3_checkIndex_8e157_5 : decode cJ3_checkIndex_8e157 5 = .ok (.iload_n 1, 1) := by decide +kernel
theorem dJ3_checkIndex_8e157_6 : decode cJ3_checkIndex_8e157 6 = .ok (.if_icmp .lt 10, 3) := by decide +kernel
theorem dJ3_checkIndex_8e157_9 : decode cJ3_checkIndex_8e157 9 = .ok (.aload_n 2, 1) := by decide +kernel
theorem dJ3_checkIndex_8e157_10 : decode cJ3_checkIndex_8e157 10 = .ok (.iload_n 0, 1) := by decide +kernel
theorem dJ3_checkIndex_8e157_11 : decode cJ3_checkIndex_8e157 11 = .ok (.iload_n 1, 1) := by decide +kernel
theorem dJ3_checkIndex_8e157_12 : decode cJ3_checkIndex_8e157 12 = .ok (.invokestatic 95, 3) := by decide +kernel
theorem dJ3_checkIndex_8e157_15 : decode cJ3_checkIndex_8e157 15 = .ok (.athrow, 1) := by decide +kernel
theorem dJ3_checkIndex_8e157_16 : decode cJ3_checkIndex_8e157 16 = .ok (.iload_n 0, 1) := by decide +kernel
theorem dJ3_checkIndex_8e157_17 : decode cJ3_checkIndex_8e157 17 = .ok (.ireturn, 1) := by decide +kernel
abbrev md_J0_length_8abf5 : Md := (RJ0, yJ0_length_8abf5, cJ0_length_8abf5, 1, some .int, 1, 20)
abbrev md_J0_charAt_5068e : Md := (RJ0, yJ0_charAt_5068e, cJ0_charAt_5068e, 2, some .char, 3, 64)
abbrev md_J0_coder_7d493 : Md := (RJ0, yJ0_coder_7d493, cJ0_coder_7d493, 1, some .byte, 0, 0)
abbrev md_J0_isLatin1_aae02 : Md := (RJ0, yJ0_isLatin1_aae02, cJ0_isLatin1_aae02, 1, some .boolean, 0, 0)
abbrev md_J0_checkIndex_df160 : Md := (RJ0, yJ0_checkIndex_df160, cJ0_checkIndex_df160, 2, none, 1, 22)
abbrev md_J1_charAt_3b067 : Md := (RJ1, yJ1_charAt_3b067, cJ1_charAt_3b067, 2, some .char, 2, 43)
abbrev md_J3_checkIndex_8e157 : Md := (RJ3, yJ3_checkIndex_8e157, cJ3_checkIndex_8e157, 3, some .int, 0, 0)
section SG
variable {l : Launch} {D : va_G} {g : Nat → Nat → Nat} {ca : Nat → ClassId} {md : Md} {pc : Nat} {lv : List (Nat × Value)} {st : List Value} {M : Mm} {Q : Option Value → Mm → Prop}
theorem g_gets1 (pc' : Nat) {idx : Nat} (hd : decode md.2.2.1 pc = .ok (.getstatic idx, 3)) (hp : pc + 3 = pc') (hlk : Cond.fieldLink md.1 idx "java/lang/String" "COMPACT_STRINGS" "Z" ∈ wsA) (h : G l D g ca md pc' lv (.int 1 :: st) M Q) : G l D g ca md pc lv st M Q := by
  subst hp
  intro p e R s m args below meth c H locs cells slots A ls C0 hc1 hs1 hw hl
  exact va_gets C0.1 C0.2.1 hw.2.2.2.2.2.2.1 hw.2.2.1 C0.2.2.2.2.1 (C0.2.2.2.2.2.1 _ hlk) (fun _ z => z) hd (h p e R s m args below meth c H locs cells slots A ls C0 hc1 hs1 hw hl)
theorem g_getsF (pc' : Nat) {idx : Nat} (hd : decode md.2.2.1 pc = .ok (.getstatic idx, 3)) (hp : pc + 3 = pc') (hlk : Cond.fieldLink md.1 idx "jdk/internal/util/Preconditions" "SIOOBE_FORMATTER" "Ljava/util/function/BiFunction;" ∈ wsA) (h : G l D g ca md pc' lv (sio g :: st) M Q) : G l D g ca md pc lv st M Q := by
  subst hp
  intro p e R s m args below meth c H locs cells slots A ls C0 hc1 hs1 hw hl
  exact va_gets C0.1 C0.2.1 hw.2.2.2.2.2.2.2.1 hw.2.2.1 C0.2.2.2.2.1 (C0.2.2.2.2.2.1 _ hlk) (fun _ z => z) hd (h p e R s m args below meth c H locs cells slots A ls C0 hc1 hs1 hw hl)
theorem g_strV (pc' : Nat) {idx i : Nat} (hi : i < 4) (hd : decode md.2.2.1 pc = .ok (.getfield idx, 3)) (hp : pc + 3 = pc') (hlk : Cond.fieldLink md.1 idx "java/lang/String" "value" "[B" ∈ wsA) (h : G l D g ca md pc' lv (.ref (g 21 i) :: st) M Q) : G l D g ca md pc lv (.ref (g 20 i) :: st) M Q := by
  subst hp
  intro p e R s m args below meth c H locs cells slots A ls C0 hc1 hs1 hw hl
  exact vk_getf C0.1 C0.2.1 (hw.2.2.2.2.1.1 i hi).2.2.1 hw.2.2.1 C0.2.2.2.2.1 (C0.2.2.2.2.2.1 _ hlk) (fun _ z => z) hd (h p e R s m args below meth c H locs cells slots A ls C0 hc1 hs1 hw hl)
theorem g_strC (pc' : Nat) {idx i : Nat} (hi : i < 4) (hd : decode md.2.2.1 pc = .ok (.getfield idx, 3)) (hp : pc + 3 = pc') (hlk : Cond.fieldLink md.1 idx "java/lang/String" "coder" "B" ∈ wsA) (h : G l D g ca md pc' lv (.int 0 :: st) M Q) : G l D g ca md pc lv (.ref (g 20 i) :: st) M Q := by
  subst hp
  intro p e R s m args below meth c H locs cells slots A ls C0 hc1 hs1 hw hl
  exact vk_getf C0.1 C0.2.1 (hw.2.2.2.2.1.1 i hi).2.1 hw.2.2.1 C0.2.2.2.2.1 (C0.2.2.2.2.2.1 _ hlk) (fun _ z => z) hd (h p e R s m args below meth c H locs cells slots A ls C0 hc1 hs1 hw hl)
theorem g_strL (pc' : Nat) {i : Nat} (hi : i < 4) (hd : decode md.2.2.1 pc = .ok (.arraylength, 1)) (hp : pc + 1 = pc') (h : G l D g ca md pc' lv (.int (nI (sLen.getD i 0)) :: st) M Q) : G l D g ca md pc lv (.ref (g 21 i) :: st) M Q := by
  subst hp
  intro p e R s m args below meth c H locs cells slots A ls C0 hc1 hs1 hw hl
  exact va_tlen C0.1 C0.2.1 (hw.2.2.2.2.1.1 i hi).2.2.2 hw.2.2.1 rfl hd (h p e R s m args below meth c H locs cells slots A ls C0 hc1 hs1 hw hl)
theorem g_strB (pc' : Nat) {i k : Nat} (hi : i < 4) (hk : k < sLen.getD i 0) (hb : k < 2147483648) (hd : decode md.2.2.1 pc = .ok (.baload, 1)) (hp : pc + 1 = pc') (h : G l D g ca md pc' lv (.int ((sByt.getD i []).getD k 0) :: st) M Q) : G l D g ca md pc lv (.int (nI k) :: .ref (g 21 i) :: st) M Q := by
  subst hp
  intro p e R s m args below meth c H locs cells slots A ls C0 hc1 hs1 hw hl
  exact va_tb C0.1 C0.2.1 (hw.2.2.2.2.1.1 i hi).2.2.2 hw.2.2.1 (vp_in_nI hk (by have : sLen.getD i 0 ≤ 8 := (by rcases (show i = 0 ∨ i = 1 ∨ i = 2 ∨ i = 3 by omega) with rfl | rfl | rfl | rfl <;> decide); omega)) (by rw [nI_clamp (by omega)]) hd (h p e R s m args below meth c H locs cells slots A ls C0 hc1 hs1 hw hl)
theorem g_i2c (pc' : Nat) {x : Int32} (v : Int32) (hd : decode md.2.2.1 pc = .ok (.i2c, 1)) (hp : pc + 1 = pc') (hv : (x.toUInt32 % 65536).toInt32 = v) (h : G l D g ca md pc' lv (.int v :: st) M Q) : G l D g ca md pc lv (.int x :: st) M Q := by
  subst hp
  intro p e R s m args below meth c H locs cells slots A ls C0 hc1 hs1 hw hl
  exact lv_i2c C0.1 C0.2.1 hd hv (h p e R s m args below meth c H locs cells slots A ls C0 hc1 hs1 hw hl)
theorem g_ldcS (pc' : Nat) {i : Nat} (hi : i < 4) (ho : md.1 = RX5) (hd : decode md.2.2.1 pc = .ok (.ldc (sIdx i), 2)) (hp : pc + 2 = pc') (h : G l D g ca md pc' lv (.ref (g 20 i) :: st) M Q) : G l D g ca md pc lv st M Q := by
  subst hp
  intro p e R s m args below meth c H locs cells slots A ls C0 hc1 hs1 hw hl
  exact va_ldcS C0.1 C0.2.1 C0.2.2.2.2.1 (by rw [ho]; exact hw.2.2.2.2.2.1 i hi) hd (h p e R s m args below meth c H locs cells slots A ls C0 hc1 hs1 hw hl)
end SG
