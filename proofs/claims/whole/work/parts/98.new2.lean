theorem df_0 : ∀ j, j < 3 → defaultValue (tyX0 j) = vp_V [.null, .int 0, .int 0] j := by
  intro j hj
  match j, hj with
  | 0, _ => rfl
  | 1, _ => rfl
  | 2, _ => rfl
  | k + 3, h => exact absurd h (by omega)
theorem df_1 : ∀ j, j < 7 → defaultValue (tyX1 j) = vp_V [.null, .int 0, .int 0, .null, .null, .null, .null] j := by
  intro j hj
  match j, hj with
  | 0, _ => rfl
  | 1, _ => rfl
  | 2, _ => rfl
  | 3, _ => rfl
  | 4, _ => rfl
  | 5, _ => rfl
  | 6, _ => rfl
  | k + 7, h => exact absurd h (by omega)
theorem df_2 : ∀ j, j < 20 → defaultValue (tyX2 j) = vp_V [.int 0, .int 0, .int 0, .int 0, .int 0, .int 0, .int 0, .null, .null, .null, .null, .null, .null, .null, .null, .null, .null, .null, .null, .null] j := by
  intro j hj
  match j, hj with
  | 0, _ => rfl
  | 1, _ => rfl
  | 2, _ => rfl
  | 3, _ => rfl
  | 4, _ => rfl
  | 5, _ => rfl
  | 6, _ => rfl
  | 7, _ => rfl
  | 8, _ => rfl
  | 9, _ => rfl
  | 10, _ => rfl
  | 11, _ => rfl
  | 12, _ => rfl
  | 13, _ => rfl
  | 14, _ => rfl
  | 15, _ => rfl
  | 16, _ => rfl
  | 17, _ => rfl
  | 18, _ => rfl
  | 19, _ => rfl
  | k + 20, h => exact absurd h (by omega)
theorem df_3 : ∀ j, j < 2 → defaultValue (tyX3 j) = vp_V [.null, .int 0] j := by
  intro j hj
  match j, hj with
  | 0, _ => rfl
  | 1, _ => rfl
  | k + 2, h => exact absurd h (by omega)
theorem df_4 : ∀ j, j < 9 → defaultValue (tyX4 j) = vp_V [.null, .null, .int 0, .int 0, .int 0, .null, .int 0, .int 0, .int 0] j := by
  intro j hj
  match j, hj with
  | 0, _ => rfl
  | 1, _ => rfl
  | 2, _ => rfl
  | 3, _ => rfl
  | 4, _ => rfl
  | 5, _ => rfl
  | 6, _ => rfl
  | 7, _ => rfl
  | 8, _ => rfl
  | k + 9, h => exact absurd h (by omega)
theorem df_5 : ∀ j, j < 5 → defaultValue (tyX5 j) = vp_V [.null, .int 0, .int 0, .int 0, .int 0] j := by
  intro j hj
  match j, hj with
  | 0, _ => rfl
  | 1, _ => rfl
  | 2, _ => rfl
  | 3, _ => rfl
  | 4, _ => rfl
  | k + 5, h => exact absurd h (by omega)
theorem df_6 : ∀ j, j < 6 → defaultValue (tyX6 j) = vp_V [.null, .null, .null, .null, .null, .null] j := by
  intro j hj
  match j, hj with
  | 0, _ => rfl
  | 1, _ => rfl
  | 2, _ => rfl
  | 3, _ => rfl
  | 4, _ => rfl
  | 5, _ => rfl
  | k + 6, h => exact absurd h (by omega)
theorem df_7 : ∀ j, j < 28 → defaultValue (tyX7 j) = vp_V [.int 0, .null, .int 0, .int 0, .int 0, .int 0, .int 0, .int 0, .int 0, .int 0, .long 0, .null, .null, .null, .int 0, .int 0, .null, .null, .null, .null, .null, .null, .null, .null, .int 0, .int 0, .int 0, .int 0] j := by
  intro j hj
  match j, hj with
  | 0, _ => rfl
  | 1, _ => rfl
  | 2, _ => rfl
  | 3, _ => rfl
  | 4, _ => rfl
  | 5, _ => rfl
  | 6, _ => rfl
  | 7, _ => rfl
  | 8, _ => rfl
  | 9, _ => rfl
  | 10, _ => rfl
  | 11, _ => rfl
  | 12, _ => rfl
  | 13, _ => rfl
  | 14, _ => rfl
  | 15, _ => rfl
  | 16, _ => rfl
  | 17, _ => rfl
  | 18, _ => rfl
  | 19, _ => rfl
  | 20, _ => rfl
  | 21, _ => rfl
  | 22, _ => rfl
  | 23, _ => rfl
  | 24, _ => rfl
  | 25, _ => rfl
  | 26, _ => rfl
  | 27, _ => rfl
  | k + 28, h => exact absurd h (by omega)
theorem ei_X4_X5_17 : EI md_X4_init md_X5_init 17 1 := ⟨(wa_1 (List.mem_of_getElem? (i := 150) (by decide +kernel)) (by decide +kernel)), (wa_1 (List.mem_of_getElem? (i := 151) (by decide +kernel)) (by decide +kernel)), (wa_1 (List.mem_of_getElem? (i := 5) (by decide +kernel)) (by decide +kernel)), (wa_1 (List.mem_of_getElem? (i := 152) rfl) (by decide +kernel)), rfl, (by decide +kernel), rfl, ⟨by decide, by decide⟩⟩
theorem en_X0_X2 : EIN md_X0_init md_X2_init 0 := ⟨(wa_1 (List.mem_of_getElem? (i := 47) (by decide +kernel)) (by decide +kernel)), (wa_1 (List.mem_of_getElem? (i := 3) (by decide +kernel)) (by decide +kernel)), (wa_1 (List.mem_of_getElem? (i := 48) rfl) (by decide +kernel)), rfl, (by decide +kernel), rfl, ⟨by decide, by decide⟩⟩
theorem en_X6_X2 : EIN md_X6_init md_X2_init 0 := ⟨(wa_1 (List.mem_of_getElem? (i := 47) (by decide +kernel)) (by decide +kernel)), (wa_1 (List.mem_of_getElem? (i := 3) (by decide +kernel)) (by decide +kernel)), (wa_1 (List.mem_of_getElem? (i := 48) rfl) (by decide +kernel)), rfl, (by decide +kernel), rfl, ⟨by decide, by decide⟩⟩
theorem en_X6_X3 : EIN md_X6_init md_X3_init 0 := ⟨(wa_1 (List.mem_of_getElem? (i := 30) (by decide +kernel)) (by decide +kernel)), (wa_1 (List.mem_of_getElem? (i := 2) (by decide +kernel)) (by decide +kernel)), (wa_1 (List.mem_of_getElem? (i := 31) rfl) (by decide +kernel)), rfl, (by decide +kernel), rfl, ⟨by decide, by decide⟩⟩
theorem ei_X6_X4_28 : EI md_X6_init md_X4_init 28 2 := ⟨(wa_1 (List.mem_of_getElem? (i := 144) (by decide +kernel)) (by decide +kernel)), (wa_1 (List.mem_of_getElem? (i := 145) (by decide +kernel)) (by decide +kernel)), (wa_1 (List.mem_of_getElem? (i := 4) (by decide +kernel)) (by decide +kernel)), (wa_1 (List.mem_of_getElem? (i := 146) rfl) (by decide +kernel)), rfl, (by decide +kernel), rfl, ⟨by decide, by decide⟩⟩
theorem ei_X6_X1_37 : EI md_X6_init md_X1_init 37 1 := ⟨(wa_1 (List.mem_of_getElem? (i := 206) (by decide +kernel)) (by decide +kernel)), (wa_1 (List.mem_of_getElem? (i := 207) (by decide +kernel)) (by decide +kernel)), (wa_1 (List.mem_of_getElem? (i := 6) (by decide +kernel)) (by decide +kernel)), (wa_1 (List.mem_of_getElem? (i := 208) rfl) (by decide +kernel)), rfl, (by decide +kernel), rfl, ⟨by decide, by decide⟩⟩
theorem ei_X6_X0_46 : EI md_X6_init md_X0_init 46 0 := ⟨(wa_1 (List.mem_of_getElem? (i := 234) (by decide +kernel)) (by decide +kernel)), (wa_1 (List.mem_of_getElem? (i := 235) (by decide +kernel)) (by decide +kernel)), (wa_1 (List.mem_of_getElem? (i := 7) (by decide +kernel)) (by decide +kernel)), (wa_1 (List.mem_of_getElem? (i := 236) rfl) (by decide +kernel)), rfl, (by decide +kernel), rfl, ⟨by decide, by decide⟩⟩
set_option maxRecDepth 100000 in
theorem c_X4_init {l : Launch} {D : va_G} {ca : Nat → ClassId} (h0 a1 a2 : Nat) : CtN l D ca md_X4_init [.ref h0, .ref a1, .ref a2] [(h0, .inr (4, [.null, .null, .int 0, .int 0, .int 0, .null, .int 0, .int 0, .int 0]))] 2 9 (fun w1 => ∃ qn q, w1 = [(h0, .inr (4, [.ref q, .ref a2, .int 0, .int 0, .int 0, .ref qn, .int 0, .int 0, .int 0])), (qn, .inl (ca 0, 4, .inl (fun _ => 0))), (q, .inr (5, [.ref a1, .int 0, .int 0, .int 0, .int 0]))]) := by
  refine CtN.of (by decide) rfl (Nat.le_of_ble_eq_true rfl) ?_
  show GN l D ca md_X4_init 2 9 0 [(0, .ref h0), (1, .ref a1), (2, .ref a2)] [] [(h0, .inr (4, [.null, .null, .int 0, .int 0, .int 0, .null, .int 0, .int 0, .int 0]))] 0 0 _
  refine n_aload_n 1 0 dX4_init_0 rfl rfl ?_
  refine n_objInit 4 dX4_init_1 rfl oi_X4 (by decide) (by decide) ?_
  refine n_aload_n 5 0 dX4_init_4 rfl rfl ?_
  refine n_iconst 6 (nI 4) dX4_init_5 rfl rfl ?_
  refine n_newa 8 4 0 (by decide) rfl dX4_init_6 rfl ar_0 (by decide) (by decide) (by decide) (fun qn => ?_)
  refine n_put 11 0 (.array .int) true dX4_init_8 rfl fX4_11 rfl (fun C T N h => by cases h; exact ⟨rfl, by decide +kernel, fun _ => rfl⟩) (fun _ => rfl) rfl rfl (Nat.le_of_ble_eq_true rfl) ?_
  show GN l D ca md_X4_init 2 9 11 [(0, .ref h0), (1, .ref a1), (2, .ref a2)] [] [(h0, .inr (4, [.null, .null, .int 0, .int 0, .int 0, .ref qn, .int 0, .int 0, .int 0])), (qn, .inl (ca 0, 4, .inl (fun _ => 0)))] 1 4 _
  refine n_aload_n 12 0 dX4_init_11 rfl rfl ?_
  refine n_new 15 5 [.null, .int 0, .int 0, .int 0, .int 0] tyX5 rfl ulX5 tyX5_ok (wa_1 (List.mem_of_getElem? (i := 148) (by decide +kernel)) (by decide +kernel)) (wa_1 (List.mem_of_getElem? (i := 149) (by decide +kernel)) (by decide +kernel)) (wa_1 (List.mem_of_getElem? (i := 5) (by decide +kernel)) (by decide +kernel)) df_5 dX4_init_12 rfl (by omega) (by omega) (fun q => ?_)
  refine n_dup 16 dX4_init_15 rfl rfl ?_
  refine n_aload_n 17 1 dX4_init_16 rfl rfl ?_
  refine n_callI 20 md_X5_init [.ref a1] [.ref q, .ref h0] dX4_init_17 rfl ei_X4_X5_17 rfl rfl (Nat.le_of_ble_eq_true rfl) (wr := [(h0, .inr (4, [.null, .null, .int 0, .int 0, .int 0, .ref qn, .int 0, .int 0, .int 0])), (qn, .inl (ca 0, 4, .inl (fun _ => 0)))]) rfl (by decide) (by decide) (c_X5_init q a1) (fun w1 hw1 => ?_)
  subst hw1
  refine n_put 23 0 (.object "FreshAllotter$Tokens") true dX4_init_20 rfl fX4_20 rfl (fun C T N h => by cases h; exact ⟨rfl, by decide +kernel, fun _ => rfl⟩) (fun _ => rfl) rfl rfl (Nat.le_of_ble_eq_true rfl) ?_
  refine n_aload_n 24 0 dX4_init_23 rfl rfl ?_
  refine n_aload_n 25 2 dX4_init_24 rfl rfl ?_
  refine n_put 28 0 (.object "FreshAllotter$Stock") true dX4_init_25 rfl fX4_24 rfl (fun C T N h => by cases h; exact ⟨rfl, by decide +kernel, fun _ => rfl⟩) (fun _ => rfl) rfl rfl (Nat.le_of_ble_eq_true rfl) ?_
  exact n_ret rfl dX4_init_28 (by decide) (by decide) ⟨qn, q, rfl⟩

theorem kl_0 : Cond.classLink RX0 9 RX2 ∈ wsA := (wa_1 (List.mem_of_getElem? (i := 238) (by decide +kernel)) (by decide +kernel))
abbrev sE (ca : Nat → ClassId) (f : Nat → Option Nat) : va_E := .inl (ca 3, 10, .inr (.inr (.inr (.inr f))))
section GNA
variable {l : Launch} {D : va_G} {ca : Nat → ClassId} {md : Md} {mc ms pc : Nat} {lv : List (Nat × Value)} {st : List Value} {wW : va_W} {kc nc : Nat} {ps : va_W → Prop}
theorem n_anew (pc' : Nat) (hmd : md.1 = RX0) (hd : decode md.2.2.1 pc = .ok (.anewarray 9, 3)) (hp : pc + 3 = pc') (hk : kc + 1 ≤ mc) (hs : nc + 10 ≤ ms) (h : ∀ q, GN l D ca md mc ms pc' lv (.ref q :: st) (wW ++ [(q, sE ca (fun _ => none))]) (kc + 1) (nc + 10) ps) : GN l D ca md mc ms pc lv (.int (nI 10) :: st) wW kc nc ps := by
  subst hp
  intro p e R s m args below meth c H locs A ls C0 hnm hc1 hs1 hw hl
  have hts := C0.2.2.2.2.2.1
  have hK := C0.2.2.2.2.2.2.2.2.2
  refine va_newq (own := RX0) (C := RX2) C0.1 C0.2.1 (by rw [← hmd]; exact C0.2.2.2.2.1) (hts _ kl_0) hw.2.2.2.2.2.2.2 hK hw.1 hw.2.1 hw.2.2.1 hw.2.2.2.1 (nI_pos (by decide)) (nI_clamp (by decide)) (by decide) (Nat.le_trans hk hc1) (Nat.le_trans hs hs1) hd (fun q cA H1 hK1 hP1 hD1 hS1 => ?_)
  have e1 := (hK1.2 4 (cA, .object RX2) rfl).2
  have e2 := (hK.2 3 _ rfl).2
  obtain ⟨_, _, _, _, _, e1⟩ := e1
  obtain ⟨_, _, _, _, _, e2⟩ := e2
  have e3 : cA = ca 3 := Option.some.inj (e1.symm.trans e2)
  subst e3
  exact h q p e R s m args below meth c H1 locs A ls C0 hnm hc1 hs1 ⟨hP1, hD1, hS1, hw.2.2.2⟩ hl
theorem n_aast (pc' q0 qk i : Nat) {a v : Nat} {f : Nat → Option Nat} {vs : List Value} (hd : decode md.2.2.1 pc = .ok (.aastore, 1)) (hp : pc + 1 = pc') (he : wW[q0]? = some (a, sE ca f)) (hv : wW[qk]? = some (v, .inr (2, vs))) (hi : i < 10) (h : GN l D ca md mc ms pc' lv st (wW.set q0 (a, sE ca (va_up f i (some v)))) kc nc ps) : GN l D ca md mc ms pc lv (.ref v :: .int (nI i) :: .ref a :: st) wW kc nc ps := by
  subst hp
  intro p e R s m args below meth c H locs A ls C0 hnm hc1 hs1 hw hl
  refine va_astq C0.1 C0.2.1 C0.2.2.2.2.2.2.2.2.2 hw.1 hw.2.1 hw.2.2.1 q0 3 qk 2 he rfl hv rfl (vp_in_nI hi (by omega)) hd (fun H1 locs1 hP1 hD1 hS1 => ?_)
  rw [nI_clamp (by omega)] at hP1 hD1
  exact h p e R s m args below meth c H1 locs1 A ls C0 hnm hc1 hs1 ⟨hP1, hD1, hS1, hw.2.2.2⟩ hl
end GNA
def b0 (ca : Nat → ClassId) (h0 qa : Nat) (f : Nat → Option Nat) (hl : List (Nat → Nat)) : va_W := [(h0, .inr (0, [.ref qa, .int 0, .int 0])), (qa, sE ca f)] ++ hl.flatMap (b2 ca)
set_option maxHeartbeats 4000000 in
set_option maxRecDepth 100000 in
theorem c_X0_init {l : Launch} {D : va_G} {ca : Nat → ClassId} (h0 : Nat) : CtN l D ca md_X0_init [.ref h0] [(h0, .inr (0, [.null, .int 0, .int 0]))] 141 5370 (fun w1 => ∃ (qa : Nat) (f : Nat → Option Nat) (hl : List (Nat → Nat)), hl.length = 10 ∧ (∀ i h, hl[i]? = some h → f i = some (h 0)) ∧ w1 = b0 ca h0 qa f hl) := by
  refine CtN.of (by decide) rfl (Nat.le_of_ble_eq_true rfl) ?_
  show GN l D ca md_X0_init 141 5370 0 [(0, .ref h0)] [] [(h0, .inr (0, [.null, .int 0, .int 0]))] 0 0 _
  refine n_aload_n 1 0 dX0_init_0 rfl rfl ?_
  refine n_objInit 4 dX0_init_1 rfl oi_X0 (by decide) (by decide) ?_
  refine n_aload_n 5 0 dX0_init_4 rfl rfl ?_
  refine n_bipush 7 (nI 10) dX0_init_5 rfl rfl ?_
  refine n_anew 10 rfl dX0_init_7 rfl (by decide) (by decide) (fun qa => ?_)
  refine n_put 13 0 (.array (.object "FreshAllotter$Stock")) true dX0_init_10 rfl fX0_11 rfl (fun C T N h => by cases h; exact ⟨rfl, by decide +kernel, fun _ => rfl⟩) (fun _ => rfl) rfl rfl (Nat.le_of_ble_eq_true rfl) ?_
  refine n_iconst 14 (nI 0) dX0_init_13 rfl rfl ?_
  refine n_istore_n 15 [(1, .int (nI 0)), (0, .ref h0)] dX0_init_14 rfl (by decide) rfl ?_
  have L15 : ∀ k, k ≤ 10 → ∀ (f : Nat → Option Nat) (hl : List (Nat → Nat)), hl.length = k → (∀ i h, hl[i]? = some h → f i = some (h 0)) → GN l D ca md_X0_init 141 5370 15 [(1, .int (nI k)), (0, .ref h0)] [] (b0 ca h0 qa f hl) (1 + 14 * k) (10 + 536 * k) (fun w1 => ∃ (qa : Nat) (f : Nat → Option Nat) (hl : List (Nat → Nat)), hl.length = 10 ∧ (∀ i h, hl[i]? = some h → f i = some (h 0)) ∧ w1 = b0 ca h0 qa f hl) := by
    refine upto ?_
    intro k hk ih f hl hlen hf
    refine n_iload_n 16 0 dX0_init_15 rfl rfl ?_
    refine n_bipush 18 (nI 10) dX0_init_16 rfl rfl ?_
    refine n_icmpN_ge 40 21 dX0_init_18 rfl rfl (by omega) (by omega) (fun c18 => ?_) (fun c18 => ?_)
    · exact n_ret rfl dX0_init_40 (by omega) (by omega) ⟨qa, f, hl, by omega, hf, rfl⟩
    · refine n_aload_n 22 1 dX0_init_21 rfl rfl ?_
      refine n_get 25 0 (.ref qa) dX0_init_22 rfl fX0_11 rfl rfl ?_
      refine n_iload_n 26 0 dX0_init_25 rfl rfl ?_
      refine n_new 29 2 [.int 0, .int 0, .int 0, .int 0, .int 0, .int 0, .int 0, .null, .null, .null, .null, .null, .null, .null, .null, .null, .null, .null, .null, .null] tyX2 rfl ulX2 tyX2_ok (wa_1 (List.mem_of_getElem? (i := 238) (by decide +kernel)) (by decide +kernel)) (wa_1 (List.mem_of_getElem? (i := 45) (by decide +kernel)) (by decide +kernel)) (wa_1 (List.mem_of_getElem? (i := 3) (by decide +kernel)) (by decide +kernel)) df_2 dX0_init_26 rfl (by omega) (by omega) (fun q => ?_)
      refine n_dup 30 dX0_init_29 rfl rfl ?_
      refine n_callIN 33 md_X2_init [] [.ref q, .int (nI k), .ref qa] dX0_init_30 rfl (fun s z => z.2.2.1) en_X0_X2 rfl rfl (Nat.le_of_ble_eq_true rfl) rfl (by omega) (by omega) (c_X2_init q) (fun w1 hw1 => ?_)
      obtain ⟨h', hq, rfl⟩ := hw1
      refine n_aast 34 1 (b0 ca h0 qa f hl).length k dX0_init_33 rfl rfl (by rw [List.getElem?_append_right (Nat.le_refl _), Nat.sub_self, ← hq]; rfl) (by omega) ?_
      refine n_iinc 37 (nI (k + 1)) [(1, .int (nI (k + 1))), (0, .ref h0)] dX0_init_34 rfl 0 rfl (nI_add k 1) (by decide) rfl ?_
      refine n_goto 15 dX0_init_37 rfl ?_
      have h9 := ih (by omega) (va_up f k (some q)) (hl ++ [h']) (by rw [List.length_append, hlen]; rfl) (fun i h hi => by
        by_cases z : i = k
        · subst z
          rw [List.getElem?_append_right (by omega), hlen, Nat.sub_self] at hi
          cases hi
          rw [hq]
          exact if_pos rfl
        · have hlt : i < hl.length := by
            have := (List.getElem?_eq_some_iff.mp hi).1
            rw [List.length_append, hlen] at this
            have h1 : [h'].length = 1 := rfl
            omega
          rw [List.getElem?_append_left hlt] at hi
          rw [← hf i h hi]
          exact if_neg z)
      have e1 : (b0 ca h0 qa f hl ++ b2 ca h').set 1 (qa, sE ca (va_up f k (some q))) = b0 ca h0 qa (va_up f k (some q)) (hl ++ [h']) := by
        have e0 : [h'].flatMap (b2 ca) = b2 ca h' := by simp
        unfold b0
        rw [List.flatMap_append, e0]
        rfl
      rw [e1, show 1 + 14 * k + 1 + 13 = 1 + 14 * (k + 1) by omega, show 10 + 536 * k + 20 + 516 = 10 + 536 * (k + 1) by omega]
      exact h9
  exact L15 0 (Nat.zero_le _) (fun _ => none) [] rfl (fun i h hi => by simp at hi)

