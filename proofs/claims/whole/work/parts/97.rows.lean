theorem lw_more {L k : Nat} (hL : L ≤ 3072) (hk : 6 * k ≤ 3072) (h : ¬ nI L - nI 6 < nI (6 * k)) : 6 * k + 6 ≤ L := by
  rw [fa_lt, pk_sub_toInt (by omega) (by omega), nI_toInt (by omega)] at h
  omega
section GLR
variable {p : Program} {l : Launch} {e : Env} {s : State} {m : MethodId} {below : List Frame} {meth : Method} {c : Code} {b L : Nat} {xs : Nat → Int32} {D : va_G} {g : Nat → Nat → Nat} {ca : Nat → ClassId} {qo K N pc : Nat} {lv : List (Nat × Value)} {st : List Value} {M : Mm} {v : Int64}
theorem gi_L_lot : GoodIn wsA (va_wsS RL 46 yL_lot (.codeWith yL_lot cL_lot 5 (some .int) [(0, 10, 13, 13)] :: wsA)) := by
  have h0 : ∀ w ∈ va_wsS RL 46 yL_lot (.codeWith yL_lot cL_lot 5 (some .int) [(0, 10, 13, 13)] :: wsA), w ∈ wsA := by
    intro w hw
    unfold va_wsS at hw
    rcases List.mem_append.mp hw with hw | hw
    · rcases List.mem_cons.mp hw with rfl | hw
      · exact (wa_3 (List.mem_of_getElem? (i := 227) (by decide +kernel)) (by decide +kernel))
      · rcases List.mem_cons.mp hw with rfl | hw
        · exact (wa_3 (List.mem_of_getElem? (i := 228) (by decide +kernel)) (by decide +kernel))
        · rcases List.mem_cons.mp hw with rfl | hw
          · exact (wa_1 (List.mem_of_getElem? (i := 0) (by decide +kernel)) (by decide +kernel))
          · exact absurd hw List.not_mem_nil
    · rcases List.mem_cons.mp hw with rfl | hw
      · exact (wa_3 (List.mem_of_getElem? (i := 229) rfl) (by decide +kernel))
      · exact hw
  exact fun w hw => ⟨h0 w hw, good_of_word (List.all_eq_true.mp ws_good w (h0 w hw))⟩
theorem bl_L_lot {as : List Value} {f : Nat → Int64} {sz : Nat} : FrameBlind (va_Pc as (LPre_lot D g ca M qo f sz)) := by
  intro a U gg mk q
  obtain ⟨q0, ⟨q1, qP, qK, qK2, qD, qX⟩, q2⟩ := q
  exact ⟨q0, ⟨q1, qP, va_K.moved (u := U) (U := U.calling gg mk a) (Vm.Alike.refl U.vm) qK, va_K.moved (u := U) (U := U.calling gg mk a) (Vm.Alike.refl U.vm) qK2, qD, vk_S.moved (u := U) (U := U.calling gg mk a) (Vm.Alike.refl U.vm) qX.1, fun i hi => vk_R.same (u := U) rfl (qX.2.1 i hi), va_Z.moved (u := U) (U := U.calling gg mk a) (Vm.Alike.refl U.vm) qX.2.2.1, va_Z.moved (u := U) (U := U.calling gg mk a) (Vm.Alike.refl U.vm) qX.2.2.2.1, vx_Zq.moved (u := U) (U := U.calling gg mk a) (Vm.Alike.refl U.vm) qX.2.2.2.2.1, vx_Zq.moved (u := U) (U := U.calling gg mk a) (Vm.Alike.refl U.vm) qX.2.2.2.2.2.1, fun i hi => vk_R.same (u := U) rfl (qX.2.2.2.2.2.2.1 i hi), va_Nw.same (u := U) rfl rfl qX.2.2.2.2.2.2.2⟩, Ew.same (u := U) rfl q2⟩
set_option maxHeartbeats 4000000 in
theorem gl_lot (pc' : Nat) {st0 : List Value} (hd : decode code pc = .ok (.invokestatic 46, 3)) (hp : pc + 3 = pc') {a : Sa} (hK : SK (M.1 0) a) (hE : Ew s) (x y : Int32) (hst : st0 = .ref qo :: .int y :: .int x :: .ref (g 12 0) :: st) (hst2 : (st.map fun v => v.category).sum ≤ 8) (hK1 : K + 1 ≤ 601024) (hN1 : N + 6 ≤ 7293034)
    (ht : T_lot a x y = true → GL p l e s m below meth c b L xs D g ca qo (K + 1) (N + 6) pc' lv (.int (nI 1) :: st) M v) (hf : ∀ p9 k9, T_lot a x y = false → x = nI p9 → y = nI k9 → p9 < a 0 3 → k9 < 5 → GL p l e s m below meth c b L xs D g ca qo (K + 1) (N + 6) pc' lv (.int (nI 0) :: st) M ((nI (V_lot a p9 k9)).toInt64)) : GL p l e s m below meth c b L xs D g ca qo K N pc lv st0 M v := by
  subst hp
  intro C0 H locs ls hw hl
  have hts := gl_hts C0
  have hW := gl_Wl C0 hw
  obtain ⟨hP, hD, hS, ⟨f, hf0, hO⟩, hq1, hq2⟩ := hw
  have hDD : va_D (A0 s) (Wd g ca M ++ [(qo, oE ca f)]) := by
    refine va_D.app hD ⟨fun i j p q hi hj e => ?_, fun k q hk => ?_⟩ (fun i j p q hi hj e => ?_)
    · have h1 := (List.getElem?_eq_some_iff.mp hi).1
      have h2 := (List.getElem?_eq_some_iff.mp hj).1
      simp at h1 h2
      omega
    · cases k with
      | zero => cases hk; exact hq1
      | succ k => simp at hk
    · cases j with
      | zero =>
        cases hj
        unfold Wd at hi
        rw [List.getElem?_map] at hi
        cases hq : PL[i]? with
        | none => rw [hq] at hi; cases hi
        | some z =>
          rw [hq] at hi
          cases hi
          exact hq2 z.1 z.2 (List.mem_of_getElem? hq) e
      | succ j => simp at hj
  have hPP := va_P.app hP hO
  have hF : ∀ q, va_A (Wd g ca M ++ [(qo, oE ca f)]) H.size q → A0 s q := by
    intro q hq
    rcases hq with ⟨k, e, hk⟩ | hq
    · exact hDD.2 k (q, e) hk
    · exact Nat.le_trans hS.1 hq
  have hr := vx_runSX (R := room_1) (l := l) (p := p) (e := e) (below := below) (meth := meth) (locs := locs) (cells := K) (slots := N) (rest := st) (g := F0 m pc ls st0) (As := [.ref (g 12 0), .int x, .int y, .ref qo]) (n := 4) (hh := [(0, 10, 13, 13)]) ⟨C0.1.1, C0.1.2.1, C0.1.2.2.2.1, C0.1.2.2.2.2.1, hts⟩ (c_L_lot (D := D) (g := g) (ca := ca) C0.2.2.2.2.1 hK x y qo f H.size) (vx_cwSW 4 hts gi_L_lot rfl rfl rfl (by decide +kernel) ⟨by decide, by decide⟩) ⟨bl_L_lot, fun U hU hW9 => ⟨rfl, ⟨by rw [hU], by rw [hU]; exact hPP, va_K.moved hW9.alike C0.2.1, va_K.moved hW9.alike C0.2.2.1, hDD.weaken (fun _ _ _ _ => trivial), ?_⟩, Ew.warm hW9 hE⟩⟩ rfl rfl hl.1 hst (lv_room hst2) hd ⟨hK1, hN1⟩
  rotate_left
  · obtain ⟨_, _, _, _, hX⟩ := hW
    exact ⟨by rw [hU]; exact ((hX.1.kept hS.2.1).moved hW9.alike).narrow hF, fun i hi => vk_R.warm hW9 (hX.2.1 i hi), by rw [hU]; exact ((hX.2.2.1.kept hS.2.1).moved hW9.alike).narrow hF, by rw [hU]; exact ((hX.2.2.2.1.kept hS.2.1).moved hW9.alike).narrow hF, by rw [hU]; exact (vx_Zq.moved hW9.alike (hX.2.2.2.2.1.kept hS.2.1)).narrow hF, by rw [hU]; exact (vx_Zq.moved hW9.alike (hX.2.2.2.2.2.1.kept hS.2.1)).narrow hF, fun i hi => vk_R.warm hW9 (hX.2.2.2.2.2.2.1 i hi), va_Nw.warmM hW9 hX.2.2.2.2.2.2.2⟩
  intro T hT X
  rcases hr T hT X with ⟨v1, st₀, t, T', Ls, h0, X', hLs, e1, e2, ⟨⟨r, f', hv, hc9, hb⟩, hz, hk9⟩, stp⟩ | ⟨_, _, _, _, _, _, _, _, _, _, _, _, hno, _⟩
  · cases hv
    rw [h0] at hz hk9
    have hLW : ∀ v', f' 0 = v' → LW s D g ca qo M v' T'.heap (locs ++ Ls) := fun v' hv' => ⟨by rw [e1]; exact P_left hb, hD, ⟨Nat.le_trans hS.1 (by rw [e1]; exact hz), fun q h1 h2 => by rw [e1, hk9 q (Nat.lt_of_lt_of_le h1 hS.1) (fun z => h2 (hF q z))]; exact hS.2.1 q h1 h2, fun q hq => by
      rcases List.mem_append.mp hq with h | h
      · exact hS.2.2 q h
      · exact hF _ (hLs q h)⟩, ⟨f', hv', by rw [e1]; exact P_right hb⟩, hq1, hq2⟩
    rcases hc9 with ⟨hT9, rfl, hf9⟩ | ⟨hT9, rfl, p9, k9, hx9, hy9, hp9, hk9', hf9⟩
    · obtain ⟨t2, a1, b1⟩ := ht hT9 C0 T'.heap (locs ++ Ls) ls (hLW v (hf9.trans hf0)) hl T' rfl X'
      exact ⟨t2, stp t2 a1, b1⟩
    · obtain ⟨t2, a1, b1⟩ := hf p9 k9 hT9 hx9 hy9 hp9 hk9' C0 T'.heap (locs ++ Ls) ls (hLW _ hf9) hl T' rfl X'
      exact ⟨t2, stp t2 a1, b1⟩
  · exact hno.elim

theorem gi_L_order : GoodIn wsA (va_wsS RL 55 yL_order (.codeWith yL_order cL_order 5 (some .int) [(0, 10, 13, 13)] :: wsA)) := by
  have h0 : ∀ w ∈ va_wsS RL 55 yL_order (.codeWith yL_order cL_order 5 (some .int) [(0, 10, 13, 13)] :: wsA), w ∈ wsA := by
    intro w hw
    unfold va_wsS at hw
    rcases List.mem_append.mp hw with hw | hw
    · rcases List.mem_cons.mp hw with rfl | hw
      · exact (wa_4 (List.mem_of_getElem? (i := 61) (by decide +kernel)) (by decide +kernel))
      · rcases List.mem_cons.mp hw with rfl | hw
        · exact (wa_4 (List.mem_of_getElem? (i := 62) (by decide +kernel)) (by decide +kernel))
        · rcases List.mem_cons.mp hw with rfl | hw
          · exact (wa_1 (List.mem_of_getElem? (i := 0) (by decide +kernel)) (by decide +kernel))
          · exact absurd hw List.not_mem_nil
    · rcases List.mem_cons.mp hw with rfl | hw
      · exact (wa_4 (List.mem_of_getElem? (i := 63) rfl) (by decide +kernel))
      · exact hw
  exact fun w hw => ⟨h0 w hw, good_of_word (List.all_eq_true.mp ws_good w (h0 w hw))⟩
theorem bl_L_order {as : List Value} {f : Nat → Int64} {sz : Nat} : FrameBlind (va_Pc as (LPre_order D g ca M qo f sz)) := by
  intro a U gg mk q
  obtain ⟨q0, ⟨q1, qP, qK, qK2, qD, qX⟩, q2⟩ := q
  exact ⟨q0, ⟨q1, qP, va_K.moved (u := U) (U := U.calling gg mk a) (Vm.Alike.refl U.vm) qK, va_K.moved (u := U) (U := U.calling gg mk a) (Vm.Alike.refl U.vm) qK2, qD, vk_S.moved (u := U) (U := U.calling gg mk a) (Vm.Alike.refl U.vm) qX.1, fun i hi => vk_R.same (u := U) rfl (qX.2.1 i hi), va_Z.moved (u := U) (U := U.calling gg mk a) (Vm.Alike.refl U.vm) qX.2.2.1, va_Z.moved (u := U) (U := U.calling gg mk a) (Vm.Alike.refl U.vm) qX.2.2.2.1, vx_Zq.moved (u := U) (U := U.calling gg mk a) (Vm.Alike.refl U.vm) qX.2.2.2.2.1, vx_Zq.moved (u := U) (U := U.calling gg mk a) (Vm.Alike.refl U.vm) qX.2.2.2.2.2.1, fun i hi => vk_R.same (u := U) rfl (qX.2.2.2.2.2.2.1 i hi), va_Nw.same (u := U) rfl rfl qX.2.2.2.2.2.2.2⟩, Ew.same (u := U) rfl q2⟩
set_option maxHeartbeats 4000000 in
theorem gl_order (pc' : Nat) {st0 : List Value} (hd : decode code pc = .ok (.invokestatic 55, 3)) (hp : pc + 3 = pc') {a : Sa} (hK : SK (M.1 0) a) (hE : Ew s) (x y : Int32) (hst : st0 = .ref qo :: .int y :: .int x :: .ref (g 12 0) :: st) (hst2 : (st.map fun v => v.category).sum ≤ 8) (hK1 : K + 1 ≤ 601024) (hN1 : N + 6 ≤ 7293034)
    (ht : T_ord a x y = true → GL p l e s m below meth c b L xs D g ca qo (K + 1) (N + 6) pc' lv (.int (nI 1) :: st) M v) (hf : ∀ p9 k9, T_ord a x y = false → x = nI p9 → y = nI k9 → p9 < a 0 4 → k9 < 7 → GL p l e s m below meth c b L xs D g ca qo (K + 1) (N + 6) pc' lv (.int (nI 0) :: st) M ((nI (V_ord a p9 k9)).toInt64)) : GL p l e s m below meth c b L xs D g ca qo K N pc lv st0 M v := by
  subst hp
  intro C0 H locs ls hw hl
  have hts := gl_hts C0
  have hW := gl_Wl C0 hw
  obtain ⟨hP, hD, hS, ⟨f, hf0, hO⟩, hq1, hq2⟩ := hw
  have hDD : va_D (A0 s) (Wd g ca M ++ [(qo, oE ca f)]) := by
    refine va_D.app hD ⟨fun i j p q hi hj e => ?_, fun k q hk => ?_⟩ (fun i j p q hi hj e => ?_)
    · have h1 := (List.getElem?_eq_some_iff.mp hi).1
      have h2 := (List.getElem?_eq_some_iff.mp hj).1
      simp at h1 h2
      omega
    · cases k with
      | zero => cases hk; exact hq1
      | succ k => simp at hk
    · cases j with
      | zero =>
        cases hj
        unfold Wd at hi
        rw [List.getElem?_map] at hi
        cases hq : PL[i]? with
        | none => rw [hq] at hi; cases hi
        | some z =>
          rw [hq] at hi
          cases hi
          exact hq2 z.1 z.2 (List.mem_of_getElem? hq) e
      | succ j => simp at hj
  have hPP := va_P.app hP hO
  have hF : ∀ q, va_A (Wd g ca M ++ [(qo, oE ca f)]) H.size q → A0 s q := by
    intro q hq
    rcases hq with ⟨k, e, hk⟩ | hq
    · exact hDD.2 k (q, e) hk
    · exact Nat.le_trans hS.1 hq
  have hr := vx_runSX (R := room_1) (l := l) (p := p) (e := e) (below := below) (meth := meth) (locs := locs) (cells := K) (slots := N) (rest := st) (g := F0 m pc ls st0) (As := [.ref (g 12 0), .int x, .int y, .ref qo]) (n := 4) (hh := [(0, 10, 13, 13)]) ⟨C0.1.1, C0.1.2.1, C0.1.2.2.2.1, C0.1.2.2.2.2.1, hts⟩ (c_L_order (D := D) (g := g) (ca := ca) C0.2.2.2.2.1 hK x y qo f H.size) (vx_cwSW 4 hts gi_L_order rfl rfl rfl (by decide +kernel) ⟨by decide, by decide⟩) ⟨bl_L_order, fun U hU hW9 => ⟨rfl, ⟨by rw [hU], by rw [hU]; exact hPP, va_K.moved hW9.alike C0.2.1, va_K.moved hW9.alike C0.2.2.1, hDD.weaken (fun _ _ _ _ => trivial), ?_⟩, Ew.warm hW9 hE⟩⟩ rfl rfl hl.1 hst (lv_room hst2) hd ⟨hK1, hN1⟩
  rotate_left
  · obtain ⟨_, _, _, _, hX⟩ := hW
    exact ⟨by rw [hU]; exact ((hX.1.kept hS.2.1).moved hW9.alike).narrow hF, fun i hi => vk_R.warm hW9 (hX.2.1 i hi), by rw [hU]; exact ((hX.2.2.1.kept hS.2.1).moved hW9.alike).narrow hF, by rw [hU]; exact ((hX.2.2.2.1.kept hS.2.1).moved hW9.alike).narrow hF, by rw [hU]; exact (vx_Zq.moved hW9.alike (hX.2.2.2.2.1.kept hS.2.1)).narrow hF, by rw [hU]; exact (vx_Zq.moved hW9.alike (hX.2.2.2.2.2.1.kept hS.2.1)).narrow hF, fun i hi => vk_R.warm hW9 (hX.2.2.2.2.2.2.1 i hi), va_Nw.warmM hW9 hX.2.2.2.2.2.2.2⟩
  intro T hT X
  rcases hr T hT X with ⟨v1, st₀, t, T', Ls, h0, X', hLs, e1, e2, ⟨⟨r, f', hv, hc9, hb⟩, hz, hk9⟩, stp⟩ | ⟨_, _, _, _, _, _, _, _, _, _, _, _, hno, _⟩
  · cases hv
    rw [h0] at hz hk9
    have hLW : ∀ v', f' 0 = v' → LW s D g ca qo M v' T'.heap (locs ++ Ls) := fun v' hv' => ⟨by rw [e1]; exact P_left hb, hD, ⟨Nat.le_trans hS.1 (by rw [e1]; exact hz), fun q h1 h2 => by rw [e1, hk9 q (Nat.lt_of_lt_of_le h1 hS.1) (fun z => h2 (hF q z))]; exact hS.2.1 q h1 h2, fun q hq => by
      rcases List.mem_append.mp hq with h | h
      · exact hS.2.2 q h
      · exact hF _ (hLs q h)⟩, ⟨f', hv', by rw [e1]; exact P_right hb⟩, hq1, hq2⟩
    rcases hc9 with ⟨hT9, rfl, hf9⟩ | ⟨hT9, rfl, p9, k9, hx9, hy9, hp9, hk9', hf9⟩
    · obtain ⟨t2, a1, b1⟩ := ht hT9 C0 T'.heap (locs ++ Ls) ls (hLW v (hf9.trans hf0)) hl T' rfl X'
      exact ⟨t2, stp t2 a1, b1⟩
    · obtain ⟨t2, a1, b1⟩ := hf p9 k9 hT9 hx9 hy9 hp9 hk9' C0 T'.heap (locs ++ Ls) ls (hLW _ hf9) hl T' rfl X'
      exact ⟨t2, stp t2 a1, b1⟩
  · exact hno.elim

end GLR
