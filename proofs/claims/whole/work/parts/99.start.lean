/-! WHAT HOLDS AT THE LAW'S ENTRY -/
section ST
variable {p : Program} {s : State} {m : MethodId} {meth : Method} {c : Code} {b L : Nat} {xs : Nat → Int32}
theorem st_A (C0 : lw_At p s m meth c b L xs) : ∀ w ∈ wsA, w.before #[Value.ref b] s = true := fun w hw => C0.2.2.2.2.2.1 w (wa_in w hw)
theorem st_T (C0 : lw_At p s m meth c b L xs) : ∀ w ∈ lw_tbl, w.before #[Value.ref b] s = true := C0.2.2.2.2.2.1
theorem st_el : ∀ i : Fin 4, ∀ j : Fin 8, j.val < sLen.getD i.val 0 → Cond.eq (.elem (.field (.string RX5 (sIdx i.val)) "java/lang/String" "value" "[B") (.int (Int32.ofNat j.val))) (.int ((sByt.getD i.val []).getD j.val 0)) ∈ flatC (Jvm.Cond.and given_1 narrow_1) := by decide +kernel
theorem st_ex : ∀ i : Fin 4, Cond.exactly (.string RX5 (sIdx i.val)) "java/lang/String" ∈ flatC (Jvm.Cond.and given_1 narrow_1) ∧ Cond.eq (.field (.string RX5 (sIdx i.val)) "java/lang/String" "coder" "B") (.int 0) ∈ flatC (Jvm.Cond.and given_1 narrow_1) ∧ Cond.arrayOf (.field (.string RX5 (sIdx i.val)) "java/lang/String" "value" "[B") .byte ∈ flatC (Jvm.Cond.and given_1 narrow_1) ∧ Cond.eq (.length (.field (.string RX5 (sIdx i.val)) "java/lang/String" "value" "[B")) (.int (Int32.ofNat (sLen.getD i.val 0))) ∈ flatC (Jvm.Cond.and given_1 narrow_1) := by decide +kernel
theorem st_ne : ∀ i j : Fin 4, i.val < j.val → Cond.not (Cond.eq (.string RX5 (sIdx i.val)) (.string RX5 (sIdx j.val))) ∈ flatC (Jvm.Cond.and given_1 narrow_1) := by decide +kernel
theorem st_e6 : ∀ i : Fin 4, Cond.exactly (.string RX6 (eIdx i.val)) "java/lang/String" ∈ flatC (Jvm.Cond.and given_1 narrow_1) ∧ Cond.stringRef RX6 (eIdx i.val) (eTxt i.val) ∈ lw_tbl ∧ Cond.stringRef RX5 (sIdx i.val) (sTxt i.val) ∈ lw_tbl := by decide +kernel
theorem st_z : Cond.eq (.static "java/lang/String" "COMPACT_STRINGS" "Z") (.int 1) ∈ flatC (Jvm.Cond.and given_1 narrow_1) ∧ Cond.isRef (.static "jdk/internal/util/Preconditions" "SIOOBE_FORMATTER" "Ljava/util/function/BiFunction;") ∈ flatC (Jvm.Cond.and given_1 narrow_1) ∧ Cond.isRef (.static Bundle.tN "UNASSIGNED_STACK" Bundle.steD) ∈ flatC (Jvm.Cond.and given_1 narrow_1) ∧ Cond.isRef (.static Bundle.tN "SUPPRESSED_SENTINEL" Bundle.listD) ∈ flatC (Jvm.Cond.and given_1 narrow_1) := by decide +kernel
theorem st_l : Cond.laysStatic "java/lang/String" "COMPACT_STRINGS" "Z" ∈ lw_tbl ∧ Cond.laysStatic "jdk/internal/util/Preconditions" "SIOOBE_FORMATTER" "Ljava/util/function/BiFunction;" ∈ lw_tbl ∧ Cond.laysStatic Bundle.tN "UNASSIGNED_STACK" Bundle.steD ∈ lw_tbl ∧ Cond.laysStatic Bundle.tN "SUPPRESSED_SENTINEL" Bundle.listD ∈ lw_tbl ∧ Cond.initialized "java/lang/String" ∈ lw_tbl ∧ Cond.initialized "jdk/internal/util/Preconditions" ∈ lw_tbl ∧ Cond.initialized Bundle.tN ∈ lw_tbl := by decide +kernel
theorem st_w : Cond.declares (iS "java/lang/RuntimeException") ∈ lw_tbl ∧ Cond.declares (iS "java/lang/Exception") ∈ lw_tbl ∧ Cond.declares (iS "java/lang/Throwable") ∈ lw_tbl ∧ Cond.castable nse nse ∈ lw_tbl ∧ Cond.methodLinkNest RX6 9 yX3_init RX6 ∈ lw_tbl ∧ Cond.methodLinkNest RX6 18 yX2_init RX6 ∈ lw_tbl ∧ Cond.methodLinkNest RX0 17 yX2_init RX6 ∈ lw_tbl ∧ Cond.arrayOver (.object RX2) ∈ lw_tbl := by decide +kernel
theorem st_nm : nmIs ∈ lw_tbl := by decide +kernel
theorem st_Ew (C0 : lw_At p s m meth c b L xs) : Ew s := ⟨va_Nw.of rfl (st_T C0 _ st_w.1), va_Nw.of rfl (st_T C0 _ st_w.2.1), va_Nw.of rfl (st_T C0 _ st_w.2.2.1), va_Nw.of rfl (st_T C0 _ st_w.2.2.2.1)⟩
theorem st_Nz (C0 : lw_At p s m meth c b L xs) : Nz s := ⟨va_Nw.of rfl (st_T C0 _ st_w.2.2.2.2.1), va_Nw.of rfl (st_T C0 _ st_w.2.2.2.2.2.1), va_Nw.of rfl (st_T C0 _ st_w.2.2.2.2.2.2.1), va_AO.of (st_T C0 _ st_w.2.2.2.2.2.2.2)⟩
theorem st_Sx (C0 : lw_At p s m meth c b L xs) : ∃ g0 : Nat → Nat → Nat, ∀ g : Nat → Nat → Nat, g 20 = g0 20 → g 21 = g0 21 → g 22 = g0 22 → g 23 = g0 23 → Sx g (A0 s) s := by
  have hfl := flat_of_before _ C0.2.2.2.2.2.2.2.2.2
  have hT := st_T C0
  have hA : ∀ a : Nat, a < s.heap.size → ¬ A0 s a := fun a h => Nat.not_le.mpr h
  obtain ⟨adK, adV, hS, hev⟩ := vk_Sof (args := #[Value.ref b]) (s := s) (N := 4) (tm := fun i => .string RX5 (sIdx i)) (len := sLen) (byt := sByt) (A := A0 s) (fun i hi => Nat.lt_of_le_of_lt (sLen_le hi) (by decide)) (fun i hi => hfl _ (st_ex ⟨i, hi⟩).1) (fun i hi => hfl _ (st_ex ⟨i, hi⟩).2.1) (fun i hi => hfl _ (st_ex ⟨i, hi⟩).2.2.1) (fun i hi => hfl _ (st_ex ⟨i, hi⟩).2.2.2) (fun i hi j hj => hfl _ (st_el ⟨i, hi⟩ ⟨j, Nat.lt_of_lt_of_le hj (sLen_le hi)⟩ hj)) (fun i j hi hj hij => by
    rcases Nat.lt_or_gt_of_ne hij with z | z
    · exact Or.inl (hfl _ (st_ne ⟨i, hi⟩ ⟨j, hj⟩ z))
    · exact Or.inr (hfl _ (st_ne ⟨j, hj⟩ ⟨i, hi⟩ z))) hA
  have he : ∀ i : Nat, ∃ a : Nat, i < 4 → (Term.string RX6 (eIdx i)).eval #[Value.ref b] s none [] s = some (.ref a) := by
    intro i
    by_cases hi : i < 4
    · obtain ⟨a, _, _, _, q1, _⟩ := Cond.exactly_spec (args := #[Value.ref b]) (first := s) (o := none) (s := s) (idx := []) (t := .string RX6 (eIdx i)) (cls := "java/lang/String") (hfl _ (st_e6 ⟨i, hi⟩).1)
      exact ⟨a, fun _ => q1⟩
    · exact ⟨0, fun h => absurd h hi⟩
  obtain ⟨adE, hadE⟩ := Classical.axiomOfChoice he
  have hsio : ∃ z0 z1 : Nat, va_Z "jdk/internal/util/Preconditions" "SIOOBE_FORMATTER" "Ljava/util/function/BiFunction;" (if z1 = 0 then .null else .ref z0) (A0 s) s s.heap := by
    rcases va_Zqof (hT _ st_l.2.1) (hT _ st_l.2.2.2.2.2.1) (hfl _ st_z.2.1) hA with h | ⟨t, h⟩
    · exact ⟨0, 0, h⟩
    · exact ⟨t, 1, h⟩
  obtain ⟨z0, z1, hsio⟩ := hsio
  refine ⟨fun o => if o = 20 then adK else if o = 21 then adV else if o = 22 then (fun i => if i = 0 then z0 else z1) else adE, fun g h20 h21 h22 h23 => ?_⟩
  have e20 : g 20 = adK := h20
  have e21 : g 21 = adV := h21
  have e22 : g 22 = (fun i => if i = 0 then z0 else z1) := h22
  have e23 : g 23 = adE := h23
  refine ⟨by rw [e20, e21]; exact hS, fun i hi => by rw [e20]; exact vk_R.of (hT _ (st_e6 ⟨i, hi⟩).2.2) (hev i hi), va_Zof (hT _ st_l.1) (hT _ st_l.2.2.2.2.1) (va_eqi (hfl _ st_z.1)) hA, ?_, vx_Zqof (hT _ st_l.2.2.1) (hT _ st_l.2.2.2.2.2.2) (hfl _ st_z.2.2.1) hA, vx_Zqof (hT _ st_l.2.2.2.1) (hT _ st_l.2.2.2.2.2.2) (hfl _ st_z.2.2.2) hA, fun i hi => by rw [e23]; exact vk_R.of (hT _ (st_e6 ⟨i, hi⟩).2.1) (hadE i hi), va_Nw.of rfl (hT _ st_nm)⟩
  unfold sio
  rw [e22]
  exact hsio
theorem st_arr {ty : FieldType} {args : Array Value} (h : (Cond.arrayClass ty).before args s = true) (hno : ∀ C, ty ≠ .object C) : ∃ cA, ArrOfT s cA ty ∧ va_RA s cA ty := by
  obtain ⟨cA, kA, comp, h1, h2, h3⟩ := Cond.arrayClass_spec (args := args) (first := s) (o := none) (s := s) (idx := []) h
  refine ⟨cA, fun n z => ⟨(fun k h => by cases h), kA, h2, comp, h3⟩, ?_⟩
  cases ty with
  | object C => exact absurd rfl (hno C)
  | _ => exact h1
theorem ar_4 : Cond.arrayClass .long ∈ wsA := (wa_6 (List.mem_of_getElem? (i := 22) (by decide +kernel)) (by decide +kernel))
theorem st_K (C0 : lw_At p s m meth c b L xs) : ∃ (D : va_G) (ca : Nat → ClassId), va_K D vwCl (tyl ca) s ∧ va_K D vwCl [(ca 4, .long)] s := by
  have hts := st_A C0
  obtain ⟨c0, iS0, hK0⟩ := u_known (C := RX0) (T := TX0) (N := 3) (n := 3) hts ulX0 (hts _ (wa_1 (List.mem_of_getElem? (i := 233) (by decide +kernel)) (by decide +kernel)))
  obtain ⟨c1, iS1, hK1⟩ := u_known (C := RX1) (T := TX1) (N := 7) (n := 7) hts ulX1 (hts _ (wa_1 (List.mem_of_getElem? (i := 205) (by decide +kernel)) (by decide +kernel)))
  obtain ⟨c2, iS2, hK2⟩ := u_known (C := RX2) (T := TX2) (N := 20) (n := 20) hts ulX2 (hts _ (wa_1 (List.mem_of_getElem? (i := 45) (by decide +kernel)) (by decide +kernel)))
  obtain ⟨c3, iS3, hK3⟩ := u_known (C := RX3) (T := TX3) (N := 2) (n := 2) hts ulX3 (hts _ (wa_1 (List.mem_of_getElem? (i := 28) (by decide +kernel)) (by decide +kernel)))
  obtain ⟨c4, iS4, hK4⟩ := u_known (C := RX4) (T := TX4) (N := 9) (n := 9) hts ulX4 (hts _ (wa_1 (List.mem_of_getElem? (i := 143) (by decide +kernel)) (by decide +kernel)))
  obtain ⟨c5, iS5, hK5⟩ := u_known (C := RX5) (T := TX5) (N := 5) (n := 5) hts ulX5 (hts _ (wa_1 (List.mem_of_getElem? (i := 149) (by decide +kernel)) (by decide +kernel)))
  obtain ⟨c6, iS6, hK6⟩ := u_known (C := RX6) (T := TX6) (N := 6) (n := 6) hts ulX6 (hts _ (wa_1 (List.mem_of_getElem? (i := 20) (by decide +kernel)) (by decide +kernel)))
  obtain ⟨c7, iS7, hK7⟩ := u_known (C := RX7) (T := TX7) (N := 28) (n := 28) hts ulX7 (hts _ (wa_4 (List.mem_of_getElem? (i := 81) (by decide +kernel)) (by decide +kernel)))
  obtain ⟨a0, h0⟩ := st_arr (hts _ ar_0) (fun C h => by cases h)
  obtain ⟨a1, h1⟩ := st_arr (hts _ ar_1) (fun C h => by cases h)
  obtain ⟨a2, h2⟩ := st_arr (hts _ ar_2) (fun C h => by cases h)
  obtain ⟨a4, h4⟩ := st_arr (hts _ ar_4) (fun C h => by cases h)
  obtain ⟨comp, a3, k3, f1, -, f3, f4, f5⟩ := Cond.arrayOver_spec (args := #[Value.ref b]) (first := s) (o := none) (s := s) (idx := []) (n := RX2) (st_T C0 _ st_w.2.2.2.2.2.2.2)
  have h3 : ArrOfT s a3 (.object RX2) ∧ va_RA s a3 (.object RX2) := ⟨fun n z => ⟨(fun k h => by cases h), k3, f3, comp, f4⟩, k3, comp, f3, f4, f1, f5⟩
  have hc : ∀ (k : Nat) (q : vw_C), vwCl[k]? = some q → u_Kn s q.1 q.2.1 q.2.2 ((fun k => match k with | 0 => c0 | 1 => c1 | 2 => c2 | 3 => c3 | 4 => c4 | 5 => c5 | 6 => c6 | _ => c7) k) ((fun k => match k with | 0 => iS0 | 1 => iS1 | 2 => iS2 | 3 => iS3 | 4 => iS4 | 5 => iS5 | 6 => iS6 | _ => iS7) k) := by
    intro k q hq
    match k, hq with
    | 0, hq => cases hq; exact hK0
    | 1, hq => cases hq; exact hK1
    | 2, hq => cases hq; exact hK2
    | 3, hq => cases hq; exact hK3
    | 4, hq => cases hq; exact hK4
    | 5, hq => cases hq; exact hK5
    | 6, hq => cases hq; exact hK6
    | 7, hq => cases hq; exact hK7
    | k + 8, hq => simp [vwCl] at hq
  refine ⟨(_, _), fun k => match k with | 0 => a0 | 1 => a1 | 2 => a2 | 3 => a3 | _ => a4, ⟨hc, fun k q hq => ?_⟩, ⟨hc, fun k q hq => ?_⟩⟩
  · match k, hq with
    | 0, hq => cases hq; exact h0
    | 1, hq => cases hq; exact h1
    | 2, hq => cases hq; exact h2
    | 3, hq => cases hq; exact h3
    | k + 4, hq => simp at hq
  · match k, hq with
    | 0, hq => cases hq; exact h4
    | k + 1, hq => simp at hq
end ST
