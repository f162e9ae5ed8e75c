/-! THE WORLD OF THE SYSTEM: objects by number (0 the stock, 1 the draft, 2 to 11 the past's stocks, 12 FreshAllotter, 13 Tape, 14 Tokens, 15 TextReader, 16 Planner, 17 Past, 18 the reference), an object's array at its field's slot plus one; the memory: the ints of object o, component c (0: its fields by slot), place i; and one long (the reference's word) -/
abbrev Mm : Type := (Nat → Nat → Nat → Int32) × Int64
def kd (o : Nat) : Nat := if o < 12 then 2 else match o with
  | 12 => 6 | 13 => 3 | 14 => 5 | 15 => 4 | 16 => 1 | 17 => 0 | 18 => 7 | _ => 99
def ftab (ci : Nat) : List (Nat × Nat) := match ci with
  | 0 => [(1, 0), (0, 0), (0, 0)]
  | 1 => [(3, 0), (0, 0), (0, 0), (1, 0), (1, 0), (1, 0), (1, 0)]
  | 2 => [(0, 0), (0, 0), (0, 0), (0, 0), (0, 0), (0, 0), (0, 0), (1, 0), (1, 0), (1, 0), (1, 0), (1, 0), (1, 0), (1, 0), (1, 0), (1, 0), (1, 0), (1, 0), (1, 0), (1, 0)]
  | 3 => [(1, 0), (0, 0)]
  | 4 => [(2, 14), (2, 1), (0, 0), (0, 0), (0, 0), (1, 0), (0, 0), (0, 0), (0, 0)]
  | 5 => [(2, 13), (0, 0), (0, 0), (0, 0), (0, 0)]
  | 6 => [(2, 13), (2, 0), (2, 1), (2, 15), (2, 16), (2, 17)]
  | 7 => [(0, 0), (1, 0), (0, 0), (0, 0), (0, 0), (0, 0), (0, 0), (0, 0), (0, 0), (0, 0), (4, 0), (1, 0), (1, 0), (1, 0), (0, 0), (0, 0), (1, 0), (1, 0), (1, 0), (1, 0), (1, 0), (1, 0), (1, 0), (1, 0), (0, 0), (0, 0), (0, 0), (0, 0)]
  | _ => []
/-- an array's sort (0 int, 1 byte, 2 boolean, 3 of stocks) and length -/
def atab (ci c : Nat) : Option (Nat × Nat) := match ci, c with
  | 0, 1 => some (3, 10)
  | 1, 4 => some (0, 24) | 1, 5 => some (0, 24) | 1, 6 => some (0, 6) | 1, 7 => some (0, 144)
  | 2, 8 => some (0, 6) | 2, 9 => some (0, 24) | 2, 10 => some (0, 24) | 2, 11 => some (0, 24) | 2, 12 => some (0, 24) | 2, 13 => some (0, 24)
  | 2, 14 => some (0, 41) | 2, 15 => some (0, 41) | 2, 16 => some (0, 41) | 2, 17 => some (0, 41) | 2, 18 => some (0, 41) | 2, 19 => some (0, 41) | 2, 20 => some (0, 144)
  | 3, 1 => some (1, 640) | 4, 6 => some (0, 4)
  | 7, 2 => some (0, 640) | 7, 12 => some (0, 1333) | 7, 13 => some (0, 1333) | 7, 14 => some (0, 13330) | 7, 17 => some (0, 8) | 7, 18 => some (0, 24) | 7, 19 => some (0, 8)
  | 7, 20 => some (0, 192) | 7, 21 => some (0, 24) | 7, 22 => some (0, 8) | 7, 23 => some (0, 24) | 7, 24 => some (2, 192)
  | _, _ => none
def acs (ci : Nat) : List Nat := (List.range 25).filter (fun c => (atab ci c).isSome)
def PL : List (Nat × Nat) := (List.range 19).flatMap (fun o => (o, 0) :: (acs (kd o)).map (fun c => (o, c)))
def fval (g : Nat → Nat → Nat) (M : Mm) (o k : Nat) (d : Nat × Nat) : Value := match d.1 with
  | 0 => .int (M.1 o 0 k)
  | 1 => .ref (g o (k + 1))
  | 2 => .ref (g d.2 0)
  | 3 => .ref (g (M.1 o 0 k).toNatClampNeg 0)
  | _ => .long M.2
def flds (g : Nat → Nat → Nat) (M : Mm) (o ci : Nat) : List Value := (ftab ci).mapIdx (fun k d => fval g M o k d)
def cellE (g : Nat → Nat → Nat) (ca : Nat → ClassId) (M : Mm) (o c : Nat) : va_E := match atab (kd o) c with
  | some q => if q.1 = 3 then .inl (ca 3, q.2, .inr (.inr (.inr (.inr (fun i => some (g (2 + i) 0)))))) else .inl (ca q.1, q.2, .inl (M.1 o c))
  | none => .inr (kd o, flds g M o (kd o))
def Wd (g : Nat → Nat → Nat) (ca : Nat → ClassId) (M : Mm) : va_W := PL.map (fun q => (g q.1 q.2, cellE g ca M q.1 q.2))
abbrev tyl (ca : Nat → ClassId) : List (ClassId × FieldType) := [(ca 0, .int), (ca 1, .byte), (ca 2, .boolean), (ca 3, .object RX2)]
theorem wr_ex (M : Mm) (o c i : Nat) (x : Int32) : ∃ M' : Mm, (∀ o' c' i' : Nat, M'.1 o' c' i' = if o' = o ∧ c' = c ∧ i' = i then x else M.1 o' c' i') ∧ M'.2 = M.2 :=
  ⟨(fun o' c' i' => if o' = o ∧ c' = c ∧ i' = i then x else M.1 o' c' i', M.2), fun _ _ _ => rfl, rfl⟩
/-- one place is written (kept from unfolding: a comparison of two memories must not open it) -/
noncomputable def wr (M : Mm) (o c i : Nat) (x : Int32) : Mm := Classical.choose (wr_ex M o c i x)
theorem wr_at (M : Mm) (o c i : Nat) (x : Int32) (o' c' i' : Nat) : (wr M o c i x).1 o' c' i' = if o' = o ∧ c' = c ∧ i' = i then x else M.1 o' c' i' := (Classical.choose_spec (wr_ex M o c i x)).1 o' c' i'
theorem wr_lg (M : Mm) (o c i : Nat) (x : Int32) : (wr M o c i x).2 = M.2 := (Classical.choose_spec (wr_ex M o c i x)).2
theorem cpr_ex (M : Mm) (o c o2 c2 n : Nat) : ∃ M' : Mm, (∀ o' c' i' : Nat, M'.1 o' c' i' = if o' = o ∧ c' = c ∧ i' < n then M.1 o2 c2 i' else M.1 o' c' i') ∧ M'.2 = M.2 :=
  ⟨(fun o' c' i' => if o' = o ∧ c' = c ∧ i' < n then M.1 o2 c2 i' else M.1 o' c' i', M.2), fun _ _ _ => rfl, rfl⟩
/-- a row's first n places out of another row -/
noncomputable def cpr (M : Mm) (o c o2 c2 n : Nat) : Mm := Classical.choose (cpr_ex M o c o2 c2 n)
theorem cpr_at (M : Mm) (o c o2 c2 n : Nat) (o' c' i' : Nat) : (cpr M o c o2 c2 n).1 o' c' i' = if o' = o ∧ c' = c ∧ i' < n then M.1 o2 c2 i' else M.1 o' c' i' := (Classical.choose_spec (cpr_ex M o c o2 c2 n)).1 o' c' i'
theorem cpr_lg (M : Mm) (o c o2 c2 n : Nat) : (cpr M o c o2 c2 n).2 = M.2 := (Classical.choose_spec (cpr_ex M o c o2 c2 n)).2
theorem wr_ne {M : Mm} {o c i o' c' i' : Nat} {x : Int32} (h : ¬ (o' = o ∧ c' = c ∧ i' = i)) : (wr M o c i x).1 o' c' i' = M.1 o' c' i' := by rw [wr_at, if_neg h]
theorem wr_eq {M : Mm} {o c i : Nat} {x : Int32} : (wr M o c i x).1 o c i = x := by rw [wr_at, if_pos ⟨rfl, rfl, rfl⟩]
theorem cpr_ne {M : Mm} {o c o2 c2 n o' c' i' : Nat} (h : ¬ (o' = o ∧ c' = c ∧ i' < n)) : (cpr M o c o2 c2 n).1 o' c' i' = M.1 o' c' i' := by rw [cpr_at, if_neg h]
theorem cpr_eq {M : Mm} {o c o2 c2 n i' : Nat} (h : i' < n) : (cpr M o c o2 c2 n).1 o c i' = M.1 o2 c2 i' := by rw [cpr_at, if_pos ⟨rfl, rfl, h⟩]
theorem fval_eq {g : Nat → Nat → Nat} {M M' : Mm} {o k : Nat} {d : Nat × Nat} (h : M'.1 o 0 k = M.1 o 0 k) (h2 : M'.2 = M.2) : fval g M' o k d = fval g M o k d := by
  unfold fval
  rw [h, h2]
theorem atab_0 (ci : Nat) : atab ci 0 = none := by
  unfold atab
  split <;> first | rfl | contradiction | omega | (simp_all; done)
theorem kd_lt {o ci : Nat} (h : kd o = ci) (hc : ci < 8) : o < 19 := by
  unfold kd at h
  split at h
  · omega
  · split at h <;> omega
theorem kd_st {o : Nat} (h : o < 12) : kd o = 2 := by unfold kd; rw [if_pos h]
theorem kd_7 {o : Nat} (h : kd o = 7) : o = 18 := by
  unfold kd at h
  split at h
  · omega
  · split at h <;> omega
theorem PL_nd : PL.Nodup := by decide +kernel
theorem PL_at {o c ci : Nat} (hk : kd o = ci) (hci : ci < 8) (h : c = 0 ∨ (atab ci c).isSome = true) : ∃ k : Nat, PL[k]? = some (o, c) := by
  apply List.getElem?_of_mem
  unfold PL
  rw [List.mem_flatMap]
  refine ⟨o, List.mem_range.mpr (kd_lt hk hci), ?_⟩
  rcases h with h | h
  · subst h; exact List.mem_cons_self
  · refine List.mem_cons_of_mem _ (List.mem_map.mpr ⟨c, ?_, rfl⟩)
    unfold acs
    rw [List.mem_filter, hk]
    refine ⟨List.mem_range.mpr ?_, h⟩
    unfold atab at h
    split at h <;> first | omega | (simp at h; done)
theorem PL_in {k o c : Nat} (h : PL[k]? = some (o, c)) : c = 0 ∨ (atab (kd o) c).isSome = true := by
  have h1 := List.mem_of_getElem? h
  unfold PL at h1
  rw [List.mem_flatMap] at h1
  obtain ⟨o1, -, h2⟩ := h1
  rcases List.mem_cons.mp h2 with h3 | h3
  · left; exact (Prod.mk.inj h3).2
  · obtain ⟨c1, h4, h5⟩ := List.mem_map.mp h3
    obtain ⟨rfl, rfl⟩ := Prod.mk.inj h5
    right
    exact (List.mem_filter.mp h4).2
section WDS
variable {g : Nat → Nat → Nat} {ca : Nat → ClassId} {M M' : Mm} {k o c : Nat}
theorem Wd_get (h : PL[k]? = some (o, c)) : (Wd g ca M)[k]? = some (g o c, cellE g ca M o c) := by
  unfold Wd
  rw [List.getElem?_map, h]; rfl
theorem Wd_set (h : PL[k]? = some (o, c)) (hE : ∀ o' c', (c' = 0 ∨ (atab (kd o') c').isSome = true) → ¬ (o' = o ∧ c' = c) → cellE g ca M' o' c' = cellE g ca M o' c') : (Wd g ca M).set k (g o c, cellE g ca M' o c) = Wd g ca M' := by
  apply List.ext_getElem?
  intro i
  by_cases hi : i = k
  · subst hi
    have hl : i < (Wd g ca M).length := by
      unfold Wd; rw [List.length_map]; exact (List.getElem?_eq_some_iff.mp h).1
    rw [List.getElem?_set_self hl, Wd_get h]
  · rw [List.getElem?_set_ne (Ne.symm hi)]
    unfold Wd
    rw [List.getElem?_map, List.getElem?_map]
    cases hq : PL[i]? with
    | none => rfl
    | some q =>
      obtain ⟨o', c'⟩ := q
      show some (g o' c', cellE g ca M o' c') = some (g o' c', cellE g ca M' o' c')
      rw [hE o' c' (PL_in hq)]
      rintro ⟨rfl, rfl⟩
      exact hi ((List.getElem?_inj (List.getElem?_eq_some_iff.mp hq).1 PL_nd).mp (hq.trans h.symm))
theorem flds_get {ci k : Nat} {d : Nat × Nat} (h : (ftab ci)[k]? = some d) : (flds g M o ci)[k]? = some (fval g M o k d) := by
  unfold flds; rw [List.getElem?_mapIdx, h]; rfl
theorem cellE_arr {t n ci : Nat} (hk : kd o = ci) (h : atab ci c = some (t, n)) (ht : t ≠ 3) : cellE g ca M o c = .inl (ca t, n, .inl (M.1 o c)) := by
  unfold cellE; rw [hk, h]; exact if_neg ht
theorem cellE_obj {ci : Nat} (hk : kd o = ci) : cellE g ca M o 0 = .inr (ci, flds g M o ci) := by
  unfold cellE; rw [hk, atab_0]
theorem cellE_wr {o' c' i : Nat} {x : Int32} (h : c' = 0 ∨ (atab (kd o') c').isSome = true) (hn : ¬ (o' = o ∧ c' = c)) : cellE g ca (wr M o c i x) o' c' = cellE g ca M o' c' := by
  unfold cellE
  cases hq : atab (kd o') c' with
  | some q =>
    dsimp only
    split
    · rfl
    · congr 4
      funext i'
      exact wr_ne (fun z => hn ⟨z.1, z.2.1⟩)
  | none =>
    have h0 : c' = 0 := by
      rcases h with h | h
      · exact h
      · rw [hq] at h; exact absurd h (by decide)
    subst h0
    dsimp only
    congr 2
    unfold flds
    congr 1
    funext k d
    exact fval_eq (wr_ne (fun z => hn ⟨z.1, z.2.1⟩)) (wr_lg _ _ _ _ _)
theorem cellE_cpr {o' c' o2 c2 n : Nat} (h : c' = 0 ∨ (atab (kd o') c').isSome = true) (hn : ¬ (o' = o ∧ c' = c)) : cellE g ca (cpr M o c o2 c2 n) o' c' = cellE g ca M o' c' := by
  unfold cellE
  cases hq : atab (kd o') c' with
  | some q =>
    dsimp only
    split
    · rfl
    · congr 4
      funext i'
      exact cpr_ne (fun z => hn ⟨z.1, z.2.1⟩)
  | none =>
    have h0 : c' = 0 := by
      rcases h with h | h
      · exact h
      · rw [hq] at h; exact absurd h (by decide)
    subst h0
    dsimp only
    congr 2
    unfold flds
    congr 1
    funext k d
    exact fval_eq (cpr_ne (fun z => hn ⟨z.1, z.2.1⟩)) (cpr_lg _ _ _ _ _ _)
theorem fval_wr {i k : Nat} {q : Nat × Nat} {x : Int32} (hi : ¬ i = k) : fval g (wr M o 0 k x) o i q = fval g M o i q := fval_eq (wr_ne (fun z => hi z.2.2)) (wr_lg _ _ _ _ _)
theorem flds_wr {ci k : Nat} {d : Nat × Nat} {x : Int32} {v : Value} (h : (ftab ci)[k]? = some d) (hv : fval g (wr M o 0 k x) o k d = v) : flds g (wr M o 0 k x) o ci = (flds g M o ci).set k v := by
  apply List.ext_getElem?
  intro i
  have hl : k < (flds g M o ci).length := by
    unfold flds; rw [List.length_mapIdx]; exact (List.getElem?_eq_some_iff.mp h).1
  by_cases hi : i = k
  · subst hi
    rw [List.getElem?_set_self hl, flds_get h, hv]
  · rw [List.getElem?_set_ne (Ne.symm hi)]
    unfold flds
    rw [List.getElem?_mapIdx, List.getElem?_mapIdx]
    cases hq : (ftab ci)[i]? with
    | none => rfl
    | some q => exact congrArg some (fval_wr hi)
theorem no4 {ci : Nat} (h : ci ≠ 7) : ∀ d ∈ ftab ci, d.1 < 4 := by
  unfold ftab
  split <;> first | decide | exact absurd rfl h | (intro d hd; simp at hd)
theorem cellE_lg {o' c' : Nat} {x : Int64} (hn : ¬ (o' = 18 ∧ c' = 0)) (h : c' = 0 ∨ (atab (kd o') c').isSome = true) : cellE g ca (M.1, x) o' c' = cellE g ca M o' c' := by
  unfold cellE
  cases hq : atab (kd o') c' with
  | some q => rfl
  | none =>
    have h0 : c' = 0 := by
      rcases h with h | h
      · exact h
      · rw [hq] at h; exact absurd h (by decide)
    subst h0
    have h7 : kd o' ≠ 7 := fun z => hn ⟨kd_7 z, rfl⟩
    dsimp only
    congr 2
    unfold flds
    apply List.ext_getElem?
    intro i
    rw [List.getElem?_mapIdx, List.getElem?_mapIdx]
    cases hq : (ftab (kd o'))[i]? with
    | none => rfl
    | some q =>
      have h4 := no4 h7 q (List.mem_of_getElem? hq)
      obtain ⟨q1, q2⟩ := q
      show some (fval g (M.1, x) o' i (q1, q2)) = some (fval g M o' i (q1, q2))
      unfold fval
      match q1, h4 with
      | 0, _ => rfl
      | 1, _ => rfl
      | 2, _ => rfl
      | 3, _ => rfl
      | q1 + 4, h4 => exact absurd h4 (by omega)
end WDS
