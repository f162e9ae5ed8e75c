/-- the value after so many signs of a run: its first two digits count -/
def vs (t : Nat → Nat) (q : Nat) : Nat → Nat
  | 0 => 0
  | m + 1 => if dg_ (t (q + m)) then (if fb_ct (fun i => dg_ (t (q + i))) m + 1 ≤ 2 then vs t q m * 10 + (t (q + m) - 48) else vs t q m) else vs t q m
theorem vs_succ {t : Nat → Nat} {q m : Nat} : vs t q (m + 1) = if dg_ (t (q + m)) then (if fb_ct (fun i => dg_ (t (q + i))) m + 1 ≤ 2 then vs t q m * 10 + (t (q + m) - 48) else vs t q m) else vs t q m := rfl
def FRn (M M1 : Mm) : Prop := (∀ o' c' i', ¬ (o' = 14 ∧ c' = 0 ∧ (i' = 1 ∨ i' = 2 ∨ i' = 4)) → M1.1 o' c' i' = M.1 o' c' i') ∧ M1.2 = M.2
theorem FRn.rf {M : Mm} : FRn M M := ⟨fun _ _ _ _ => rfl, rfl⟩
theorem FRn.tr {M M1 M2 : Mm} (h : FRn M M1) (h2 : FRn M1 M2) : FRn M M2 := ⟨fun o' c' i' z => (h2.1 o' c' i' z).trans (h.1 o' c' i' z), h2.2.trans h.2⟩
theorem FRn.wr {M : Mm} {i : Nat} {x : Int32} (h : i = 1 ∨ i = 2 ∨ i = 4) : FRn M (wr M 14 0 i x) := ⟨fun o' c' i' z => wr_ne (by omega), wr_lg _ _ _ _ _⟩
theorem FRn.tc {M M1 : Mm} (h : FRn M M1) {t : Nat → Nat} {n : Nat} (hT : TC M t n) : TC M1 t n := ⟨(h.1 _ _ _ (by omega)).trans hT.1, fun i hi => (h.1 _ _ _ (by omega)).trans (hT.2 i hi)⟩
def kdr (t : Nat → Nat) (q e : Nat) : Nat := if nDg t q e = 0 then wkd t q e else if nLt t q e = 0 ∧ nDg t q e ≤ 2 then 2 else 1
theorem lt_dg {b : Nat} (h : lt_ b = true) : dg_ b = false := by
  have := of_decide_eq_true h
  exact decide_eq_false (by omega)
theorem run_len {t : Nat → Nat} {q : Nat} : ∀ {m : Nat}, (∀ j, j < m → (lt_ (t (q + j)) || dg_ (t (q + j))) = true) → fb_ct (fun i => lt_ (t (q + i))) m + fb_ct (fun i => dg_ (t (q + i))) m = m
  | 0, _ => rfl
  | m + 1, h => by
    have ih := run_len (t := t) (q := q) (m := m) (fun j hj => h j (by omega))
    rw [fb_ct_succ, fb_ct_succ]
    have hm := h m (by omega)
    cases h1 : lt_ (t (q + m)) with
    | true => rw [lt_dg h1]; simp only [if_true, Bool.false_eq_true, if_false]; omega
    | false =>
      rw [h1] at hm
      have hm : dg_ (t (q + m)) = true := hm
      rw [hm]; simp only [if_true, Bool.false_eq_true, if_false]; omega
theorem vs_1 {t : Nat → Nat} {q : Nat} (h : dg_ (t q) = true) : vs t q 1 = t q - 48 := by
  rw [vs_succ, if_pos (by exact h), if_pos (by show 0 + 1 ≤ 2; omega)]
  show 0 * 10 + (t (q + 0) - 48) = _
  rw [Nat.add_zero]; omega
theorem vs_2 {t : Nat → Nat} {q : Nat} (h : dg_ (t q) = true) (h2 : dg_ (t (q + 1)) = true) : vs t q 2 = (t q - 48) * 10 + (t (q + 1) - 48) := by
  have e : fb_ct (fun i => dg_ (t (q + i))) 1 = 1 := by
    rw [fb_ct_succ]
    show 0 + (if dg_ (t (q + 0)) = true then 1 else 0) = 1
    rw [Nat.add_zero, if_pos h]
  rw [vs_succ, if_pos h2, e, if_pos (by omega), vs_1 h]
