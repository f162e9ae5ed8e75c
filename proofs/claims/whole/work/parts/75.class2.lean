/-- the class's stock and its past hold a state and what undo brings back -/
def CS (M : Mm) (S : Sys) : Prop := SK (M.1 0) S.1 ∧ ∃ nx, nx < 10 ∧ M.1 17 0 1 = nI nx ∧ M.1 17 0 2 = nI S.2.1 ∧ S.2.1 ≤ 10 ∧ ∀ k, k < S.2.1 → SK (M.1 (2 + (nx + 10 - S.2.1 + k) % 10)) (S.2.2 k)
def FC (M M1 : Mm) : Prop := (∀ o' c' i', 12 ≤ o' → o' ≠ 16 → o' ≠ 17 → M1.1 o' c' i' = M.1 o' c' i') ∧ M1.2 = M.2
theorem FC.rf {M : Mm} : FC M M := ⟨fun _ _ _ _ _ _ => rfl, rfl⟩
theorem FC.tr {M M1 M2 : Mm} (h : FC M M1) (h2 : FC M1 M2) : FC M M2 := ⟨fun o' c' i' z z1 z2 => (h2.1 o' c' i' z z1 z2).trans (h.1 o' c' i' z z1 z2), h2.2.trans h.2⟩
theorem Fo.fc0 {M M1 : Mm} (h : Fo 0 M M1) : FC M M1 := ⟨fun o' c' i' z z1 z2 => h.1 o' c' i' (by omega), h.2⟩
theorem Fo.fc16 {M M1 : Mm} (h : Fo 16 M M1) : FC M M1 := ⟨fun o' c' i' z z1 z2 => h.1 o' c' i' z1, h.2⟩
theorem F116.fc {M M1 : Mm} (h : F116 M M1) : FC M M1 := ⟨fun o' c' i' z z1 z2 => h.1 o' c' i' (by omega) z1, h.2⟩
theorem CS.sk {M : Mm} {S : Sys} (h : CS M S) : SK (M.1 0) S.1 := h.1
theorem CS.upd {M M1 : Mm} {a b : Sa} {m : Nat} {h : Nat → Sa} (H : CS M (a, m, h)) (e : ∀ o c i, (2 ≤ o ∧ o < 12) ∨ o = 17 → M1.1 o c i = M.1 o c i) (hK : SK (M1.1 0) b) : CS M1 (b, m, h) := by
  obtain ⟨_, nx, h1, h2, h3, h4, h5⟩ := H
  refine ⟨hK, nx, h1, (e 17 0 1 (by omega)).trans h2, (e 17 0 2 (by omega)).trans h3, h4, fun k hk => ?_⟩
  have h6 := h5 k hk
  have e2 : M1.1 (2 + (nx + 10 - m + k) % 10) = M.1 (2 + (nx + 10 - m + k) % 10) := funext (fun c => funext (fun i => e _ c i (by omega)))
  show SK (M1.1 (2 + (nx + 10 - m + k) % 10)) (h k)
  rw [e2]; exact h6
theorem CS.f116 {M M1 : Mm} {a : Sa} {m : Nat} {h : Nat → Sa} (H : CS M (a, m, h)) (hF : F116 M M1) : CS M1 (a, m, h) := H.upd (fun o c i ho => hF.1 o c i (by omega) (by omega)) (hF.sk H.1)
theorem CS_keep {M N : Mm} {a : Sa} {m nx : Nat} {h : Nat → Sa} (H : SK (M.1 0) a) (h10 : nx < 10) (hm : m ≤ 10) (hp : ∀ k, k < m → SK (M.1 (2 + (nx + 10 - m + k) % 10)) (h k)) (hC : CpB M N (2 + nx) 0) (hn : N.1 17 0 1 = nI (if nx + 1 < 10 then nx + 1 else 0)) (hq : N.1 17 0 2 = nI (min (m + 1) 10)) (hF : ∀ o1 c1 i1, o1 ≠ 2 + nx → o1 ≠ 17 → N.1 o1 c1 i1 = M.1 o1 c1 i1) (h2 : N.2 = M.2) : CS N (a, psm m, psh h m a) ∧ FC M N := by
  have e0 : N.1 0 = M.1 0 := funext (fun c => funext (fun i => hF 0 c i (by omega) (by omega)))
  have eo : ∀ o, o ≠ 2 + nx → o ≠ 17 → N.1 o = M.1 o := fun o z1 z2 => funext (fun c => funext (fun i => hF o c i z1 z2))
  have hK : SK (N.1 (2 + nx)) a := hC.sk H
  refine ⟨⟨by show SK (N.1 0) a; rw [e0]; exact H, if nx + 1 < 10 then nx + 1 else 0, by split <;> omega, hn, by rw [hq]; unfold psm; show nI _ = nI (if m = 10 then 10 else m + 1); congr 1; split <;> omega, by show psm m ≤ 10; unfold psm; split <;> omega, fun k hk => ?_⟩, ⟨fun o' c' i' z z1 z2 => hF o' c' i' (by omega) z2, h2⟩⟩
  have hk' : k < psm m := hk
  show SK (N.1 (2 + ((if nx + 1 < 10 then nx + 1 else 0) + 10 - psm m + k) % 10)) (psh h m a k)
  unfold psm at hk' ⊢
  unfold psh
  by_cases e : m = 10
  · rw [if_pos e] at hk' ⊢
    rw [if_pos e]
    by_cases z : k < 9
    · rw [if_pos z]
      have h9 := hp (k + 1) (by omega)
      rw [show ((if nx + 1 < 10 then nx + 1 else 0) + 10 - 10 + k) % 10 = (nx + 10 - m + (k + 1)) % 10 by split <;> omega, eo _ (by omega) (by omega)]
      exact h9
    · rw [if_neg z, show ((if nx + 1 < 10 then nx + 1 else 0) + 10 - 10 + k) % 10 = nx by split <;> omega]
      exact hK
  · rw [if_neg e] at hk' ⊢
    rw [if_neg e]
    by_cases z : k = m
    · rw [if_pos z, show ((if nx + 1 < 10 then nx + 1 else 0) + 10 - (m + 1) + k) % 10 = nx by split <;> omega]
      exact hK
    · rw [if_neg z]
      have h9 := hp k (by omega)
      rw [show ((if nx + 1 < 10 then nx + 1 else 0) + 10 - (m + 1) + k) % 10 = (nx + 10 - m + k) % 10 by split <;> omega, eo _ (by omega) (by omega)]
      exact h9
theorem CS_back {M N : Mm} {a : Sa} {m nx : Nat} {h : Nat → Sa} (h10 : nx < 10) (hm : m + 1 ≤ 10) (hp : ∀ k, k < m + 1 → SK (M.1 (2 + (nx + 10 - (m + 1) + k) % 10)) (h k)) (hC : CpB M N 0 (2 + (if 0 < nx then nx - 1 else 9))) (hn : N.1 17 0 1 = nI (if 0 < nx then nx - 1 else 9)) (hq : N.1 17 0 2 = nI (m + 1 - 1)) (hF : ∀ o1 c1 i1, o1 ≠ 0 → o1 ≠ 17 → N.1 o1 c1 i1 = M.1 o1 c1 i1) (h2 : N.2 = M.2) : CS N (h m, m, h) ∧ FC M N := by
  have eo : ∀ o, o ≠ 0 → o ≠ 17 → N.1 o = M.1 o := fun o z1 z2 => funext (fun c => funext (fun i => hF o c i z1 z2))
  have hK : SK (N.1 0) (h m) := by
    have h9 := hp m (by omega)
    rw [show (nx + 10 - (m + 1) + m) % 10 = (if 0 < nx then nx - 1 else 9) by split <;> omega] at h9
    exact hC.sk h9
  refine ⟨⟨hK, if 0 < nx then nx - 1 else 9, by split <;> omega, hn, hq, by show m ≤ 10; omega, fun k hk => ?_⟩, ⟨fun o' c' i' z z1 z2 => hF o' c' i' (by omega) z2, h2⟩⟩
  have hk' : k < m := hk
  show SK (N.1 (2 + ((if 0 < nx then nx - 1 else 9) + 10 - m + k) % 10)) (h k)
  rw [show ((if 0 < nx then nx - 1 else 9) + 10 - m + k) % 10 = (nx + 10 - (m + 1) + k) % 10 by split <;> omega, eo _ (by omega) (by omega)]
  exact hp k (by omega)
theorem SK_ok {B : Nat → Nat → Int32} {a : Sa} (h : SK B a) : Ok a := h.2.2
theorem SK_mk {B : Nat → Nat → Int32} {a : Sa} (h1 : RP B a) (h2 : RR B a) (h3 : Ok a) : SK B a := ⟨h1, h2, h3⟩
theorem RP_res {B B' : Nat → Nat → Int32} {a a' : Sa} (hS : RP B a) (e : ∀ c i, c < 20 → B' c i = B c i) (ha : ∀ j i, j < 20 → a' j i = a j i) : RP B' a' := RP_of e ha hS
