/-! the reference's rows of orders and lots -/
def FTu (M M1 : Mm) : Prop := (∀ o' c' i', ¬ (o' = 18 ∧ (c' = 17 ∨ (c' = 0 ∧ (i' = 24 ∨ i' = 26)))) → M1.1 o' c' i' = M.1 o' c' i') ∧ M1.2 = M.2
theorem FTu.rf {M : Mm} : FTu M M := ⟨fun _ _ _ _ => rfl, rfl⟩
theorem FTu.tr {M M1 M2 : Mm} (h : FTu M M1) (h2 : FTu M1 M2) : FTu M M2 := ⟨fun o' c' i' z => (h2.1 o' c' i' z).trans (h.1 o' c' i' z), h2.2.trans h.2⟩
theorem FTu.wr {M : Mm} {c i : Nat} {x : Int32} (h : c = 17 ∨ (c = 0 ∧ (i = 24 ∨ i = 26))) : FTu M (wr M 18 c i x) := ⟨fun o' c' i' z => wr_ne (by omega), wr_lg _ _ _ _ _⟩
theorem FTu.rm {M M1 : Mm} (h : FTu M M1) {a : Sa} (hN : RM (M.1 18 12) a) : RM (M1.1 18 12) a := RM_eq (fun i _ => h.1 _ _ _ (by omega)) hN
def FAg (M M1 : Mm) : Prop := (∀ o' c' i', ¬ (o' = 18 ∧ (c' = 18 ∨ (c' = 0 ∧ i' = 25))) → M1.1 o' c' i' = M.1 o' c' i') ∧ M1.2 = M.2
theorem FAg.rf {M : Mm} : FAg M M := ⟨fun _ _ _ _ => rfl, rfl⟩
theorem FAg.tr {M M1 M2 : Mm} (h : FAg M M1) (h2 : FAg M1 M2) : FAg M M2 := ⟨fun o' c' i' z => (h2.1 o' c' i' z).trans (h.1 o' c' i' z), h2.2.trans h.2⟩
theorem FAg.wr {M : Mm} {c i : Nat} {x : Int32} (h : c = 18 ∨ (c = 0 ∧ i = 25)) : FAg M (wr M 18 c i x) := ⟨fun o' c' i' z => wr_ne (by omega), wr_lg _ _ _ _ _⟩
theorem FAg.rm {M M1 : Mm} (h : FAg M M1) {a : Sa} (hN : RM (M.1 18 12) a) : RM (M1.1 18 12) a := RM_eq (fun i _ => h.1 _ _ _ (by omega)) hN
/-- all the planning rows of the reference may have changed -/
def FPn (M M1 : Mm) : Prop := (∀ o' c' i', ¬ (o' = 18 ∧ ((16 ≤ c' ∧ c' ≤ 24) ∨ (c' = 0 ∧ 24 ≤ i' ∧ i' ≤ 27))) → M1.1 o' c' i' = M.1 o' c' i') ∧ M1.2 = M.2
theorem FPn.rf {M : Mm} : FPn M M := ⟨fun _ _ _ _ => rfl, rfl⟩
theorem FPn.tr {M M1 M2 : Mm} (h : FPn M M1) (h2 : FPn M1 M2) : FPn M M2 := ⟨fun o' c' i' z => (h2.1 o' c' i' z).trans (h.1 o' c' i' z), h2.2.trans h.2⟩
theorem FPn.wr {M : Mm} {c i : Nat} {x : Int32} (h : (16 ≤ c ∧ c ≤ 24) ∨ (c = 0 ∧ 24 ≤ i ∧ i ≤ 27)) : FPn M (wr M 18 c i x) := ⟨fun o' c' i' z => wr_ne (by omega), wr_lg _ _ _ _ _⟩
theorem FPn.rm {M M1 : Mm} (h : FPn M M1) {a : Sa} (hN : RM (M.1 18 12) a) : RM (M1.1 18 12) a := RM_eq (fun i _ => h.1 _ _ _ (by omega)) hN
theorem FTu.fp {M M1 : Mm} (h : FTu M M1) : FPn M M1 := ⟨fun o' c' i' z => h.1 o' c' i' (by omega), h.2⟩
theorem FAg.fp {M M1 : Mm} (h : FAg M M1) : FPn M M1 := ⟨fun o' c' i' z => h.1 o' c' i' (by omega), h.2⟩
theorem FPl.fp {M M1 : Mm} (h : FPl M M1) : FPn M M1 := ⟨fun o' c' i' z => h.1 o' c' i' (by omega), h.2⟩
theorem FBs.fn {M M1 : Mm} (h : FBs M M1) : FPn M M1 := h.fp.fp
/-- an insertion among renamed entries is the renamed insertion -/
theorem insF_map {key key' : Nat → Nat} {φ : Nat → Nat} {x : Nat} : ∀ (n : Nat) (f F : Nat → Nat), (∀ i, i < n → f i = φ (F i) ∧ key' (φ (F i)) = key (F i)) → key' (φ x) = key x → ∀ i, i < n + 1 → insF key' (φ x) n f i = φ (insF key x n F i) := by
  intro n
  induction n with
  | zero =>
    intro f F _ _ i hi
    rw [insF_0, insF_0, show i = 0 by omega, uf_eq, uf_eq]
  | succ n ih =>
    intro f F h hx i hi
    have hn := h n (by omega)
    by_cases hk : key x < key (F n)
    · rw [insF_t (f := F) hk, insF_t (f := f) (by rw [hx, hn.1, hn.2]; exact hk)]
      rcases (show i = n + 1 ∨ i < n + 1 by omega) with e | e
      · -- the last place is out of the inner insertion's reach
        subst e
        obtain ⟨p, -, -, -, -, h5, -⟩ := insF_sp key' (φ x) n (uf f (n + 1) (f n))
        obtain ⟨p2, -, -, -, -, h6, -⟩ := insF_sp key x n (uf F (n + 1) (F n))
        rw [h5 _ (by omega), h6 _ (by omega), uf_eq, uf_eq, hn.1]
      · refine ih (uf f (n + 1) (f n)) (uf F (n + 1) (F n)) (fun j hj => ?_) hx i e
        rw [uf_ne (by omega), uf_ne (by omega)]
        exact h j (by omega)
    · rw [insF_f (f := F) (by omega), insF_f (f := f) (by rw [hx, hn.1, hn.2]; omega)]
      by_cases e : i = n + 1
      · subst e; rw [uf_eq, uf_eq]
      · rw [uf_ne e, uf_ne e]; exact (h i (by omega)).1
