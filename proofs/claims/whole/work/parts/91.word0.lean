/-! words as numbers, the token that the reference holds -/
def wn (u : Nat → Nat) : Nat → Nat
  | 0 => 0
  | m + 1 => 27 * wn u m + (u m - 96)
theorem wn_succ {u : Nat → Nat} {m : Nat} : wn u (m + 1) = 27 * wn u m + (u m - 96) := rfl
theorem wn_inj {u v : Nat → Nat} : ∀ {m L : Nat}, (∀ i, i < m → lt_ (u i) = true) → (∀ i, i < L → lt_ (v i) = true) → wn u m = wn v L → m = L ∧ ∀ i, i < m → u i = v i
  | 0, 0, _, _, _ => ⟨rfl, fun i h => absurd h (Nat.not_lt_zero i)⟩
  | 0, L + 1, _, h2, e => by
    have h3 := of_decide_eq_true (h2 L (by omega))
    rw [wn_succ] at e
    have e0 : wn u 0 = 0 := rfl
    rw [e0] at e
    omega
  | m + 1, 0, h1, _, e => by
    have h3 := of_decide_eq_true (h1 m (by omega))
    rw [wn_succ] at e
    have e0 : wn v 0 = 0 := rfl
    rw [e0] at e
    omega
  | m + 1, L + 1, h1, h2, e => by
    have h3 := of_decide_eq_true (h1 m (by omega))
    have h4 := of_decide_eq_true (h2 L (by omega))
    rw [wn_succ, wn_succ] at e
    obtain ⟨e1, e2⟩ := wn_inj (u := u) (v := v) (m := m) (L := L) (fun i hi => h1 i (by omega)) (fun i hi => h2 i (by omega)) (by omega)
    subst e1
    refine ⟨rfl, fun i hi => ?_⟩
    rcases (show i < m ∨ i = m by omega) with z | rfl
    · exact e2 i z
    · omega
theorem wn_lt {u : Nat → Nat} : ∀ {m : Nat}, (∀ i, i < m → lt_ (u i) = true) → wn u m < 27 ^ m
  | 0, _ => by show 0 < 1; omega
  | m + 1, h => by
    have ih := wn_lt (u := u) (m := m) (fun i hi => h i (by omega))
    have h3 := of_decide_eq_true (h m (by omega))
    rw [wn_succ, Nat.pow_succ]
    omega
def w9 (u : Nat → Nat) (m : Nat) : Nat := wn u (min m 9)
theorem w9_lt {u : Nat → Nat} {m : Nat} (h : ∀ i, i < m → lt_ (u i) = true) : w9 u m < 7625597484987 := by
  have h1 := wn_lt (u := u) (m := min m 9) (fun i hi => h i (by omega))
  have h2 : 27 ^ (min m 9) ≤ 27 ^ 9 := Nat.pow_le_pow_right (by decide) (by omega)
  unfold w9
  have h3 : (27 : Nat) ^ 9 = 7625597484987 := by decide
  omega
theorem w9_inj {u v : Nat → Nat} {m L : Nat} (h1 : ∀ i, i < m → lt_ (u i) = true) (h2 : ∀ i, i < L → lt_ (v i) = true) (hL : L ≤ 8) (e : w9 u m = wn v L) : m = L ∧ ∀ i, i < m → u i = v i := by
  obtain ⟨e1, e2⟩ := wn_inj (m := min m 9) (L := L) (fun i hi => h1 i (by omega)) h2 e
  have e3 : m = L := by omega
  exact ⟨e3, fun i hi => e2 i (by omega)⟩
theorem w9_succ {u : Nat → Nat} {m : Nat} (h : m < 9) : w9 u (m + 1) = 27 * w9 u m + (u m - 96) := by
  unfold w9
  rw [show min (m + 1) 9 = m + 1 by omega, show min m 9 = m by omega, wn_succ]
theorem w9_stay {u : Nat → Nat} {m : Nat} (h : 9 ≤ m) : w9 u (m + 1) = w9 u m := by
  unfold w9
  rw [show min (m + 1) 9 = 9 by omega, show min m 9 = 9 by omega]
theorem l64_all : ∀ b : Fin 256, (nI b.val).toInt64 = Int64.ofNat b.val := by decide +kernel
theorem l64_step {a b : Nat} (hb : b < 256) (h : lt_ b = true) : (27 : Int64) * Int64.ofNat a + (nI b).toInt64 - 96 = Int64.ofNat (27 * a + (b - 96)) := by
  have h3 := of_decide_eq_true h
  have e := l64_all ⟨b, hb⟩
  dsimp only at e
  rw [e, show 27 * a + (b - 96) = 27 * a + b - 96 by omega, Int64.ofNat_sub _ _ (by omega), Int64.ofNat_add, Int64.ofNat_mul]
  rfl
theorem l64_inj {a b : Nat} (ha : a < 2 ^ 63) (hb : b < 2 ^ 63) (e : Int64.ofNat a = Int64.ofNat b) : a = b := by
  have e1 := congrArg Int64.toInt e
  rw [Int64.toInt_ofNat_of_lt ha, Int64.toInt_ofNat_of_lt hb] at e1
  omega
def vw (k i : Nat) : Nat := (wl k).getD i 0
def Wn8 (k : Nat) : Int64 := Int64.ofNat (wn (vw k) (wl k).length)
theorem wl_all : ∀ k : Fin 8, 4 ≤ k.val → (wl k.val).length ≤ 8 ∧ wn (vw k.val) (wl k.val).length < 2 ^ 63 ∧ ∀ i : Fin 8, i.val < (wl k.val).length → lt_ (vw k.val i.val) = true := by decide +kernel
theorem isw_iff {t : Nat → Nat} {q e k : Nat} : isw t q e k = true ↔ e - q = (wl k).length ∧ ∀ i, i < (wl k).length → t (q + i) = vw k i := by
  unfold isw
  rw [Bool.and_eq_true]
  constructor
  · intro ⟨h1, h2⟩
    exact ⟨of_decide_eq_true h1, fun i hi => of_decide_eq_true (fb_ct_all.mp (of_decide_eq_true h2) i hi)⟩
  · intro ⟨h1, h2⟩
    exact ⟨decide_eq_true h1, decide_eq_true (fb_ct_all.mpr (fun i hi => decide_eq_true (h2 i hi)))⟩
theorem wd_iff {t : Nat → Nat} {q e k : Nat} (h4 : 4 ≤ k) (h7 : k ≤ 7) (hl : ∀ i, i < e - q → lt_ (t (q + i)) = true) : Int64.ofNat (w9 (fun i => t (q + i)) (e - q)) = Wn8 k ↔ isw t q e k = true := by
  obtain ⟨k1, k2, k3⟩ := wl_all ⟨k, by omega⟩ h4
  dsimp only at k1 k2 k3
  rw [isw_iff]
  constructor
  · intro h
    have h9 := w9_lt (u := fun i => t (q + i)) hl
    have h1 := l64_inj (by have : (2 : Nat) ^ 63 = 9223372036854775808 := by decide
                           omega) k2 h
    obtain ⟨e1, e2⟩ := w9_inj (u := fun i => t (q + i)) (v := vw k) hl (fun i hi => k3 ⟨i, by omega⟩ hi) k1 h1
    exact ⟨e1, fun i hi => e2 i (by omega)⟩
  · intro ⟨h1, h2⟩
    unfold Wn8 w9
    congr 1
    rw [h1, show min (wl k).length 9 = (wl k).length by omega]
    generalize (wl k).length = L at h2
    clear h1 k1 k2 k3
    induction L with
    | zero => rfl
    | succ L ih => rw [wn_succ, wn_succ, ih (fun i hi => h2 i (by omega)), h2 L (by omega)]
theorem isw_one {t : Nat → Nat} {q e k j : Nat} (hk : 4 ≤ k) (hk7 : k ≤ 7) (hj : 4 ≤ j) (hj7 : j ≤ 7) (h1 : isw t q e k = true) (h2 : isw t q e j = true) : k = j := by
  rw [isw_iff] at h1 h2
  obtain ⟨a1, a2⟩ := h1
  obtain ⟨b1, b2⟩ := h2
  have e0 : vw k 0 = vw j 0 := by
    have l1 : 0 < (wl k).length := by rcases (show k = 4 ∨ k = 5 ∨ k = 6 ∨ k = 7 by omega) with rfl | rfl | rfl | rfl <;> decide
    have l2 : 0 < (wl j).length := by rcases (show j = 4 ∨ j = 5 ∨ j = 6 ∨ j = 7 by omega) with rfl | rfl | rfl | rfl <;> decide
    rw [← a2 0 l1, ← b2 0 l2]
  have key : ∀ x y : Fin 8, 4 ≤ x.val → 4 ≤ y.val → vw x.val 0 = vw y.val 0 → x = y := by decide +kernel
  exact congrArg Fin.val (key ⟨k, by omega⟩ ⟨j, by omega⟩ hk hj e0)
theorem wkd_iff {t : Nat → Nat} {q e k : Nat} (h4 : 4 ≤ k) (h7 : k ≤ 7) : wkd t q e = k ↔ isw t q e k = true := by
  have one := fun {k j : Nat} (hk : 4 ≤ k) (hk7 : k ≤ 7) (hj : 4 ≤ j) (hj7 : j ≤ 7) (h1 : isw t q e k = true) (h2 : isw t q e j = true) => isw_one hk hk7 hj hj7 h1 h2
  unfold wkd
  constructor
  · intro h
    split at h
    · next z => subst h; exact z
    split at h
    · next z => subst h; exact z
    split at h
    · next z => subst h; exact z
    split at h
    · next z => subst h; exact z
    · omega
  · intro h
    split
    · next z => exact one (by omega) (by omega) h4 h7 z h
    split
    · next z => exact one (by omega) (by omega) h4 h7 z h
    split
    · next z => exact one (by omega) (by omega) h4 h7 z h
    split
    · next z => exact one (by omega) (by omega) h4 h7 z h
    · next z1 z2 z3 z4 =>
      rcases (show k = 4 ∨ k = 5 ∨ k = 6 ∨ k = 7 by omega) with rfl | rfl | rfl | rfl
      · exact absurd h z1
      · exact absurd h z2
      · exact absurd h z3
      · exact absurd h z4
theorem wkd_le {t : Nat → Nat} {q e : Nat} : wkd t q e = 1 ∨ (4 ≤ wkd t q e ∧ wkd t q e ≤ 7) := by
  unfold wkd
  repeat' split
  all_goals omega
/-- the tape while it is read -/
def TS (M : Mm) (t : Nat → Nat) (n : Nat) : Prop := M.1 18 0 3 = nI n ∧ ∀ i, i < n → M.1 18 2 i = nI (t i)
def FG (M M1 : Mm) : Prop := ∀ o' c' i', ¬ (o' = 18 ∧ c' = 0 ∧ 4 ≤ i' ∧ i' ≤ 7) → M1.1 o' c' i' = M.1 o' c' i'
theorem FG.rf {M : Mm} : FG M M := fun _ _ _ _ => rfl
theorem FG.tr {M M1 M2 : Mm} (h : FG M M1) (h2 : FG M1 M2) : FG M M2 := fun o' c' i' z => (h2 o' c' i' z).trans (h o' c' i' z)
theorem FG.wr {M : Mm} {i : Nat} {x : Int32} (h : 4 ≤ i ∧ i ≤ 7) : FG M (wr M 18 0 i x) := fun o' c' i' z => wr_ne (by omega)
theorem FG.lg {M : Mm} {x : Int64} : FG M (M.1, x) := fun _ _ _ _ => rfl
theorem FG.ts {M M1 : Mm} {t : Nat → Nat} {n : Nat} (h : FG M M1) (hT : TS M t n) : TS M1 t n := ⟨(h _ _ _ (by omega)).trans hT.1, fun i hi => (h _ _ _ (by omega)).trans (hT.2 i hi)⟩
def HK (M : Mm) (t : Nat → Nat) (n p : Nat) : Prop := M.1 18 0 5 = nI (tpc t n p) ∧ (2 ≤ tkd t n p → M.1 18 0 4 = nI (tnx t n p)) ∧ (tkd t n p = 2 → M.1 18 0 7 = nI (tvl t n p)) ∧ ∃ s, M.1 18 0 6 = nI s ∧ s ≤ 4 ∧ (s = 0 ↔ tkd t n p = 0) ∧ (s = 3 ↔ tkd t n p = 2) ∧ (s = 4 ↔ tkd t n p = 3) ∧ (s = 1 → tkd t n p = 1) ∧ ∀ k, 4 ≤ k → k ≤ 7 → ((s = 2 ∧ M.2 = Wn8 k) ↔ tkd t n p = k)
def ta (t : Nat → Nat) (n i : Nat) : Nat := if i < n then t i else 0
