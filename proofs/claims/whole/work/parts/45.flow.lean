/-! taking by turn and age leaves nothing that a chain of exchanges could better -/
section FLOW
variable {ft : Nat → Nat → Bool} {left want : Nat → Nat} {am tn : Nat}
/-- while order i is served and has t pieces: who has how much of which lot -/
def mus (ft : Nat → Nat → Bool) (left want : Nat → Nat) (i t k j : Nat) : Nat := if j < i then sh ft left want j k else if j = i then ps (fun k => ft k i) (pr ft left want i) t k else 0
/-- what is left of a lot then -/
def spr (ft : Nat → Nat → Bool) (left want : Nat → Nat) (i t k : Nat) : Nat := pr ft left want i k - ps (fun k => ft k i) (pr ft left want i) t k
theorem pr_anti {i k : Nat} : ∀ j, pr ft left want (i + j) k ≤ pr ft left want i k := by
  intro j
  induction j with
  | zero => exact Nat.le_refl _
  | succ j ih => rw [← Nat.add_assoc, pr_succ]; omega
theorem pr_mono {i j k : Nat} (h : i ≤ j) : pr ft left want j k ≤ pr ft left want i k := by
  have := pr_anti (ft := ft) (left := left) (want := want) (i := i) (k := k) (j - i)
  rwa [show i + (j - i) = j by omega] at this
theorem pr_sum {k : Nat} : ∀ i, pr ft left want i k + fb_sm (fun j => sh ft left want j k) i = left k := by
  intro i
  induction i with
  | zero => exact Nat.add_zero _
  | succ i ih =>
    rw [fb_sm_succ, pr_succ]
    have := sh_le_w (ft := ft) (left := left) (want := want) (i := i) (k := k)
    omega
theorem mus_used {i t k : Nat} (hi : i < tn) : fb_sm (mus ft left want i t k) tn + spr ft left want i t k = left k := by
  have h1 : ∀ n, i < n → fb_sm (mus ft left want i t k) n = fb_sm (fun j => sh ft left want j k) i + ps (fun k => ft k i) (pr ft left want i) t k := by
    intro n
    induction n with
    | zero => intro h; omega
    | succ n ih =>
      intro h
      rw [fb_sm_succ]
      by_cases e : i = n
      · subst e
        rw [fb_sm_cong (f := mus ft left want i t k) (g := fun j => sh ft left want j k) (fun j hj => if_pos hj)]
        unfold mus
        rw [if_neg (by omega), if_pos rfl]
      · rw [ih (by omega)]
        unfold mus
        rw [if_neg (by omega), if_neg (by omega)]
        omega
  rw [h1 tn hi]
  have h2 := pr_sum (ft := ft) (left := left) (want := want) (k := k) i
  have h3 := ps_le (fun k => ft k i) (pr ft left want i) t k
  unfold spr
  omega
theorem mus_got {i t : Nat} : ∀ n, fb_sm (fun k => mus ft left want i t k i) n = t - pw (fun k => ft k i) (pr ft left want i) t n := by
  intro n
  rw [← ps_sum]
  apply fb_sm_cong
  intro k hk
  unfold mus
  rw [if_neg (by omega), if_pos rfl]
theorem cum_mono (f : Nat → Bool) (r : Nat → Nat) {k k' : Nat} (h : k ≤ k') : cum f r k ≤ cum f r k' := by
  have := fb_sm_mono (fun k => if f k then r k else 0) k (k' - k)
  rw [show k + (k' - k) = k' by omega] at this
  exact this
/-- who takes of a younger lot has emptied every older one that suits -/
theorem ps_all {f : Nat → Bool} {r : Nat → Nat} {t k k' : Nat} (h : 0 < ps f r t k') (hk : k < k') (hf : f k = true) : ps f r t k = r k := by
  rw [ps_cum] at h
  split at h
  · rw [ps_cum, if_pos hf]
    have h1 := cum_mono f r (k := k + 1) (k' := k') hk
    rw [cum_succ, if_pos hf] at h1
    omega
  · omega
theorem G1 {i t k k' j : Nat} (h : 0 < mus ft left want i t k' j) (hk : k < k') (hf : ft k j = true) : spr ft left want i t k = 0 ∧ ∀ j', j < j' → mus ft left want i t k j' = 0 := by
  unfold mus at h
  split at h
  · rename_i hj
    have h1 : sh ft left want j k = pr ft left want j k := ps_all (f := fun k => ft k j) h hk hf
    have h2 : pr ft left want (j + 1) k = 0 := by rw [pr_succ]; omega
    have h3 : ∀ n, j + 1 ≤ n → pr ft left want n k = 0 := fun n hn => by have := pr_mono (ft := ft) (left := left) (want := want) (k := k) hn; omega
    refine ⟨?_, fun j' hj' => ?_⟩
    · unfold spr; rw [h3 i (by omega)]; omega
    · unfold mus
      split
      · have := sh_le_w (ft := ft) (left := left) (want := want) (i := j') (k := k)
        rw [h3 j' (by omega)] at this
        omega
      · split
        · have := ps_le (fun k => ft k i) (pr ft left want i) t k
          rw [h3 i (by omega)] at this
          omega
        · rfl
  · split at h
    · rename_i h1 h2
      subst h2
      have h3 := ps_all (f := fun k => ft k j) h hk hf
      refine ⟨by unfold spr; omega, fun j' hj' => ?_⟩
      unfold mus
      rw [if_neg (by omega), if_neg (by omega)]
    · omega
/-- a later lot that suits an earlier order, and an older one suiting the later order: then it suits that too -/
def Mono (ft : Nat → Nat → Bool) (am tn : Nat) : Prop := ∀ k k' i j, k ≤ k' → k' < am → i < tn → j ≤ i → ft k i = true → ft k' j = true → ft k' i = true
def Yn (mu : Nat → Nat → Nat) (ft : Nat → Nat → Bool) (sp : Nat → Nat) (am tn : Nat) : Nat → Nat → Prop
  | 0, _ => False
  | n + 1, k => 0 < sp k ∨ ∃ k1 j0, k < k1 ∧ k1 < am ∧ j0 < tn ∧ 0 < mu k j0 ∧ ft k1 j0 = true ∧ Yn mu ft sp am tn n k1
theorem Y_step (hm : Mono ft am tn) {i t : Nat} : ∀ n k k' j, k < am → j < tn → Yn (mus ft left want i t) ft (spr ft left want i t) am tn n k → ft k j = true → 0 < mus ft left want i t k' j → ∃ n', Yn (mus ft left want i t) ft (spr ft left want i t) am tn n' k' := by
  intro n
  induction n with
  | zero => intro k k' j _ _ h; exact absurd h (by intro z; exact z)
  | succ n ih =>
    intro k k' j hk hj hY hf hmu
    rcases Nat.lt_trichotomy k' k with z | z | z
    · exact ⟨n + 2, Or.inr ⟨k, j, z, hk, hj, hmu, hf, hY⟩⟩
    · subst z; exact ⟨n + 1, hY⟩
    · obtain ⟨h1, h2⟩ := G1 hmu z hf
      rcases hY with h | ⟨k1, j0, a1, a2, a3, a4, a5, a6⟩
      · omega
      · have hj0 : j0 ≤ j := by
          rcases Nat.lt_or_ge j j0 with q | q
          · have := h2 j0 q; omega
          · exact q
        exact ih k1 k' j a2 hj a6 (hm k k1 j j0 (by omega) a2 hj hj0 hf a5) hmu
theorem Y_dir (hm : Mono ft am tn) {i t : Nat} (hi : i < tn) (hA : ∀ k, k < am → ft k i = true → spr ft left want i t k = 0) : ∀ n k, k < am → ft k i = true → ¬ Yn (mus ft left want i t) ft (spr ft left want i t) am tn n k := by
  intro n
  induction n with
  | zero => intro k _ _ h; exact h
  | succ n ih =>
    intro k hk hf hY
    rcases hY with h | ⟨k1, j0, a1, a2, a3, a4, a5, a6⟩
    · have := hA k hk hf; omega
    · have hj0 : j0 ≤ i := by
        rcases Nat.lt_or_ge i j0 with q | q
        · unfold mus at a4; rw [if_neg (by omega), if_neg (by omega)] at a4; omega
        · exact q
      exact ih k1 a2 (hm k k1 i j0 (by omega) a2 hi hj0 hf a5) a6
/-- a closed set of lots, all empty, that holds all that suit order i -/
def ClZ (Z : Nat → Prop) (mu : Nat → Nat → Nat) (ft : Nat → Nat → Bool) (sp : Nat → Nat) (am tn i : Nat) : Prop := (∀ k, k < am → ft k i = true → Z k) ∧ (∀ k, k < am → Z k → sp k = 0) ∧ ∀ k0 j k, k0 < am → j < tn → k < am → Z k0 → 0 < mu k0 j → ft k j = true → Z k
theorem gets_Z (hm : Mono ft am tn) {i t : Nat} (hi : i < tn) (hA : ∀ k, k < am → ft k i = true → spr ft left want i t k = 0) : ∃ Z, ClZ Z (mus ft left want i t) ft (spr ft left want i t) am tn i := by
  refine ⟨fun k => ∀ n, ¬ Yn (mus ft left want i t) ft (spr ft left want i t) am tn n k, fun k hk hf n => Y_dir hm hi hA n k hk hf, fun k hk hZ => ?_, fun k0 j k h0 hj hk hZ hmu hf n hY => ?_⟩
  · rcases Nat.eq_zero_or_pos (spr ft left want i t k) with z | z
    · exact z
    · exact absurd (Or.inl z) (hZ 1)
  · obtain ⟨n', h⟩ := Y_step hm n k k0 j hk hj hY hf hmu
    exact hZ n' h
def Xn (k : Nat) (mu : Nat → Nat → Nat) (ft : Nat → Nat → Bool) (am tn : Nat) : Nat → Nat → Prop
  | 0, m => m = k
  | n + 1, m => m = k ∨ ∃ k1 j0, m < k1 ∧ k1 < am ∧ j0 < tn ∧ 0 < mu m j0 ∧ ft k1 j0 = true ∧ Xn k mu ft am tn n k1
theorem Xn_le {k : Nat} {mu : Nat → Nat → Nat} : ∀ n m, Xn k mu ft am tn n m → m ≤ k := by
  intro n
  induction n with
  | zero => intro m h; exact Nat.le_of_eq h
  | succ n ih =>
    intro m h
    rcases h with h | ⟨k1, j0, a1, a2, a3, a4, a5, a6⟩
    · omega
    · have := ih k1 a6; omega
theorem X_step (hm : Mono ft am tn) {i t k : Nat} (hk : k < am) (hs : 0 < spr ft left want i t k) : ∀ n m m' j, j < tn → Xn k (mus ft left want i t) ft am tn n m → ft m j = true → 0 < mus ft left want i t m' j → ∃ n', Xn k (mus ft left want i t) ft am tn n' m' := by
  intro n
  induction n with
  | zero =>
    intro m m' j hj hX hf hmu
    have e : m = k := hX
    subst e
    rcases Nat.lt_trichotomy m' m with z | z | z
    · exact ⟨1, Or.inr ⟨m, j, z, hk, hj, hmu, hf, rfl⟩⟩
    · exact ⟨0, z⟩
    · have := (G1 hmu z hf).1; omega
  | succ n ih =>
    intro m m' j hj hX hf hmu
    have hmle := Xn_le _ _ hX
    rcases Nat.lt_trichotomy m' m with z | z | z
    · exact ⟨n + 2, Or.inr ⟨m, j, z, by omega, hj, hmu, hf, hX⟩⟩
    · subst z; exact ⟨n + 1, hX⟩
    · obtain ⟨h1, h2⟩ := G1 hmu z hf
      rcases hX with h | ⟨k1, j0, a1, a2, a3, a4, a5, a6⟩
      · subst h; omega
      · have hj0 : j0 ≤ j := by
          rcases Nat.lt_or_ge j j0 with q | q
          · have := h2 j0 q; omega
          · exact q
        exact ih k1 m' j hj a6 (hm m k1 j j0 (by omega) a2 hj hj0 hf a5) hmu
/-- a set of lots, none younger than k, closed the other way -/
def ClX (Z : Nat → Prop) (mu : Nat → Nat → Nat) (ft : Nat → Nat → Bool) (am tn k : Nat) : Prop := Z k ∧ (∀ m, Z m → m ≤ k) ∧ ∀ m j m', m < am → j < tn → m' < am → Z m → ft m j = true → 0 < mu m' j → Z m'
theorem uses_Z (hm : Mono ft am tn) {i t k : Nat} (hk : k < am) (hs : 0 < spr ft left want i t k) : ∃ Z, ClX Z (mus ft left want i t) ft am tn k :=
  ⟨fun m => ∃ n, Xn k (mus ft left want i t) ft am tn n m, ⟨0, rfl⟩, fun m ⟨n, h⟩ => Xn_le n m h, fun m j m' _ hj _ ⟨n, h⟩ hf hmu => X_step hm hk hs n m m' j hj h hf hmu⟩
/-- one piece more goes to the first lot that suits and has some left -/
def fst (ft : Nat → Nat → Bool) (left want : Nat → Nat) (am i t : Nat) : Nat := fa_first (fun k => ft k i && decide (0 < spr ft left want i t k)) am
theorem spr_cum {i t k : Nat} (hf : ft k i = true) : 0 < spr ft left want i t k ↔ t < cum (fun k => ft k i) (pr ft left want i) (k + 1) ∧ 0 < pr ft left want i k := by
  unfold spr
  rw [ps_cum, if_pos hf, cum_succ, if_pos hf]
  omega
theorem one_more {i t : Nat} (h : fst ft left want am i t < am) : ∀ k, k < am → ps (fun k => ft k i) (pr ft left want i) (t + 1) k = ps (fun k => ft k i) (pr ft left want i) t k + (if k = fst ft left want am i t then 1 else 0) := by
  have h1 := fa_first_yes _ _ h
  rw [Bool.and_eq_true] at h1
  have hf : ft (fst ft left want am i t) i = true := h1.1
  have hs : 0 < spr ft left want i t (fst ft left want am i t) := of_decide_eq_true h1.2
  have hno : ∀ k, k < fst ft left want am i t → ft k i = true → spr ft left want i t k = 0 := by
    intro k hk hfk
    have h2 : (ft k i && decide (0 < spr ft left want i t k)) = false := fa_first_no _ _ k hk
    rw [hfk, Bool.true_and] at h2
    have := of_decide_eq_false h2
    omega
  generalize fst ft left want am i t = s at *
  have hs2 := (spr_cum hf).mp hs
  -- all that may be had ahead of s is had
  have hlow : ∀ k, k ≤ s → cum (fun k => ft k i) (pr ft left want i) k ≤ t := by
    intro k
    induction k with
    | zero => intro _; exact Nat.zero_le _
    | succ k ih =>
      intro hk
      have h3 := ih (by omega)
      rw [cum_succ]
      split
      · rename_i hfk
        have h4 := hno k (by omega) hfk
        unfold spr at h4
        rw [ps_cum, if_pos hfk] at h4
        omega
      · omega
  intro k hk
  rw [ps_cum, ps_cum]
  by_cases hfk : ft k i = true
  · rw [if_pos hfk, if_pos hfk]
    rcases Nat.lt_trichotomy k s with z | z | z
    · rw [if_neg (by omega)]
      have h5 := hlow (k + 1) (by omega)
      rw [cum_succ, if_pos hfk] at h5
      omega
    · subst z
      rw [if_pos rfl]
      have h5 := hlow k (Nat.le_refl _)
      have h6 := hs2.1
      rw [cum_succ, if_pos hfk] at h6
      omega
    · rw [if_neg (by omega)]
      have h5 := cum_mono (fun k => ft k i) (pr ft left want i) (k := s + 1) (k' := k) (by omega)
      omega
  · rw [if_neg hfk, if_neg hfk]
    have : k ≠ s := fun e => hfk (by rw [e]; exact hf)
    rw [if_neg this]
theorem no_more {i t : Nat} (h : ¬ fst ft left want am i t < am) : ∀ w, t ≤ w → ∀ k, k < am → ps (fun k => ft k i) (pr ft left want i) w k = ps (fun k => ft k i) (pr ft left want i) t k := by
  have hno : ∀ k, k < am → ft k i = true → spr ft left want i t k = 0 := by
    intro k hk hfk
    have h2 : (ft k i && decide (0 < spr ft left want i t k)) = false := fa_first_no _ _ k (Nat.lt_of_lt_of_le hk (Nat.not_lt.mp h))
    rw [hfk, Bool.true_and] at h2
    have := of_decide_eq_false h2
    omega
  intro w hw k hk
  rw [ps_cum, ps_cum]
  split
  · rename_i hfk
    have h4 := hno k hk hfk
    unfold spr at h4
    rw [ps_cum, if_pos hfk] at h4
    omega
  · rfl
theorem mus_full {i k j : Nat} : mus ft left want i (want i) k j = mus ft left want (i + 1) 0 k j := by
  unfold mus
  rcases Nat.lt_trichotomy j i with z | z | z
  · rw [if_pos z, if_pos (by omega)]
  · subst z; rw [if_neg (by omega), if_pos rfl, if_pos (by omega)]; rfl
  · rw [if_neg (by omega), if_neg (by omega), if_neg (by omega)]
    split
    · rw [ps_cum]; split
      · omega
      · rfl
    · rfl
end FLOW
