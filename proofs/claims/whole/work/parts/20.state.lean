/-! THE STATE, as naturals: a j i. a 0: today, goods, customers, lots, orders, wasted, handed out; a 8 c life; a 9 (4c+g) latest and one more (0: none); a 10 to 13 l: a lot's good, expiry, left, hold; a 14 to 19 o: an order's customer, good, sum, day, state, got; a 21 (64l+o): reserved -/
abbrev Sa : Type := Nat → Nat → Nat
theorem ua_ex (a : Sa) (j i v : Nat) : ∃ a' : Sa, ∀ j' i' : Nat, a' j' i' = if j' = j ∧ i' = i then v else a j' i' := ⟨fun j' i' => if j' = j ∧ i' = i then v else a j' i', fun _ _ => rfl⟩
noncomputable def ua (a : Sa) (j i v : Nat) : Sa := Classical.choose (ua_ex a j i v)
theorem ua_at (a : Sa) (j i v j' i' : Nat) : ua a j i v j' i' = if j' = j ∧ i' = i then v else a j' i' := Classical.choose_spec (ua_ex a j i v) j' i'
theorem ua_eq {a : Sa} {j i v : Nat} : ua a j i v j i = v := by rw [ua_at, if_pos ⟨rfl, rfl⟩]
theorem ua_ne {a : Sa} {j i v j' i' : Nat} (h : ¬ (j' = j ∧ i' = i)) : ua a j i v j' i' = a j' i' := by rw [ua_at, if_neg h]
theorem ua_nj {a : Sa} {j i v j' i' : Nat} (h : j' ≠ j) : ua a j i v j' i' = a j' i' := ua_ne (fun z => h z.1)
theorem ua_ni {a : Sa} {j i v j' i' : Nat} (h : i' ≠ i) : ua a j i v j' i' = a j' i' := ua_ne (fun z => h z.2)
def inr (x : Int32) (N : Nat) : Bool := decide (0 ≤ x.toInt ∧ x.toInt < (N : Int))
theorem inr_of {x : Int32} {N : Nat} (h : inr x N = true) : ∃ j : Nat, j < N ∧ x = nI j := by
  have h1 := of_decide_eq_true h
  refine ⟨x.toInt.toNat, by omega, ?_⟩
  rw [fa_eq]
  have hb := fb_rng x
  rw [nI_toInt (by omega)]
  omega
theorem inr_nI {j N : Nat} (h : j < N) (hN : N < 2147483648) : inr (nI j) N = true := by
  refine decide_eq_true ?_
  rw [nI_toInt (by omega)]
  omega
theorem inr_t {x : Int32} {N : Nat} (hN : N < 2147483648) (h1 : ¬ x < 0) (h2 : ¬ nI N ≤ x) : inr x N = true := by
  refine decide_eq_true ?_
  rw [fa_lt] at h1
  rw [fa_le, nI_toInt hN] at h2
  have e : (0 : Int32).toInt = 0 := rfl
  rw [e] at h1
  omega
theorem inr_f1 {x : Int32} {N : Nat} (h1 : x < 0) : inr x N = false := by
  refine decide_eq_false ?_
  rw [fa_lt] at h1
  have e : (0 : Int32).toInt = 0 := rfl
  rw [e] at h1
  omega
theorem inr_f2 {x : Int32} {N : Nat} (hN : N < 2147483648) (h2 : nI N ≤ x) : inr x N = false := by
  refine decide_eq_false ?_
  rw [fa_le, nI_toInt hN] at h2
  omega
theorem bi_01 (b : Bool) : bi b = 0 ∨ bi b = 1 := by cases b; exact Or.inl rfl; exact Or.inr rfl
theorem upto {B : Nat} {P : Nat → Prop} (h : ∀ k, k ≤ B → (k < B → P (k + 1)) → P k) : ∀ k, k ≤ B → P k := by
  have key : ∀ j k, k + j = B → P k := by
    intro j
    induction j with
    | zero => intro k hk; exact h k (by omega) (fun z => absurd z (by omega))
    | succ j ih => intro k hk; exact h k (by omega) (fun _ => ih (k + 1) (by omega))
  intro k hk
  exact key (B - k) k (by omega)
/-- a stock's block of the memory holds the state, but for what is reserved -/
def RP (B : Nat → Nat → Int32) (a : Sa) : Prop :=
  (∀ k, k < 7 → B 0 k = nI (a 0 k)) ∧ (∀ c, c < a 0 2 → B 8 c = nI (a 8 c)) ∧ (∀ i, i < 24 → B 9 i = nI (a 9 i) - 1) ∧ (∀ j, 10 ≤ j → j < 14 → ∀ l, l < a 0 3 → B j l = nI (a j l)) ∧ (∀ j, 14 ≤ j → j < 20 → ∀ o, o < a 0 4 → B j o = nI (a j o)) ∧ a 0 2 ≤ 6 ∧ a 0 3 ≤ 24 ∧ a 0 4 ≤ 41
section RPS
variable {B : Nat → Nat → Int32} {a : Sa}
theorem RP.sc (h : RP B a) {k : Nat} (hk : k < 7) : B 0 k = nI (a 0 k) := h.1 k hk
theorem RP.life (h : RP B a) {c : Nat} (hc : c < a 0 2) : B 8 c = nI (a 8 c) := h.2.1 c hc
theorem RP.latest (h : RP B a) {i : Nat} (hi : i < 24) : B 9 i = nI (a 9 i) - 1 := h.2.2.1 i hi
theorem RP.lot (h : RP B a) {j : Nat} (h1 : 10 ≤ j) (h2 : j < 14) {l : Nat} (hl : l < a 0 3) : B j l = nI (a j l) := h.2.2.2.1 j h1 h2 l hl
theorem RP.ord (h : RP B a) {j : Nat} (h1 : 14 ≤ j) (h2 : j < 20) {o : Nat} (ho : o < a 0 4) : B j o = nI (a j o) := h.2.2.2.2.1 j h1 h2 o ho
theorem RP.c6 (h : RP B a) : a 0 2 ≤ 6 := h.2.2.2.2.2.1
theorem RP.l24 (h : RP B a) : a 0 3 ≤ 24 := h.2.2.2.2.2.2.1
theorem RP.o41 (h : RP B a) : a 0 4 ≤ 41 := h.2.2.2.2.2.2.2
end RPS
/-- what every state keeps to, but for what is reserved (an order more than told: for the one that is only asked about) -/
def Iv (a : Sa) : Prop :=
  a 0 0 ≤ 900 ∧ 1 ≤ a 0 1 ∧ a 0 1 ≤ 4 ∧ a 0 2 ≤ 6 ∧ a 0 3 ≤ 24 ∧ a 0 4 ≤ 41 ∧ (∀ c, c < a 0 2 → a 8 c ≤ 99) ∧ (∀ i, a 9 i ≤ 1000) ∧
  (∀ l, l < a 0 3 → a 10 l < a 0 1 ∧ a 11 l ≤ 999 ∧ a 12 l ≤ 99 ∧ a 13 l ≤ 999) ∧
  (∀ o, o < a 0 4 → a 14 o < a 0 2 ∧ a 15 o < a 0 1 ∧ 1 ≤ a 16 o ∧ a 16 o ≤ 99 ∧ a 17 o ≤ 999 ∧ a 18 o ≤ 3) ∧
  (∀ o o', o < a 0 4 → o' < a 0 4 → a 18 o = 0 → a 18 o' = 0 → a 14 o = a 14 o' → a 15 o = a 15 o' → o = o')
section IVS
variable {a : Sa}
theorem Iv.today (h : Iv a) : a 0 0 ≤ 900 := h.1
theorem Iv.g1 (h : Iv a) : 1 ≤ a 0 1 := h.2.1
theorem Iv.g4 (h : Iv a) : a 0 1 ≤ 4 := h.2.2.1
theorem Iv.c6 (h : Iv a) : a 0 2 ≤ 6 := h.2.2.2.1
theorem Iv.l24 (h : Iv a) : a 0 3 ≤ 24 := h.2.2.2.2.1
theorem Iv.o41 (h : Iv a) : a 0 4 ≤ 41 := h.2.2.2.2.2.1
theorem Iv.life (h : Iv a) {c : Nat} (hc : c < a 0 2) : a 8 c ≤ 99 := h.2.2.2.2.2.2.1 c hc
theorem Iv.latest (h : Iv a) (i : Nat) : a 9 i ≤ 1000 := h.2.2.2.2.2.2.2.1 i
theorem Iv.lot (h : Iv a) {l : Nat} (hl : l < a 0 3) : a 10 l < a 0 1 ∧ a 11 l ≤ 999 ∧ a 12 l ≤ 99 ∧ a 13 l ≤ 999 := h.2.2.2.2.2.2.2.2.1 l hl
theorem Iv.ord (h : Iv a) {o : Nat} (ho : o < a 0 4) : a 14 o < a 0 2 ∧ a 15 o < a 0 1 ∧ 1 ≤ a 16 o ∧ a 16 o ≤ 99 ∧ a 17 o ≤ 999 ∧ a 18 o ≤ 3 := h.2.2.2.2.2.2.2.2.2.1 o ho
theorem Iv.one (h : Iv a) {o o' : Nat} (ho : o < a 0 4) (ho' : o' < a 0 4) (h1 : a 18 o = 0) (h2 : a 18 o' = 0) (h3 : a 14 o = a 14 o') (h4 : a 15 o = a 15 o') : o = o' := h.2.2.2.2.2.2.2.2.2.2 o o' ho ho' h1 h2 h3 h4
end IVS
/-- whether a lot suits an order -/
def fit (a : Sa) (l o : Nat) : Bool := decide (a 10 l = a 15 o) && decide (a 8 (a 14 o) + a 17 o ≤ a 11 l) && decide (a 9 (a 14 o * 4 + a 15 o) ≤ a 11 l + 1) && decide (a 13 l ≤ a 17 o)
def opn (a : Sa) (x : Int32) : Bool := inr x (a 0 4) && decide (a 18 x.toNatClampNeg = 0)
def ahead (a : Sa) (d : Int32) : Bool := decide ((a 0 0 : Int) ≤ d.toInt ∧ d.toInt ≤ (a 0 0 : Int) + 99)
/-- reserved of a lot for an order -/
def res (a : Sa) (l o : Nat) : Nat := a 21 (64 * l + o)
/-- what is reserved of a lot for a customer's open order for its good -/
def rc (a : Sa) (l c : Nat) : Nat := fb_sm (fun o => if a 14 o = c ∧ a 18 o = 0 ∧ a 15 o = a 10 l then res a l o else 0) (a 0 4)
def RR (B : Nat → Nat → Int32) (a : Sa) : Prop := ∀ l, l < 24 → ∀ c, c < 6 → B 20 (l * 6 + c) = nI (rc a l c)
theorem opn_f1 {a : Sa} {x : Int32} (h : inr x (a 0 4) = false) : opn a x = false := by unfold opn; rw [h]; rfl
theorem opn_nI {a : Sa} {j : Nat} (h : j < a 0 4) (hN : a 0 4 < 2147483648) : opn a (nI j) = decide (a 18 j = 0) := by
  unfold opn; rw [inr_nI h hN, nI_clamp (by omega)]; rfl
theorem opn_of {a : Sa} {x : Int32} (h : opn a x = true) (hN : a 0 4 < 2147483648) : ∃ j : Nat, j < a 0 4 ∧ x = nI j ∧ a 18 j = 0 := by
  unfold opn at h
  rw [Bool.and_eq_true] at h
  obtain ⟨j, hj, rfl⟩ := inr_of h.1
  refine ⟨j, hj, rfl, ?_⟩
  have h2 := of_decide_eq_true h.2
  rw [nI_clamp (by omega)] at h2
  exact h2
theorem ahead_t {a : Sa} {d : Int32} (hb : a 0 0 ≤ 900) (h1 : nI (a 0 0) ≤ d) (h2 : d ≤ nI (a 0 0 + 99)) : ahead a d = true := by
  refine decide_eq_true ?_
  rw [fa_le, nI_toInt (by omega)] at h1 h2
  omega
theorem ahead_f1 {a : Sa} {d : Int32} (hb : a 0 0 ≤ 900) (h1 : ¬ nI (a 0 0) ≤ d) : ahead a d = false := by
  refine decide_eq_false ?_
  rw [fa_le, nI_toInt (by omega)] at h1
  omega
theorem ahead_f2 {a : Sa} {d : Int32} (hb : a 0 0 ≤ 900) (h2 : ¬ d ≤ nI (a 0 0 + 99)) : ahead a d = false := by
  refine decide_eq_false ?_
  rw [fa_le, nI_toInt (by omega)] at h2
  omega
theorem ahead_of {a : Sa} {d : Int32} (h : ahead a d = true) : ∃ j : Nat, a 0 0 ≤ j ∧ j ≤ a 0 0 + 99 ∧ d = nI j := by
  have h1 := of_decide_eq_true h
  refine ⟨d.toInt.toNat, by omega, by omega, ?_⟩
  rw [fa_eq]
  have hb := fb_rng d
  rw [nI_toInt (by omega)]
  omega
theorem nI_sub_le {e d f : Nat} (he : e < 65536) (hd : d < 65536) (hf : f < 65536) : nI f ≤ nI e - nI d ↔ f + d ≤ e := by
  rw [fa_le, pk_sub_toInt (by omega) (by omega), nI_toInt (by omega)]
  omega
theorem nI_m1_le {e f : Nat} (he : e < 65536) (hf : f < 65536) : nI f - 1 ≤ nI e ↔ f ≤ e + 1 := by
  have e1 : (nI f - 1).toInt = (f : Int) - 1 := by
    have := pk_sub_toInt (a := f) (b := 1) (by omega) (by omega)
    exact this
  rw [fa_le, e1, nI_toInt (by omega)]
  omega
theorem fit_t {a : Sa} {p q : Nat} (h1 : a 10 p = a 15 q) (h2 : a 8 (a 14 q) + a 17 q ≤ a 11 p) (h3 : a 9 (a 14 q * 4 + a 15 q) ≤ a 11 p + 1) (h4 : a 13 p ≤ a 17 q) : fit a p q = true := by
  unfold fit; rw [decide_eq_true h1, decide_eq_true h2, decide_eq_true h3, decide_eq_true h4]; rfl
theorem fit_f1 {a : Sa} {p q : Nat} (h1 : a 10 p ≠ a 15 q) : fit a p q = false := by unfold fit; rw [decide_eq_false h1]; rfl
theorem fit_f2 {a : Sa} {p q : Nat} (h2 : ¬ a 8 (a 14 q) + a 17 q ≤ a 11 p) : fit a p q = false := by unfold fit; rw [decide_eq_false h2, Bool.and_false]; rfl
theorem fit_f3 {a : Sa} {p q : Nat} (h3 : ¬ a 9 (a 14 q * 4 + a 15 q) ≤ a 11 p + 1) : fit a p q = false := by unfold fit; rw [decide_eq_false h3, Bool.and_false]; rfl
theorem fit_f4 {a : Sa} {p q : Nat} (h4 : ¬ a 13 p ≤ a 17 q) : fit a p q = false := by unfold fit; rw [decide_eq_false h4, Bool.and_false]
theorem fit_of {a : Sa} {p q : Nat} (h : fit a p q = true) : a 10 p = a 15 q ∧ a 8 (a 14 q) + a 17 q ≤ a 11 p ∧ a 9 (a 14 q * 4 + a 15 q) ≤ a 11 p + 1 ∧ a 13 p ≤ a 17 q := by
  unfold fit at h
  rw [Bool.and_eq_true, Bool.and_eq_true, Bool.and_eq_true] at h
  exact ⟨of_decide_eq_true h.1.1.1, of_decide_eq_true h.1.1.2, of_decide_eq_true h.1.2, of_decide_eq_true h.2⟩
/-- a customer's open order for a good -/
def isOop (a : Sa) (c gd i : Nat) : Prop := a 14 i = c ∧ a 15 i = gd ∧ a 18 i = 0
noncomputable def oop (a : Sa) (c gd : Nat) : Int32 := if fb_ct (fun i => decide (a 14 i = c ∧ a 15 i = gd ∧ a 18 i = 0)) (a 0 4) = 0 then -1 else nI (fa_first (fun i => decide (a 14 i = c ∧ a 15 i = gd ∧ a 18 i = 0)) (a 0 4))
theorem oop_no {a : Sa} {c gd : Nat} (h : ∀ i, i < a 0 4 → ¬ (a 14 i = c ∧ a 15 i = gd ∧ a 18 i = 0)) : oop a c gd = -1 := by
  unfold oop
  rw [if_pos (fb_ct_zero.mpr (fun k hk => decide_eq_false (h k hk)))]
theorem oop_yes {a : Sa} {c gd k : Nat} (hk : k < a 0 4) (h : a 14 k = c ∧ a 15 k = gd ∧ a 18 k = 0) (hf : ∀ i, i < k → ¬ (a 14 i = c ∧ a 15 i = gd ∧ a 18 i = 0)) : oop a c gd = nI k := by
  unfold oop
  rw [if_neg]
  · congr 1
    generalize hp : (fun i => decide (a 14 i = c ∧ a 15 i = gd ∧ a 18 i = 0)) = p
    have h1 : p k = true := by rw [← hp]; exact decide_eq_true h
    have h2 : ∀ i, i < k → p i = false := by intro i hi; rw [← hp]; exact decide_eq_false (hf i hi)
    rcases Nat.lt_trichotomy (fa_first p (a 0 4)) k with z | z | z
    · have := fa_first_yes p (a 0 4) (by omega)
      rw [h2 _ z] at this
      exact absurd this (by decide)
    · exact z
    · rw [fa_first_no p (a 0 4) k z] at h1
      exact absurd h1 (by decide)
  · intro z
    rw [fb_ct_zero] at z
    have := z k hk
    rw [decide_eq_true h] at this
    exact absurd this (by decide)
