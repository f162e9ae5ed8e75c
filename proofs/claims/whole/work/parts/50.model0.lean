/-! THE REFERENCE: its row of numbers holds the state -/
def RM (N : Nat → Int32) (a : Sa) : Prop := (∀ k, k < 7 → N k = nI (a 0 k)) ∧ (∀ c, c < a 0 2 → N (7 + 5 * c) = nI (a 8 c)) ∧ (∀ c gd, c < 6 → gd < 4 → N (7 + 5 * c + 1 + gd) = nI (a 9 (c * 4 + gd))) ∧ (∀ p j, p < a 0 3 → j < 4 → N (37 + 4 * p + j) = nI (a (10 + j) p)) ∧ (∀ q j, q < a 0 4 → j < 6 → N (133 + 6 * q + j) = nI (a (14 + j) q)) ∧ (∀ p q, p < 24 → q < 40 → N (373 + 40 * p + q) = nI (res a p q)) ∧ a 0 2 ≤ 6 ∧ a 0 3 ≤ 24 ∧ a 0 4 ≤ 40
section RMS
variable {N : Nat → Int32} {a : Sa}
theorem RM.sc (h : RM N a) {k : Nat} (hk : k < 7) : N k = nI (a 0 k) := h.1 k hk
theorem RM.life (h : RM N a) {c : Nat} (hc : c < a 0 2) : N (7 + 5 * c) = nI (a 8 c) := h.2.1 c hc
theorem RM.latest (h : RM N a) {c gd : Nat} (hc : c < 6) (hg : gd < 4) : N (7 + 5 * c + 1 + gd) = nI (a 9 (c * 4 + gd)) := h.2.2.1 c gd hc hg
theorem RM.lot (h : RM N a) {p j j' : Nat} (hp : p < a 0 3) (hj : j < 4) (e : 10 + j = j') : N (37 + 4 * p + j) = nI (a j' p) := by subst e; exact h.2.2.2.1 p j hp hj
theorem RM.ord (h : RM N a) {q j j' : Nat} (hq : q < a 0 4) (hj : j < 6) (e : 14 + j = j') : N (133 + 6 * q + j) = nI (a j' q) := by subst e; exact h.2.2.2.2.1 q j hq hj
theorem RM.res (h : RM N a) {p q : Nat} (hp : p < 24) (hq : q < 40) : N (373 + 40 * p + q) = nI (res a p q) := h.2.2.2.2.2.1 p q hp hq
theorem RM.c6 (h : RM N a) : a 0 2 ≤ 6 := h.2.2.2.2.2.2.1
theorem RM.l24 (h : RM N a) : a 0 3 ≤ 24 := h.2.2.2.2.2.2.2.1
theorem RM.o40 (h : RM N a) : a 0 4 ≤ 40 := h.2.2.2.2.2.2.2.2
end RMS
theorem RM_eq {N N' : Nat → Int32} {a : Sa} (e : ∀ i, i < 1333 → N' i = N i) (h : RM N a) : RM N' a := by
  have b2 := h.c6
  have b3 := h.l24
  have b4 := h.o40
  refine ⟨fun k hk => ?_, fun c hc => ?_, fun c gd hc hg => ?_, fun p j hp hj => ?_, fun q j hq hj => ?_, fun p q hp hq => ?_, h.c6, h.l24, h.o40⟩
  · rw [e _ (by omega)]; exact h.sc hk
  · rw [e _ (by omega)]; exact h.life hc
  · rw [e _ (by omega)]; exact h.latest hc hg
  · rw [e _ (by omega)]; exact h.lot hp hj rfl
  · rw [e _ (by omega)]; exact h.ord hq hj rfl
  · rw [e _ (by omega)]; exact h.res hp hq
theorem RM_w {M : Mm} {a : Sa} {c i : Nat} {x : Int32} (hc : c ≠ 12) (h : RM (M.1 18 12) a) : RM ((wr M 18 c i x).1 18 12) a := RM_eq (fun i _ => wr_ne (by omega)) h
theorem RM_l {M : Mm} {a : Sa} {x : Int64} (h : RM (M.1 18 12) a) : RM (Prod.fst ((M.1, x) : Mm) 18 12) a := h
def isin (v lo hi : Int32) : Bool := decide (lo ≤ v ∧ v ≤ hi)
theorem isin_inr {x : Int32} {N : Nat} (hN : N < 2147483648) : isin x (nI 0) (nI N - 1) = inr x N := by
  unfold isin inr
  have e0 : (nI 0).toInt = 0 := rfl
  have e1 : (nI N - 1).toInt = (N : Int) - 1 := by
    have h1 : (1 : Int32).toInt = 1 := rfl
    have h2 := nI_toInt (n := N) hN
    rw [fb_subI (by rw [h1, h2]; omega) (by rw [h1, h2]; omega), h1, h2]
  rw [decide_eq_decide, fa_le, fa_le, e0, e1]
  omega
theorem isin_ahead {a : Sa} {x : Int32} (h : a 0 0 ≤ 900) : isin x (nI (a 0 0)) (nI (a 0 0 + 99)) = ahead a x := by
  unfold isin ahead
  rw [decide_eq_decide, fa_le, fa_le, nI_toInt (by omega), nI_toInt (by omega)]
  omega
theorem isin_of {x : Int32} {lo hi : Nat} (hlo : lo < 65536) (hhi : hi < 65536) (h : isin x (nI lo) (nI hi) = true) : ∃ j : Nat, lo ≤ j ∧ j ≤ hi ∧ x = nI j := by
  have h1 := of_decide_eq_true h
  rw [fa_le, fa_le, nI_toInt (by omega), nI_toInt (by omega)] at h1
  refine ⟨x.toInt.toNat, by omega, by omega, ?_⟩
  rw [fa_eq]
  have hb := fb_rng x
  rw [nI_toInt (by omega)]
  omega
def isfor (a : Sa) (p c gd d lf : Nat) : Bool := decide (a 10 p = gd) && decide (lf + d ≤ a 11 p) && decide (a 9 (c * 4 + gd) ≤ a 11 p + 1) && decide (a 13 p ≤ d)
theorem isfor_t {a : Sa} {p c gd d lf : Nat} (h1 : a 10 p = gd) (h2 : lf + d ≤ a 11 p) (h3 : a 9 (c * 4 + gd) ≤ a 11 p + 1) (h4 : a 13 p ≤ d) : isfor a p c gd d lf = true := by
  unfold isfor; rw [decide_eq_true h1, decide_eq_true h2, decide_eq_true h3, decide_eq_true h4]; rfl
theorem isfor_f1 {a : Sa} {p c gd d lf : Nat} (h1 : a 10 p ≠ gd) : isfor a p c gd d lf = false := by unfold isfor; rw [decide_eq_false h1]; rfl
theorem isfor_f2 {a : Sa} {p c gd d lf : Nat} (h2 : ¬ lf + d ≤ a 11 p) : isfor a p c gd d lf = false := by unfold isfor; rw [decide_eq_false h2, Bool.and_false]; rfl
theorem isfor_f3 {a : Sa} {p c gd d lf : Nat} (h3 : ¬ a 9 (c * 4 + gd) ≤ a 11 p + 1) : isfor a p c gd d lf = false := by unfold isfor; rw [decide_eq_false h3, Bool.and_false]; rfl
theorem isfor_f4 {a : Sa} {p c gd d lf : Nat} (h4 : ¬ a 13 p ≤ d) : isfor a p c gd d lf = false := by unfold isfor; rw [decide_eq_false h4, Bool.and_false]
theorem isfor_fit {a : Sa} {p q : Nat} : isfor a p (a 14 q) (a 15 q) (a 17 q) (a 8 (a 14 q)) = fit a p q := rfl
