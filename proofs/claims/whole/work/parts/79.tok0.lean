/-! letters, digits, blanks of a tape; where a token stands -/
def lt_ (b : Nat) : Bool := decide (97 ≤ b ∧ b ≤ 122)
def dg_ (b : Nat) : Bool := decide (48 ≤ b ∧ b ≤ 57)
def bk_ (b : Nat) : Bool := decide (b = 32 ∨ b = 10)
theorem sg_all : ∀ b : Fin 256, isin (sb b.val) (nI 97) (nI 122) = lt_ b.val ∧ isin (sb b.val) (nI 48) (nI 57) = dg_ b.val ∧ (sb b.val = nI 32 ↔ b.val = 32) ∧ (sb b.val = nI 10 ↔ b.val = 10) ∧ (sb b.val = nI 59 ↔ b.val = 59) := by decide +kernel
theorem nb_all : ∀ b : Fin 256, isin (nI b.val) (nI 97) (nI 122) = lt_ b.val ∧ isin (nI b.val) (nI 48) (nI 57) = dg_ b.val := by decide +kernel
theorem sg_lt {b : Nat} (h : b < 256) : isin (sb b) (nI 97) (nI 122) = lt_ b := (sg_all ⟨b, h⟩).1
theorem sg_dg {b : Nat} (h : b < 256) : isin (sb b) (nI 48) (nI 57) = dg_ b := (sg_all ⟨b, h⟩).2.1
theorem sg_32 {b : Nat} (h : b < 256) : sb b = nI 32 ↔ b = 32 := (sg_all ⟨b, h⟩).2.2.1
theorem sg_10 {b : Nat} (h : b < 256) : sb b = nI 10 ↔ b = 10 := (sg_all ⟨b, h⟩).2.2.2.1
theorem sg_59 {b : Nat} (h : b < 256) : sb b = nI 59 ↔ b = 59 := (sg_all ⟨b, h⟩).2.2.2.2
theorem sg_lo {b : Nat} (h : b < 128) : sb b = nI b := fa_byte_small h
theorem nb_lt {b : Nat} (h : b < 256) : isin (nI b) (nI 97) (nI 122) = lt_ b := (nb_all ⟨b, h⟩).1
theorem nb_dg {b : Nat} (h : b < 256) : isin (nI b) (nI 48) (nI 57) = dg_ b := (nb_all ⟨b, h⟩).2
/-- the first place from p on (at most n) at which f fails -/
def scn (f : Nat → Bool) (n p : Nat) : Nat := p + fa_first (fun i => !f (p + i)) (n - p)
theorem scn_le {f : Nat → Bool} {n p : Nat} (h : p ≤ n) : scn f n p ≤ n := by
  have := fa_first_le (fun i => !f (p + i)) (n - p)
  unfold scn
  omega
theorem scn_ge {f : Nat → Bool} {n p : Nat} : p ≤ scn f n p := Nat.le_add_right _ _
theorem scn_in {f : Nat → Bool} {n p i : Nat} (h1 : p ≤ i) (h2 : i < scn f n p) : f i = true := by
  have h := fa_first_no (fun i => !f (p + i)) (n - p) (i - p) (by unfold scn at h2; omega)
  rw [show p + (i - p) = i by omega] at h
  have h' : (!f i) = false := h
  cases hf : f i with
  | true => rfl
  | false => rw [hf] at h'; exact absurd h' (by decide)
theorem scn_eq {f : Nat → Bool} {n p k : Nat} (h1 : p ≤ k) (h2 : k ≤ n) (h3 : ∀ i, p ≤ i → i < k → f i = true) (h4 : k < n → f k = false) : scn f n p = k := by
  unfold scn
  by_cases z : k < n
  · rw [first_eq (p := fun i => !f (p + i)) (k := k - p) (by omega) (by show (!f (p + (k - p))) = true; rw [show p + (k - p) = k by omega, h4 z]; rfl) (fun i hi => by show (!f (p + i)) = false; rw [h3 (p + i) (by omega) (by omega)]; rfl)]
    omega
  · rw [first_no (p := fun i => !f (p + i)) (fun i hi => by show (!f (p + i)) = false; rw [h3 (p + i) (by omega) (by omega)]; rfl)]
    omega
/-- a token's place, the end of a run from a place -/
def tpl (t : Nat → Nat) (n p : Nat) : Nat := scn (fun i => bk_ (t i)) n p
def ren (t : Nat → Nat) (n q : Nat) : Nat := scn (fun i => lt_ (t i) || dg_ (t i)) n q
def allL (t : Nat → Nat) (q e : Nat) : Bool := decide (fb_ct (fun i => lt_ (t (q + i))) (e - q) = e - q)
/-- the word that stands there: 4 goods, 5 customer, 6 lot, 7 order, 1 none of them -/
def wl (k : Nat) : List Nat := if k = 4 then [103, 111, 111, 100, 115] else if k = 5 then [99, 117, 115, 116, 111, 109, 101, 114] else if k = 6 then [108, 111, 116] else [111, 114, 100, 101, 114]
def isw (t : Nat → Nat) (q e k : Nat) : Bool := decide (e - q = (wl k).length) && decide (fb_ct (fun i => decide (t (q + i) = (wl k).getD i 0)) (wl k).length = (wl k).length)
def wkd (t : Nat → Nat) (q e : Nat) : Nat := if isw t q e 4 then 4 else if isw t q e 5 then 5 else if isw t q e 6 then 6 else if isw t q e 7 then 7 else 1
def nDg (t : Nat → Nat) (q e : Nat) : Nat := fb_ct (fun i => dg_ (t (q + i))) (e - q)
def nLt (t : Nat → Nat) (q e : Nat) : Nat := fb_ct (fun i => lt_ (t (q + i))) (e - q)
/-- a token's kind: 0 the end, 1 none, 2 a number, 3 a stop, 4 to 7 a word -/
def tkd (t : Nat → Nat) (n p : Nat) : Nat :=
  if 600 < n ∧ 600 ≤ tpl t n p then 1 else if n ≤ tpl t n p then 0 else if t (tpl t n p) = 59 then 3
  else if nDg t (tpl t n p) (ren t n (tpl t n p)) = 0 then wkd t (tpl t n p) (ren t n (tpl t n p))
  else if nLt t (tpl t n p) (ren t n (tpl t n p)) = 0 ∧ nDg t (tpl t n p) (ren t n (tpl t n p)) ≤ 2 then 2 else 1
def tpc (t : Nat → Nat) (n p : Nat) : Nat := if 600 < n ∧ 600 ≤ tpl t n p then 600 else tpl t n p
def tnx (t : Nat → Nat) (n p : Nat) : Nat := if t (tpl t n p) = 59 then tpl t n p + 1 else ren t n (tpl t n p)
def tvl (t : Nat → Nat) (n p : Nat) : Nat := if ren t n (tpl t n p) - tpl t n p = 1 then t (tpl t n p) - 48 else (t (tpl t n p) - 48) * 10 + (t (tpl t n p + 1) - 48)
