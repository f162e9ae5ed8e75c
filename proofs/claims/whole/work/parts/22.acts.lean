/-! the acts on the state, and what they keep -/
theorem RP_ua {B B' : Nat → Nat → Int32} {a : Sa} {j k v : Nat} (hS : RP B a) (hn : ¬ (j = 0 ∧ 2 ≤ k ∧ k < 5)) (h9 : j ≠ 9) (hB : ∀ c i, c < 20 → ¬ (c = j ∧ i = k) → B' c i = B c i) (hv : B' j k = nI v) : RP B' (ua a j k v) := by
  have e : ∀ c i, c < 20 → ¬ (c = j ∧ i = k) → B' c i = B c i := hB
  have key : ∀ c i, c < 20 → B c i = nI (a c i) → B' c i = nI (ua a j k v c i) := by
    intro c i hc h
    by_cases z : c = j ∧ i = k
    · obtain ⟨rfl, rfl⟩ := z
      rw [ua_eq, hv]
    · rw [e c i hc z, ua_ne z, h]
  refine ⟨fun k' hk => key _ _ (by omega) (hS.sc hk), fun c hc => ?_, fun i hi => ?_, fun j' h3 h4 l hl => ?_, fun j' h3 h4 o ho => ?_, ?_, ?_, ?_⟩
  · rw [ua_ne (by omega)] at hc; exact key _ _ (by omega) (hS.life hc)
  · rw [e 9 i (by omega) (by omega), ua_ne (by omega)]; exact hS.latest hi
  · rw [ua_ne (by omega)] at hl; exact key _ _ (by omega) (hS.lot h3 h4 hl)
  · rw [ua_ne (by omega)] at ho; exact key _ _ (by omega) (hS.ord h3 h4 ho)
  · rw [ua_ne (by omega)]; exact hS.c6
  · rw [ua_ne (by omega)]; exact hS.l24
  · rw [ua_ne (by omega)]; exact hS.o41
theorem RP_u9 {B B' : Nat → Nat → Int32} {a : Sa} {k v : Nat} (hS : RP B a) (hB : ∀ c i, c < 20 → ¬ (c = 9 ∧ i = k) → B' c i = B c i) (hv : B' 9 k = nI v - 1) : RP B' (ua a 9 k v) := by
  refine ⟨fun k' hk => ?_, fun c hc => ?_, fun i hi => ?_, fun j' h3 h4 l hl => ?_, fun j' h3 h4 o ho => ?_, ?_, ?_, ?_⟩
  · rw [hB _ _ (by omega) (by omega), ua_ne (by omega)]; exact hS.sc hk
  · rw [ua_ne (by omega)] at hc; rw [hB _ _ (by omega) (by omega), ua_ne (by omega)]; exact hS.life hc
  · by_cases z : i = k
    · subst z; rw [hv, ua_eq]
    · rw [hB _ _ (by omega) (by omega), ua_ne (by omega)]; exact hS.latest hi
  · rw [ua_ne (by omega)] at hl; rw [hB _ _ (by omega) (by omega), ua_ne (by omega)]; exact hS.lot h3 h4 hl
  · rw [ua_ne (by omega)] at ho; rw [hB _ _ (by omega) (by omega), ua_ne (by omega)]; exact hS.ord h3 h4 ho
  · rw [ua_ne (by omega)]; exact hS.c6
  · rw [ua_ne (by omega)]; exact hS.l24
  · rw [ua_ne (by omega)]; exact hS.o41
/-- states that agree in what the table of reservations rests on -/
theorem RR_cg {B B' : Nat → Nat → Int32} {a a' : Sa} (h4 : a' 0 4 = a 0 4) (h : ∀ j i, j = 10 ∨ j = 14 ∨ j = 15 ∨ j = 18 ∨ j = 21 → a' j i = a j i) (hB : ∀ i, i < 144 → B' 20 i = B 20 i) (hR : RR B a) : RR B' a' := by
  intro p hp c hc
  rw [hB _ (by omega), hR p hp c hc]
  unfold rc res
  rw [h4]
  congr 1
  apply fb_sm_cong
  intro i hi
  rw [h 14 i (by omega), h 18 i (by omega), h 15 i (by omega), h 10 p (by omega), h 21 _ (by omega)]
theorem Ir_cg {a a' : Sa} (h3 : a' 0 3 = a 0 3) (h4 : a' 0 4 = a 0 4) (h : ∀ j i, j = 10 ∨ j = 15 ∨ j = 18 ∨ j = 21 → a' j i = a j i) (hr : Ir a) : Ir a' := by
  refine ⟨fun p q hq hne => ?_, by rw [h4]; exact hr.2⟩
  unfold res at hne
  rw [h 21 _ (by omega)] at hne
  rw [h3, h4, h 18 q (by omega), h 15 q (by omega), h 10 p (by omega)]
  exact hr.1 p q hq hne
-- releaseUnfit
def unk (a : Sa) (p k : Nat) : Sa := fun j i => if j = 21 ∧ i / 64 = p ∧ i % 64 < k ∧ fit a p (i % 64) = false then 0 else a j i
theorem unk_lo (a : Sa) (p k : Nat) : ∀ j i, j < 20 → unk a p k j i = a j i := fun j i hj => if_neg (fun z => by omega)
theorem unk_res (a : Sa) {p k l o : Nat} (ho : o < 64) : res (unk a p k) l o = if l = p ∧ o < k ∧ fit a p o = false then 0 else res a l o := by
  unfold res unk
  have e1 : (64 * l + o) % 64 = o := by omega
  have e2 : (64 * l + o) / 64 = l := by omega
  rw [e1, e2]
  by_cases h : l = p ∧ o < k ∧ fit a p o = false
  · rw [if_pos ⟨rfl, h⟩, if_pos h]
  · rw [if_neg (fun z => h z.2), if_neg h]
theorem unk_Ir {a : Sa} {p k : Nat} (h : Ir a) : Ir (unk a p k) := by
  refine ⟨fun l o ho hne => ?_, ?_⟩
  · rw [unk_res a ho] at hne
    rw [unk_lo a p k 0 3 (by omega), unk_lo a p k 0 4 (by omega), unk_lo a p k 18 o (by omega), unk_lo a p k 15 o (by omega), unk_lo a p k 10 l (by omega)]
    split at hne
    · exact absurd rfl hne
    · exact h.1 l o ho hne
  · rw [unk_lo a p k 0 4 (by omega)]; exact h.2
theorem unk_Ib {a : Sa} {p k : Nat} (h : Ib a) : Ib (unk a p k) := by
  intro l o ho
  rw [unk_res a ho]
  split
  · omega
  · exact h l o ho
theorem unk_0 (a : Sa) (p : Nat) : unk a p 0 = a := by funext j i; exact if_neg (fun z => by omega)
theorem unk_ua {a : Sa} {p k : Nat} (hk : k < 64) (hf : fit a p k = false) : ua (unk a p k) 21 (64 * p + k) 0 = unk a p (k + 1) := by
  funext j i
  rw [ua_at]
  unfold unk
  by_cases h : j = 21 ∧ i = 64 * p + k
  · rw [if_pos h, if_pos]
    refine ⟨h.1, by omega, by omega, ?_⟩
    rw [show i % 64 = k by omega]; exact hf
  · rw [if_neg h]
    by_cases h2 : j = 21 ∧ i / 64 = p ∧ i % 64 < k ∧ fit a p (i % 64) = false
    · rw [if_pos h2, if_pos ⟨h2.1, h2.2.1, by omega, h2.2.2.2⟩]
    · rw [if_neg h2, if_neg]
      rintro ⟨h3, h4, h5, h6⟩
      rcases Nat.lt_or_ge (i % 64) k with z | z
      · exact h2 ⟨h3, h4, z, h6⟩
      · exact h ⟨h3, by omega⟩
theorem unk_keep {a : Sa} {p k : Nat} (hf : fit a p k = true) : unk a p (k + 1) = unk a p k := by
  funext j i
  unfold unk
  by_cases h2 : j = 21 ∧ i / 64 = p ∧ i % 64 < k ∧ fit a p (i % 64) = false
  · rw [if_pos h2, if_pos ⟨h2.1, h2.2.1, by omega, h2.2.2.2⟩]
  · rw [if_neg h2, if_neg]
    rintro ⟨h3, h4, h5, h6⟩
    rcases Nat.lt_or_ge (i % 64) k with z | z
    · exact h2 ⟨h3, h4, z, h6⟩
    · rw [show i % 64 = k by omega, hf] at h6
      exact absurd h6 (by decide)
/-- how much of a lot is reserved for orders that it does not suit -/
def unsum (a : Sa) (p : Nat) : Nat → Nat := fb_sm (fun q => if fit a p q then 0 else res a p q)
-- handOut
def hl (a : Sa) (q k : Nat) : Sa := fun j i => if j = 12 ∧ i < k then a 12 i - res a i q else a j i
theorem hl_ne {a : Sa} {q k j i : Nat} (h : ¬ (j = 12 ∧ i < k)) : hl a q k j i = a j i := if_neg h
theorem hl_res {a : Sa} {q k p o : Nat} : res (hl a q k) p o = res a p o := hl_ne (by omega)
theorem hl_0 (a : Sa) (q : Nat) : hl a q 0 = a := by funext j i; exact if_neg (fun z => by omega)
theorem hl_Ir {a : Sa} {q k : Nat} (h : Ir a) : Ir (hl a q k) := Ir_cg (hl_ne (by omega)) (hl_ne (by omega)) (fun j i hj => hl_ne (by omega)) h
theorem hl_Ib {a : Sa} {q k : Nat} (h : Ib a) : Ib (hl a q k) := fun p o ho => by rw [hl_res]; exact h p o ho
theorem hl_Iv {a : Sa} {q k : Nat} (h : Iv a) : Iv (hl a q k) := by
  have e : ∀ j i, j ≠ 12 → hl a q k j i = a j i := fun j i hj => hl_ne (by omega)
  refine ⟨?_, ?_, ?_, ?_, ?_, ?_, fun c hc => ?_, fun i => ?_, fun l hll => ?_, fun o ho => ?_, fun o o' ho ho' h1 h2 h3 h4 => ?_⟩
  · rw [e 0 0 (by omega)]; exact h.today
  · rw [e 0 1 (by omega)]; exact h.g1
  · rw [e 0 1 (by omega)]; exact h.g4
  · rw [e 0 2 (by omega)]; exact h.c6
  · rw [e 0 3 (by omega)]; exact h.l24
  · rw [e 0 4 (by omega)]; exact h.o41
  · rw [e 0 2 (by omega)] at hc; rw [e 8 c (by omega)]; exact h.life hc
  · rw [e 9 i (by omega)]; exact h.latest i
  · rw [e 0 3 (by omega)] at hll; rw [e 10 l (by omega), e 0 1 (by omega), e 11 l (by omega), e 13 l (by omega)]
    have h9 := h.lot hll
    refine ⟨h9.1, h9.2.1, ?_, h9.2.2.2⟩
    unfold hl
    split
    · omega
    · exact h9.2.2.1
  · rw [e 0 4 (by omega)] at ho; rw [e 14 o (by omega), e 0 2 (by omega), e 15 o (by omega), e 0 1 (by omega), e 16 o (by omega), e 17 o (by omega), e 18 o (by omega)]; exact h.ord ho
  · rw [e 0 4 (by omega)] at ho ho'; rw [e 18 _ (by omega)] at h1 h2; rw [e 14 _ (by omega), e 14 _ (by omega)] at h3; rw [e 15 _ (by omega), e 15 _ (by omega)] at h4; exact h.one ho ho' h1 h2 h3 h4
theorem hl_ua {a : Sa} {q k : Nat} : ua (hl a q k) 12 k (a 12 k - res a k q) = hl a q (k + 1) := by
  funext j i
  rw [ua_at]
  unfold hl
  by_cases h : j = 12 ∧ i = k
  · rw [if_pos h, if_pos ⟨h.1, by omega⟩, h.2]
  · rw [if_neg h]
    by_cases h2 : j = 12 ∧ i < k
    · rw [if_pos h2, if_pos ⟨h2.1, by omega⟩]
    · rw [if_neg h2, if_neg (by omega)]
theorem hl_keep {a : Sa} {q k : Nat} (h0 : res a k q = 0) : hl a q (k + 1) = hl a q k := by
  funext j i
  unfold hl
  by_cases h2 : j = 12 ∧ i < k
  · rw [if_pos h2, if_pos ⟨h2.1, by omega⟩]
  · rw [if_neg h2]
    by_cases h3 : j = 12 ∧ i < k + 1
    · rw [if_pos h3, h3.1, show i = k by omega, h0]; omega
    · rw [if_neg h3]
/-- the greatest expiry, and one more, of the first k lots of which something is for the order -/
def ym (a : Sa) (q : Nat) : Nat → Nat
  | 0 => 0
  | k + 1 => if 0 < res a k q then max (ym a q k) (a 11 k + 1) else ym a q k
theorem ym_succ {a : Sa} {q k : Nat} : ym a q (k + 1) = if 0 < res a k q then max (ym a q k) (a 11 k + 1) else ym a q k := rfl
theorem ym_le {a : Sa} (hI : Iv a) {q : Nat} : ∀ k, k ≤ a 0 3 → ym a q k ≤ 1000 := by
  intro k
  induction k with
  | zero => intro _; unfold ym; omega
  | succ k ih =>
    intro hk
    have h1 := ih (by omega)
    have h2 := hI.lot (l := k) (by omega)
    unfold ym
    split
    · omega
    · exact h1
theorem ym_max {y e : Nat} (hy : y ≤ 1000) (he : e ≤ 999) : (if nI y - 1 < nI e then nI e else nI y - 1) = nI (max y (e + 1)) - 1 := by
  have e1 : (nI y - 1).toInt = (y : Int) - 1 := pk_sub_toInt (a := y) (b := 1) (by omega) (by omega)
  have e2 : (nI e).toInt = (e : Int) := nI_toInt (by omega)
  by_cases h : y ≤ e
  · rw [if_pos (by rw [fa_lt, e1, e2]; omega), show max y (e + 1) = e + 1 by omega]
    exact (nI_pred e).symm
  · rw [if_neg (by rw [fa_lt, e1, e2]; omega), show max y (e + 1) = y by omega]
/-- the stock's comp of what is left alone has changed -/
def F12 (o : Nat) (M M1 : Mm) : Prop := (∀ o' c' i', ¬ (o' = o ∧ c' = 12) → M1.1 o' c' i' = M.1 o' c' i') ∧ M1.2 = M.2
theorem F12.rf {o : Nat} {M : Mm} : F12 o M M := ⟨fun _ _ _ _ => rfl, rfl⟩
theorem F12.tr {o : Nat} {M M1 M2 : Mm} (h : F12 o M M1) (h2 : F12 o M1 M2) : F12 o M M2 := ⟨fun o' c' i' z => (h2.1 o' c' i' z).trans (h.1 o' c' i' z), h2.2.trans h.2⟩
theorem F12.wr {o i : Nat} {M : Mm} {x : Int32} : F12 o M (wr M o 12 i x) := ⟨fun o' c' i' z => wr_ne (fun y => z ⟨y.1, y.2.1⟩), wr_lg _ _ _ _ _⟩
theorem F12.fo {o : Nat} {M M1 : Mm} (h : F12 o M M1) : Fo o M M1 := ⟨fun o' c' i' z => h.1 o' c' i' (fun y => z y.1), h.2⟩
/-- all that is reserved for an order -/
def ro (a : Sa) (q : Nat) : Nat := fb_sm (fun p => res a p q) (a 0 3)
noncomputable def hnd (a : Sa) (q : Nat) : Sa := ua (ua (ua (clo (hl a q (a 0 3)) q 1) 19 q (ro a q)) 9 (a 14 q * 4 + a 15 q) (ym a q (a 0 3))) 0 6 (a 0 6 + ro a q)
theorem hnd_at (a : Sa) (q j i : Nat) : hnd a q j i = if j = 0 ∧ i = 6 then a 0 6 + ro a q else if j = 9 ∧ i = a 14 q * 4 + a 15 q then ym a q (a 0 3) else if j = 19 ∧ i = q then ro a q else if j = 18 ∧ i = q then 1 else if j = 21 ∧ i % 64 = q then 0 else if j = 12 ∧ i < a 0 3 then a 12 i - res a i q else a j i := by
  unfold hnd
  rw [ua_at, ua_at, ua_at, clo_at]
  rfl
-- writeOff
/-- a lot is written off, up to the customer k in the table -/
noncomputable def wo (a : Sa) (p : Nat) : Sa := fun j i => if j = 21 ∧ i / 64 = p then 0 else ua (ua a 0 5 (a 0 5 + a 12 p)) 12 p 0 j i
theorem wo_at (a : Sa) (p j i : Nat) : wo a p j i = if j = 21 ∧ i / 64 = p then 0 else if j = 12 ∧ i = p then 0 else if j = 0 ∧ i = 5 then a 0 5 + a 12 p else a j i := by
  unfold wo; rw [ua_at, ua_at]
theorem wo_ne {a : Sa} {p j i : Nat} (h1 : ¬ (j = 21 ∧ i / 64 = p)) (h2 : ¬ (j = 12 ∧ i = p)) (h3 : ¬ (j = 0 ∧ i = 5)) : wo a p j i = a j i := by
  rw [wo_at, if_neg h1, if_neg h2, if_neg h3]
theorem wo_res {a : Sa} {p l o : Nat} (ho : o < 64) : res (wo a p) l o = if l = p then 0 else res a l o := by
  unfold res
  rw [wo_at]
  have e2 : (64 * l + o) / 64 = l := by omega
  rw [e2]
  by_cases h : l = p
  · rw [if_pos ⟨rfl, h⟩, if_pos h]
  · rw [if_neg (fun z => h z.2), if_neg (by omega), if_neg (by omega), if_neg h]
theorem wo_Iv {a : Sa} {p : Nat} (h : Iv a) : Iv (wo a p) := by
  have e : ∀ j i, j < 20 → j ≠ 12 → ¬ (j = 0 ∧ i = 5) → wo a p j i = a j i := fun j i h0 h1 h2 => wo_ne (by omega) (by omega) h2
  refine ⟨?_, ?_, ?_, ?_, ?_, ?_, fun c hc => ?_, fun i => ?_, fun l hl => ?_, fun o ho => ?_, fun o o' ho ho' h1 h2 h3 h4 => ?_⟩
  · rw [e 0 0 (by omega) (by omega) (by omega)]; exact h.today
  · rw [e 0 1 (by omega) (by omega) (by omega)]; exact h.g1
  · rw [e 0 1 (by omega) (by omega) (by omega)]; exact h.g4
  · rw [e 0 2 (by omega) (by omega) (by omega)]; exact h.c6
  · rw [e 0 3 (by omega) (by omega) (by omega)]; exact h.l24
  · rw [e 0 4 (by omega) (by omega) (by omega)]; exact h.o41
  · rw [e 0 2 (by omega) (by omega) (by omega)] at hc; rw [e 8 c (by omega) (by omega) (by omega)]; exact h.life hc
  · rw [e 9 i (by omega) (by omega) (by omega)]; exact h.latest i
  · rw [e 0 3 (by omega) (by omega) (by omega)] at hl; rw [e 10 l (by omega) (by omega) (by omega), e 0 1 (by omega) (by omega) (by omega), e 11 l (by omega) (by omega) (by omega), e 13 l (by omega) (by omega) (by omega)]
    have h9 := h.lot hl
    refine ⟨h9.1, h9.2.1, ?_, h9.2.2.2⟩
    rw [wo_at, if_neg (by omega)]
    split
    · omega
    · rw [if_neg (by omega)]; exact h9.2.2.1
  · rw [e 0 4 (by omega) (by omega) (by omega)] at ho; rw [e 14 o (by omega) (by omega) (by omega), e 0 2 (by omega) (by omega) (by omega), e 15 o (by omega) (by omega) (by omega), e 0 1 (by omega) (by omega) (by omega), e 16 o (by omega) (by omega) (by omega), e 17 o (by omega) (by omega) (by omega), e 18 o (by omega) (by omega) (by omega)]; exact h.ord ho
  · rw [e 0 4 (by omega) (by omega) (by omega)] at ho ho'; rw [e 18 _ (by omega) (by omega) (by omega)] at h1 h2; rw [e 14 _ (by omega) (by omega) (by omega), e 14 _ (by omega) (by omega) (by omega)] at h3; rw [e 15 _ (by omega) (by omega) (by omega), e 15 _ (by omega) (by omega) (by omega)] at h4; exact h.one ho ho' h1 h2 h3 h4
theorem wo_Ir {a : Sa} {p : Nat} (h : Ir a) : Ir (wo a p) := by
  refine ⟨fun l o ho hne => ?_, ?_⟩
  · rw [wo_res ho] at hne
    split at hne
    · exact absurd rfl hne
    · rw [wo_ne (by omega) (by omega) (by omega), wo_ne (by omega) (by omega) (by omega), wo_ne (by omega) (by omega) (by omega), wo_ne (by omega) (by omega) (by omega), wo_ne (by omega) (by omega) (by omega)]
      exact h.1 l o ho hne
  · rw [wo_ne (by omega) (by omega) (by omega)]; exact h.2
theorem wo_Ib {a : Sa} {p : Nat} (h : Ib a) : Ib (wo a p) := by
  intro l o ho
  rw [wo_res ho]
  split
  · omega
  · exact h l o ho
theorem wo_Is {a : Sa} {p : Nat} (h : Is a) (h40 : a 0 4 ≤ 40) : Is (wo a p) := by
  intro l hl
  rw [wo_ne (by omega) (by omega) (by omega)] at hl
  rw [wo_ne (j := 0) (by omega) (by omega) (by omega)]
  by_cases e : l = p
  · subst e
    rw [fb_sm_nil]
    · omega
    · intro i hi
      rw [wo_res (by omega), if_pos rfl]
  · rw [wo_ne (by omega) (by omega) (by omega)]
    refine Nat.le_trans (fb_sm_le (fun k hk => ?_)) (h l hl)
    rw [wo_res (by omega), if_neg e]
    exact Nat.le_refl _
theorem wo_RP {B B' : Nat → Nat → Int32} {a : Sa} {p : Nat} (hS : RP B a) (hB : ∀ c i, c < 20 → ¬ (c = 12 ∧ i = p) → ¬ (c = 0 ∧ i = 5) → B' c i = B c i) (h5 : B' 0 5 = nI (a 0 5 + a 12 p)) (h12 : B' 12 p = nI 0) : RP B' (wo a p) := by
  have key : ∀ c i, c < 20 → B c i = nI (a c i) → B' c i = nI (wo a p c i) := by
    intro c i hc h
    rw [wo_at, if_neg (by omega)]
    by_cases z : c = 12 ∧ i = p
    · obtain ⟨rfl, rfl⟩ := z
      rw [if_pos ⟨rfl, rfl⟩, h12]
    · rw [if_neg z]
      by_cases z2 : c = 0 ∧ i = 5
      · obtain ⟨rfl, rfl⟩ := z2
        rw [if_pos ⟨rfl, rfl⟩, h5]
      · rw [if_neg z2, hB c i hc z z2, h]
  refine ⟨fun k' hk => key _ _ (by omega) (hS.sc hk), fun c hc => ?_, fun i hi => ?_, fun j' h3 h4 l hl => ?_, fun j' h3 h4 o ho => ?_, ?_, ?_, ?_⟩
  · rw [wo_ne (by omega) (by omega) (by omega)] at hc; exact key _ _ (by omega) (hS.life hc)
  · rw [hB 9 i (by omega) (by omega) (by omega), wo_ne (by omega) (by omega) (by omega)]; exact hS.latest hi
  · rw [wo_ne (by omega) (by omega) (by omega)] at hl; exact key _ _ (by omega) (hS.lot h3 h4 hl)
  · rw [wo_ne (by omega) (by omega) (by omega)] at ho; exact key _ _ (by omega) (hS.ord h3 h4 ho)
  · rw [wo_ne (by omega) (by omega) (by omega)]; exact hS.c6
  · rw [wo_ne (by omega) (by omega) (by omega)]; exact hS.l24
  · rw [wo_ne (by omega) (by omega) (by omega)]; exact hS.o41
theorem wo_RR {B B' : Nat → Nat → Int32} {a : Sa} {p : Nat} (h40 : a 0 4 ≤ 40) (hR : RR B a) (h1 : ∀ i, i < 144 → ¬ (p * 6 ≤ i ∧ i < p * 6 + 6) → B' 20 i = B 20 i) (h2 : ∀ c, c < 6 → B' 20 (p * 6 + c) = nI 0) : RR B' (wo a p) := by
  intro l hl c hc
  by_cases e : l = p
  · subst e
    rw [h2 c hc]
    congr 1
    unfold rc
    symm
    apply fb_sm_nil
    intro i hi
    rw [wo_ne (by omega) (by omega) (by omega)] at hi
    rw [wo_res (by omega), if_pos rfl]
    split <;> rfl
  · rw [h1 _ (by omega) (by omega), hR l hl c hc]
    unfold rc
    rw [wo_ne (j := 0) (by omega) (by omega) (by omega)]
    congr 1
    apply fb_sm_cong
    intro i hi
    rw [wo_ne (j := 14) (by omega) (by omega) (by omega), wo_ne (j := 18) (by omega) (by omega) (by omega), wo_ne (j := 15) (by omega) (by omega) (by omega), wo_ne (j := 10) (by omega) (by omega) (by omega), wo_res (by omega), if_neg e]
-- endDay
noncomputable def lps (a : Sa) : Nat → Sa
  | 0 => a
  | k + 1 => if lps a k 18 k = 0 ∧ lps a k 17 k = lps a k 0 0 then clo (lps a k) k 3 else lps a k
noncomputable def wos (a : Sa) : Nat → Sa
  | 0 => a
  | k + 1 => if wos a k 11 k = wos a k 0 0 then wo (wos a k) k else wos a k
noncomputable def edy (a : Sa) : Sa := ua (wos (lps a (a 0 4)) (a 0 3)) 0 0 (a 0 0 + 1)
/-- what holds of a stock's state and its block -/
def SK (B : Nat → Nat → Int32) (a : Sa) : Prop := RP B a ∧ RR B a ∧ Iv a ∧ Ir a ∧ Is a
theorem SK.ib {B : Nat → Nat → Int32} {a : Sa} (h : SK B a) : Ib a := Ib_of h.2.2.1 h.2.2.2.1 h.2.2.2.2
theorem SK_clo {B B' : Nat → Nat → Int32} {a : Sa} {q s : Nat} (h : SK B a) (h0 : 0 < s) (hs : s < 4) (hP : RP B' (clo a q s)) (hR : RR B' (clo a q s)) : SK B' (clo a q s) := ⟨hP, hR, clo_Iv h.2.2.1 h0 hs, clo_Ir h.2.2.2.1, clo_Is h.2.2.2.2 h.2.2.2.1.2⟩
theorem SK_wo {B B' : Nat → Nat → Int32} {a : Sa} {p : Nat} (h : SK B a) (hP : RP B' (wo a p)) (hR : RR B' (wo a p)) : SK B' (wo a p) := ⟨hP, hR, wo_Iv h.2.2.1, wo_Ir h.2.2.2.1, wo_Is h.2.2.2.2 h.2.2.2.1.2⟩
theorem lps_lo (a : Sa) : ∀ k j i, j ≠ 18 → j ≠ 21 → lps a k j i = a j i := by
  intro k
  induction k with
  | zero => intro j i _ _; rfl
  | succ k ih =>
    intro j i h1 h2
    show (if lps a k 18 k = 0 ∧ lps a k 17 k = lps a k 0 0 then clo (lps a k) k 3 else lps a k) j i = _
    split
    · rw [clo_ne (by omega) h2]; exact ih j i h1 h2
    · exact ih j i h1 h2
theorem wos_lo (a : Sa) : ∀ k j i, j ≠ 12 → j ≠ 21 → ¬ (j = 0 ∧ i = 5) → wos a k j i = a j i := by
  intro k
  induction k with
  | zero => intro j i _ _ _; rfl
  | succ k ih =>
    intro j i h1 h2 h3
    show (if wos a k 11 k = wos a k 0 0 then wo (wos a k) k else wos a k) j i = _
    split
    · rw [wo_ne (by omega) (by omega) h3]; exact ih j i h1 h2 h3
    · exact ih j i h1 h2 h3
theorem lps_t {a X : Sa} {k : Nat} (e : X = lps a k) (h1 : X 18 k = 0) (h2 : X 17 k = X 0 0) : lps a (k + 1) = clo X k 3 := by
  subst e; exact if_pos ⟨h1, h2⟩
theorem lps_f {a X : Sa} {k : Nat} (e : X = lps a k) (h : ¬ (X 18 k = 0 ∧ X 17 k = X 0 0)) : lps a (k + 1) = X := by
  subst e; exact if_neg h
theorem wos_t {a X : Sa} {k : Nat} (e : X = wos a k) (h1 : X 11 k = X 0 0) : wos a (k + 1) = wo X k := by
  subst e; exact if_pos h1
theorem wos_f {a X : Sa} {k : Nat} (e : X = wos a k) (h : ¬ (X 11 k = X 0 0)) : wos a (k + 1) = X := by
  subst e; exact if_neg h
theorem SK_today {B B' : Nat → Nat → Int32} {a : Sa} {t : Nat} (h : SK B a) (ht : t ≤ 900) (hB : ∀ c i, ¬ (c = 0 ∧ i = 0) → B' c i = B c i) (hv : B' 0 0 = nI t) : SK B' (ua a 0 0 t) := by
  obtain ⟨hP, hR, hI, hr, hs⟩ := h
  have e : ∀ j i, ¬ (j = 0 ∧ i = 0) → ua a 0 0 t j i = a j i := fun j i h => ua_ne h
  refine ⟨RP_ua hP (by omega) (by omega) (fun c i _ z => hB c i z) hv, RR_cg (e _ _ (by omega)) (fun j i hj => e _ _ (by omega)) (fun i _ => hB _ _ (by omega)) hR, ?_, Ir_cg (e _ _ (by omega)) (e _ _ (by omega)) (fun j i hj => e _ _ (by omega)) hr, ?_⟩
  · refine ⟨by rw [ua_eq]; exact ht, ?_, ?_, ?_, ?_, ?_, fun c hc => ?_, fun i => ?_, fun l hl => ?_, fun o ho => ?_, fun o o' ho ho' h1 h2 h3 h4 => ?_⟩
    · rw [e _ _ (by omega)]; exact hI.g1
    · rw [e _ _ (by omega)]; exact hI.g4
    · rw [e _ _ (by omega)]; exact hI.c6
    · rw [e _ _ (by omega)]; exact hI.l24
    · rw [e _ _ (by omega)]; exact hI.o41
    · rw [e _ _ (by omega)] at hc; rw [e _ _ (by omega)]; exact hI.life hc
    · rw [e _ _ (by omega)]; exact hI.latest i
    · rw [e _ _ (by omega)] at hl; rw [e 10 _ (by omega), e 0 1 (by omega), e 11 _ (by omega), e 12 _ (by omega), e 13 _ (by omega)]; exact hI.lot hl
    · rw [e _ _ (by omega)] at ho; rw [e 14 o (by omega), e 0 2 (by omega), e 15 o (by omega), e 0 1 (by omega), e 16 o (by omega), e 17 o (by omega), e 18 o (by omega)]; exact hI.ord ho
    · rw [e _ _ (by omega)] at ho ho'; rw [e 18 _ (by omega)] at h1 h2; rw [e 14 _ (by omega), e 14 _ (by omega)] at h3; rw [e 15 _ (by omega), e 15 _ (by omega)] at h4; exact hI.one ho ho' h1 h2 h3 h4
  · intro p hp
    rw [e _ _ (by omega)] at hp
    rw [e 0 4 (by omega), e 12 p (by omega)]
    have h9 := hs p hp
    have h8 : fb_sm (res (ua a 0 0 t) p) (a 0 4) = fb_sm (res a p) (a 0 4) := fb_sm_cong (fun k hk => by unfold res; exact e _ _ (by omega))
    rw [h8]; exact h9
