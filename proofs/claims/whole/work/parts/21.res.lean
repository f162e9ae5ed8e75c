/-! what is reserved: the class's table by lot and customer, the state's by lot and order -/
def Ir (a : Sa) : Prop := (∀ p q, q < 64 → res a p q ≠ 0 → p < a 0 3 ∧ q < a 0 4 ∧ a 18 q = 0 ∧ a 15 q = a 10 p) ∧ a 0 4 ≤ 40
def Is (a : Sa) : Prop := ∀ p, p < a 0 3 → fb_sm (res a p) (a 0 4) ≤ a 12 p
theorem fb_sm_one {f : Nat → Nat} {q : Nat} : ∀ {n : Nat}, q < n → (∀ i, i < n → i ≠ q → f i = 0) → fb_sm f n = f q := by
  intro n
  induction n with
  | zero => intro h; omega
  | succ n ih =>
    intro h h0
    rw [fb_sm_succ]
    by_cases e : q = n
    · subst e
      have : fb_sm f q = 0 := by
        have h1 : fb_sm f q = fb_sm (fun _ => 0) q := fb_sm_cong (fun k hk => h0 k (by omega) (by omega))
        rw [h1, fb_sm_const]; omega
      omega
    · rw [ih (by omega) (fun i hi hne => h0 i (by omega) hne), h0 n (by omega) (by omega)]
      omega
theorem fb_sm_nil {f : Nat → Nat} {n : Nat} (h : ∀ i, i < n → f i = 0) : fb_sm f n = 0 := by
  rw [fb_sm_cong (g := fun _ => 0) h, fb_sm_const]; omega
theorem fb_sm_swap (f : Nat → Nat → Nat) (n : Nat) : ∀ m, fb_sm (fun c => fb_sm (f c) n) m = fb_sm (fun o => fb_sm (fun c => f c o) m) n := by
  intro m
  induction m with
  | zero => exact (fb_sm_nil (fun i hi => rfl)).symm
  | succ m ih =>
    rw [fb_sm_succ, ih, ← fb_sm_add]
    rfl
theorem rc_one {a : Sa} (hI : Iv a) {p q : Nat} (hq : q < a 0 4) (h18 : a 18 q = 0) (h15 : a 15 q = a 10 p) : rc a p (a 14 q) = res a p q := by
  unfold rc
  rw [fb_sm_one hq]
  · rw [if_pos ⟨rfl, h18, h15⟩]
  · intro i hi hne
    rw [if_neg]
    rintro ⟨h1, h2, h3⟩
    exact hne (hI.one hi hq h2 h18 h1 (h3.trans h15.symm))
theorem rc_none {a : Sa} {p c : Nat} (h : ∀ i, i < a 0 4 → ¬ (a 14 i = c ∧ a 18 i = 0 ∧ a 15 i = a 10 p)) : rc a p c = 0 := by
  unfold rc
  exact fb_sm_nil (fun i hi => if_neg (h i hi))
theorem res_0 {a : Sa} (hR : Ir a) {p q : Nat} (hq : q < 64) (h : ¬ (p < a 0 3 ∧ q < a 0 4 ∧ a 18 q = 0 ∧ a 15 q = a 10 p)) : res a p q = 0 := by
  rcases Nat.eq_zero_or_pos (res a p q) with z | z
  · exact z
  · exact absurd (hR.1 p q hq (by omega)) h
theorem rc_sum {a : Sa} (hI : Iv a) (hR : Ir a) (p : Nat) : fb_sm (rc a p) (a 0 2) = fb_sm (res a p) (a 0 4) := by
  unfold rc
  rw [fb_sm_swap (fun c o => if a 14 o = c ∧ a 18 o = 0 ∧ a 15 o = a 10 p then res a p o else 0)]
  apply fb_sm_cong
  intro q hq
  have h40 := hR.2
  by_cases h : a 18 q = 0 ∧ a 15 q = a 10 p
  · rw [fb_sm_one (hI.ord hq).1]
    · rw [if_pos ⟨rfl, h⟩]
    · intro i hi hne
      rw [if_neg]
      rintro ⟨h1, -⟩
      exact hne h1.symm
  · rw [res_0 hR (by omega) (fun z => h z.2.2)]
    apply fb_sm_nil
    intro i hi
    rw [if_neg (fun z => h z.2)]
/-- two states that differ in nothing that the relation reads -/
theorem RP_of {B B' : Nat → Nat → Int32} {a a' : Sa} (hB : ∀ c i, c < 20 → B' c i = B c i) (ha : ∀ j i, j < 20 → a' j i = a j i) (h : RP B a) : RP B' a' := by
  refine ⟨fun k hk => ?_, fun c hc => ?_, fun i hi => ?_, fun j h1 h2 l hl => ?_, fun j h1 h2 o ho => ?_, ?_, ?_, ?_⟩
  · rw [hB 0 k (by omega), ha 0 k (by omega)]; exact h.sc hk
  · rw [ha 0 2 (by omega)] at hc; rw [hB 8 c (by omega), ha 8 c (by omega)]; exact h.life hc
  · rw [hB 9 i (by omega), ha 9 i (by omega)]; exact h.latest hi
  · rw [ha 0 3 (by omega)] at hl; rw [hB j l (by omega), ha j l (by omega)]; exact h.lot h1 h2 hl
  · rw [ha 0 4 (by omega)] at ho; rw [hB j o (by omega), ha j o (by omega)]; exact h.ord h1 h2 ho
  · rw [ha 0 2 (by omega)]; exact h.c6
  · rw [ha 0 3 (by omega)]; exact h.l24
  · rw [ha 0 4 (by omega)]; exact h.o41
theorem Iv_of {a a' : Sa} (ha : ∀ j i, j < 20 → a' j i = a j i) (h : Iv a) : Iv a' := by
  have e : ∀ j i, j < 20 → a' j i = a j i := ha
  refine ⟨?_, ?_, ?_, ?_, ?_, ?_, fun c hc => ?_, fun i => ?_, fun l hl => ?_, fun o ho => ?_, fun o o' ho ho' h1 h2 h3 h4 => ?_⟩
  · rw [e 0 0 (by omega)]; exact h.today
  · rw [e 0 1 (by omega)]; exact h.g1
  · rw [e 0 1 (by omega)]; exact h.g4
  · rw [e 0 2 (by omega)]; exact h.c6
  · rw [e 0 3 (by omega)]; exact h.l24
  · rw [e 0 4 (by omega)]; exact h.o41
  · rw [e 0 2 (by omega)] at hc; rw [e 8 c (by omega)]; exact h.life hc
  · rw [e 9 i (by omega)]; exact h.latest i
  · rw [e 0 3 (by omega)] at hl; rw [e 10 l (by omega), e 0 1 (by omega), e 11 l (by omega), e 12 l (by omega), e 13 l (by omega)]; exact h.lot hl
  · rw [e 0 4 (by omega)] at ho; rw [e 14 o (by omega), e 0 2 (by omega), e 15 o (by omega), e 0 1 (by omega), e 16 o (by omega), e 17 o (by omega), e 18 o (by omega)]; exact h.ord ho
  · rw [e 0 4 (by omega)] at ho ho'; rw [e 18 _ (by omega)] at h1 h2; rw [e 14 _ (by omega), e 14 _ (by omega)] at h3; rw [e 15 _ (by omega), e 15 _ (by omega)] at h4; exact h.one ho ho' h1 h2 h3 h4
theorem rc_of {a a' : Sa} (ha : ∀ j i, j < 20 → a' j i = a j i) {p c : Nat} (hr : ∀ i, i < a 0 4 → a 14 i = c → a 18 i = 0 → a 15 i = a 10 p → res a' p i = res a p i) : rc a' p c = rc a p c := by
  unfold rc
  rw [ha 0 4 (by omega)]
  apply fb_sm_cong
  intro i hi
  rw [ha 14 i (by omega), ha 18 i (by omega), ha 15 i (by omega), ha 10 p (by omega)]
  by_cases h : a 14 i = c ∧ a 18 i = 0 ∧ a 15 i = a 10 p
  · rw [if_pos h, if_pos h, hr i hi h.1 h.2.1 h.2.2]
  · rw [if_neg h, if_neg h]
theorem RR_of {B B' : Nat → Nat → Int32} {a a' : Sa} (hB : ∀ i, i < 144 → B' 20 i = B 20 i) (ha : ∀ j i, j < 20 → a' j i = a j i) (hr : ∀ p q, p < 24 → q < a 0 4 → res a' p q = res a p q) (h : RR B a) : RR B' a' := by
  intro p hp c hc
  rw [hB _ (by omega), h p hp c hc, rc_of ha (fun i hi _ _ _ => hr p i hp hi)]
/-- a cell of the table is set -/
theorem RR_set {B B' : Nat → Nat → Int32} {a : Sa} (hI : Iv a) (hR : Ir a) {p q v : Nat} (hp : p < 24) (hq : q < a 0 4) (h18 : a 18 q = 0) (h15 : a 15 q = a 10 p) (hB : ∀ i, i < 144 → i ≠ p * 6 + a 14 q → B' 20 i = B 20 i) (hv : B' 20 (p * 6 + a 14 q) = nI v) (h : RR B a) : RR B' (ua a 21 (64 * p + q) v) := by
  have ha : ∀ j i, j < 20 → ua a 21 (64 * p + q) v j i = a j i := fun j i hj => ua_nj (by omega)
  have h40 := hR.2
  have hc6 := hI.c6
  have hcq := (hI.ord hq).1
  intro p' hp' c hc
  by_cases e : p' = p ∧ c = a 14 q
  · obtain ⟨rfl, rfl⟩ := e
    rw [hv]
    have h1 : rc (ua a 21 (64 * p' + q) v) p' (a 14 q) = v := by
      have h2 := rc_one (Iv_of ha hI) (p := p') (q := q) (by rw [ha 0 4 (by omega)]; exact hq) (by rw [ha 18 q (by omega)]; exact h18) (by rw [ha 15 q (by omega), ha 10 p' (by omega)]; exact h15)
      rw [ha 14 q (by omega)] at h2
      rw [h2]
      unfold res
      exact ua_eq
    rw [h1]
  · rw [hB _ (by omega) (fun z => e (by omega)), h p' hp' c hc, rc_of ha]
    intro i hi h1 h2 h3
    unfold res
    refine ua_ni (fun z => e ?_)
    have hpp : p' = p := by omega
    subst hpp
    have : i = q := by omega
    subst this
    exact ⟨rfl, h1.symm⟩
/-- only the table of the stock o has changed -/
def F20 (o : Nat) (M M1 : Mm) : Prop := (∀ o' c' i', ¬ (o' = o ∧ c' = 20) → M1.1 o' c' i' = M.1 o' c' i') ∧ M1.2 = M.2
/-- only the object o has changed -/
def Fo (o : Nat) (M M1 : Mm) : Prop := (∀ o' c' i', o' ≠ o → M1.1 o' c' i' = M.1 o' c' i') ∧ M1.2 = M.2
theorem F20.rf {o : Nat} {M : Mm} : F20 o M M := ⟨fun _ _ _ _ => rfl, rfl⟩
theorem F20.tr {o : Nat} {M M1 M2 : Mm} (h : F20 o M M1) (h2 : F20 o M1 M2) : F20 o M M2 := ⟨fun o' c' i' z => (h2.1 o' c' i' z).trans (h.1 o' c' i' z), h2.2.trans h.2⟩
theorem Fo.rf {o : Nat} {M : Mm} : Fo o M M := ⟨fun _ _ _ _ => rfl, rfl⟩
theorem Fo.tr {o : Nat} {M M1 M2 : Mm} (h : Fo o M M1) (h2 : Fo o M1 M2) : Fo o M M2 := ⟨fun o' c' i' z => (h2.1 o' c' i' z).trans (h.1 o' c' i' z), h2.2.trans h.2⟩
theorem F20.fo {o : Nat} {M M1 : Mm} (h : F20 o M M1) : Fo o M M1 := ⟨fun o' c' i' z => h.1 o' c' i' (fun y => z y.1), h.2⟩
theorem F20.wr {o i : Nat} {M : Mm} {x : Int32} : F20 o M (wr M o 20 i x) := ⟨fun o' c' i' z => wr_ne (fun y => z ⟨y.1, y.2.1⟩), wr_lg _ _ _ _ _⟩
theorem Fo.wr {o c i : Nat} {M : Mm} {x : Int32} : Fo o M (wr M o c i x) := ⟨fun o' c' i' z => wr_ne (fun y => z y.1), wr_lg _ _ _ _ _⟩
theorem F20.rp {o : Nat} {M M1 : Mm} (h : F20 o M M1) {a a' : Sa} (ha : ∀ j i, j < 20 → a' j i = a j i) (hS : RP (M.1 o) a) : RP (M1.1 o) a' := RP_of (fun c i hc => h.1 o c i (by omega)) ha hS
/-- an order's reservations, of the first k lots, are gone -/
def frk (a : Sa) (q k : Nat) : Sa := fun j i => if j = 21 ∧ i % 64 = q ∧ i / 64 < k then 0 else a j i
def frees (a : Sa) (q : Nat) : Sa := fun j i => if j = 21 ∧ i % 64 = q then 0 else a j i
theorem frk_lo (a : Sa) (q k : Nat) : ∀ j i, j < 20 → frk a q k j i = a j i := fun j i hj => if_neg (fun z => by omega)
theorem frees_lo (a : Sa) (q : Nat) : ∀ j i, j < 20 → frees a q j i = a j i := fun j i hj => if_neg (fun z => by omega)
theorem frk_res (a : Sa) {q k p o : Nat} (ho : o < 64) : res (frk a q k) p o = if o = q ∧ p < k then 0 else res a p o := by
  unfold res frk
  have e1 : (64 * p + o) % 64 = o := by omega
  have e2 : (64 * p + o) / 64 = p := by omega
  rw [e1, e2]
  by_cases h : o = q ∧ p < k
  · rw [if_pos ⟨rfl, h⟩, if_pos h]
  · rw [if_neg (fun z => h z.2), if_neg h]
theorem frees_res (a : Sa) {q p o : Nat} (ho : o < 64) : res (frees a q) p o = if o = q then 0 else res a p o := by
  unfold res frees
  have e1 : (64 * p + o) % 64 = o := by omega
  rw [e1]
  by_cases h : o = q
  · rw [if_pos ⟨rfl, h⟩, if_pos h]
  · rw [if_neg (fun z => h z.2), if_neg h]
theorem frk_Ir {a : Sa} {q k : Nat} (h : Ir a) : Ir (frk a q k) := by
  refine ⟨fun p o ho hne => ?_, ?_⟩
  · rw [frk_res a ho] at hne
    rw [frk_lo a q k 0 3 (by omega), frk_lo a q k 0 4 (by omega), frk_lo a q k 18 o (by omega), frk_lo a q k 15 o (by omega), frk_lo a q k 10 p (by omega)]
    split at hne
    · exact absurd rfl hne
    · exact h.1 p o ho hne
  · rw [frk_lo a q k 0 4 (by omega)]; exact h.2
theorem frk_0 (a : Sa) (q : Nat) : frk a q 0 = a := by
  funext j i; exact if_neg (fun z => by omega)
theorem frk_ua {a : Sa} {q k : Nat} (hq : q < 64) : ua (frk a q k) 21 (64 * k + q) 0 = frk a q (k + 1) := by
  funext j i
  rw [ua_at]
  unfold frk
  by_cases h : j = 21 ∧ i = 64 * k + q
  · rw [if_pos h, if_pos (by omega)]
  · rw [if_neg h]
    by_cases h2 : j = 21 ∧ i % 64 = q ∧ i / 64 < k
    · rw [if_pos h2, if_pos (by omega)]
    · rw [if_neg h2, if_neg (by omega)]
theorem frk_all {a : Sa} {q : Nat} (hR : Ir a) (hq : q < 64) : frk a q (a 0 3) = frees a q := by
  funext j i
  unfold frk frees
  by_cases h : j = 21 ∧ i % 64 = q
  · rw [if_pos h]
    by_cases h2 : i / 64 < a 0 3
    · rw [if_pos ⟨h.1, h.2, h2⟩]
    · rw [if_neg (fun z => h2 z.2.2)]
      have := res_0 hR (p := i / 64) (q := q) hq (fun z => h2 z.1)
      unfold res at this
      rw [h.1, show i = 64 * (i / 64) + q by omega]
      exact this
  · rw [if_neg (fun z => h ⟨z.1, z.2.1⟩), if_neg h]
theorem release_0 {a : Sa} {p q p' q' : Nat} (h1 : q < 64) (h2 : q' < 64) (h : res a p q = 0) : res (ua a 21 (64 * p + q) 0) p' q' = res a p' q' := by
  unfold res at *
  rw [ua_at]
  by_cases e : 64 * p' + q' = 64 * p + q
  · rw [if_pos ⟨rfl, e⟩, e, h]
  · rw [if_neg (fun z => e z.2)]
def Ib (a : Sa) : Prop := ∀ p q, q < 64 → res a p q ≤ 99
theorem Ib_of {a : Sa} (hI : Iv a) (hr : Ir a) (hs : Is a) : Ib a := by
  intro p q hq
  rcases Nat.eq_zero_or_pos (res a p q) with z | z
  · omega
  · obtain ⟨h1, h2, -⟩ := hr.1 p q hq (by omega)
    have h3 := hs p h1
    have h4 := fb_sm_part (res a p) h2
    have h5 := hI.lot h1
    omega
theorem frk_Ib {a : Sa} {q k : Nat} (h : Ib a) : Ib (frk a q k) := by
  intro p o ho
  rw [frk_res a ho]
  split
  · omega
  · exact h p o ho
theorem frees_Ib {a : Sa} {q : Nat} (h : Ib a) : Ib (frees a q) := by
  intro p o ho
  rw [frees_res a ho]
  split
  · omega
  · exact h p o ho
theorem frees_Ir {a : Sa} {q : Nat} (h : Ir a) : Ir (frees a q) := by
  refine ⟨fun p o ho hne => ?_, ?_⟩
  · rw [frees_res a ho] at hne
    rw [frees_lo a q 0 3 (by omega), frees_lo a q 0 4 (by omega), frees_lo a q 18 o (by omega), frees_lo a q 15 o (by omega), frees_lo a q 10 p (by omega)]
    split at hne
    · exact absurd rfl hne
    · exact h.1 p o ho hne
  · rw [frees_lo a q 0 4 (by omega)]; exact h.2
/-- the order q, of which nothing is reserved, is closed -/
noncomputable def clo (a : Sa) (q s : Nat) : Sa := ua (frees a q) 18 q s
theorem clo_at (a : Sa) (q s j i : Nat) : clo a q s j i = if j = 18 ∧ i = q then s else if j = 21 ∧ i % 64 = q then 0 else a j i := by
  unfold clo; rw [ua_at]; rfl
theorem clo_ne {a : Sa} {q s j i : Nat} (h1 : ¬ (j = 18 ∧ i = q)) (h2 : j ≠ 21) : clo a q s j i = a j i := by
  rw [clo_at, if_neg h1, if_neg (fun z => h2 z.1)]
theorem clo_res {a : Sa} {q s p o : Nat} (ho : o < 64) : res (clo a q s) p o = if o = q then 0 else res a p o := by
  rw [← frees_res a ho]
  unfold res clo
  exact ua_nj (by omega)
theorem clo_RP {B B' : Nat → Nat → Int32} {a : Sa} {q s : Nat} (hS : RP B a) (h1 : ∀ c i, c < 20 → ¬ (c = 18 ∧ i = q) → B' c i = B c i) (h2 : B' 18 q = nI s) : RP B' (clo a q s) := by
  refine ⟨fun k hk => ?_, fun c hc => ?_, fun i hi => ?_, fun j h3 h4 l hl => ?_, fun j h3 h4 o ho => ?_, ?_, ?_, ?_⟩
  · rw [h1 0 k (by omega) (by omega), clo_ne (by omega) (by omega)]; exact hS.sc hk
  · rw [clo_ne (by omega) (by omega)] at hc; rw [h1 8 c (by omega) (by omega), clo_ne (by omega) (by omega)]; exact hS.life hc
  · rw [h1 9 i (by omega) (by omega), clo_ne (by omega) (by omega)]; exact hS.latest hi
  · rw [clo_ne (by omega) (by omega)] at hl; rw [h1 j l (by omega) (by omega), clo_ne (by omega) (by omega)]; exact hS.lot h3 h4 hl
  · rw [clo_ne (by omega) (by omega)] at ho
    by_cases e : j = 18 ∧ o = q
    · obtain ⟨rfl, rfl⟩ := e
      rw [h2, clo_at, if_pos ⟨rfl, rfl⟩]
    · rw [h1 j o (by omega) e, clo_ne e (by omega)]; exact hS.ord h3 h4 ho
  · rw [clo_ne (by omega) (by omega)]; exact hS.c6
  · rw [clo_ne (by omega) (by omega)]; exact hS.l24
  · rw [clo_ne (by omega) (by omega)]; exact hS.o41
theorem clo_RR {B B' : Nat → Nat → Int32} {a : Sa} {q s : Nat} (h40 : a 0 4 ≤ 40) (hR : RR B (frees a q)) (h1 : ∀ i, B' 20 i = B 20 i) : RR B' (clo a q s) := by
  intro p hp c hc
  rw [h1, hR p hp c hc]
  unfold rc
  rw [clo_ne (j := 0) (i := 4) (by omega) (by omega), frees_lo a q 0 4 (by omega)]
  congr 1
  apply fb_sm_cong
  intro i hi
  rw [clo_ne (j := 14) (by omega) (by omega), clo_ne (j := 15) (by omega) (by omega), clo_ne (j := 10) (by omega) (by omega), clo_res (by omega), frees_lo a q 14 i (by omega), frees_lo a q 15 i (by omega), frees_lo a q 10 p (by omega), frees_lo a q 18 i (by omega), frees_res a (by omega)]
  by_cases e : i = q
  · subst e
    simp
  · rw [clo_ne (by omega) (by omega)]
theorem clo_Iv {a : Sa} {q s : Nat} (h : Iv a) (h0 : 0 < s) (hs : s < 4) : Iv (clo a q s) := by
  have e : ∀ j i, j < 20 → j ≠ 18 → clo a q s j i = a j i := fun j i h1 h2 => clo_ne (by omega) (by omega)
  have e18 : ∀ i, clo a q s 18 i = 0 → a 18 i = 0 ∧ i ≠ q := by
    intro i hi
    rw [clo_at] at hi
    split at hi
    · omega
    · rw [if_neg (by omega)] at hi
      refine ⟨hi, fun z => ?_⟩
      rename_i h9
      exact h9 ⟨rfl, z⟩
  refine ⟨?_, ?_, ?_, ?_, ?_, ?_, fun c hc => ?_, fun i => ?_, fun l hl => ?_, fun o ho => ?_, fun o o' ho ho' h1 h2 h3 h4 => ?_⟩
  · rw [e 0 0 (by omega) (by omega)]; exact h.today
  · rw [e 0 1 (by omega) (by omega)]; exact h.g1
  · rw [e 0 1 (by omega) (by omega)]; exact h.g4
  · rw [e 0 2 (by omega) (by omega)]; exact h.c6
  · rw [e 0 3 (by omega) (by omega)]; exact h.l24
  · rw [e 0 4 (by omega) (by omega)]; exact h.o41
  · rw [e 0 2 (by omega) (by omega)] at hc; rw [e 8 c (by omega) (by omega)]; exact h.life hc
  · rw [e 9 i (by omega) (by omega)]; exact h.latest i
  · rw [e 0 3 (by omega) (by omega)] at hl; rw [e 10 l (by omega) (by omega), e 0 1 (by omega) (by omega), e 11 l (by omega) (by omega), e 12 l (by omega) (by omega), e 13 l (by omega) (by omega)]; exact h.lot hl
  · rw [e 0 4 (by omega) (by omega)] at ho
    rw [e 14 o (by omega) (by omega), e 0 2 (by omega) (by omega), e 15 o (by omega) (by omega), e 0 1 (by omega) (by omega), e 16 o (by omega) (by omega), e 17 o (by omega) (by omega)]
    have h9 := h.ord ho
    refine ⟨h9.1, h9.2.1, h9.2.2.1, h9.2.2.2.1, h9.2.2.2.2.1, ?_⟩
    rw [clo_at]
    split
    · omega
    · rw [if_neg (by omega)]; exact h9.2.2.2.2.2
  · rw [e 0 4 (by omega) (by omega)] at ho ho'
    rw [e 14 _ (by omega) (by omega), e 14 _ (by omega) (by omega)] at h3
    rw [e 15 _ (by omega) (by omega), e 15 _ (by omega) (by omega)] at h4
    exact h.one ho ho' (e18 _ h1).1 (e18 _ h2).1 h3 h4
theorem clo_Ir {a : Sa} {q s : Nat} (h : Ir a) : Ir (clo a q s) := by
  refine ⟨fun p o ho hne => ?_, ?_⟩
  · rw [clo_res ho] at hne
    by_cases e : o = q
    · rw [if_pos e] at hne; exact absurd rfl hne
    · rw [if_neg e] at hne
      rw [clo_ne (by omega) (by omega), clo_ne (by omega) (by omega), clo_ne (by omega) (by omega), clo_ne (by omega) (by omega), clo_ne (by omega) (by omega)]
      exact h.1 p o ho hne
  · rw [clo_ne (by omega) (by omega)]; exact h.2
theorem clo_Ib {a : Sa} {q s : Nat} (h : Ib a) : Ib (clo a q s) := by
  intro p o ho
  rw [clo_res ho]
  split
  · omega
  · exact h p o ho
theorem fb_sm_mono2 {f g : Nat → Nat} {n : Nat} (h : ∀ k, k < n → f k ≤ g k) : fb_sm f n ≤ fb_sm g n := fb_sm_le h
theorem clo_Is {a : Sa} {q s : Nat} (h : Is a) (h40 : a 0 4 ≤ 40) : Is (clo a q s) := by
  intro p hp
  rw [clo_ne (by omega) (by omega)] at hp
  rw [clo_ne (j := 0) (by omega) (by omega), clo_ne (j := 12) (by omega) (by omega)]
  refine Nat.le_trans (fb_sm_le (fun k hk => ?_)) (h p hp)
  rw [clo_res (by omega)]
  split
  · omega
  · exact Nat.le_refl _
