/-! the reference's earlier rows, and what acts write -/
def psm (m : Nat) : Nat := if m = 10 then 10 else m + 1
def psh (h : Nat → Sa) (m : Nat) (a : Sa) : Nat → Sa := fun k => if m = 10 then (if k < 9 then h (k + 1) else a) else (if k = m then a else h k)
def MS (M : Mm) (a : Sa) (m : Nat) (h : Nat → Sa) : Prop := RM (M.1 18 12) a ∧ M.1 18 0 14 = nI m ∧ m ≤ 10 ∧ ∀ k, k < m → RM (fun i => M.1 18 14 (1333 * k + i)) (h k)
theorem MS.rm {M : Mm} {a : Sa} {m : Nat} {h : Nat → Sa} (H : MS M a m h) : RM (M.1 18 12) a := H.1
theorem MS.sm {M : Mm} {a : Sa} {m : Nat} {h : Nat → Sa} (H : MS M a m h) : M.1 18 0 14 = nI m := H.2.1
/-- only the earlier rows change -/
def FS (M M1 : Mm) : Prop := (∀ o' c' i', ¬ (o' = 18 ∧ (c' = 14 ∨ (c' = 0 ∧ i' = 14))) → M1.1 o' c' i' = M.1 o' c' i') ∧ M1.2 = M.2
/-- only what acts change -/
def FA (M M1 : Mm) : Prop := (∀ o' c' i', ¬ (o' = 18 ∧ (c' = 12 ∨ c' = 14 ∨ (16 ≤ c' ∧ c' ≤ 24) ∨ (c' = 0 ∧ (i' = 0 ∨ i' = 14 ∨ (24 ≤ i' ∧ i' ≤ 27))))) → M1.1 o' c' i' = M.1 o' c' i') ∧ M1.2 = M.2
theorem FA.rf {M : Mm} : FA M M := ⟨fun _ _ _ _ => rfl, rfl⟩
theorem FA.tr {M M1 M2 : Mm} (h : FA M M1) (h2 : FA M1 M2) : FA M M2 := ⟨fun o' c' i' z => (h2.1 o' c' i' z).trans (h.1 o' c' i' z), h2.2.trans h.2⟩
theorem FA.w0 {M : Mm} {x : Int32} : FA M (wr M 18 0 0 x) := ⟨fun o' c' i' z => wr_ne (by omega), wr_lg _ _ _ _ _⟩
theorem FA.w12 {M : Mm} {i : Nat} {x : Int32} : FA M (wr M 18 12 i x) := ⟨fun o' c' i' z => wr_ne (by omega), wr_lg _ _ _ _ _⟩
theorem FA.w14 {M : Mm} {x : Int32} : FA M (wr M 18 0 14 x) := ⟨fun o' c' i' z => wr_ne (by omega), wr_lg _ _ _ _ _⟩
theorem FS.fa {M M1 : Mm} (h : FS M M1) : FA M M1 := ⟨fun o' c' i' z => h.1 o' c' i' (by omega), h.2⟩
theorem FPn.fa {M M1 : Mm} (h : FPn M M1) : FA M M1 := ⟨fun o' c' i' z => h.1 o' c' i' (by omega), h.2⟩
theorem F12.fa {M M1 : Mm} (h : F12 18 M M1) : FA M M1 := ⟨fun o' c' i' z => h.1 o' c' i' (by omega), h.2⟩
theorem FS.rm {M M1 : Mm} {a : Sa} (h : FS M M1) (hN : RM (M.1 18 12) a) : RM (M1.1 18 12) a := RM_eq (fun i _ => h.1 _ _ _ (by omega)) hN
/-- earlier rows stay when neither they nor their number change -/
theorem MS.of {M M1 : Mm} {a b : Sa} {m : Nat} {h : Nat → Sa} (H : MS M a m h) (h1 : M1.1 18 0 14 = M.1 18 0 14) (h2 : ∀ i, M1.1 18 14 i = M.1 18 14 i) (hN : RM (M1.1 18 12) b) : MS M1 b m h :=
  ⟨hN, h1.trans H.2.1, H.2.2.1, fun k hk => RM_eq (fun i _ => h2 _) (H.2.2.2 k hk)⟩
theorem MS.f12 {M M1 : Mm} {a b : Sa} {m : Nat} {h : Nat → Sa} (H : MS M a m h) (hF : F12 18 M M1) (hN : RM (M1.1 18 12) b) : MS M1 b m h := H.of (hF.1 _ _ _ (by omega)) (fun i => hF.1 _ _ _ (by omega)) hN
theorem MS.fpn {M M1 : Mm} {a : Sa} {m : Nat} {h : Nat → Sa} (H : MS M a m h) (hF : FPn M M1) : MS M1 a m h := H.of (hF.1 _ _ _ (by omega)) (fun i => hF.1 _ _ _ (by omega)) (hF.rm H.1)
theorem MS.w0 {M : Mm} {a : Sa} {m : Nat} {h : Nat → Sa} {x : Int32} (H : MS M a m h) : MS (wr M 18 0 0 x) a m h := H.of (wr_ne (by omega)) (fun i => wr_ne (by omega)) (RM_w (by decide) H.1)
def I1 (M N : Mm) (k : Nat) : Prop := (∀ i, N.1 18 14 i = if i < k then M.1 18 14 (i + 1333) else M.1 18 14 i) ∧ (∀ o' c' i', ¬ (o' = 18 ∧ c' = 14) → N.1 o' c' i' = M.1 o' c' i') ∧ N.2 = M.2
theorem I1_0 {M : Mm} : I1 M M 0 := ⟨fun i => by rw [if_neg (by omega)], fun _ _ _ _ => rfl, rfl⟩
theorem I1_s {M N : Mm} {k : Nat} (h : I1 M N k) : I1 M (wr N 18 14 k (N.1 18 14 (k + 1333))) (k + 1) := by
  refine ⟨fun i => ?_, fun o' c' i' z => by rw [wr_ne (by omega)]; exact h.2.1 o' c' i' z, by rw [wr_lg]; exact h.2.2⟩
  have e2 : N.1 18 14 (k + 1333) = M.1 18 14 (k + 1333) := by rw [h.1 (k + 1333), if_neg (by omega)]
  rw [wr_at, e2]
  by_cases e : i = k
  · rw [if_pos ⟨rfl, rfl, e⟩, if_pos (by omega), e]
  · rw [if_neg (by omega), h.1 i]
    by_cases z : i < k
    · rw [if_pos z, if_pos (by omega)]
    · rw [if_neg z, if_neg (by omega)]
def S14 (M : Mm) (m i : Nat) : Int32 := if m = 10 ∧ i < 11997 then M.1 18 14 (i + 1333) else M.1 18 14 i
def I2 (M N : Mm) (m n k : Nat) : Prop := (∀ i, N.1 18 14 i = if 1333 * n ≤ i ∧ i < 1333 * n + k then M.1 18 12 (i - 1333 * n) else S14 M m i) ∧ N.1 18 0 14 = nI n ∧ (∀ o' c' i', ¬ (o' = 18 ∧ (c' = 14 ∨ (c' = 0 ∧ i' = 14))) → N.1 o' c' i' = M.1 o' c' i') ∧ N.2 = M.2
theorem I2_a {M : Mm} {m : Nat} (hm : m ≠ 10) (h : M.1 18 0 14 = nI m) : I2 M M m m 0 :=
  ⟨fun i => by rw [if_neg (by omega)]; unfold S14; rw [if_neg (by omega)], h, fun _ _ _ _ => rfl, rfl⟩
theorem I2_b {M N : Mm} {m k : Nat} (hm : m = 10) (hk : k = 11997) (h : I1 M N k) : I2 M (wr N 18 0 14 (nI 9)) m 9 0 := by
  refine ⟨fun i => ?_, wr_eq, fun o' c' i' z => by rw [wr_ne (by omega)]; exact h.2.1 o' c' i' (by omega), by rw [wr_lg]; exact h.2.2⟩
  rw [wr_ne (by omega), if_neg (by omega), h.1 i]
  unfold S14
  by_cases z : i < 11997
  · rw [if_pos (by omega), if_pos ⟨hm, z⟩]
  · rw [if_neg (by omega), if_neg (by omega)]
theorem I2_s {M N : Mm} {m n k : Nat} (h : I2 M N m n k) : I2 M (wr N 18 14 (1333 * n + k) (N.1 18 12 k)) m n (k + 1) := by
  refine ⟨fun i => ?_, by rw [wr_ne (by omega)]; exact h.2.1, fun o' c' i' z => by rw [wr_ne (by omega)]; exact h.2.2.1 o' c' i' z, by rw [wr_lg]; exact h.2.2.2⟩
  rw [wr_at, h.2.2.1 18 12 k (by omega)]
  by_cases e : i = 1333 * n + k
  · rw [if_pos ⟨rfl, rfl, e⟩, if_pos (by omega), show i - 1333 * n = k by omega]
  · rw [if_neg (by omega), h.1 i]
    by_cases z : 1333 * n ≤ i ∧ i < 1333 * n + k
    · rw [if_pos z, if_pos (by omega)]
    · rw [if_neg z, if_neg (by omega)]
theorem MS_snap {M N : Mm} {a : Sa} {m n k : Nat} {h : Nat → Sa} (H : MS M a m h) (hn : n = if m = 10 then 9 else m) (hk : k = 1333) (hI : I2 M N m n k) : MS (wr N 18 0 14 (nI (n + 1))) a (psm m) (psh h m a) ∧ FS M (wr N 18 0 14 (nI (n + 1))) := by
  have hm := H.2.2.1
  have hF : FS M (wr N 18 0 14 (nI (n + 1))) := ⟨fun o' c' i' z => by rw [wr_ne (by omega)]; exact hI.2.2.1 o' c' i' z, by rw [wr_lg]; exact hI.2.2.2⟩
  subst hk
  refine ⟨⟨hF.rm H.1, ?_, ?_, fun k hk => ?_⟩, hF⟩
  · rw [wr_eq, hn]
    unfold psm
    split
    · rfl
    · rfl
  · unfold psm; split <;> omega
  · have hat : ∀ i, i < 1333 → (wr N 18 0 14 (nI (n + 1))).1 18 14 (1333 * k + i) = if k = n then M.1 18 12 i else S14 M m (1333 * k + i) := by
      intro i hi
      rw [wr_ne (by omega), hI.1]
      by_cases e : k = n
      · rw [if_pos (by omega), if_pos e, show 1333 * k + i - 1333 * n = i by omega]
      · rw [if_neg (by omega), if_neg e]
    unfold psh
    by_cases e : m = 10
    · rw [if_pos e] at hn
      unfold psm at hk
      rw [if_pos e] at hk
      rw [if_pos e]
      by_cases z : k < 9
      · rw [if_pos z]
        refine RM_eq (fun i hi => ?_) (H.2.2.2 (k + 1) (by omega))
        rw [hat i hi, if_neg (by omega)]
        unfold S14
        rw [if_pos (by omega), show 1333 * k + i + 1333 = 1333 * (k + 1) + i by omega]
      · rw [if_neg z]
        refine RM_eq (fun i hi => ?_) H.1
        rw [hat i hi, if_pos (by omega)]
    · rw [if_neg e] at hn
      unfold psm at hk
      rw [if_neg e] at hk
      rw [if_neg e]
      by_cases z : k = m
      · rw [if_pos z]
        refine RM_eq (fun i hi => ?_) H.1
        rw [hat i hi, if_pos (by omega)]
      · rw [if_neg z]
        refine RM_eq (fun i hi => ?_) (H.2.2.2 k (by omega))
        rw [hat i hi, if_neg (by omega)]
        unfold S14
        rw [if_neg (by omega)]
/-- taking a row back -/
def I3 (M N : Mm) (m k : Nat) : Prop := (∀ i, N.1 18 12 i = if i < k then M.1 18 14 (1333 * m + i) else M.1 18 12 i) ∧ (∀ o' c' i', ¬ (o' = 18 ∧ c' = 12) → N.1 o' c' i' = M.1 o' c' i') ∧ N.2 = M.2
theorem I3_0 {M : Mm} {m : Nat} : I3 M M m 0 := ⟨fun i => by rw [if_neg (by omega)], fun _ _ _ _ => rfl, rfl⟩
theorem I3_s {M N : Mm} {m k : Nat} (h : I3 M N m k) : I3 M (wr N 18 12 k (N.1 18 14 (1333 * m + k))) m (k + 1) := by
  refine ⟨fun i => ?_, fun o' c' i' z => by rw [wr_ne (by omega)]; exact h.2.1 o' c' i' z, by rw [wr_lg]; exact h.2.2⟩
  rw [wr_at, h.2.1 18 14 _ (by omega)]
  by_cases e : i = k
  · rw [if_pos ⟨rfl, rfl, e⟩, if_pos (by omega), e]
  · rw [if_neg (by omega), h.1 i]
    by_cases z : i < k
    · rw [if_pos z, if_pos (by omega)]
    · rw [if_neg z, if_neg (by omega)]
theorem MS_back {M N : Mm} {a : Sa} {m k : Nat} {h : Nat → Sa} (H : MS M a (m + 1) h) (hk : k = 1333) (hI : I3 (wr M 18 0 14 (nI m)) N m k) : MS N (h m) m h ∧ FA M N := by
  have hm := H.2.2.1
  subst hk
  have e14 : ∀ i, N.1 18 14 i = M.1 18 14 i := fun i => by rw [hI.2.1 18 14 i (by omega), wr_ne (by omega)]
  refine ⟨⟨?_, ?_, by omega, fun k hk => ?_⟩, ⟨fun o' c' i' z => ?_, ?_⟩⟩
  · refine RM_eq (fun i hi => ?_) (H.2.2.2 m (by omega))
    rw [hI.1, if_pos hi, wr_ne (by omega)]
  · rw [hI.2.1 18 0 14 (by omega), wr_eq]
  · refine RM_eq (fun i hi => ?_) (H.2.2.2 k (by omega))
    rw [e14]
  · rw [hI.2.1 o' c' i' (by omega), wr_ne (by omega)]
  · rw [hI.2.2, wr_lg]
/-- one cell of the row is written -/
def Pos (j k x : Nat) : Prop := (j = 0 ∧ k < 7 ∧ ¬ (2 ≤ k ∧ k < 5) ∧ x = k) ∨ (j = 8 ∧ k < 6 ∧ x = 7 + 5 * k) ∨ (j = 9 ∧ ∃ c gd, c < 6 ∧ gd < 4 ∧ k = c * 4 + gd ∧ x = 7 + 5 * c + 1 + gd) ∨ (10 ≤ j ∧ j < 14 ∧ k < 24 ∧ x = 37 + 4 * k + (j - 10)) ∨ (14 ≤ j ∧ j < 20 ∧ k < 40 ∧ x = 133 + 6 * k + (j - 14)) ∨ (j = 21 ∧ ∃ p q, p < 24 ∧ q < 40 ∧ k = 64 * p + q ∧ x = 373 + 40 * p + q)
theorem RM_set {M : Mm} {a : Sa} {j k v x : Nat} (hN : RM (M.1 18 12) a) (hp : Pos j k x) : RM ((wr M 18 12 x (nI v)).1 18 12) (ua a j k v) := by
  have b2 := hN.c6
  have b3 := hN.l24
  have b4 := hN.o40
  have h0 : ∀ i, 2 ≤ i → i < 5 → ua a j k v 0 i = a 0 i := fun i h1 h2 => ua_ne (fun z => by rcases hp with h | h | h | h | h | h <;> omega)
  refine ⟨fun k' hk => ?_, fun c hc => ?_, fun c gd hc hg => ?_, fun p j' hp' hj => ?_, fun q j' hq hj => ?_, fun p q hp' hq => ?_, by rw [h0 2 (by omega) (by omega)]; exact b2, by rw [h0 3 (by omega) (by omega)]; exact b3, by rw [h0 4 (by omega) (by omega)]; exact b4⟩
  · rw [wr_at, ua_at]
    by_cases z : 0 = j ∧ k' = k
    · rw [if_pos z, if_pos (by rcases hp with h | h | h | h | h | h <;> omega)]
    · rw [if_neg z, if_neg (by rcases hp with h | h | ⟨h, c, gd, h1, h2, h3, h4⟩ | h | h | ⟨h, p, q, h1, h2, h3, h4⟩ <;> omega)]; exact hN.sc hk
  · rw [h0 2 (by omega) (by omega)] at hc
    rw [wr_at, ua_at]
    by_cases z : 8 = j ∧ c = k
    · rw [if_pos z, if_pos (by rcases hp with h | h | h | h | h | h <;> omega)]
    · rw [if_neg z, if_neg (by rcases hp with h | h | ⟨h, c', gd, h1, h2, h3, h4⟩ | h | h | ⟨h, p, q, h1, h2, h3, h4⟩ <;> omega)]; exact hN.life hc
  · rw [wr_at, ua_at]
    by_cases z : 9 = j ∧ c * 4 + gd = k
    · rw [if_pos z, if_pos (by rcases hp with h | h | ⟨h, c', gd', h1, h2, h3, h4⟩ | h | h | h <;> omega)]
    · rw [if_neg z, if_neg (by rcases hp with h | h | ⟨h, c', gd', h1, h2, h3, h4⟩ | h | h | ⟨h, p, q, h1, h2, h3, h4⟩ <;> omega)]; exact hN.latest hc hg
  · rw [h0 3 (by omega) (by omega)] at hp'
    rw [wr_at, ua_at]
    by_cases z : 10 + j' = j ∧ p = k
    · rw [if_pos z, if_pos (by rcases hp with h | h | h | h | h | h <;> omega)]
    · rw [if_neg z, if_neg (by rcases hp with h | h | ⟨h, c', gd', h1, h2, h3, h4⟩ | h | h | ⟨h, p, q, h1, h2, h3, h4⟩ <;> omega)]; exact hN.lot hp' hj rfl
  · rw [h0 4 (by omega) (by omega)] at hq
    rw [wr_at, ua_at]
    by_cases z : 14 + j' = j ∧ q = k
    · rw [if_pos z, if_pos (by rcases hp with h | h | h | h | h | h <;> omega)]
    · rw [if_neg z, if_neg (by rcases hp with h | h | ⟨h, c', gd', h1, h2, h3, h4⟩ | h | h | ⟨h, p, q, h1, h2, h3, h4⟩ <;> omega)]; exact hN.ord hq hj rfl
  · unfold res
    rw [wr_at, ua_at]
    by_cases z : 21 = j ∧ 64 * p + q = k
    · rw [if_pos z, if_pos (by rcases hp with h | h | h | h | h | ⟨h, p', q', h1, h2, h3, h4⟩ <;> omega)]
    · rw [if_neg z, if_neg (by rcases hp with h | h | ⟨h, c', gd', h1, h2, h3, h4⟩ | h | h | ⟨h, p', q', h1, h2, h3, h4⟩ <;> omega)]; exact hN.res hp' hq
theorem Pos0 {k : Nat} (h : k < 7) (h2 : ¬ (2 ≤ k ∧ k < 5)) : Pos 0 k k := Or.inl ⟨rfl, h, h2, rfl⟩
theorem Pos9 {c gd : Nat} (h : c < 6) (h2 : gd < 4) : Pos 9 (c * 4 + gd) (7 + 5 * c + 1 + gd) := Or.inr (Or.inr (Or.inl ⟨rfl, c, gd, h, h2, rfl, rfl⟩))
theorem PosL {p j j' : Nat} (hp : p < 24) (hj : j < 4) (e : 10 + j = j') : Pos j' p (37 + 4 * p + j) := Or.inr (Or.inr (Or.inr (Or.inl ⟨by omega, by omega, hp, by omega⟩)))
theorem PosO {p j j' : Nat} (hp : p < 40) (hj : j < 6) (e : 14 + j = j') : Pos j' p (133 + 6 * p + j) := Or.inr (Or.inr (Or.inr (Or.inr (Or.inl ⟨by omega, by omega, hp, by omega⟩))))
theorem PosR {p q : Nat} (hp : p < 24) (hq : q < 40) : Pos 21 (64 * p + q) (373 + 40 * p + q) := Or.inr (Or.inr (Or.inr (Or.inr (Or.inr ⟨rfl, p, q, hp, hq, rfl, rfl⟩))))
theorem RM_cg {N : Nat → Int32} {a b : Sa} (h : RM N a) (e : ∀ j i, j < 20 → b j i = a j i) (er : ∀ p q, p < 24 → q < 40 → res b p q = res a p q) : RM N b := by
  refine ⟨fun k hk => by rw [e _ _ (by omega)]; exact h.sc hk, fun c hc => ?_, fun c gd hc hg => by rw [e _ _ (by omega)]; exact h.latest hc hg, fun p j hp hj => ?_, fun q j hq hj => ?_, fun p q hp hq => by rw [er p q hp hq]; exact h.res hp hq, by rw [e _ _ (by omega)]; exact h.c6, by rw [e _ _ (by omega)]; exact h.l24, by rw [e _ _ (by omega)]; exact h.o40⟩
  · rw [e _ _ (by omega)] at hc; rw [e _ _ (by omega)]; exact h.life hc
  · rw [e _ _ (by omega)] at hp; rw [e _ _ (by omega)]; exact h.lot hp hj rfl
  · rw [e _ _ (by omega)] at hq; rw [e _ _ (by omega)]; exact h.ord hq hj rfl
