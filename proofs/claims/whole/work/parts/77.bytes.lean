/-! bytes of a number -/
def bt (x : Int32) (s : Nat) : Nat := (x.toBitVec.toNat >>> s) % 256
theorem bt_lt {x : Int32} {s : Nat} : bt x s < 256 := Nat.mod_lt _ (by decide)
def sb (b : Nat) : Int32 := (nI b).toInt8.toInt32
theorem bt_ref (x : Int32) (s : Nat) (hs : s = 0 ∨ s = 8 ∨ s = 16 ∨ s = 24) : ((x.toUInt32 >>> ((nI s).toUInt32 &&& Int32.toUInt32 31)).toInt32 &&& nI 255) = nI (bt x s) := by
  have e : ((nI s).toUInt32 &&& Int32.toUInt32 31).toBitVec = BitVec.ofNat 32 s := by
    rcases hs with rfl | rfl | rfl | rfl <;> decide
  apply Int32.toBitVec_inj.1
  apply BitVec.eq_of_toNat_eq
  show ((x.toBitVec >>> (((nI s).toUInt32 &&& Int32.toUInt32 31).toBitVec % 32#32)) &&& (nI 255).toBitVec).toNat = (nI (bt x s)).toBitVec.toNat
  rw [e]
  have h255 : (nI 255).toBitVec.toNat = 2 ^ 8 - 1 := by decide
  have hb : (nI (bt x s)).toBitVec.toNat = bt x s := by
    show (BitVec.ofInt 32 ((bt x s : Nat) : Int)).toNat = bt x s
    have := bt_lt (x := x) (s := s)
    rw [BitVec.toNat_ofInt]
    omega
  have hs32 : (BitVec.ofNat 32 s % 32#32).toNat = s := by
    rcases hs with rfl | rfl | rfl | rfl <;> decide
  rw [BitVec.toNat_and, h255, Nat.and_two_pow_sub_one_eq_mod, hb, BitVec.ushiftRight_eq', BitVec.toNat_ushiftRight, hs32]
  rfl
theorem bt_cls (x : Int32) (s : Nat) (hs : s = 0 ∨ s = 8 ∨ s = 16 ∨ s = 24) : vp_nar .byte ((x >>> (nI s &&& 31)).toInt8.toInt32) = sb (bt x s) := by
  rw [vp_nar_byte, fb_byte_twice]
  unfold sb
  congr 1
  have e : ((nI s &&& 31 : Int32).toBitVec.smod 32).toNat = s := by
    rcases hs with rfl | rfl | rfl | rfl <;> decide
  apply Int8.toBitVec_inj.1
  apply BitVec.eq_of_getLsbD_eq
  intro i hi
  show (BitVec.signExtend 8 (x.toBitVec.sshiftRight' ((nI s &&& 31 : Int32).toBitVec.smod 32))).getLsbD i = (BitVec.signExtend 8 (BitVec.ofNat 32 (bt x s))).getLsbD i
  rw [BitVec.sshiftRight', e, BitVec.getLsbD_signExtend, BitVec.getLsbD_signExtend, BitVec.getLsbD_sshiftRight, BitVec.getLsbD_ofNat]
  unfold bt
  rw [show (256 : Nat) = 2 ^ 8 from rfl, Nat.testBit_mod_two_pow, Nat.testBit_shiftRight]
  have h1 : i < 32 := by omega
  have h2 : s + i < 32 := by omega
  simp [hi, h1, h2, BitVec.getLsbD]
/-- four bytes more on a tape -/
def t4 (t : Nat → Nat) (n : Nat) (x : Int32) : Nat → Nat := fun i => if i = n then bt x 24 else if i = n + 1 then bt x 16 else if i = n + 1 + 1 then bt x 8 else if i = n + 1 + 1 + 1 then bt x 0 else t i
def Tb (t : Nat → Nat) (n : Nat) : Prop := n ≤ 640 ∧ ∀ i, i < n → t i < 256
/-- the class's tape, the reference's tape -/
def TC (M : Mm) (t : Nat → Nat) (n : Nat) : Prop := M.1 13 0 1 = nI n ∧ ∀ i, i < n → M.1 13 1 i = sb (t i)
def TR (M : Mm) (t : Nat → Nat) (n : Nat) : Prop := M.1 18 0 2 = nI n ∧ ∀ i, i < n → M.1 18 2 i = nI (t i)
theorem Tb_4 {t : Nat → Nat} {n : Nat} {x : Int32} (h : Tb t n) (hn : n + 4 ≤ 640) : Tb (t4 t n x) (n + 1 + 1 + 1 + 1) := by
  refine ⟨by omega, fun i hi => ?_⟩
  unfold t4
  split
  · exact bt_lt
  · split
    · exact bt_lt
    · split
      · exact bt_lt
      · split
        · exact bt_lt
        · exact h.2 i (by omega)
theorem t4_0 {t : Nat → Nat} {n : Nat} {x : Int32} : t4 t n x n = bt x 24 := if_pos rfl
theorem t4_1 {t : Nat → Nat} {n : Nat} {x : Int32} : t4 t n x (n + 1) = bt x 16 := by unfold t4; rw [if_neg (by omega), if_pos rfl]
theorem t4_2 {t : Nat → Nat} {n : Nat} {x : Int32} : t4 t n x (n + 1 + 1) = bt x 8 := by unfold t4; rw [if_neg (by omega), if_neg (by omega), if_pos rfl]
theorem t4_3 {t : Nat → Nat} {n : Nat} {x : Int32} : t4 t n x (n + 1 + 1 + 1) = bt x 0 := by unfold t4; rw [if_neg (by omega), if_neg (by omega), if_neg (by omega), if_pos rfl]
theorem t4_lo {t : Nat → Nat} {n i : Nat} {x : Int32} (h : i < n) : t4 t n x i = t i := by unfold t4; rw [if_neg (by omega), if_neg (by omega), if_neg (by omega), if_neg (by omega)]
/-- only the reference's tape and its count change -/
def FTp (M M1 : Mm) : Prop := (∀ o' c' i', ¬ (o' = 18 ∧ (c' = 2 ∨ (c' = 0 ∧ (i' = 0 ∨ i' = 2)))) → M1.1 o' c' i' = M.1 o' c' i') ∧ M1.2 = M.2
theorem FTp.rf {M : Mm} : FTp M M := ⟨fun _ _ _ _ => rfl, rfl⟩
theorem FTp.tr {M M1 M2 : Mm} (h : FTp M M1) (h2 : FTp M1 M2) : FTp M M2 := ⟨fun o' c' i' z => (h2.1 o' c' i' z).trans (h.1 o' c' i' z), h2.2.trans h.2⟩
theorem FTp.wr {M : Mm} {c i : Nat} {x : Int32} (h : c = 2 ∨ (c = 0 ∧ (i = 0 ∨ i = 2))) : FTp M (wr M 18 c i x) := ⟨fun o' c' i' z => wr_ne (by omega), wr_lg _ _ _ _ _⟩
def fd5 (t : Nat → Nat) (n : Nat) (a b c d e : Int32) : Nat → Nat := t4 (t4 (t4 (t4 (t4 t n a) (n + 4) b) (n + 8) c) (n + 12) d) (n + 16) e
def S_fd (t : Nat → Nat) (n : Nat) (a b c d e : Int32) : Int32 × (Nat → Nat) × Nat := if n + 20 ≤ 640 then (nI (n + 20), fd5 t n a b c d e, n + 20) else (-1, t, n)
def S_en (n : Nat) (x : Int32) : Bool × Nat := if inr x (n + 1) = true then (true, x.toNatClampNeg) else (false, n)
theorem S_fd_at {t : Nat → Nat} {n : Nat} {a b c d e : Int32} (h : n + 20 ≤ 640) : S_fd t n a b c d e = (nI (n + 20), fd5 t n a b c d e, n + 20) := if_pos h
theorem S_fd_no {t : Nat → Nat} {n : Nat} {a b c d e : Int32} (h : ¬ n + 20 ≤ 640) : S_fd t n a b c d e = (-1, t, n) := if_neg h
theorem S_en_at {n j : Nat} (h : j ≤ n) (hn : n ≤ 640) : S_en n (nI j) = (true, j) := by unfold S_en; rw [if_pos (inr_nI (by omega) (by omega)), nI_clamp (by omega)]
theorem S_en_no {n : Nat} {x : Int32} (h : inr x (n + 1) = false) : S_en n x = (false, n) := by unfold S_en; rw [if_neg (by rw [h]; decide)]
theorem Tb_fd {t : Nat → Nat} {n : Nat} {a b c d e : Int32} (h : Tb t n) : Tb (S_fd t n a b c d e).2.1 (S_fd t n a b c d e).2.2 := by
  by_cases z : n + 20 ≤ 640
  · rw [S_fd_at z]
    exact Tb_4 (Tb_4 (Tb_4 (Tb_4 (Tb_4 h (by omega)) (by omega)) (by omega)) (by omega)) (by omega)
  · rw [S_fd_no z]; exact h
theorem Tb_en {t : Nat → Nat} {n : Nat} {x : Int32} (h : Tb t n) : Tb t (S_en n x).2 := by
  have h0 := h.1
  unfold S_en
  split
  · next z =>
    obtain ⟨j, hj, rfl⟩ := inr_of z
    show Tb t (nI j).toNatClampNeg
    rw [nI_clamp (by omega)]
    exact ⟨by omega, fun i hi => h.2 i (by omega)⟩
  · exact h
