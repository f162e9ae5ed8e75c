/-! a text token by token: what is still to come of a line, of the text -/
def nol (s : Nat) : Nat := if s = 6 ∨ s = 7 then 4 else 1
def rmS (s : Nat) (a : Sa) : Bool := if s = 5 then decide (a 0 2 < 6) else if s = 6 then decide (a 0 3 < 12) else if s = 7 then decide (a 0 4 < 12) else true
def tldL (c : Nat) (a : Sa) (x : Nat) : Bool := if c = 0 then decide (x < a 0 1) else if c = 2 then decide (1 ≤ x ∧ x ≤ 99) else true
def tldO (c : Nat) (a : Sa) (w x : Nat) : Bool := if c = 0 then decide (x < a 0 2) else if c = 1 then (decide (x < a 0 1) && !asked a w x) else if c = 2 then decide (1 ≤ x ∧ x ≤ 99) else true
def tld (s c : Nat) (a : Sa) (w x : Nat) : Bool := if s = 4 then decide (1 ≤ x ∧ x ≤ 4) else if s = 6 then tldL c a x else if s = 7 then tldO c a w x else true
def nF (t : Nat → Nat) (n p s c : Nat) (a : Sa) (w : Nat) : Nat := if tkd t n p = 2 then (if tld s c a w (tvl t n p) = true then 0 else 2) else 1
def upv (v : Nat → Nat) (c x : Nat) : Nat → Nat := fun i => if i = c then x else v i
noncomputable def addS (s : Nat) (a : Sa) (v : Nat → Nat) : Sa := if s = 4 then gs (v 0) else if s = 5 then addC a (v 0) else if s = 6 then addL a (v 0) (v 1) (v 2) (v 3) else addO a (v 0) (v 1) (v 2) (v 3)
noncomputable def rstL (t : Nat → Nat) (n s : Nat) (a : Sa) : Nat → Nat → Nat → (Nat → Nat) → Rd
  | 0, _, p, v => orB (spF t n p) (tpc t n p) a (0, 0, tnx t n p, addS s a v)
  | m + 1, c, p, v => orB (nF t n p s c a (v 0)) (tpc t n p) a (rstL t n s a m (c + 1) (tnx t n p) (upv v c (tvl t n p)))
noncomputable def fnL (t : Nat → Nat) (n s ln : Nat) (a : Sa) (R : Rd) : Rd := if R.1 = 0 then rFF t n (max 5 s) R.2.2.1 (ln + 1) R.2.2.2 else (R.1, R.2.1, ln, a)
theorem upv_eq {v : Nat → Nat} {c x : Nat} : upv v c x c = x := if_pos rfl
theorem upv_ne {v : Nat → Nat} {c x i : Nat} (h : i ≠ c) : upv v c x i = v i := if_neg h
theorem nol_46 {s : Nat} (h : s = 6 ∨ s = 7) : nol s = 4 := if_pos h
theorem nol_1 {s : Nat} (h : ¬ (s = 6 ∨ s = 7)) : nol s = 1 := if_neg h
theorem nol_le {s : Nat} : nol s ≤ 4 := by unfold nol; split <;> omega
theorem nol_ge {s : Nat} : 1 ≤ nol s := by unfold nol; split <;> omega
theorem tld_0 {s : Nat} {a : Sa} {w w' x : Nat} : tld s 0 a w x = tld s 0 a w' x := rfl
theorem nF_1 {t : Nat → Nat} {n p s c w : Nat} {a : Sa} (h : ¬ tkd t n p = 2) : nF t n p s c a w = 1 := if_neg h
theorem nF_2 {t : Nat → Nat} {n p s c w : Nat} {a : Sa} (h : tkd t n p = 2) (h2 : tld s c a w (tvl t n p) = false) : nF t n p s c a w = 2 := by unfold nF; rw [if_pos h, if_neg (by rw [h2]; decide)]
theorem nF_0 {t : Nat → Nat} {n p s c w : Nat} {a : Sa} (h : tkd t n p = 2) (h2 : tld s c a w (tvl t n p) = true) : nF t n p s c a w = 0 := by unfold nF; rw [if_pos h, if_pos h2]
theorem nF_le {t : Nat → Nat} {n p s c w : Nat} {a : Sa} : nF t n p s c a w ≤ 2 := by
  unfold nF
  repeat' split
  all_goals omega
theorem nF_of {t : Nat → Nat} {n p s c w : Nat} {a : Sa} (h : nF t n p s c a w = 0) : tkd t n p = 2 ∧ tld s c a w (tvl t n p) = true := by
  unfold nF at h
  split at h
  · split at h
    · next h1 h2 => exact ⟨h1, h2⟩
    · omega
  · omega
theorem nF_nm {t : Nat → Nat} {n p s c w lo hx : Nat} {a : Sa} (h : tkd t n p = 2 → (tld s c a w (tvl t n p) = true ↔ lo ≤ tvl t n p ∧ tvl t n p < hx)) : nF t n p s c a w = nmF t n p lo hx := by
  unfold nF nmF
  by_cases z : tkd t n p = 2
  · rw [if_pos z, if_pos z]
    by_cases z2 : lo ≤ tvl t n p ∧ tvl t n p < hx
    · rw [if_pos z2, if_pos ((h z).mpr z2)]
    · rw [if_neg z2, if_neg (fun q => z2 ((h z).mp q))]
  · rw [if_neg z, if_neg z]
theorem nF_any {t : Nat → Nat} {n p s c w : Nat} {a : Sa} (h : tld s c a w (tvl t n p) = true) : nF t n p s c a w = nmF t n p 0 100 :=
  nF_nm (fun z => ⟨fun _ => ⟨Nat.zero_le _, by have := tvl_le z; omega⟩, fun _ => h⟩)
theorem nF_lt {t : Nat → Nat} {n p s c w y : Nat} {a : Sa} (h : tld s c a w (tvl t n p) = decide (tvl t n p < y)) : nF t n p s c a w = nmF t n p 0 y :=
  nF_nm (fun _ => ⟨fun q => ⟨Nat.zero_le _, of_decide_eq_true (h ▸ q)⟩, fun q => by rw [h]; exact decide_eq_true q.2⟩)
theorem nF_in {t : Nat → Nat} {n p s c w y : Nat} {a : Sa} (h : tld s c a w (tvl t n p) = decide (1 ≤ tvl t n p ∧ tvl t n p ≤ y)) : nF t n p s c a w = nmF t n p 1 (y + 1) :=
  nF_nm (fun _ => ⟨fun q => by have := of_decide_eq_true (h ▸ q); omega, fun q => by rw [h]; exact decide_eq_true (by omega)⟩)
theorem nF_ask {t : Nat → Nat} {n p w pl : Nat} {a : Sa} {k : Rd} : orB (nF t n p 7 1 a w) pl a k = orB (nmF t n p 0 (a 0 1)) pl a (orB (akF a w (tvl t n p)) pl a k) := by
  by_cases z : tkd t n p = 2
  · by_cases z1 : tvl t n p < a 0 1
    · rw [orB_ok (nmF_0 z ⟨Nat.zero_le _, z1⟩)]
      cases z2 : asked a w (tvl t n p) with
      | true => rw [akF_2 z2, nF_2 z (by show (decide (tvl t n p < a 0 1) && !asked a w (tvl t n p)) = false; rw [z2]; exact Bool.and_false _)]
      | false => rw [akF_0 z2, nF_0 z (by show (decide (tvl t n p < a 0 1) && !asked a w (tvl t n p)) = true; rw [z2, decide_eq_true z1]; rfl)]
    · rw [nmF_2 z (fun q => z1 q.2), nF_2 z (by show (decide (tvl t n p < a 0 1) && !asked a w (tvl t n p)) = false; rw [decide_eq_false z1]; rfl)]
      rfl
  · rw [nmF_1 z, nF_1 z]
    rfl
theorem rC_rst {t : Nat → Nat} {n p : Nat} {a : Sa} {v : Nat → Nat} : rC t n p a = rstL t n 5 a 1 0 p v := by
  show rC t n p a = orB (nF t n p 5 0 a (v 0)) (tpc t n p) a (orB (spF t n (tnx t n p)) (tpc t n (tnx t n p)) a (0, 0, tnx t n (tnx t n p), addC a (tvl t n p)))
  rw [nF_any (s := 5) (c := 0) rfl]
  rfl
theorem rL_rst {t : Nat → Nat} {n p : Nat} {a : Sa} {v : Nat → Nat} : rL t n p a = rstL t n 6 a 4 0 p v := by
  show rL t n p a = orB (nF t n p 6 0 a (v 0)) (tpc t n p) a (orB (nF t n (tx t n p 1) 6 1 a (tvl t n p)) (tpc t n (tx t n p 1)) a (orB (nF t n (tx t n p 2) 6 2 a (tvl t n p)) (tpc t n (tx t n p 2)) a (orB (nF t n (tx t n p 3) 6 3 a (tvl t n p)) (tpc t n (tx t n p 3)) a (orB (spF t n (tx t n p 4)) (tpc t n (tx t n p 4)) a (0, 0, tx t n p 5, addL a (tvl t n p) (tvl t n (tx t n p 1)) (tvl t n (tx t n p 2)) (tvl t n (tx t n p 3)))))))
  rw [nF_lt (s := 6) (c := 0) rfl, nF_any (s := 6) (c := 1) rfl, nF_in (s := 6) (c := 2) (y := 99) rfl, nF_any (s := 6) (c := 3) rfl]
  rfl
theorem rO_rst {t : Nat → Nat} {n p : Nat} {a : Sa} {v : Nat → Nat} : rO t n p a = rstL t n 7 a 4 0 p v := by
  show rO t n p a = orB (nF t n p 7 0 a (v 0)) (tpc t n p) a (orB (nF t n (tx t n p 1) 7 1 a (tvl t n p)) (tpc t n (tx t n p 1)) a (orB (nF t n (tx t n p 2) 7 2 a (tvl t n p)) (tpc t n (tx t n p 2)) a (orB (nF t n (tx t n p 3) 7 3 a (tvl t n p)) (tpc t n (tx t n p 3)) a (orB (spF t n (tx t n p 4)) (tpc t n (tx t n p 4)) a (0, 0, tx t n p 5, addO a (tvl t n p) (tvl t n (tx t n p 1)) (tvl t n (tx t n p 2)) (tvl t n (tx t n p 3)))))))
  rw [nF_lt (s := 7) (c := 0) rfl, nF_ask, nF_in (s := 7) (c := 2) (y := 99) rfl, nF_any (s := 7) (c := 3) rfl]
  rfl
theorem rLn_rst {t : Nat → Nat} {n p : Nat} {a : Sa} {v : Nat → Nat} (h5 : 5 ≤ tkd t n p) (h : rmS (tkd t n p) a = true) : rLn t n p a = rstL t n (tkd t n p) a (nol (tkd t n p)) 0 (tnx t n p) v := by
  have h7 := tkd_le (t := t) (n := n) (p := p)
  rcases (show tkd t n p = 5 ∨ tkd t n p = 6 ∨ tkd t n p = 7 by omega) with e | e | e
  · rw [e] at h ⊢
    rw [rLn_C e (of_decide_eq_true h)]
    exact rC_rst
  · rw [e] at h ⊢
    rw [rLn_L e (of_decide_eq_true h)]
    exact rL_rst
  · rw [e] at h ⊢
    rw [rLn_O e (of_decide_eq_true h)]
    exact rO_rst
theorem rLn_full {t : Nat → Nat} {n p : Nat} {a : Sa} (h5 : 5 ≤ tkd t n p) (h : rmS (tkd t n p) a = false) : rLn t n p a = (3, tpc t n p, 0, a) := by
  have h7 := tkd_le (t := t) (n := n) (p := p)
  rcases (show tkd t n p = 5 ∨ tkd t n p = 6 ∨ tkd t n p = 7 by omega) with e | e | e
  · rw [e] at h
    exact rLn_C3 e (of_decide_eq_false h)
  · rw [e] at h
    exact rLn_L3 e (of_decide_eq_false h)
  · rw [e] at h
    exact rLn_O3 e (of_decide_eq_false h)
theorem rFF_fn {t : Nat → Nat} {n lst p ln : Nat} {a : Sa} (hL : Lm a) (h1 : lst ≤ tkd t n p) (h5 : 5 ≤ tkd t n p) : rFF t n lst p ln a = fnL t n (tkd t n p) ln a (rLn t n p a) := by
  unfold fnL
  by_cases z : (rLn t n p a).1 = 0
  · rw [if_pos z, rFF_ok hL (by omega) h1 z, Nat.max_eq_right h5]
  · rw [if_neg z, rFF_bad hL (by omega) h1 z]
theorem fnL_no {t : Nat → Nat} {n s ln f pl x : Nat} {a b : Sa} (h : f ≠ 0) : fnL t n s ln a (f, pl, x, b) = (f, pl, ln, a) := if_neg h
theorem fnL_ok {t : Nat → Nat} {n s ln pl x : Nat} {a b : Sa} : fnL t n s ln a (0, pl, x, b) = rFF t n (max 5 s) x (ln + 1) b := if_pos rfl
theorem rT_fn {t : Nat → Nat} {n : Nat} {v : Nat → Nat} (h : tkd t n 0 = 4) : rT t n = fnL t n 4 0 (gs 0) (rstL t n 4 (gs 0) 1 0 (tnx t n 0) v) := by
  have e : rG t n = rstL t n 4 (gs 0) 1 0 (tnx t n 0) v := by
    rw [rG_4 h]
    show _ = orB (nF t n (tx t n 0 1) 4 0 (gs 0) (v 0)) (tpc t n (tx t n 0 1)) (gs 0) (orB (spF t n (tx t n 0 2)) (tpc t n (tx t n 0 2)) (gs 0) (0, 0, tx t n 0 3, gs (tvl t n (tx t n 0 1))))
    rw [nF_in (s := 4) (c := 0) (y := 4) rfl]
  rw [← e]
  unfold fnL
  by_cases z : (rG t n).1 = 0
  · rw [rT_ok z, if_pos z]
    rfl
  · rw [rT_no z, if_neg z]
    rw [rG_4 h] at z ⊢
    unfold orB at z ⊢
    split
    · next z1 =>
      rw [if_pos z1] at z
      split
      · next z2 => rw [if_pos z2] at z; exact absurd rfl z
      · rfl
    · rfl
theorem spF_le {t : Nat → Nat} {n p : Nat} (h : p ≤ n) (h2 : spF t n p = 0) : tnx t n p ≤ n := tnx_le h (by rw [spF_of h2]; decide)
theorem nmF_le {t : Nat → Nat} {n p lo hx : Nat} (h : p ≤ n) (h2 : nmF t n p lo hx = 0) : tnx t n p ≤ n := tnx_le h (by rw [(nmF_of h2).1]; exact Nat.le_refl 2)
theorem rG_Lm {t : Nat → Nat} {n : Nat} : Lm (rG t n).2.2.2 ∧ cnt (rG t n).2.2.2 = 0 := by
  have key : ∀ gd, Lm (gs gd) ∧ cnt (gs gd) = 0 := fun gd => ⟨gs_Lm, by unfold cnt; rw [gs_0 (by omega), gs_0 (by omega), gs_0 (by omega)]⟩
  unfold rG orB
  repeat' split
  all_goals exact key _
/-- the state after a line -/
theorem addS_cnt {s : Nat} {a : Sa} {v : Nat → Nat} (h5 : 5 ≤ s) (h7 : s ≤ 7) (hL : Lm a) (h : rmS s a = true) : cnt (addS s a v) = cnt a + 1 ∧ Lm (addS s a v) := by
  obtain ⟨l1, l2, l3⟩ := hL
  rcases (show s = 5 ∨ s = 6 ∨ s = 7 by omega) with rfl | rfl | rfl
  · have z := of_decide_eq_true h
    show cnt (addC a (v 0)) = _ ∧ Lm (addC a (v 0))
    unfold cnt Lm
    rw [addC_02, addC_keep (by omega) (by omega), addC_keep (by omega) (by omega)]
    omega
  · have z := of_decide_eq_true h
    show cnt (addL a (v 0) (v 1) (v 2) (v 3)) = _ ∧ Lm (addL a (v 0) (v 1) (v 2) (v 3))
    unfold cnt Lm
    rw [addL_03, addL_keep (by omega) (by omega), addL_keep (by omega) (by omega)]
    omega
  · have z := of_decide_eq_true h
    show cnt (addO a (v 0) (v 1) (v 2) (v 3)) = _ ∧ Lm (addO a (v 0) (v 1) (v 2) (v 3))
    unfold cnt Lm
    rw [addO_04, addO_keep (by omega) (by omega), addO_keep (by omega) (by omega)]
    omega
theorem gs_cnt {gd : Nat} : cnt (gs gd) = 0 := by unfold cnt; rw [gs_0 (by omega), gs_0 (by omega), gs_0 (by omega)]
theorem cnt_le {a : Sa} (h : Lm a) : cnt a ≤ 30 := by obtain ⟨q1, q2, q3⟩ := h; unfold cnt; omega
/-- numbers as the machine tests them -/
theorem inrN {x N : Nat} (hx : x < 65536) (hN : N < 65536) : inr (nI x) N = decide (x < N) := by
  unfold inr
  rw [decide_eq_decide, nI_toInt (by omega)]
  omega
theorem isinN {x lo hi : Nat} (hx : x < 65536) (h1 : lo < 65536) (h2 : hi < 65536) : isin (nI x) (nI lo) (nI hi) = decide (lo ≤ x ∧ x ≤ hi) := by
  unfold isin
  rw [decide_eq_decide, nI_leI (by omega) (by omega), nI_leI (by omega) (by omega)]
def FM (M M1 : Mm) : Prop := (∀ o' c' i', o' ≠ 1 → o' ≠ 14 → o' ≠ 15 → M1.1 o' c' i' = M.1 o' c' i') ∧ M1.2 = M.2
theorem FM.rf {M : Mm} : FM M M := ⟨fun _ _ _ _ _ _ => rfl, rfl⟩
theorem FM.tr {M M1 M2 : Mm} (h : FM M M1) (h2 : FM M1 M2) : FM M M2 := ⟨fun o' c' i' z0 z z2 => (h2.1 o' c' i' z0 z z2).trans (h.1 o' c' i' z0 z z2), h2.2.trans h.2⟩
theorem Fo.fm {M M1 : Mm} {o : Nat} (h : Fo o M M1) (ho : o = 1 ∨ o = 14 ∨ o = 15) : FM M M1 := ⟨fun o' c' i' z0 z z2 => h.1 o' c' i' (by omega), h.2⟩
theorem FM.tc {M M1 : Mm} {t : Nat → Nat} {n : Nat} (h : FM M M1) (hT : TC M t n) : TC M1 t n := ⟨(h.1 _ _ _ (by omega) (by omega) (by omega)).trans hT.1, fun i hi => (h.1 _ _ _ (by omega) (by omega) (by omega)).trans (hT.2 i hi)⟩
/-- a token is taken: the stock that is read into and the reader change -/
def FTk (M M1 : Mm) : Prop := (∀ o' c' i', o' ≠ 1 → o' ≠ 15 → M1.1 o' c' i' = M.1 o' c' i') ∧ M1.2 = M.2
theorem FTk.rf {M : Mm} : FTk M M := ⟨fun _ _ _ _ _ => rfl, rfl⟩
theorem FTk.tr {M M1 M2 : Mm} (h : FTk M M1) (h2 : FTk M1 M2) : FTk M M2 := ⟨fun o' c' i' z z2 => (h2.1 o' c' i' z z2).trans (h.1 o' c' i' z z2), h2.2.trans h.2⟩
theorem FTk.w {M : Mm} {c i : Nat} {x : Int32} : FTk M (wr M 15 c i x) := ⟨fun o' c' i' z z2 => wr_ne (by omega), wr_lg _ _ _ _ _⟩
theorem FTk.fo {M M1 : Mm} (h : Fo 1 M M1) : FTk M M1 := ⟨fun o' c' i' z z2 => h.1 o' c' i' z, h.2⟩
theorem FTk.fm {M M1 : Mm} (h : FTk M M1) : FM M M1 := ⟨fun o' c' i' z0 z z2 => h.1 o' c' i' z0 z2, h.2⟩
theorem Fo_1w {M : Mm} {o c i : Nat} {x : Int32} (h : o ≠ 1) : (wr M o c i x).1 1 = M.1 1 := funext (fun c' => funext (fun i' => wr_ne (by omega)))
theorem Fo_15 {M M1 : Mm} {o : Nat} (h : Fo o M M1) (ho : 15 ≠ o) {c i : Nat} : M1.1 15 c i = M.1 15 c i := h.1 15 c i ho
def ZC (B : Nat → Nat → Int32) : Prop := (∀ k, k < 7 → B 0 k = nI 0) ∧ (∀ i, i < 24 → B 9 i = -1) ∧ (∀ i, i < 144 → B 20 i = nI 0)
theorem ZC_RP {B : Nat → Nat → Int32} (h : ZC B) : RP B (gs 0) := gs_RP (fun k hk => by rw [h.1 k hk, ite_self]) h.2.1
theorem ZC_SK {N : Mm} {gd : Nat} (h : ZC (N.1 1)) (h1 : 1 ≤ gd) (h4 : gd ≤ 4) : SK ((wr N 1 0 1 (nI gd)).1 1) (gs gd) := by
  refine SK_mk (gs_RP (fun k hk => ?_) (fun i hi => ?_)) (gs_RR (fun i hi => ?_)) (gs_Ok h1 h4)
  · rw [wr_at]
    by_cases z : k = 1
    · rw [if_pos ⟨rfl, rfl, z⟩, if_pos z]
    · rw [if_neg (by omega), if_neg z]; exact h.1 k hk
  · rw [wr_ne (by omega)]; exact h.2.1 i hi
  · rw [wr_ne (by omega)]; exact h.2.2 i hi
/-- the reader between two tokens: ahead of the first, ahead of a word, in a line -/
def TIa (M : Mm) : Prop := M.1 15 0 4 = nI 0 ∧ M.1 15 0 6 = nI 0 ∧ ZC (M.1 1)
def TIw (M : Mm) (t : Nat → Nat) (n p s ln : Nat) (a : Sa) : Prop := M.1 15 0 4 = nI 0 ∧ M.1 15 0 6 = nI ln ∧ M.1 15 0 2 = nI s ∧ 4 ≤ s ∧ s ≤ 7 ∧ SK (M.1 1) a ∧ Lm a ∧ cnt a + 1 = ln ∧ rT t n = rFF t n (max 5 s) p ln a
def DR (B : Nat → Nat → Int32) (s ln : Nat) (a : Sa) : Prop := (ln = 0 ∧ s = 4 ∧ a = gs 0 ∧ ZC B) ∨ (1 ≤ ln ∧ 5 ≤ s ∧ s ≤ 7 ∧ SK B a ∧ Lm a ∧ cnt a + 1 = ln)
def VN (M : Mm) (c : Nat) (v : Nat → Nat) : Prop := ∀ i, i < c → M.1 15 6 i = nI (v i)
def VT (s c : Nat) (a : Sa) (v : Nat → Nat) : Prop := ∀ i, i < c → tld s i a (v 0) (v i) = true ∧ v i ≤ 99
def TIn (M : Mm) (t : Nat → Nat) (n p s c ln : Nat) (a : Sa) (v : Nat → Nat) : Prop := M.1 15 0 4 = nI 1 ∧ M.1 15 0 6 = nI ln ∧ M.1 15 0 2 = nI s ∧ M.1 15 0 3 = nI c ∧ VN M c v ∧ c ≤ nol s ∧ VT s c a v ∧ rmS s a = true ∧ DR (M.1 1) s ln a ∧ rT t n = fnL t n s ln a (rstL t n s a (nol s - c) c p v)
def TI (M : Mm) (t : Nat → Nat) (n k p : Nat) : Prop := (p = 0 ∧ k = 0 ∧ TIa M) ∨ (∃ (s ln : Nat) (a : Sa), TIw M t n p s ln a ∧ k ≤ 6 * ln) ∨ (∃ (s c ln : Nat) (a : Sa) (v : Nat → Nat), TIn M t n p s c ln a v ∧ k ≤ 6 * ln + c + 1)
theorem TI_cong {M M' : Mm} {t : Nat → Nat} {n k p : Nat} (h : ∀ c i, ¬ (c = 0 ∧ (i = 7 ∨ i = 8)) → M'.1 15 c i = M.1 15 c i) (h1 : M'.1 1 = M.1 1) (hI : TI M t n k p) : TI M' t n k p := by
  have e2 := h 0 2 (by omega)
  have e3 := h 0 3 (by omega)
  have e4 := h 0 4 (by omega)
  have e6 := h 0 6 (by omega)
  rcases hI with ⟨q1, q2, q3⟩ | ⟨s, ln, a, q1, q2⟩ | ⟨s, c, ln, a, v, q1, q2⟩
  · refine Or.inl ⟨q1, q2, ?_⟩
    unfold TIa at q3 ⊢
    rw [e4, e6, h1]; exact q3
  · refine Or.inr (Or.inl ⟨s, ln, a, ?_, q2⟩)
    unfold TIw at q1 ⊢
    rw [e4, e6, e2, h1]; exact q1
  · refine Or.inr (Or.inr ⟨s, c, ln, a, v, ?_, q2⟩)
    unfold TIn VN at q1 ⊢
    rw [e4, e6, e2, e3, h1]
    obtain ⟨z1, z2, z3, z4, z5, z6⟩ := q1
    exact ⟨z1, z2, z3, z4, fun i hi => (h 6 i (by omega)).trans (z5 i hi), z6⟩
theorem TI_le {M : Mm} {t : Nat → Nat} {n k p : Nat} (h : TI M t n k p) : k ≤ 640 := by
  rcases h with ⟨_, q2, _⟩ | ⟨s, ln, a, q1, q2⟩ | ⟨s, c, ln, a, v, q1, q2⟩
  · omega
  · obtain ⟨_, _, _, _, _, _, z7, z8, _⟩ := q1
    have := cnt_le z7
    omega
  · obtain ⟨_, _, _, _, _, z6, _, _, z9, _⟩ := q1
    have h4 := nol_le (s := s)
    rcases z9 with ⟨z, _⟩ | ⟨_, _, _, _, z, z2⟩
    · omega
    · have := cnt_le z
      omega
/-- the token that was read, as Tokens holds it -/
def TK (M : Mm) (t : Nat → Nat) (n p : Nat) : Prop := M.1 14 0 2 = nI (tkd t n p) ∧ M.1 14 0 3 = nI (tpc t n p) ∧ (tkd t n p = 2 → M.1 14 0 4 = nI (tvl t n p))
/-- what taking a token says -/
def TP (M : Mm) (t : Nat → Nat) (n k p : Nat) (r : Int32) (M1 : Mm) : Prop := ∃ f, r = nI f ∧ f ≤ 3 ∧ FTk M M1 ∧ (f = 0 → 2 ≤ tkd t n p ∧ TI M1 t n (k + 1) (tnx t n p)) ∧ (f ≠ 0 → (rT t n).1 = f ∧ (rT t n).2.1 = tpc t n p)
