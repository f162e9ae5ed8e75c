/-! the calls that change the state: answer and what follows; a state with what undo brings back -/
abbrev Sys : Type := Sa × Nat × (Nat → Sa)
def pus (S : Sys) (b : Sa) : Sys := (b, psm S.2.1, psh S.2.2 S.2.1 S.1)
def cokm (a : Sa) (x y z w : Int32) : Bool := inr x (a 0 1) && ahead a y && isin z (nI 1) (nI 99) && isin w (nI 0) (nI 999)
noncomputable def S_comes (S : Sys) (x y z w : Int32) : Int32 × Sys := if cokm S.1 x y z w = true then (if S.1 0 3 = 24 then (-2, S) else (nI (S.1 0 3), pus S (addL S.1 x.toNatClampNeg y.toNatClampNeg z.toNatClampNeg w.toNatClampNeg))) else (-1, S)
noncomputable def S_asks (S : Sys) (x y z w : Int32) : Int32 × Sys := if cask S.1 x y z w = true then (if asked S.1 x.toNatClampNeg y.toNatClampNeg = true then (-2, S) else if S.1 0 4 = 40 then (-3, S) else (nI (S.1 0 4), pus S (addO S.1 x.toNatClampNeg y.toNatClampNeg z.toNatClampNeg w.toNatClampNeg))) else (-1, S)
noncomputable def S_reserve (S : Sys) (x : Int32) : Int32 × Sys := if inr x (S.1 0 1) = true then (nI (rsv S.1 x.toNatClampNeg).2, pus S (rsv S.1 x.toNatClampNeg).1) else (-1, S)
noncomputable def S_cancel (S : Sys) (y : Int32) : Int32 × Sys := if opn S.1 y = true then (nI (ro S.1 y.toNatClampNeg), pus S (clo S.1 y.toNatClampNeg 2)) else (-1, S)
noncomputable def S_hold (S : Sys) (x d : Int32) : Int32 × Sys := if (inr x (S.1 0 3) && isin d (nI 0) (nI 999)) = true then (nI (unsum (ua S.1 13 x.toNatClampNeg d.toNatClampNeg) x.toNatClampNeg (S.1 0 4)), pus S (unk (ua S.1 13 x.toNatClampNeg d.toNatClampNeg) x.toNatClampNeg (S.1 0 4))) else (-1, S)
noncomputable def S_deliver (S : Sys) (y : Int32) : Int32 × Sys := if opn S.1 y = true ∧ S.1 17 y.toNatClampNeg = S.1 0 0 ∧ ¬ ro S.1 y.toNatClampNeg = 0 then (nI (ro S.1 y.toNatClampNeg), pus S (hnd S.1 y.toNatClampNeg)) else (-1, S)
noncomputable def eds (a : Sa) : Nat → Sa
  | 0 => a
  | k + 1 => edy (eds a k)
noncomputable def S_pass (S : Sys) (x : Int32) : Int32 × Sys := if isin x (nI 1) (nI 99) = true ∧ S.1 0 0 + x.toNatClampNeg ≤ 900 then (nI (S.1 0 0 + x.toNatClampNeg), pus S (eds S.1 x.toNatClampNeg)) else (-1, S)
def S_undo (S : Sys) : Int32 × Sys := if S.2.1 = 0 then (-1, S) else (nI (S.2.1 - 1), (S.2.2 (S.2.1 - 1), S.2.1 - 1, S.2.2))
def MY (M : Mm) (S : Sys) : Prop := MS M S.1 S.2.1 S.2.2
theorem cok_of {a : Sa} {x y z w : Int32} (h : cokm a x y z w = true) : ∃ gd e s t : Nat, x = nI gd ∧ y = nI e ∧ z = nI s ∧ w = nI t ∧ gd < a 0 1 ∧ a 0 0 ≤ e ∧ e ≤ a 0 0 + 99 ∧ 1 ≤ s ∧ s ≤ 99 ∧ t ≤ 999 := by
  unfold cokm at h
  rw [Bool.and_eq_true, Bool.and_eq_true, Bool.and_eq_true] at h
  obtain ⟨⟨⟨h1, h2⟩, h3⟩, h4⟩ := h
  obtain ⟨gd, hg, rfl⟩ := inr_of h1
  obtain ⟨e, he1, he2, rfl⟩ := ahead_of h2
  obtain ⟨s, hs1, hs2, rfl⟩ := isin_of (by decide) (by decide) h3
  obtain ⟨t, _, ht, rfl⟩ := isin_of (by decide) (by decide) h4
  exact ⟨gd, e, s, t, rfl, rfl, rfl, rfl, hg, he1, he2, hs1, hs2, ht⟩
section SST
variable {a : Sa} {m : Nat} {h : Nat → Sa}
theorem S_comes_no {x y z w : Int32} (c : cokm a x y z w = false) : S_comes (a, m, h) x y z w = (-1, (a, m, h)) := by unfold S_comes; rw [if_neg (by rw [c]; decide)]
theorem S_comes_full {x y z w : Int32} (c : cokm a x y z w = true) (e : a 0 3 = 24) : S_comes (a, m, h) x y z w = (-2, (a, m, h)) := by unfold S_comes; rw [if_pos c, if_pos e]
theorem S_comes_at {x y z w : Nat} (hx : x < 65536) (hy : y < 65536) (hz : z < 65536) (hw : w < 65536) (c : cokm a (nI x) (nI y) (nI z) (nI w) = true) (e : ¬ a 0 3 = 24) : S_comes (a, m, h) (nI x) (nI y) (nI z) (nI w) = (nI (a 0 3), (addL a x y z w, psm m, psh h m a)) := by
  unfold S_comes; rw [if_pos c, if_neg e, nI_clamp (by omega), nI_clamp (by omega), nI_clamp (by omega), nI_clamp (by omega)]; rfl
theorem S_asks_no {x y z w : Int32} (c : cask a x y z w = false) : S_asks (a, m, h) x y z w = (-1, (a, m, h)) := by unfold S_asks; rw [if_neg (by rw [c]; decide)]
theorem S_asks_a {x y : Nat} {z w : Int32} (hx : x < 65536) (hy : y < 65536) (c : cask a (nI x) (nI y) z w = true) (e : asked a x y = true) : S_asks (a, m, h) (nI x) (nI y) z w = (-2, (a, m, h)) := by unfold S_asks; rw [if_pos c, nI_clamp (by omega), nI_clamp (by omega), if_pos e]
theorem S_asks_full {x y : Nat} {z w : Int32} (hx : x < 65536) (hy : y < 65536) (c : cask a (nI x) (nI y) z w = true) (e : asked a x y = false) (f : a 0 4 = 40) : S_asks (a, m, h) (nI x) (nI y) z w = (-3, (a, m, h)) := by unfold S_asks; rw [if_pos c, nI_clamp (by omega), nI_clamp (by omega), if_neg (by rw [e]; decide), if_pos f]
theorem S_asks_at {x y z w : Nat} (hx : x < 65536) (hy : y < 65536) (hz : z < 65536) (hw : w < 65536) (c : cask a (nI x) (nI y) (nI z) (nI w) = true) (e : asked a x y = false) (f : ¬ a 0 4 = 40) : S_asks (a, m, h) (nI x) (nI y) (nI z) (nI w) = (nI (a 0 4), (addO a x y z w, psm m, psh h m a)) := by
  unfold S_asks; rw [if_pos c, nI_clamp (by omega), nI_clamp (by omega), nI_clamp (by omega), nI_clamp (by omega), if_neg (by rw [e]; decide), if_neg f]; rfl
theorem S_reserve_no {x : Int32} (c : inr x (a 0 1) = false) : S_reserve (a, m, h) x = (-1, (a, m, h)) := by unfold S_reserve; rw [if_neg (by rw [c]; decide)]
theorem S_reserve_at {x : Nat} (hx : x < 65536) (c : inr (nI x) (a 0 1) = true) : S_reserve (a, m, h) (nI x) = (nI (rsv a x).2, ((rsv a x).1, psm m, psh h m a)) := by unfold S_reserve; rw [if_pos c, nI_clamp (by omega)]; rfl
theorem S_cancel_no {y : Int32} (c : opn a y = false) : S_cancel (a, m, h) y = (-1, (a, m, h)) := by unfold S_cancel; rw [if_neg (by rw [c]; decide)]
theorem S_cancel_at {q : Nat} (hq : q < 65536) (c : opn a (nI q) = true) : S_cancel (a, m, h) (nI q) = (nI (ro a q), (clo a q 2, psm m, psh h m a)) := by unfold S_cancel; rw [if_pos c, nI_clamp (by omega)]; rfl
theorem S_hold_no {x d : Int32} (c : (inr x (a 0 3) && isin d (nI 0) (nI 999)) = false) : S_hold (a, m, h) x d = (-1, (a, m, h)) := by unfold S_hold; rw [if_neg (by rw [c]; decide)]
theorem S_hold_at {p d : Nat} (hp : p < 65536) (hd : d < 65536) (c1 : inr (nI p) (a 0 3) = true) (c2 : isin (nI d) (nI 0) (nI 999) = true) : S_hold (a, m, h) (nI p) (nI d) = (nI (unsum (ua a 13 p d) p (a 0 4)), (unk (ua a 13 p d) p (a 0 4), psm m, psh h m a)) := by unfold S_hold; rw [if_pos (by rw [c1, c2]; rfl), nI_clamp (by omega), nI_clamp (by omega)]; rfl
theorem S_deliver_no {y : Int32} (c : ¬ (opn a y = true ∧ a 17 y.toNatClampNeg = a 0 0 ∧ ¬ ro a y.toNatClampNeg = 0)) : S_deliver (a, m, h) y = (-1, (a, m, h)) := by unfold S_deliver; rw [if_neg c]
theorem S_deliver_at {q : Nat} (hq : q < 65536) (c : opn a (nI q) = true) (c1 : a 17 q = a 0 0) (c2 : ¬ ro a q = 0) : S_deliver (a, m, h) (nI q) = (nI (ro a q), (hnd a q, psm m, psh h m a)) := by unfold S_deliver; rw [nI_clamp (by omega), if_pos ⟨c, c1, c2⟩]; rfl
theorem S_pass_no {x : Int32} (c : ¬ (isin x (nI 1) (nI 99) = true ∧ a 0 0 + x.toNatClampNeg ≤ 900)) : S_pass (a, m, h) x = (-1, (a, m, h)) := by unfold S_pass; rw [if_neg c]
theorem S_pass_at {n : Nat} (hn : n < 65536) (c : isin (nI n) (nI 1) (nI 99) = true) (c2 : a 0 0 + n ≤ 900) : S_pass (a, m, h) (nI n) = (nI (a 0 0 + n), (eds a n, psm m, psh h m a)) := by unfold S_pass; rw [nI_clamp (by omega), if_pos ⟨c, c2⟩]; rfl
theorem S_undo_no (e : m = 0) : S_undo (a, m, h) = (-1, (a, m, h)) := by unfold S_undo; rw [if_pos e]
theorem S_undo_at : S_undo (a, m + 1, h) = (nI m, (h m, m, h)) := by unfold S_undo; rw [if_neg (Nat.succ_ne_zero m)]; rfl
end SST
theorem addL_keep {a : Sa} {gd e s t j i : Nat} (h : ¬ (j = 0 ∧ i = 3)) (h2 : ¬ (10 ≤ j ∧ j < 14 ∧ i = a 0 3)) : addL a gd e s t j i = a j i := by
  unfold addL
  rw [ua_ne (by omega), ua_ne (by omega), ua_ne (by omega), ua_ne (by omega), ua_ne (by omega)]
theorem addL_03 {a : Sa} {gd e s t : Nat} : addL a gd e s t 0 3 = a 0 3 + 1 := by unfold addL; rw [ua_eq]
theorem addL_10 {a : Sa} {gd e s t : Nat} : addL a gd e s t 10 (a 0 3) = gd := by unfold addL; rw [ua_ne (by omega), ua_ne (by omega), ua_ne (by omega), ua_ne (by omega), ua_eq]
theorem addL_11 {a : Sa} {gd e s t : Nat} : addL a gd e s t 11 (a 0 3) = e := by unfold addL; rw [ua_ne (by omega), ua_ne (by omega), ua_ne (by omega), ua_eq]
theorem addL_12 {a : Sa} {gd e s t : Nat} : addL a gd e s t 12 (a 0 3) = s := by unfold addL; rw [ua_ne (by omega), ua_ne (by omega), ua_eq]
theorem addL_13 {a : Sa} {gd e s t : Nat} : addL a gd e s t 13 (a 0 3) = t := by unfold addL; rw [ua_ne (by omega), ua_eq]
theorem RM_addL {N N' : Nat → Int32} {a : Sa} {gd e s t : Nat} (hN : RM N a) (h24 : a 0 3 < 24) (hk : ∀ i, i ≠ 3 → ¬ (37 + 4 * a 0 3 ≤ i ∧ i < 37 + 4 * a 0 3 + 4) → N' i = N i) (h3 : N' 3 = nI (a 0 3 + 1)) (v0 : N' (37 + 4 * a 0 3 + 0) = nI gd) (v1 : N' (37 + 4 * a 0 3 + 1) = nI e) (v2 : N' (37 + 4 * a 0 3 + 2) = nI s) (v3 : N' (37 + 4 * a 0 3 + 3) = nI t) : RM N' (addL a gd e s t) := by
  have b2 := hN.c6
  have b4 := hN.o40
  refine ⟨fun k hk' => ?_, fun c hc => ?_, fun c g hc hg => ?_, fun p j hp hj => ?_, fun q j hq hj => ?_, fun p q hp hq => ?_, ?_, ?_, ?_⟩
  · by_cases z : k = 3
    · subst z; rw [h3, addL_03]
    · rw [hk k z (by omega), addL_keep (by omega) (by omega)]; exact hN.sc hk'
  · rw [addL_keep (by omega) (by omega)] at hc
    rw [hk _ (by omega) (by omega), addL_keep (by omega) (by omega)]; exact hN.life hc
  · rw [hk _ (by omega) (by omega), addL_keep (by omega) (by omega)]; exact hN.latest hc hg
  · rw [addL_03] at hp
    by_cases z : p = a 0 3
    · subst z
      rcases (show j = 0 ∨ j = 1 ∨ j = 2 ∨ j = 3 by omega) with rfl | rfl | rfl | rfl
      · rw [v0, addL_10]
      · rw [v1, addL_11]
      · rw [v2, addL_12]
      · rw [v3, addL_13]
    · rw [hk _ (by omega) (by omega), addL_keep (by omega) (by omega)]; exact hN.lot (by omega) hj rfl
  · rw [addL_keep (by omega) (by omega)] at hq
    rw [hk _ (by omega) (by omega), addL_keep (by omega) (by omega)]; exact hN.ord hq hj rfl
  · rw [hk _ (by omega) (by omega)]; unfold res; rw [addL_keep (by omega) (by omega)]; exact hN.res hp hq
  · rw [addL_keep (by omega) (by omega)]; exact b2
  · rw [addL_03]; omega
  · rw [addL_keep (by omega) (by omega)]; exact b4
theorem RM_addO {N N' : Nat → Int32} {a : Sa} {c gd s d : Nat} (hN : RM N a) (h40 : a 0 4 < 40) (hk : ∀ i, i ≠ 4 → ¬ (133 + 6 * a 0 4 ≤ i ∧ i < 133 + 6 * a 0 4 + 6) → N' i = N i) (h3 : N' 4 = nI (a 0 4 + 1)) (v0 : N' (133 + 6 * a 0 4 + 0) = nI c) (v1 : N' (133 + 6 * a 0 4 + 1) = nI gd) (v2 : N' (133 + 6 * a 0 4 + 2) = nI s) (v3 : N' (133 + 6 * a 0 4 + 3) = nI d) (v4 : N' (133 + 6 * a 0 4 + 4) = nI 0) (v5 : N' (133 + 6 * a 0 4 + 5) = nI 0) : RM N' (addO a c gd s d) := by
  have b2 := hN.c6
  have b3 := hN.l24
  refine ⟨fun k hk' => ?_, fun c hc => ?_, fun c g hc hg => ?_, fun p j hp hj => ?_, fun q j hq hj => ?_, fun p q hp hq => ?_, ?_, ?_, ?_⟩
  · by_cases z : k = 4
    · subst z; rw [h3, addO_04]
    · rw [hk k z (by omega), addO_keep (by omega) (by omega)]; exact hN.sc hk'
  · rw [addO_keep (by omega) (by omega)] at hc
    rw [hk _ (by omega) (by omega), addO_keep (by omega) (by omega)]; exact hN.life hc
  · rw [hk _ (by omega) (by omega), addO_keep (by omega) (by omega)]; exact hN.latest hc hg
  · rw [addO_keep (by omega) (by omega)] at hp
    rw [hk _ (by omega) (by omega), addO_keep (by omega) (by omega)]; exact hN.lot hp hj rfl
  · rw [addO_04] at hq
    by_cases z : q = a 0 4
    · subst z
      rcases (show j = 0 ∨ j = 1 ∨ j = 2 ∨ j = 3 ∨ j = 4 ∨ j = 5 by omega) with rfl | rfl | rfl | rfl | rfl | rfl
      · rw [v0, addO_14]
      · rw [v1, addO_15]
      · rw [v2, addO_16]
      · rw [v3, addO_17]
      · rw [v4, addO_18]
      · rw [v5, addO_19]
    · rw [hk _ (by omega) (by omega), addO_keep (by omega) (by omega)]; exact hN.ord (by omega) hj rfl
  · rw [hk _ (by omega) (by omega)]; unfold res; rw [addO_keep (by omega) (by omega)]; exact hN.res hp hq
  · rw [addO_keep (by omega) (by omega)]; exact b2
  · rw [addO_keep (by omega) (by omega)]; exact b3
  · rw [addO_04]; omega
theorem unk_z {a : Sa} {p k : Nat} (hk : k < 64) (h : res a p k = 0) : unk a p (k + 1) = unk a p k := by
  cases hf : fit a p k with
  | true => exact unk_keep hf
  | false =>
    rw [← unk_ua hk hf]
    funext j i
    rw [ua_at]
    by_cases z : j = 21 ∧ i = 64 * p + k
    · rw [if_pos z, z.1, z.2]
      have h9 := unk_res a (p := p) (k := k) (l := p) hk
      rw [if_neg (by omega), h] at h9
      exact h9.symm
    · rw [if_neg z]
theorem frees_ua {a : Sa} {q s : Nat} : frees (ua a 18 q s) q = clo a q s := by
  funext j i
  unfold frees
  rw [clo_at, ua_at]
  by_cases z : j = 18 ∧ i = q
  · rw [if_neg (by omega), if_pos z, if_pos z]
  · rw [if_neg z, if_neg z]
/-- one row of what is reserved is cleared -/
def wok1 (a : Sa) (p k : Nat) : Sa := fun j i => if j = 21 ∧ i / 64 = p ∧ i % 64 < k then 0 else a j i
theorem wok1_lo (a : Sa) (p k : Nat) : ∀ j i, j < 20 → wok1 a p k j i = a j i := fun j i hj => if_neg (fun z => by omega)
theorem wok1_0 (a : Sa) (p : Nat) : wok1 a p 0 = a := by funext j i; exact if_neg (fun z => by omega)
theorem wok1_ua {a : Sa} {p k : Nat} (hk : k < 64) : ua (wok1 a p k) 21 (64 * p + k) 0 = wok1 a p (k + 1) := by
  funext j i
  rw [ua_at]
  unfold wok1
  by_cases z : j = 21 ∧ i = 64 * p + k
  · rw [if_pos z, if_pos ⟨z.1, by omega, by omega⟩]
  · rw [if_neg z]
    by_cases z2 : j = 21 ∧ i / 64 = p ∧ i % 64 < k
    · rw [if_pos z2, if_pos ⟨z2.1, z2.2.1, by omega⟩]
    · rw [if_neg z2, if_neg (by omega)]
theorem wok1_all {a : Sa} {p : Nat} (hr : Ir a) : ∀ l q, l < 24 → q < 40 → res (wo a p) l q = res (wok1 (ua (ua a 0 5 (a 0 5 + a 12 p)) 12 p 0) p (a 0 4)) l q := by
  intro l q hl hq
  rw [wo_res (by omega)]
  unfold res wok1
  by_cases z : l = p
  · rw [if_pos z]
    by_cases y : q < a 0 4
    · rw [if_pos ⟨rfl, by omega, by omega⟩]
    · rw [if_neg (by omega), ua_ne (by omega), ua_ne (by omega)]
      exact (res_0 hr (p := l) (q := q) (by omega) (by omega)).symm
  · rw [if_neg z, if_neg (by omega), ua_ne (by omega), ua_ne (by omega)]
