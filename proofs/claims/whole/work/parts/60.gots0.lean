theorem Mono_ftp {b : Sa} {gd : Nat} : Mono (ftp b gd) (AgN b gd) (TuN b gd) := by
  intro k k' i j hk hk' hi hj h1 h2
  unfold ftp at *
  obtain ⟨x1, x2, x3, x4⟩ := fit_of h1
  obtain ⟨y1, y2, y3, y4⟩ := fit_of h2
  have s1 := (gat_sp (b 11) (lsel b gd) (b 0 3)).2.1 k k' hk hk'
  have s2 := (gat_sp (b 17) (osel b gd) (b 0 4)).2.1 j i hj hi
  have s1' : b 11 (Ag b gd k) ≤ b 11 (Ag b gd k') := s1
  have s2' : b 17 (Tu b gd j) ≤ b 17 (Tu b gd i) := s2
  have g1 := (Tu_in hi).2.1
  have g2 := (Ag_in hk').2
  exact fit_t (g2.trans g1.symm) (by omega) (by omega) (by omega)
abbrev lfb (b : Sa) (gd : Nat) : Nat → Nat := fun k => b 12 (Ag b gd k)
abbrev wnb (b : Sa) (gd : Nat) : Nat → Nat := fun i => b 16 (Tu b gd i)
abbrev msb (b : Sa) (gd i t : Nat) : Nat → Nat → Nat := mus (ftp b gd) (lfb b gd) (wnb b gd) i t
theorem PMd_cg {M : Mm} {am tn : Nat} {Lt : Nat → Nat} {ft : Nat → Nat → Bool} {mu mu' : Nat → Nat → Nat} (h : PMd M am tn Lt ft mu) (e : ∀ k j, k < am → j < tn → mu' k j = mu k j) : PMd M am tn Lt ft mu' := ⟨h.tn_, h.am_, fun k hk => h.age hk, fun k i hk hi => h.may hk hi, fun k i hk hi => by rw [e k i hk hi]; exact h.much hk hi, h.a24, h.t8⟩
theorem mus_0 {ft : Nat → Nat → Bool} {left want : Nat → Nat} {k j : Nat} : mus ft left want 0 0 k j = 0 := by
  unfold mus
  rw [if_neg (by omega)]
  split
  · rw [ps_cum]; split
    · omega
    · rfl
  · rfl
theorem mus_more {ft : Nat → Nat → Bool} {left want : Nat → Nat} {am i t k j : Nat} (h : fst ft left want am i t < am) (hk : k < am) : mus ft left want i (t + 1) k j = if k = fst ft left want am i t ∧ j = i then mus ft left want i t k j + 1 else mus ft left want i t k j := by
  unfold mus
  by_cases hj : j < i
  · rw [if_pos hj, if_neg (by omega), if_pos hj]
  · rw [if_neg hj, if_neg hj]
    by_cases e : j = i
    · rw [if_pos e, if_pos e, one_more h k hk]
      by_cases z : k = fst ft left want am i t
      · rw [if_pos z, if_pos ⟨z, e⟩]
      · rw [if_neg z, if_neg (fun y => z y.1)]; rfl
    · rw [if_neg e, if_neg e, if_neg (fun y => e y.2)]
theorem pw_more {ft : Nat → Nat → Bool} {left want : Nat → Nat} {am i t : Nat} (h : fst ft left want am i t < am) : pw (fun k => ft k i) (pr ft left want i) (t + 1) am = 0 := by
  have h1 := fa_first_yes _ _ h
  rw [Bool.and_eq_true] at h1
  have hf : ft (fst ft left want am i t) i = true := h1.1
  have hs : 0 < spr ft left want i t (fst ft left want am i t) := of_decide_eq_true h1.2
  have h2 := ((spr_cum hf).mp hs).1
  have h3 := cum_mono (fun k => ft k i) (pr ft left want i) (k := fst ft left want am i t + 1) (k' := am) h
  rw [pw_cum]
  omega
theorem mus_end {ft : Nat → Nat → Bool} {left want : Nat → Nat} {am i t k j : Nat} (h : ¬ fst ft left want am i t < am) (ht : t ≤ want i) (hk : k < am) : mus ft left want (i + 1) 0 k j = mus ft left want i t k j := by
  rw [← mus_full]
  unfold mus
  by_cases hj : j < i
  · rw [if_pos hj, if_pos hj]
  · rw [if_neg hj, if_neg hj]
    split
    · exact no_more h (want i) ht k hk
    · rfl
theorem mus_fin {ft : Nat → Nat → Bool} {left want : Nat → Nat} {tn k j : Nat} (hj : j < tn) : mus ft left want tn 0 k j = sh ft left want j k := if_pos hj
theorem fin_used {ft : Nat → Nat → Bool} {left want : Nat → Nat} {tn k : Nat} : fb_sm (mus ft left want tn 0 k) tn + spr ft left want tn 0 k = left k := by
  rw [fb_sm_cong (f := mus ft left want tn 0 k) (g := fun j => sh ft left want j k) (fun j hj => if_pos hj)]
  have h1 := pr_sum (ft := ft) (left := left) (want := want) (k := k) tn
  have h2 : ps (fun k => ft k tn) (pr ft left want tn) 0 k = 0 := by
    rw [ps_cum]; split
    · omega
    · rfl
  unfold spr
  omega
theorem fin_spr {ft : Nat → Nat → Bool} {left want : Nat → Nat} {tn k : Nat} : spr ft left want tn 0 k = pr ft left want tn k := by
  have h2 : ps (fun k => ft k tn) (pr ft left want tn) 0 k = 0 := by
    rw [ps_cum]; split
    · omega
    · rfl
  unfold spr
  omega
theorem EfB_same {a : Sa} (hI : Iv a) (gd : Nat) : EfB a a gd (-1) 0 false 0 0 0 := by
  refine ⟨rfl, fun _ _ _ _ => rfl, fun _ => rfl, rfl, fun _ _ _ _ _ => rfl, fun h => absurd h (by decide), fun q hq _ _ => ?_, hI⟩
  have := hI.o41
  rw [if_neg (nI_nm1 (by omega))]
theorem bi_t' : bi true = nI 1 := rfl
theorem bi_f' : bi false = nI 0 := rfl
/-- what stands in the rows when orders have what they get -/
def LG (M : Mm) (a b : Sa) (gd : Nat) : Prop := PMd M (AgN b gd) (TuN b gd) (Ag b gd) (ftp b gd) (fun k j => shp b gd j k) ∧ ∀ i, i < TuN b gd → M.1 18 17 i = nI (nm a (Tu b gd i))
