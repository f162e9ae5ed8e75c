/-! an order never has less when its customer wants less life -/
theorem pr_cong {ft ft' : Nat → Nat → Bool} {left want : Nat → Nat} : ∀ t, (∀ i k, i < t → ft k i = ft' k i) → pr ft left want t = pr ft' left want t := by
  intro t
  induction t with
  | zero => intro _; rfl
  | succ t ih =>
    intro h
    have e := ih (fun i k hi => h i k (by omega))
    funext k
    show pr ft left want t k - ps (fun k => ft k t) (pr ft left want t) (want t) k = pr ft' left want t k - ps (fun k => ft' k t) (pr ft' left want t) (want t) k
    rw [e, show (fun k => ft k t) = (fun k => ft' k t) from funext (fun k => h t k (by omega))]
theorem ul_j {a : Sa} {c v j : Nat} (hj : j ≠ 8) : ua a 8 c v j = a j := funext (fun i => ua_nj hj)
section UL
variable {a : Sa} {c v gd : Nat}
theorem ul_lsel : lsel (ua a 8 c v) gd = lsel a gd := by unfold lsel; rw [ul_j (by decide)]
theorem ul_osel : osel (ua a 8 c v) gd = osel a gd := by unfold osel; rw [ul_j (by decide), ul_j (by decide)]
theorem ul_AgN : AgN (ua a 8 c v) gd = AgN a gd := by unfold AgN; rw [ul_lsel, ul_j (by decide), ul_j (by decide)]
theorem ul_Ag : Ag (ua a 8 c v) gd = Ag a gd := by unfold Ag; rw [ul_lsel, ul_j (by decide), ul_j (by decide)]
theorem ul_TuN : TuN (ua a 8 c v) gd = TuN a gd := by unfold TuN; rw [ul_osel, ul_j (by decide), ul_j (by decide)]
theorem ul_Tu : Tu (ua a 8 c v) gd = Tu a gd := by unfold Tu; rw [ul_osel, ul_j (by decide), ul_j (by decide)]
theorem ul_tpos {x : Nat} : tpos (ua a 8 c v) gd x = tpos a gd x := by unfold tpos; rw [ul_Tu, ul_TuN]
end UL
theorem fil_cum {a : Sa} (hI : Iv a) {q n : Nat} (hq : q < a 0 4) (h18 : a 18 q = 0) : fil a q n = decide (a 16 q ≤ cum (fun k => fit (ua a 8 (a 14 q) (a 8 (a 14 q) - n)) (Ag a (a 15 q) k) q) (prp a (a 15 q) (tpos a (a 15 q) q)) (AgN a (a 15 q))) := by
  obtain ⟨h1, h2⟩ := tpos_lt hq rfl h18
  unfold fil
  rw [ul_AgN, ul_tpos]
  have hpr : prp (ua a 8 (a 14 q) (a 8 (a 14 q) - n)) (a 15 q) (tpos a (a 15 q) q) = prp a (a 15 q) (tpos a (a 15 q) q) := by
    unfold prp
    rw [ul_Ag, ul_Tu, ul_j (by decide), ul_j (by decide)]
    refine pr_cong _ (fun i k hi => ?_)
    have hin := Tu_in (a := a) (gd := a 15 q) (i := i) (by omega)
    have hne : Tu a (a 15 q) i ≠ q := fun e => by
      have := Tu_inj (a := a) (gd := a 15 q) (i := i) (j := tpos a (a 15 q) q) (by omega) h1 (by rw [e, h2])
      omega
    have hc : a 14 (Tu a (a 15 q) i) ≠ a 14 q := fun e => hne (hI.one hin.1 hq hin.2.2 h18 e hin.2.1)
    unfold ftp fit
    rw [ul_Ag, ul_Tu, ul_j (j := 10) (by decide), ul_j (j := 15) (by decide), ul_j (j := 14) (by decide), ul_j (j := 17) (by decide), ul_j (j := 11) (by decide), ul_j (j := 9) (by decide), ul_j (j := 13) (by decide), ua_ni hc]
  have hs := ps_sum (fun k => ftp (ua a 8 (a 14 q) (a 8 (a 14 q) - n)) (a 15 q) k (tpos a (a 15 q) q)) (prp a (a 15 q) (tpos a (a 15 q) q)) (a 16 q) (AgN a (a 15 q))
  have he : shp (ua a 8 (a 14 q) (a 8 (a 14 q) - n)) (a 15 q) (tpos a (a 15 q) q) = ps (fun k => ftp (ua a 8 (a 14 q) (a 8 (a 14 q) - n)) (a 15 q) k (tpos a (a 15 q) q)) (prp a (a 15 q) (tpos a (a 15 q) q)) (a 16 q) := by
    funext k
    show ps (fun k => ftp (ua a 8 (a 14 q) (a 8 (a 14 q) - n)) (a 15 q) k (tpos a (a 15 q) q)) (prp (ua a 8 (a 14 q) (a 8 (a 14 q) - n)) (a 15 q) (tpos a (a 15 q) q)) (ua a 8 (a 14 q) (a 8 (a 14 q) - n) 16 (Tu (ua a 8 (a 14 q) (a 8 (a 14 q) - n)) (a 15 q) (tpos a (a 15 q) q))) k = _
    rw [hpr, ul_Tu, h2, ul_j (j := 16) (by decide)]
  rw [he, hs, pw_cum]
  have hf : (fun k => ftp (ua a 8 (a 14 q) (a 8 (a 14 q) - n)) (a 15 q) k (tpos a (a 15 q) q)) = (fun k => fit (ua a 8 (a 14 q) (a 8 (a 14 q) - n)) (Ag a (a 15 q) k) q) := by
    funext k
    unfold ftp
    rw [ul_Ag, ul_Tu, h2]
  rw [hf, decide_eq_decide]
  omega
theorem fil_mono {a : Sa} (hI : Iv a) {q n n' : Nat} (hq : q < a 0 4) (h18 : a 18 q = 0) (hn : n ≤ n') (h : fil a q n = true) : fil a q n' = true := by
  rw [fil_cum hI hq h18] at h ⊢
  have h1 := of_decide_eq_true h
  refine decide_eq_true (Nat.le_trans h1 ?_)
  refine fb_sm_le (fun k hk => ?_)
  have key : fit (ua a 8 (a 14 q) (a 8 (a 14 q) - n)) (Ag a (a 15 q) k) q = true → fit (ua a 8 (a 14 q) (a 8 (a 14 q) - n')) (Ag a (a 15 q) k) q = true := by
    intro z
    obtain ⟨x1, x2, x3, x4⟩ := fit_of z
    rw [ul_j (j := 10) (by decide), ul_j (j := 15) (by decide)] at x1
    rw [ul_j (j := 14) (by decide), ua_eq, ul_j (j := 17) (by decide), ul_j (j := 11) (by decide)] at x2
    refine fit_t ?_ ?_ ?_ ?_
    · rw [ul_j (j := 10) (by decide), ul_j (j := 15) (by decide)]; exact x1
    · rw [ul_j (j := 14) (by decide), ua_eq, ul_j (j := 17) (by decide), ul_j (j := 11) (by decide)]; omega
    · rw [ul_j (j := 9) (by decide), ul_j (j := 14) (by decide), ul_j (j := 15) (by decide), ul_j (j := 11) (by decide)] at x3 ⊢; exact x3
    · rw [ul_j (j := 13) (by decide), ul_j (j := 17) (by decide)] at x4 ⊢; exact x4
  by_cases z : fit (ua a 8 (a 14 q) (a 8 (a 14 q) - n)) (Ag a (a 15 q) k) q = true
  · rw [if_pos z, if_pos (key z)]; exact Nat.le_refl _
  · rw [if_neg z]; exact Nat.zero_le _
theorem ul_ul {a : Sa} {c v w : Nat} : ua (ua a 8 c v) 8 c w = ua a 8 c w := by
  funext j i
  rw [ua_at, ua_at, ua_at]
  split <;> rfl
theorem ul_self {a : Sa} {c : Nat} : ua a 8 c (a 8 c) = a := by
  funext j i
  rw [ua_at]
  split
  · next z => rw [z.1, z.2]
  · rfl
theorem oop_asked {a : Sa} {c gd : Nat} (h4 : a 0 4 < 65536) : oop a c gd = -1 ↔ asked a c gd = false := by
  constructor
  · intro h
    refine asked_f (fun i hi z => ?_)
    unfold oop at h
    rw [if_neg (fun e => by rw [fb_ct_zero] at e; have := e i hi; rw [decide_eq_true z] at this; exact absurd this (by decide))] at h
    exact nI_nm1 (by have := fa_first_le (fun i => decide (a 14 i = c ∧ a 15 i = gd ∧ a 18 i = 0)) (a 0 4); omega) h
  · intro h
    exact oop_no (asked_no h)
/-! the class: its stock and its past -/
def F116 (M M1 : Mm) : Prop := (∀ o' c' i', o' ≠ 1 → o' ≠ 16 → M1.1 o' c' i' = M.1 o' c' i') ∧ M1.2 = M.2
theorem F116.rf {M : Mm} : F116 M M := ⟨fun _ _ _ _ _ => rfl, rfl⟩
theorem F116.tr {M M1 M2 : Mm} (h : F116 M M1) (h2 : F116 M1 M2) : F116 M M2 := ⟨fun o' c' i' z z' => (h2.1 o' c' i' z z').trans (h.1 o' c' i' z z'), h2.2.trans h.2⟩
theorem Fo.f1 {M M1 : Mm} (h : Fo 1 M M1) : F116 M M1 := ⟨fun o' c' i' z z' => h.1 o' c' i' z, h.2⟩
theorem Fo.f16 {M M1 : Mm} (h : Fo 16 M M1) : F116 M M1 := ⟨fun o' c' i' z z' => h.1 o' c' i' z', h.2⟩
theorem F116.sk {M M1 : Mm} (h : F116 M M1) {a : Sa} (hK : SK (M.1 0) a) : SK (M1.1 0) a := by
  have e : M1.1 0 = M.1 0 := funext (fun c => funext (fun i => h.1 0 c i (by decide) (by decide)))
  rw [e]; exact hK
theorem RP_fun {B B' : Nat → Nat → Int32} {a : Sa} (hS : RP B a) (e : B' = B) : RP B' a := e ▸ hS
