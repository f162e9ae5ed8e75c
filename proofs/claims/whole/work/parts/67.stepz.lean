/-! each act keeps the invariants -/
def Ok (a : Sa) : Prop := Iv a ∧ Ir a ∧ Is a
theorem Iv_ua {a : Sa} {j k v : Nat} (h : Iv a) (c : (j = 0 ∧ (k = 5 ∨ k = 6 ∨ (k = 0 ∧ v ≤ 900))) ∨ (j = 8 ∧ v ≤ 99) ∨ (j = 9 ∧ v ≤ 1000) ∨ (j = 12 ∧ v ≤ 99) ∨ (j = 13 ∧ v ≤ 999) ∨ (j = 18 ∧ 0 < v ∧ v < 4) ∨ j = 19 ∨ 20 ≤ j) : Iv (ua a j k v) := by
  refine ⟨?_, ?_, ?_, ?_, ?_, ?_, fun c hc => ?_, fun i => ?_, fun l hll => ?_, fun o ho => ?_, fun o o' ho ho' h1 h2 h3 h4 => ?_⟩
  · have := h.today; rw [ua_at]; split <;> omega
  · rw [ua_ne (by omega)]; exact h.g1
  · rw [ua_ne (by omega)]; exact h.g4
  · rw [ua_ne (by omega)]; exact h.c6
  · rw [ua_ne (by omega)]; exact h.l24
  · rw [ua_ne (by omega)]; exact h.o41
  · rw [ua_ne (by omega)] at hc; have := h.life hc; rw [ua_at]; split <;> omega
  · have := h.latest i; rw [ua_at]; split <;> omega
  · rw [ua_ne (by omega)] at hll
    obtain ⟨p1, p2, p3, p4⟩ := h.lot hll
    rw [ua_ne (j' := 10) (by omega), ua_ne (j' := 0) (by omega), ua_ne (j' := 11) (by omega)]
    refine ⟨p1, p2, ?_, ?_⟩
    · rw [ua_at]; split <;> omega
    · rw [ua_at]; split <;> omega
  · rw [ua_ne (by omega)] at ho
    obtain ⟨p1, p2, p3, p4, p5, p6⟩ := h.ord ho
    rw [ua_ne (j' := 14) (by omega), ua_ne (j' := 0) (by omega), ua_ne (j' := 15) (by omega), ua_ne (j' := 0) (by omega), ua_ne (j' := 16) (by omega), ua_ne (j' := 17) (by omega)]
    refine ⟨p1, p2, p3, p4, p5, ?_⟩
    rw [ua_at]; split <;> omega
  · rw [ua_ne (by omega)] at ho ho'
    rw [ua_ne (by omega), ua_ne (by omega)] at h3 h4
    refine h.one ho ho' ?_ ?_ h3 h4
    · rw [ua_at] at h1; split at h1 <;> omega
    · rw [ua_at] at h2; split at h2 <;> omega
theorem Iv_lo {a a' : Sa} (h : Iv a) (e : ∀ j i, j < 20 → a' j i = a j i) : Iv a' := Iv_of e h
theorem Ok_clo {a : Sa} {q s : Nat} (h : Ok a) (h0 : 0 < s) (hs : s < 4) : Ok (clo a q s) := ⟨clo_Iv h.1 h0 hs, clo_Ir h.2.1, clo_Is h.2.2 h.2.1.2⟩
theorem Ok_wo {a : Sa} {p : Nat} (h : Ok a) : Ok (wo a p) := ⟨wo_Iv h.1, wo_Ir h.2.1, wo_Is h.2.2 h.2.1.2⟩
theorem Ok_lps {a : Sa} (h : Ok a) : ∀ k, Ok (lps a k) := by
  intro k
  induction k with
  | zero => exact h
  | succ k ih =>
    show Ok (if lps a k 18 k = 0 ∧ lps a k 17 k = lps a k 0 0 then clo (lps a k) k 3 else lps a k)
    split
    · exact Ok_clo ih (by decide) (by decide)
    · exact ih
theorem Ok_wos {a : Sa} (h : Ok a) : ∀ k, Ok (wos a k) := by
  intro k
  induction k with
  | zero => exact h
  | succ k ih =>
    show Ok (if wos a k 11 k = wos a k 0 0 then wo (wos a k) k else wos a k)
    split
    · exact Ok_wo ih
    · exact ih
theorem Is_cg {a a' : Sa} (h3 : a' 0 3 = a 0 3) (h4 : a' 0 4 = a 0 4) (h : ∀ j i, j = 12 ∨ j = 21 → a' j i = a j i) (hs : Is a) : Is a' := by
  intro p hp
  rw [h3] at hp
  rw [h4, h 12 p (by omega), fb_sm_cong (f := res a' p) (g := res a p) (fun q _ => h 21 _ (by omega))]
  exact hs p hp
theorem Ok_edy {a : Sa} (h : Ok a) (ht : a 0 0 < 900) : Ok (edy a) := by
  have h1 := Ok_wos (Ok_lps h (a 0 4)) (a 0 3)
  unfold edy
  exact ⟨Iv_ua h1.1 (by omega), Ir_cg (ua_ne (by omega)) (ua_ne (by omega)) (fun j i hj => ua_ne (by omega)) h1.2.1, Is_cg (ua_ne (by omega)) (ua_ne (by omega)) (fun j i hj => ua_ne (by omega)) h1.2.2⟩
theorem edy_t {a : Sa} : edy a 0 0 = a 0 0 + 1 := by unfold edy; rw [ua_eq]
theorem edy_n {a : Sa} {i : Nat} (h : i = 1 ∨ i = 2 ∨ i = 3 ∨ i = 4) : edy a 0 i = a 0 i := by
  unfold edy; rw [ua_ne (by omega), wos_lo _ _ _ _ (by omega) (by omega) (by omega), lps_lo _ _ _ _ (by omega) (by omega)]
theorem eds_t {a : Sa} : ∀ n, eds a n 0 0 = a 0 0 + n := by
  intro n
  induction n with
  | zero => rfl
  | succ n ih => show edy (eds a n) 0 0 = _; rw [edy_t, ih]; omega
theorem Ok_eds {a : Sa} (h : Ok a) : ∀ n, a 0 0 + n ≤ 900 → Ok (eds a n) := by
  intro n
  induction n with
  | zero => intro _; exact h
  | succ n ih => intro hn; exact Ok_edy (ih (by omega)) (by rw [eds_t]; omega)
theorem fb_sm_rem (f : Nat → Nat) {i n : Nat} (h : i < n) : fb_sm (fun k => if k = i then 0 else f k) n + f i = fb_sm f n := fb_sm_upd f 0 h
theorem Ok_hnd {a : Sa} {q : Nat} (h : Ok a) (hq : q < a 0 4) : Ok (hnd a q) := by
  have h40 := h.2.1.2
  have e : ∀ i, i < 5 → hnd a q 0 i = a 0 i := fun i hi => by
    rw [hnd_at, if_neg (by omega), if_neg (by omega), if_neg (by omega), if_neg (by omega), if_neg (by omega), if_neg (by omega)]
  have er : ∀ p o, o < 64 → res (hnd a q) p o = if o = q then 0 else res a p o := by
    intro p o ho
    unfold res
    rw [hnd_at, if_neg (by omega), if_neg (by omega), if_neg (by omega), if_neg (by omega)]
    by_cases z : o = q
    · rw [if_pos (by omega), if_pos z]
    · rw [if_neg (by omega), if_neg z, if_neg (by omega)]
  refine ⟨?_, ⟨fun p o ho hne => ?_, by rw [e 4 (by omega)]; exact h40⟩, fun p hp => ?_⟩
  · unfold hnd
    exact Iv_ua (Iv_ua (Iv_ua (clo_Iv (hl_Iv h.1) (by decide) (by decide)) (by omega)) (by have := ym_le h.1 (q := q) (a 0 3) (Nat.le_refl _); omega)) (by omega)
  · rw [er p o ho] at hne
    by_cases z : o = q
    · rw [if_pos z] at hne; exact absurd rfl hne
    · rw [if_neg z] at hne
      have h9 := h.2.1.1 p o ho hne
      rw [e 3 (by omega), e 4 (by omega)]
      rw [hnd_at, if_neg (by omega), if_neg (by omega), if_neg (by omega), if_neg (by omega), if_neg (by omega), if_neg (by omega)]
      rw [hnd_at, if_neg (by omega), if_neg (by omega), if_neg (by omega), if_neg (by omega), if_neg (by omega), if_neg (by omega)]
      rw [hnd_at, if_neg (by omega), if_neg (by omega), if_neg (by omega), if_neg (by omega), if_neg (by omega), if_neg (by omega)]
      exact h9
  · rw [e 3 (by omega)] at hp
    rw [e 4 (by omega), fb_sm_cong (f := res (hnd a q) p) (g := fun o => if o = q then 0 else res a p o) (fun o ho => er p o (by omega))]
    rw [hnd_at, if_neg (by omega), if_neg (by omega), if_neg (by omega), if_neg (by omega), if_neg (by omega), if_pos ⟨rfl, hp⟩]
    have h1 := fb_sm_rem (res a p) hq
    have h2 := h.2.2 p hp
    omega
theorem Ok_hold {a : Sa} {p d : Nat} (h : Ok a) (hd : d ≤ 999) : Ok (unk (ua a 13 p d) p (a 0 4)) := by
  have h40 := h.2.1.2
  have i1 : Iv (ua a 13 p d) := Iv_ua h.1 (by omega)
  have i2 : Ir (ua a 13 p d) := Ir_cg (ua_ne (by omega)) (ua_ne (by omega)) (fun j i hj => ua_ne (by omega)) h.2.1
  have i3 : Is (ua a 13 p d) := Is_cg (ua_ne (by omega)) (ua_ne (by omega)) (fun j i hj => ua_ne (by omega)) h.2.2
  refine ⟨Iv_lo i1 (fun j i hj => unk_lo _ _ _ _ _ hj), unk_Ir i2, fun l hl => ?_⟩
  rw [unk_lo _ _ _ 0 3 (by omega)] at hl
  rw [unk_lo _ _ _ 0 4 (by omega), unk_lo _ _ _ 12 l (by omega)]
  refine Nat.le_trans (fb_sm_le (fun o ho => ?_)) (i3 l hl)
  rw [ua_ne (by omega)] at ho
  rw [unk_res _ (by omega)]
  split
  · omega
  · exact Nat.le_refl _
theorem Ok_addL {a : Sa} {gd e s t : Nat} (h : Ok a) (h24 : a 0 3 < 24) (hg : gd < a 0 1) (he : e ≤ 999) (hs : s ≤ 99) (ht : t ≤ 999) : Ok (addL a gd e s t) := by
  have h40 := h.2.1.2
  have k0 : ∀ i, i ≠ 3 → addL a gd e s t 0 i = a 0 i := fun i hi => addL_keep (by omega) (by omega)
  have kj : ∀ j i, 14 ≤ j → addL a gd e s t j i = a j i := fun j i hj => addL_keep (by omega) (by omega)
  have kl : ∀ j i, 0 < j → i ≠ a 0 3 → addL a gd e s t j i = a j i := fun j i hj hi => addL_keep (by omega) (by omega)
  have k8 : ∀ j i, 0 < j → j < 10 → addL a gd e s t j i = a j i := fun j i hj hi => addL_keep (by omega) (by omega)
  have hi := h.1
  refine ⟨⟨?_, ?_, ?_, ?_, ?_, ?_, fun c hc => ?_, fun i => ?_, fun l hll => ?_, fun o ho => ?_, fun o o' ho ho' h1 h2 h3 h4 => ?_⟩, ⟨fun p o ho hne => ?_, by rw [k0 4 (by omega)]; exact h40⟩, fun p hp => ?_⟩
  · rw [k0 0 (by omega)]; exact hi.today
  · rw [k0 1 (by omega)]; exact hi.g1
  · rw [k0 1 (by omega)]; exact hi.g4
  · rw [k0 2 (by omega)]; exact hi.c6
  · rw [addL_03]; omega
  · rw [k0 4 (by omega)]; exact hi.o41
  · rw [k0 2 (by omega)] at hc; rw [k8 8 c (by omega) (by omega)]; exact hi.life hc
  · rw [k8 9 i (by omega) (by omega)]; exact hi.latest i
  · rw [addL_03] at hll
    rw [k0 1 (by omega)]
    by_cases z : l = a 0 3
    · subst z; rw [addL_10, addL_11, addL_12, addL_13]; exact ⟨hg, he, hs, ht⟩
    · rw [kl 10 l (by omega) z, kl 11 l (by omega) z, kl 12 l (by omega) z, kl 13 l (by omega) z]; exact hi.lot (by omega)
  · rw [k0 4 (by omega)] at ho
    rw [k0 1 (by omega), k0 2 (by omega), kj 14 o (by omega), kj 15 o (by omega), kj 16 o (by omega), kj 17 o (by omega), kj 18 o (by omega)]; exact hi.ord ho
  · rw [k0 4 (by omega)] at ho ho'
    rw [kj 18 _ (by omega)] at h1 h2
    rw [kj 14 _ (by omega), kj 14 _ (by omega)] at h3
    rw [kj 15 _ (by omega), kj 15 _ (by omega)] at h4
    exact hi.one ho ho' h1 h2 h3 h4
  · unfold res at hne
    rw [kj 21 _ (by omega)] at hne
    have h9 := h.2.1.1 p o ho hne
    rw [addL_03, k0 4 (by omega), kj 18 o (by omega), kj 15 o (by omega), kl 10 p (by omega) (by omega)]
    exact ⟨by omega, h9.2⟩
  · rw [addL_03] at hp
    rw [k0 4 (by omega), fb_sm_cong (f := res (addL a gd e s t) p) (g := res a p) (fun q _ => kj 21 _ (by omega))]
    by_cases z : p = a 0 3
    · rw [fb_sm_nil (fun q hq => res_0 h.2.1 (by omega) (by omega))]; omega
    · rw [kl 12 p (by omega) z]; exact h.2.2 p (by omega)
theorem Ok_addO {a : Sa} {c gd s d : Nat} (h : Ok a) (h40 : a 0 4 < 40) (hc : c < a 0 2) (hg : gd < a 0 1) (hs1 : 1 ≤ s) (hs : s ≤ 99) (hd : d ≤ 999) (hno : asked a c gd = false) : Ok (addO a c gd s d) := by
  have hr0 : ∀ p, res a p (a 0 4) = 0 := fun p => res_0 h.2.1 (by omega) (by omega)
  have kr : ∀ p q, res (addO a c gd s d) p q = res a p q := fun p q => addO_keep (by omega) (by omega)
  refine ⟨Iv_addO h.1 (by omega) hc hg hs1 hs hd hno, ⟨fun p o ho hne => ?_, by rw [addO_04]; omega⟩, fun p hp => ?_⟩
  · rw [kr] at hne
    have h9 := h.2.1.1 p o ho hne
    rw [addO_04, addO_lo (j := 0) (by omega) (by omega), addO_lo (j := 18) (by omega) (by omega), addO_lo (j := 15) (by omega) (by omega), addO_lo (j := 10) (by omega) (by omega)]
    exact ⟨h9.1, by omega, h9.2.2⟩
  · rw [addO_lo (j := 0) (by omega) (by omega)] at hp
    rw [addO_04, addO_lo (j := 12) (by omega) (by omega), fb_sm_cong (f := res (addO a c gd s d) p) (g := res a p) (fun q _ => kr p q), fb_sm_succ, hr0]
    exact h.2.2 p hp
theorem fb_sm_img : ∀ (t : Nat) {n : Nat} {T : Nat → Nat} (f : Nat → Nat), (∀ i, i < t → T i < n) → (∀ i j, i < t → j < t → T i = T j → i = j) → (∀ o, o < n → f o ≠ 0 → ∃ i, i < t ∧ T i = o) → fb_sm f n = fb_sm (fun i => f (T i)) t := by
  intro t
  induction t with
  | zero =>
    intro n T f _ _ h
    exact fb_sm_nil (fun o ho => Classical.byContradiction (fun z => by obtain ⟨i, hi, _⟩ := h o ho z; omega))
  | succ t ih =>
    intro n T f h1 h2 h3
    have h4 := fb_sm_rem f (h1 t (by omega))
    have h5 := ih (n := n) (T := T) (fun k => if k = T t then 0 else f k) (fun i hi => h1 i (by omega)) (fun i j hi hj => h2 i j (by omega) (by omega)) (fun o ho hne => by
      by_cases z : o = T t
      · rw [if_pos z] at hne; exact absurd rfl hne
      · rw [if_neg z] at hne
        obtain ⟨i, hi, he⟩ := h3 o ho hne
        exact ⟨i, by rcases Nat.lt_or_ge i t with y | y
                     · exact y
                     · exact absurd (by rw [← he, show i = t by omega]) z, he⟩)
    rw [fb_sm_succ, ← h4, h5]
    congr 1
    apply fb_sm_cong
    intro i hi
    exact if_neg (fun z => by have := h2 i t (by omega) (by omega) z; omega)
theorem Tu_inj {a : Sa} {gd i j : Nat} (hi : i < TuN a gd) (hj : j < TuN a gd) (h : Tu a gd i = Tu a gd j) : i = j := by
  have hs := (gat_sp (a 17) (osel a gd) (a 0 4)).2.2.1
  rcases Nat.lt_trichotomy i j with z | z | z
  · have := hs i j z hj
    exact Classical.byContradiction (fun _ => by simp only [Tu] at h; omega)
  · exact z
  · have := hs j i z hi
    exact Classical.byContradiction (fun _ => by simp only [Tu] at h; omega)
theorem rin_lo {a : Sa} {gd k : Nat} {X : Sa × Nat} : ∀ i j' i', j' ≠ 21 → (rin a gd k X i).1 j' i' = X.1 j' i' := by
  intro i
  induction i with
  | zero => intro j' i' _; rfl
  | succ i ih => intro j' i' h; show ua (rin a gd k X i).1 21 _ _ j' i' = _; rw [ua_ne (by omega)]; exact ih j' i' h
theorem rout_lo {a : Sa} {gd : Nat} : ∀ k j' i', j' ≠ 21 → (rout a gd k).1 j' i' = a j' i' := by
  intro k
  induction k with
  | zero => intro j' i' _; rfl
  | succ k ih => intro j' i' h; show (rin a gd k (rout a gd k) (TuN a gd)).1 j' i' = _; rw [rin_lo _ _ _ h]; exact ih j' i' h
theorem rin_miss {a : Sa} (h40 : a 0 4 ≤ 40) {gd k p o : Nat} {X : Sa × Nat} (ho : o < 64) : ∀ i, i ≤ TuN a gd → (p ≠ Ag a gd k ∨ ∀ i', i' < i → Tu a gd i' ≠ o) → res (rin a gd k X i).1 p o = res X.1 p o := by
  intro i
  induction i with
  | zero => intro _ _; rfl
  | succ i ih =>
    intro hi h
    have h1 := (Tu_in (a := a) (gd := gd) (i := i) (by omega)).1
    show res (ua (rin a gd k X i).1 21 (64 * Ag a gd k + Tu a gd i) (shp a gd i k)) p o = _
    rw [rs_res (by omega) ho, if_neg (fun z => by rcases h with h | h; exact h z.1; exact h i (by omega) z.2.symm)]
    exact ih (by omega) (by rcases h with h | h; exact Or.inl h; exact Or.inr (fun i' hi' => h i' (by omega)))
theorem rin_hit {a : Sa} (h40 : a 0 4 ≤ 40) {gd k : Nat} {X : Sa × Nat} : ∀ i i', i ≤ TuN a gd → i' < i → res (rin a gd k X i).1 (Ag a gd k) (Tu a gd i') = shp a gd i' k := by
  intro i
  induction i with
  | zero => intro i' _ h; omega
  | succ i ih =>
    intro i' hi h
    have h1 := (Tu_in (a := a) (gd := gd) (i := i) (by omega)).1
    have h2 := (Tu_in (a := a) (gd := gd) (i := i') (by omega)).1
    show res (ua (rin a gd k X i).1 21 (64 * Ag a gd k + Tu a gd i) (shp a gd i k)) _ _ = _
    rw [rs_res (by omega) (by omega)]
    by_cases z : i' = i
    · rw [if_pos ⟨rfl, by rw [z]⟩, z]
    · rw [if_neg (fun y => z (Tu_inj (by omega) (by omega) y.2))]
      exact ih i' (by omega) (by omega)
theorem Ag_inj {a : Sa} {gd i j : Nat} (hi : i < AgN a gd) (hj : j < AgN a gd) (h : Ag a gd i = Ag a gd j) : i = j := by
  have hs := (gat_sp (a 11) (lsel a gd) (a 0 3)).2.2.1
  rcases Nat.lt_trichotomy i j with z | z | z
  · exact absurd h (hs i j z hj)
  · exact z
  · exact absurd h.symm (hs j i z hi)
theorem rout_miss {a : Sa} (h40 : a 0 4 ≤ 40) {gd p o : Nat} (ho : o < 64) : ∀ k, ((∀ k', k' < k → p ≠ Ag a gd k') ∨ ∀ i', i' < TuN a gd → Tu a gd i' ≠ o) → res (rout a gd k).1 p o = res a p o := by
  intro k
  induction k with
  | zero => intro _; rfl
  | succ k ih =>
    intro h
    show res (rin a gd k (rout a gd k) (TuN a gd)).1 p o = _
    rw [rin_miss h40 ho _ (Nat.le_refl _) (by rcases h with h | h; exact Or.inl (h k (by omega)); exact Or.inr h)]
    exact ih (by rcases h with h | h; exact Or.inl (fun k' hk => h k' (by omega)); exact Or.inr h)
theorem rout_hit {a : Sa} (h40 : a 0 4 ≤ 40) {gd : Nat} : ∀ k k' i, k ≤ AgN a gd → k' < k → i < TuN a gd → res (rout a gd k).1 (Ag a gd k') (Tu a gd i) = shp a gd i k' := by
  intro k
  induction k with
  | zero => intro k' i _ h; omega
  | succ k ih =>
    intro k' i hk h hi
    have h1 := (Tu_in (a := a) (gd := gd) (i := i) hi).1
    show res (rin a gd k (rout a gd k) (TuN a gd)).1 _ _ = _
    by_cases z : k' = k
    · subst z; exact rin_hit h40 _ i (Nat.le_refl _) hi
    · rw [rin_miss h40 (by omega) _ (Nat.le_refl _) (Or.inl (fun y => z (Ag_inj (by omega) (by omega) y)))]
      exact ih k' i (by omega) (by omega) hi
theorem Tu_of {a : Sa} {gd o : Nat} (ho : o < a 0 4) (h1 : a 15 o = gd) (h2 : a 18 o = 0) : ∃ i, i < TuN a gd ∧ Tu a gd i = o := ⟨_, tpos_lt ho h1 h2⟩
theorem Ok_rsv {a : Sa} {gd : Nat} (h : Ok a) : Ok (rsv a gd).1 := by
  have h40 := h.2.1.2
  have lo : ∀ j i, j ≠ 21 → (rsv a gd).1 j i = a j i := fun j i hj => rout_lo _ _ _ hj
  refine ⟨Iv_lo h.1 (fun j i hj => lo j i (by omega)), ⟨fun p o ho hne => ?_, by rw [lo 0 4 (by omega)]; exact h40⟩, fun p hp => ?_⟩
  · rw [lo 0 3 (by omega), lo 0 4 (by omega), lo 18 o (by omega), lo 15 o (by omega), lo 10 p (by omega)]
    by_cases z : (∃ k, k < AgN a gd ∧ p = Ag a gd k) ∧ ∃ i, i < TuN a gd ∧ Tu a gd i = o
    · obtain ⟨⟨k, hk, rfl⟩, i, hi, rfl⟩ := z
      have h1 := Ag_in hk
      have h2 := Tu_in hi
      exact ⟨h1.1, h2.1, h2.2.2, h2.2.1.trans h1.2.symm⟩
    · have e : res (rsv a gd).1 p o = res a p o := by
        refine rout_miss h40 ho _ ?_
        rcases Classical.em (∃ k, k < AgN a gd ∧ p = Ag a gd k) with y | y
        · exact Or.inr (fun i hi e => z ⟨y, i, hi, e⟩)
        · exact Or.inl (fun k hk e => y ⟨k, hk, e⟩)
      rw [e] at hne
      exact h.2.1.1 p o ho hne
  · rw [lo 0 3 (by omega)] at hp
    rw [lo 0 4 (by omega), lo 12 p (by omega)]
    rcases Classical.em (∃ k, k < AgN a gd ∧ p = Ag a gd k) with ⟨k, hk, rfl⟩ | y
    · rw [fb_sm_img (TuN a gd) (T := Tu a gd) (res (rsv a gd).1 (Ag a gd k)) (fun i hi => (Tu_in hi).1) (fun i j hi hj => Tu_inj hi hj) (fun o ho hne => Classical.byContradiction (fun z => by
        have e : res (rsv a gd).1 (Ag a gd k) o = res a (Ag a gd k) o := rout_miss h40 (by omega) _ (Or.inr (fun i hi e => z ⟨i, hi, e⟩))
        rw [e] at hne
        have h9 := h.2.1.1 _ o (by omega) hne
        exact z (Tu_of ho (h9.2.2.2.trans (Ag_in hk).2) h9.2.2.1)))]
      rw [fb_sm_cong (f := fun i => res (rsv a gd).1 (Ag a gd k) (Tu a gd i)) (g := fun i => shp a gd i k) (fun i hi => rout_hit h40 _ k i (Nat.le_refl _) hk hi)]
      have h5 := pr_sum (ft := ftp a gd) (left := fun k => a 12 (Ag a gd k)) (want := fun i => a 16 (Tu a gd i)) (k := k) (TuN a gd)
      have h6 : fb_sm (fun j => sh (ftp a gd) (fun k => a 12 (Ag a gd k)) (fun i => a 16 (Tu a gd i)) j k) (TuN a gd) = fb_sm (fun i => shp a gd i k) (TuN a gd) := rfl
      omega
    · rw [fb_sm_cong (f := res (rsv a gd).1 p) (g := res a p) (fun o ho => rout_miss h40 (by omega) _ (Or.inl (fun k hk e => y ⟨k, hk, e⟩)))]
      exact h.2.2 p hp
theorem frees_frk {a : Sa} {q k : Nat} (hk : k = a 0 3) (hz : ∀ p, a 0 3 ≤ p → p < 24 → res a p q = 0) : ∀ p q', p < 24 → q' < 40 → res (frees a q) p q' = res (frk a q k) p q' := by
  intro p q' hp hq'
  rw [frees_res a (by omega), frk_res a (by omega)]
  by_cases z : q' = q
  · rw [if_pos z]
    by_cases y : p < k
    · rw [if_pos ⟨z, y⟩]
    · rw [if_neg (by omega), z, hz p (by omega) hp]
  · rw [if_neg z, if_neg (by omega)]
theorem ro_18 {a : Sa} {q q' s : Nat} : ro (ua a 18 q s) q' = ro a q' := by
  unfold ro
  rw [ua_ne (by omega)]
  exact fb_sm_cong (fun p _ => ua_ne (by omega))
theorem unk_fit {a : Sa} {p k l o : Nat} : fit (unk a p k) l o = fit a l o := by
  unfold fit
  rw [unk_lo a p k 10 _ (by omega), unk_lo a p k 15 _ (by omega), unk_lo a p k 14 _ (by omega), unk_lo a p k 8 _ (by omega), unk_lo a p k 17 _ (by omega), unk_lo a p k 11 _ (by omega), unk_lo a p k 9 _ (by omega), unk_lo a p k 13 _ (by omega)]
theorem ym_pos1 {a : Sa} {q : Nat} : ∀ k, fb_sm (fun p => res a p q) k ≠ 0 → 0 < ym a q k := by
  intro k
  induction k with
  | zero => intro h; exact absurd rfl h
  | succ k ih =>
    intro h
    rw [fb_sm_succ] at h
    rw [ym_succ]
    split
    · omega
    · exact ih (by omega)
theorem ym_pos {a : Sa} {q : Nat} (h : ¬ ro a q = 0) : 0 < ym a q (a 0 3) := ym_pos1 _ h
theorem ro_le {a : Sa} (hI : Iv a) (hr : Ir a) (hs : Is a) {q : Nat} (hq : q < a 0 4) : ro a q ≤ 2376 := by
  have h1 : ro a q ≤ a 0 3 * 99 := fb_sm_bound (fun p hp => by have h1 := fb_sm_part (res a p) hq; have h2 := hs p hp; have h3 := hI.lot hp; omega)
  have h2 := hI.l24
  omega
theorem PMd_mem {M M1 : Mm} {am tn : Nat} {Lt : Nat → Nat} {ft : Nat → Nat → Bool} {mu : Nat → Nat → Nat} (h : PMd M am tn Lt ft mu) (e : ∀ c i, (c = 18 ∨ c = 20 ∨ c = 24 ∨ (c = 0 ∧ 24 ≤ i)) → M1.1 18 c i = M.1 18 c i) : PMd M1 am tn Lt ft mu :=
  ⟨(e 0 24 (by omega)).trans h.tn_, (e 0 25 (by omega)).trans h.am_, fun k hk => (e 18 k (by omega)).trans (h.age hk), fun k i hk hi => (e 24 _ (by omega)).trans (h.may hk hi), fun k i hk hi => (e 20 _ (by omega)).trans (h.much hk hi), h.a24, h.t8⟩
theorem rin_at {a : Sa} (h40 : a 0 4 ≤ 40) {gd k i : Nat} (hk : k < AgN a gd) (hi : i < TuN a gd) : res (rin a gd k (rout a gd k) i).1 (Ag a gd k) (Tu a gd i) = res a (Ag a gd k) (Tu a gd i) := by
  have h1 := (Tu_in hi).1
  rw [rin_miss h40 (by omega) i (by omega) (Or.inr (fun i' hi' e => by have := Tu_inj (by omega) hi e; omega)), rout_miss h40 (by omega) k (Or.inl (fun k' hk' e => by have := Ag_inj hk (by omega) e; omega))]
