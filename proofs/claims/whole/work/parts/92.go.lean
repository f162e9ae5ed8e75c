set_option maxHeartbeats 4000000 in
set_option maxRecDepth 100000 in
theorem c_X7_tapeAt {l : Launch} {D : va_G} {g : Nat → Nat → Nat} {ca : Nat → ClassId} {M : Mm} {t : Nat → Nat} {n : Nat} (hT : TS M t n) (hn : n ≤ 640) (i : Nat) (hi : i ≤ 640) : Ct l D g ca md_X7_tapeAt [.ref (g 18 0), .int (nI i)] M (Ri (fun r M1 => r = nI (ta t n i) ∧ M1 = M)) := by
  refine Ct.of (by decide) rfl (Nat.le_of_ble_eq_true rfl) ?_
  show G l D g ca md_X7_tapeAt 0 [(0, .ref (g 18 0)), (1, .int (nI i))] [] M _
  refine g_iload_n 1 1 dX7_tapeAt_0 rfl rfl ?_
  refine g_aload_n 2 0 dX7_tapeAt_1 rfl rfl ?_
  refine g_get 5 (nI n) dX7_tapeAt_2 rfl fX7_18 rfl (by decide) rfl hT.1 ?_
  refine g_icmpN_ge 17 8 dX7_tapeAt_5 rfl rfl (by omega) (by omega) (fun c5 => ?_) (fun c5 => ?_)
  · refine g_iconst 18 (nI 0) dX7_tapeAt_17 rfl rfl ?_
    exact g_iret rfl dX7_tapeAt_18 ⟨by unfold ta; first | rw [if_pos (by omega)] | rw [if_neg (by omega)], rfl⟩
  · refine g_aload_n 9 0 dX7_tapeAt_8 rfl rfl ?_
    refine g_geta 12 2 dX7_tapeAt_9 rfl fX7_7 rfl (by decide) rfl rfl ?_
    refine g_iload_n 13 1 dX7_tapeAt_12 rfl rfl ?_
    refine g_iald 14 (nI (t i)) dX7_tapeAt_13 rfl rfl (by decide) rfl (by decide) (by omega) (hT.2 _ (by omega)) ?_
    refine g_goto 18 dX7_tapeAt_14 rfl ?_
    exact g_iret rfl dX7_tapeAt_18 ⟨by unfold ta; first | rw [if_pos (by omega)] | rw [if_neg (by omega)], rfl⟩

theorem ta_lt {t : Nat → Nat} {n i : Nat} (hB : Tb t n) : ta t n i < 256 := by
  unfold ta; split
  · next z => exact hB.2 i z
  · omega
theorem ta_in {t : Nat → Nat} {n i : Nat} (h : (lt_ (ta t n i) || dg_ (ta t n i)) = true) : i < n ∧ ta t n i = t i := by
  unfold ta at h ⊢
  by_cases z : i < n
  · rw [if_pos z]; exact ⟨z, rfl⟩
  · rw [if_neg z] at h; exact absurd h (by decide)
theorem ta_out {t : Nat → Nat} {n i : Nat} (h1 : lt_ (ta t n i) = false) (h2 : dg_ (ta t n i) = false) : i < n → lt_ (t i) = false ∧ dg_ (t i) = false := by
  intro z
  unfold ta at h1 h2
  rw [if_pos z] at h1 h2
  exact ⟨h1, h2⟩
theorem vs_dg {t : Nat → Nat} {q m : Nat} (h : ∀ j, j < m → dg_ (t (q + j)) = true) : fb_ct (fun i => dg_ (t (q + i))) m = m := fb_ct_all.mpr (fun i hi => h i hi)
theorem nr_step {t : Nat → Nat} {q m : Nat} {x : Int32} (h2 : m < 2) (hb : dg_ (t (q + m)) = true) (h : ∀ j, j < m → dg_ (t (q + j)) = true) (hx : x = nI (vs t q m)) : nI 10 * x + nI (t (q + m)) - nI 48 = nI (vs t q (m + 1)) := by
  have h3 := of_decide_eq_true hb
  rw [vs_succ, if_pos hb, vs_dg h, if_pos (by omega), hx, pk_mul, nI_add, pk_sub (by omega)]
  congr 1
  omega
theorem nr_stay {t : Nat → Nat} {q m : Nat} (h2 : ¬ m < 2) (hb : dg_ (t (q + m)) = true) (h : ∀ j, j < m → dg_ (t (q + j)) = true) : vs t q (m + 1) = vs t q m := by
  rw [vs_succ, if_pos hb, vs_dg h, if_neg (by omega)]
def GDm (t : Nat → Nat) (q m : Nat) : Prop := ∀ j, j < m → lt_ (t (q + j)) = lt_ (t q)
theorem GDm_s {t : Nat → Nat} {q m : Nat} (h : GDm t q m) (h2 : lt_ (t (q + m)) = lt_ (t q)) : GDm t q (m + 1) := by
  intro j hj
  rcases (show j < m ∨ j = m by omega) with z | rfl
  · exact h j z
  · exact h2
theorem bi_inj {a b : Bool} (h : bi a = bi b) : a = b := by
  cases a <;> cases b <;> first | rfl | exact absurd h (by decide)
theorem ww_no {t : Nat → Nat} {q : Nat} : ∀ k, 4 ≤ k → k ≤ 7 → wkd t q q ≠ k := by
  intro k h4 h7 h
  rw [wkd_iff h4 h7, isw_iff] at h
  have : 0 < (wl k).length := by rcases (show k = 4 ∨ k = 5 ∨ k = 6 ∨ k = 7 by omega) with rfl | rfl | rfl | rfl <;> decide
  omega
theorem kdr_q {t : Nat → Nat} {q : Nat} : kdr t q q = 1 := by
  have e : nDg t q q = 0 := by unfold nDg; rw [Nat.sub_self]; rfl
  unfold kdr
  rw [if_pos e]
  rcases wkd_le (t := t) (q := q) (e := q) with h | h
  · exact h
  · exact absurd rfl (ww_no _ h.1 h.2)
/-- the token is none -/
theorem HK_1 {M : Mm} {t : Nat → Nat} {n p : Nat} (h5 : M.1 18 0 5 = nI (tpc t n p)) (h6 : M.1 18 0 6 = nI 1) (h : tkd t n p = 1) : HK M t n p :=
  ⟨h5, fun z => absurd z (by omega), fun z => absurd z (by omega), 1, h6, by omega, by omega, by omega, by omega, fun _ => h, fun k h4 h7 => ⟨fun z => absurd z.1 (by omega), fun z => absurd z (by omega)⟩⟩
theorem HK_0 {M : Mm} {t : Nat → Nat} {n p : Nat} (h5 : M.1 18 0 5 = nI (tpc t n p)) (h6 : M.1 18 0 6 = nI 0) (h : tkd t n p = 0) : HK M t n p :=
  ⟨h5, fun z => absurd z (by omega), fun z => absurd z (by omega), 0, h6, by omega, by omega, by omega, by omega, fun z => absurd z (by omega), fun k h4 h7 => ⟨fun z => absurd z.1 (by omega), fun z => absurd z (by omega)⟩⟩
theorem HK_3 {M : Mm} {t : Nat → Nat} {n p : Nat} (h5 : M.1 18 0 5 = nI (tpc t n p)) (h4 : M.1 18 0 4 = nI (tnx t n p)) (h6 : M.1 18 0 6 = nI 4) (h : tkd t n p = 3) : HK M t n p :=
  ⟨h5, fun _ => h4, fun z => absurd z (by omega), 4, h6, by omega, by omega, by omega, by omega, fun z => absurd z (by omega), fun k h4 h7 => ⟨fun z => absurd z.1 (by omega), fun z => absurd z (by omega)⟩⟩
theorem HK_2 {M : Mm} {t : Nat → Nat} {n p : Nat} (h5 : M.1 18 0 5 = nI (tpc t n p)) (h4 : M.1 18 0 4 = nI (tnx t n p)) (h7' : M.1 18 0 7 = nI (tvl t n p)) (h6 : M.1 18 0 6 = nI 3) (h : tkd t n p = 2) : HK M t n p :=
  ⟨h5, fun _ => h4, fun _ => h7', 3, h6, by omega, by omega, by omega, by omega, fun z => absurd z (by omega), fun k h4 h7 => ⟨fun z => absurd z.1 (by omega), fun z => absurd z (by omega)⟩⟩
theorem HK_w {M : Mm} {t : Nat → Nat} {n p q e : Nat} (h5 : M.1 18 0 5 = nI (tpc t n p)) (h4 : M.1 18 0 4 = nI (tnx t n p)) (h6 : M.1 18 0 6 = nI 2) (h : tkd t n p = wkd t q e) (hl : ∀ i, i < e - q → lt_ (t (q + i)) = true) (hw : M.2 = Int64.ofNat (w9 (fun i => t (q + i)) (e - q))) : HK M t n p := by
  have hr := wkd_le (t := t) (q := q) (e := e)
  refine ⟨h5, fun _ => h4, fun z => absurd z (by omega), 2, h6, by omega, by omega, by omega, by omega, fun z => absurd z (by omega), fun k h4 h7 => ?_⟩
  rw [h, hw, wkd_iff h4 h7, wd_iff h4 h7 hl]
  exact ⟨fun z => z.2, fun z => ⟨rfl, z⟩⟩
/-- the kind of a run by its letters -/
theorem kdr_l {t : Nat → Nat} {q e : Nat} (h : ∀ j, j < e - q → lt_ (t (q + j)) = true) : kdr t q e = wkd t q e := by
  have e0 : nDg t q e = 0 := fb_ct_zero.mpr (fun j hj => lt_dg (h j hj))
  unfold kdr; rw [if_pos e0]
theorem kdr_d {t : Nat → Nat} {q e : Nat} (h1 : 0 < e - q) (h : ∀ j, j < e - q → dg_ (t (q + j)) = true) : kdr t q e = if e - q ≤ 2 then 2 else 1 := by
  have e0 : nDg t q e = e - q := fb_ct_all.mpr (fun j hj => h j hj)
  have e1 : nLt t q e = 0 := fb_ct_zero.mpr (fun j hj => by
    cases z : lt_ (t (q + j)) with
    | false => rfl
    | true => have := lt_dg z; rw [h j hj] at this; exact absurd this (by decide))
  unfold kdr; rw [if_neg (by omega), e0, e1]
  by_cases z : e - q ≤ 2
  · rw [if_pos ⟨rfl, z⟩, if_pos z]
  · rw [if_neg (by omega), if_neg z]
theorem kdr_m {t : Nat → Nat} {q e i j : Nat} (hi : i < e - q) (hj : j < e - q) (h1 : lt_ (t (q + i)) = true) (h2 : dg_ (t (q + j)) = true) : kdr t q e = 1 := by
  have e0 : 0 < nDg t q e := Nat.pos_of_ne_zero (fun z => by have := fb_ct_zero.mp z j hj; rw [h2] at this; exact absurd this (by decide))
  have e1 : 0 < nLt t q e := Nat.pos_of_ne_zero (fun z => by have := fb_ct_zero.mp z i hi; rw [h1] at this; exact absurd this (by decide))
  unfold kdr; rw [if_neg (by omega), if_neg (by omega)]

theorem or_dg {t : Nat → Nat} {q j : Nat} (h : (lt_ (t (q + j)) || dg_ (t (q + j))) = true) (h2 : lt_ (t (q + j)) = false) : dg_ (t (q + j)) = true := by rw [h2] at h; exact h
theorem gd_d {t : Nat → Nat} {q m : Nat} (hor : ∀ j, j < m → (lt_ (t (q + j)) || dg_ (t (q + j))) = true) (h : GDm t q m) (h0 : lt_ (t q) = false) : ∀ j, j < m → dg_ (t (q + j)) = true := fun j hj => or_dg (hor j hj) ((h j hj).trans h0)
theorem gd_l {t : Nat → Nat} {q m : Nat} (h : GDm t q m) (h0 : lt_ (t q) = true) : ∀ j, j < m → lt_ (t (q + j)) = true := fun j hj => (h j hj).trans h0
theorem go_bad {t : Nat → Nat} {q m : Nat} (hor : ∀ j, j < m → (lt_ (t (q + j)) || dg_ (t (q + j))) = true) (h : ¬ GDm t q m) : kdr t q (q + m) = 1 := by
  have ⟨j, hj⟩ : ∃ j, ¬ (j < m → lt_ (t (q + j)) = lt_ (t q)) := Classical.not_forall.mp h
  have hjm : j < m := Classical.byContradiction (fun z => hj (fun y => absurd y z))
  have hne : ¬ lt_ (t (q + j)) = lt_ (t q) := fun z => hj (fun _ => z)
  have e : q + m - q = m := by omega
  have h0 := hor 0 (by omega)
  rw [Nat.add_zero] at h0
  cases z : lt_ (t q) with
  | true =>
    refine kdr_m (i := 0) (j := j) (by omega) (by omega) (by rw [Nat.add_zero]; exact z) (or_dg (hor j hjm) ?_)
    rw [z] at hne
    cases y : lt_ (t (q + j)) with
    | false => rfl
    | true => exact absurd y hne
  | false =>
    refine kdr_m (i := j) (j := 0) (by omega) (by omega) ?_ (or_dg (hor 0 (by omega)) (by rw [Nat.add_zero]; exact z))
    rw [z] at hne
    cases y : lt_ (t (q + j)) with
    | true => rfl
    | false => exact absurd y hne
theorem ld_59 {b : Nat} (h : (lt_ b || dg_ b) = true) : b ≠ 59 := by
  intro e; subst e; exact absurd h (by decide)

set_option maxHeartbeats 4000000 in
set_option maxRecDepth 100000 in
theorem c_X7_go {l : Launch} {D : va_G} {g : Nat → Nat → Nat} {ca : Nat → ClassId} {M : Mm} {t : Nat → Nat} {n p : Nat} (hT : TS M t n) (hB : Tb t n) (hat0 : M.1 18 0 4 = nI p) (hp : p ≤ n) : Ct l D g ca md_X7_go [.ref (g 18 0)] M (Rv (fun M1 => HK M1 t n p ∧ FG M M1)) := by
  refine Ct.of (by decide) rfl (Nat.le_of_ble_eq_true rfl) ?_
  have hn := hB.1
  show G l D g ca md_X7_go 0 [(0, .ref (g 18 0))] [] M _
  have K52 : ∀ (k : Nat) (N : Mm), k ≤ n → tpl t n p = k → N.1 18 0 4 = nI k → FG M N → G l D g ca md_X7_go 52 [(0, .ref (g 18 0))] [] N (Rv (fun M1 => HK M1 t n p ∧ FG M M1)) := by
    intro k N hk hq hat hF
    have hb : k < n → t k < 256 := fun z => hB.2 k z
    refine g_aload_n 53 0 dX7_go_52 rfl rfl ?_
    refine g_aload_n 54 0 dX7_go_53 rfl rfl ?_
    refine g_get 57 (nI k) dX7_go_54 rfl fX7_21 rfl (by decide) rfl hat ?_
    refine g_put 60 dX7_go_57 rfl fX7_24 pX7_5 rfl (by decide) rfl ?_
    refine g_aload_n 61 0 dX7_go_60 rfl rfl ?_
    refine g_get 64 (nI n) dX7_go_61 rfl fX7_18 rfl (by decide) rfl ((wr_ne (by omega)).trans ((hF _ _ _ (by omega)).trans hT.1)) ?_
    refine g_sipush 67 (nI 600) dX7_go_64 rfl rfl ?_
    refine g_icmpN_le 93 70 dX7_go_67 rfl rfl (by omega) (by omega) (fun c67 => ?_) (fun c67 => ?_)
    · refine g_aload_n 94 0 dX7_go_93 rfl rfl ?_
      refine g_get 97 (nI k) dX7_go_94 rfl fX7_21 rfl (by decide) rfl ((wr_ne (by omega)).trans hat) ?_
      refine g_aload_n 98 0 dX7_go_97 rfl rfl ?_
      refine g_get 101 (nI n) dX7_go_98 rfl fX7_18 rfl (by decide) rfl ((wr_ne (by omega)).trans ((hF _ _ _ (by omega)).trans hT.1)) ?_
      refine g_icmpN_lt 110 104 dX7_go_101 rfl rfl (by omega) (by omega) (fun c101 => ?_) (fun c101 => ?_)
      · have hb := hb (by omega)
        have K160 : (lt_ (t k) || dg_ (t k)) = true → G l D g ca md_X7_go 160 [(1, .int (nI (t k))), (0, .ref (g 18 0))] [] (wr N 18 0 5 (nI k)) (Rv (fun M1 => HK M1 t n p ∧ FG M M1)) := by
          intro hor0
          refine g_iload_n 161 0 dX7_go_160 rfl rfl ?_
          refine g_callSi 164 md_X7_isLetter [.int (nI (t k))] [] dX7_go_161 rfl e_X7_go_30 rfl rfl (Nat.le_of_ble_eq_true rfl) (c_X7_isLetter (nI (t k))) (fun r161 M161 h161 => ?_)
          obtain ⟨rfl, h161⟩ := h161
          have h161 := h161.symm
          subst h161
          rw [nb_lt hb]
          refine g_istore_n 165 [(2, .int (bi (lt_ (t k)))), (1, .int (nI (t k))), (0, .ref (g 18 0))] dX7_go_164 rfl (by decide) rfl ?_
          refine g_iconst 166 (nI 1) dX7_go_165 rfl rfl ?_
          refine g_istore_n 167 [(3, .int (nI 1)), (2, .int (bi (lt_ (t k)))), (1, .int (nI (t k))), (0, .ref (g 18 0))] dX7_go_166 rfl (by decide) rfl ?_
          refine g_aload_n 168 3 dX7_go_167 rfl rfl ?_
          refine g_lconst 169 0 dX7_go_168 rfl rfl ?_
          refine g_putl 172 dX7_go_169 rfl fX7_37 pX7_10 ?_
          refine g_aload_n 173 3 dX7_go_172 rfl rfl ?_
          refine g_iconst 174 (nI 0) dX7_go_173 rfl rfl ?_
          refine g_put 177 dX7_go_174 rfl fX7_41 pX7_7 rfl (by decide) rfl ?_
          have L177 : ∀ m, m ≤ n - k → ∀ (B : Mm) (gd : Bool), B.1 18 0 4 = nI (k + m) → B.1 18 0 5 = nI k → (∀ j, j < m → (lt_ (t (k + j)) || dg_ (t (k + j))) = true) → (gd = true ↔ GDm t k m) → ((∀ j, j < m → lt_ (t (k + j)) = true) → B.2 = Int64.ofNat (w9 (fun i => t (k + i)) m)) → ((∀ j, j < m → dg_ (t (k + j)) = true) → B.1 18 0 7 = nI (vs t k m)) → FG M B → G l D g ca md_X7_go 177 [(3, .int (bi gd)), (2, .int (bi (lt_ (t k)))), (1, .int (nI (t k))), (0, .ref (g 18 0))] [] B (Rv (fun M1 => HK M1 t n p ∧ FG M M1)) := by
            refine upto ?_
            intro m hm ih177 B gd hto hfr hor hgd hw hnm hG
            have hmn : k + m ≤ n := by omega
            have K205 : (lt_ (ta t n (k + m)) || dg_ (ta t n (k + m))) = true → G l D g ca md_X7_go 205 [(3, .int (bi gd)), (2, .int (bi (lt_ (t k)))), (1, .int (nI (t k))), (0, .ref (g 18 0))] [] B (Rv (fun M1 => HK M1 t n p ∧ FG M M1)) := by
              intro hta
              obtain ⟨hlt, hte⟩ := ta_in hta
              have hor1 : (lt_ (t (k + m)) || dg_ (t (k + m))) = true := by rw [hte] at hta; exact hta
              have hb := hB.2 _ hlt
              refine g_aload_n 206 3 dX7_go_205 rfl rfl ?_
              refine g_geta 209 2 dX7_go_206 rfl fX7_7 rfl (by decide) rfl rfl ?_
              refine g_aload_n 210 3 dX7_go_209 rfl rfl ?_
              refine g_get 213 (nI (k + m)) dX7_go_210 rfl fX7_21 rfl (by decide) rfl hto ?_
              refine g_iald 214 (nI (t (k + m))) dX7_go_213 rfl rfl (by decide) rfl (by decide) (by omega) ((hG _ _ _ (by omega)).trans (hT.2 _ (by omega))) ?_
              refine g_istore 216 [(4, .int (nI (t (k + m)))), (3, .int (bi gd)), (2, .int (bi (lt_ (t k)))), (1, .int (nI (t k))), (0, .ref (g 18 0))] dX7_go_214 rfl (by decide) rfl ?_
              refine g_iload_n 217 1 dX7_go_216 rfl rfl ?_
              refine g_ifB_eq 233 220 dX7_go_217 rfl rfl (fun c217 => ?_) (fun c217 => ?_)
              · refine g_iconst 234 (nI 0) dX7_go_233 rfl rfl ?_
                refine g_istore_n 235 [(3, .int (nI 0)), (4, .int (nI (t (k + m)))), (2, .int (bi (lt_ (t k)))), (1, .int (nI (t k))), (0, .ref (g 18 0))] dX7_go_234 rfl (by decide) rfl ?_
                refine g_aload_n 236 4 dX7_go_235 rfl rfl ?_
                refine g_get 239 (nI (k + m)) dX7_go_236 rfl fX7_21 rfl (by decide) rfl hto ?_
                refine g_aload_n 240 4 dX7_go_239 rfl rfl ?_
                refine g_get 243 (nI k) dX7_go_240 rfl fX7_24 rfl (by decide) rfl hfr ?_
                refine g_isub 244 (nI (k + m - k)) dX7_go_243 rfl (pk_sub (by omega)) ?_
                refine g_bipush 246 (nI 9) dX7_go_244 rfl rfl ?_
                refine g_icmpN_ge 269 249 dX7_go_246 rfl rfl (by omega) (by omega) (fun c246 => ?_) (fun c246 => ?_)
                · refine g_aload_n 270 4 dX7_go_269 rfl rfl ?_
                  refine g_get 273 (nI (k + m)) dX7_go_270 rfl fX7_21 rfl (by decide) rfl hto ?_
                  refine g_aload_n 274 4 dX7_go_273 rfl rfl ?_
                  refine g_get 277 (nI k) dX7_go_274 rfl fX7_24 rfl (by decide) rfl hfr ?_
                  refine g_isub 278 (nI (k + m - k)) dX7_go_277 rfl (pk_sub (by omega)) ?_
                  refine g_iconst 279 (nI 2) dX7_go_278 rfl rfl ?_
                  refine g_icmpN_ge 299 282 dX7_go_279 rfl rfl (by omega) (by omega) (fun c279 => ?_) (fun c279 => ?_)
                  · refine g_aload_n 300 4 dX7_go_299 rfl rfl ?_
                    refine g_dup 301 dX7_go_300 rfl rfl ?_
                    refine g_get 304 (nI (k + m)) dX7_go_301 rfl fX7_21 rfl (by decide) rfl hto ?_
                    refine g_iconst 305 (nI 1) dX7_go_304 rfl rfl ?_
                    refine g_iadd 306 (nI ((k + m) + 1)) dX7_go_305 rfl (nI_add (k + m) 1) ?_
                    refine g_put 309 dX7_go_306 rfl fX7_21 pX7_4 rfl (by decide) rfl ?_
                    refine g_goto 177 dX7_go_309 rfl ?_
                    refine g_lv [0, 2, 3, 4] rfl ?_
                    exact ih177 (by omega) _ false wr_eq ((wr_ne (by omega)).trans hfr) (or_snoc hor (by cases h9 : lt_ (t (k + m)) with
                      | true => exact Or.inl rfl
                      | false => exact Or.inr (by rw [h9] at hor1; exact hor1))) ⟨fun z => absurd z (by decide), fun z => by first | exact absurd (congrArg bi (z m (by omega))) c226 | (have h9 := hgd.mpr (fun j hj => z j (by omega)); rw [c217] at h9; exact h9)⟩ (fun z => by rw [wr_lg, w9_stay (by omega)]; exact hw (fun j hj => z j (by omega))) (fun z => (wr_ne (by omega)).trans (by rw [nr_stay (by omega) (z m (by omega)) (fun j hj => z j (by omega))]; exact hnm (fun j hj => z j (by omega)))) (hG.tr (FG.wr (by omega)))
                  · refine g_aload_n 283 4 dX7_go_282 rfl rfl ?_
                    refine g_bipush 285 (nI 10) dX7_go_283 rfl rfl ?_
                    refine g_aload_n 286 4 dX7_go_285 rfl rfl ?_
                    refine g_get 289 ((B.1 18 0 7)) dX7_go_286 rfl fX7_41 rfl (by decide) rfl rfl ?_
                    refine g_imul 290 ((nI 10) * (B.1 18 0 7)) dX7_go_289 rfl rfl ?_
                    refine g_iload 292 1 dX7_go_290 rfl rfl ?_
                    refine g_iadd 293 (((nI 10) * (B.1 18 0 7)) + (nI (t (k + m)))) dX7_go_292 rfl rfl ?_
                    refine g_bipush 295 (nI 48) dX7_go_293 rfl rfl ?_
                    refine g_isub 296 ((((nI 10) * (B.1 18 0 7)) + (nI (t (k + m)))) - (nI 48)) dX7_go_295 rfl rfl ?_
                    refine g_put 299 dX7_go_296 rfl fX7_41 pX7_7 rfl (by decide) rfl ?_
                    refine g_aload_n 300 4 dX7_go_299 rfl rfl ?_
                    refine g_dup 301 dX7_go_300 rfl rfl ?_
                    refine g_get 304 (nI (k + m)) dX7_go_301 rfl fX7_21 rfl (by decide) rfl ((wr_ne (by omega)).trans hto) ?_
                    refine g_iconst 305 (nI 1) dX7_go_304 rfl rfl ?_
                    refine g_iadd 306 (nI ((k + m) + 1)) dX7_go_305 rfl (nI_add (k + m) 1) ?_
                    refine g_put 309 dX7_go_306 rfl fX7_21 pX7_4 rfl (by decide) rfl ?_
                    refine g_goto 177 dX7_go_309 rfl ?_
                    refine g_lv [0, 2, 3, 4] rfl ?_
                    exact ih177 (by omega) _ false wr_eq ((wr_ne (by omega)).trans ((wr_ne (by omega)).trans hfr)) (or_snoc hor (by cases h9 : lt_ (t (k + m)) with
                      | true => exact Or.inl rfl
                      | false => exact Or.inr (by rw [h9] at hor1; exact hor1))) ⟨fun z => absurd z (by decide), fun z => by first | exact absurd (congrArg bi (z m (by omega))) c226 | (have h9 := hgd.mpr (fun j hj => z j (by omega)); rw [c217] at h9; exact h9)⟩ (fun z => by rw [wr_lg, wr_lg, w9_stay (by omega)]; exact hw (fun j hj => z j (by omega))) (fun z => (wr_ne (by omega)).trans (wr_eq.trans (nr_step (by omega) (z m (by omega)) (fun j hj => z j (by omega)) (hnm (fun j hj => z j (by omega)))))) ((hG.tr (FG.wr (by omega))).tr (FG.wr (by omega)))
                · refine g_aload_n 250 4 dX7_go_249 rfl rfl ?_
                  refine g_ldc2 253 (27) dX7_go_250 rfl lX7_48 ?_
                  refine g_aload_n 254 4 dX7_go_253 rfl rfl ?_
                  refine g_getl 257 ((B.2)) dX7_go_254 rfl fX7_37 rfl (by decide) rfl rfl ?_
                  refine g_lmul 258 (27 * (B.2)) dX7_go_257 rfl rfl ?_
                  refine g_iload 260 1 dX7_go_258 rfl rfl ?_
                  refine g_i2l 261 ((nI (t (k + m))).toInt64) dX7_go_260 rfl rfl ?_
                  refine g_ladd 262 ((27 * (B.2)) + ((nI (t (k + m))).toInt64)) dX7_go_261 rfl rfl ?_
                  refine g_ldc2 265 (96) dX7_go_262 rfl lX7_50 ?_
                  refine g_lsub 266 (((27 * (B.2)) + ((nI (t (k + m))).toInt64)) - 96) dX7_go_265 rfl rfl ?_
                  refine g_putl 269 dX7_go_266 rfl fX7_37 pX7_10 ?_
                  refine g_aload_n 270 4 dX7_go_269 rfl rfl ?_
                  refine g_get 273 (nI (k + m)) dX7_go_270 rfl fX7_21 rfl (by decide) rfl hto ?_
                  refine g_aload_n 274 4 dX7_go_273 rfl rfl ?_
                  refine g_get 277 (nI k) dX7_go_274 rfl fX7_24 rfl (by decide) rfl hfr ?_
                  refine g_isub 278 (nI (k + m - k)) dX7_go_277 rfl (pk_sub (by omega)) ?_
                  refine g_iconst 279 (nI 2) dX7_go_278 rfl rfl ?_
                  refine g_icmpN_ge 299 282 dX7_go_279 rfl rfl (by omega) (by omega) (fun c279 => ?_) (fun c279 => ?_)
                  · refine g_aload_n 300 4 dX7_go_299 rfl rfl ?_
                    refine g_dup 301 dX7_go_300 rfl rfl ?_
                    refine g_get 304 (nI (k + m)) dX7_go_301 rfl fX7_21 rfl (by decide) rfl hto ?_
                    refine g_iconst 305 (nI 1) dX7_go_304 rfl rfl ?_
                    refine g_iadd 306 (nI ((k + m) + 1)) dX7_go_305 rfl (nI_add (k + m) 1) ?_
                    refine g_put 309 dX7_go_306 rfl fX7_21 pX7_4 rfl (by decide) rfl ?_
                    refine g_goto 177 dX7_go_309 rfl ?_
                    refine g_lv [0, 2, 3, 4] rfl ?_
                    exact ih177 (by omega) _ false wr_eq ((wr_ne (by omega)).trans hfr) (or_snoc hor (by cases h9 : lt_ (t (k + m)) with
                      | true => exact Or.inl rfl
                      | false => exact Or.inr (by rw [h9] at hor1; exact hor1))) ⟨fun z => absurd z (by decide), fun z => by first | exact absurd (congrArg bi (z m (by omega))) c226 | (have h9 := hgd.mpr (fun j hj => z j (by omega)); rw [c217] at h9; exact h9)⟩ (fun z => by rw [wr_lg, w9_succ (by omega)]; show (27 : Int64) * B.2 + (nI (t (k + m))).toInt64 - 96 = _; rw [hw (fun j hj => z j (by omega))]; exact l64_step hb (z m (by omega))) (fun z => (wr_ne (by omega)).trans (by rw [nr_stay (by omega) (z m (by omega)) (fun j hj => z j (by omega))]; exact hnm (fun j hj => z j (by omega)))) ((hG.tr FG.lg).tr (FG.wr (by omega)))
                  · refine g_aload_n 283 4 dX7_go_282 rfl rfl ?_
                    refine g_bipush 285 (nI 10) dX7_go_283 rfl rfl ?_
                    refine g_aload_n 286 4 dX7_go_285 rfl rfl ?_
                    refine g_get 289 ((B.1 18 0 7)) dX7_go_286 rfl fX7_41 rfl (by decide) rfl rfl ?_
                    refine g_imul 290 ((nI 10) * (B.1 18 0 7)) dX7_go_289 rfl rfl ?_
                    refine g_iload 292 1 dX7_go_290 rfl rfl ?_
                    refine g_iadd 293 (((nI 10) * (B.1 18 0 7)) + (nI (t (k + m)))) dX7_go_292 rfl rfl ?_
                    refine g_bipush 295 (nI 48) dX7_go_293 rfl rfl ?_
                    refine g_isub 296 ((((nI 10) * (B.1 18 0 7)) + (nI (t (k + m)))) - (nI 48)) dX7_go_295 rfl rfl ?_
                    refine g_put 299 dX7_go_296 rfl fX7_41 pX7_7 rfl (by decide) rfl ?_
                    refine g_aload_n 300 4 dX7_go_299 rfl rfl ?_
                    refine g_dup 301 dX7_go_300 rfl rfl ?_
                    refine g_get 304 (nI (k + m)) dX7_go_301 rfl fX7_21 rfl (by decide) rfl ((wr_ne (by omega)).trans hto) ?_
                    refine g_iconst 305 (nI 1) dX7_go_304 rfl rfl ?_
                    refine g_iadd 306 (nI ((k + m) + 1)) dX7_go_305 rfl (nI_add (k + m) 1) ?_
                    refine g_put 309 dX7_go_306 rfl fX7_21 pX7_4 rfl (by decide) rfl ?_
                    refine g_goto 177 dX7_go_309 rfl ?_
                    refine g_lv [0, 2, 3, 4] rfl ?_
                    exact ih177 (by omega) _ false wr_eq ((wr_ne (by omega)).trans ((wr_ne (by omega)).trans hfr)) (or_snoc hor (by cases h9 : lt_ (t (k + m)) with
                      | true => exact Or.inl rfl
                      | false => exact Or.inr (by rw [h9] at hor1; exact hor1))) ⟨fun z => absurd z (by decide), fun z => by first | exact absurd (congrArg bi (z m (by omega))) c226 | (have h9 := hgd.mpr (fun j hj => z j (by omega)); rw [c217] at h9; exact h9)⟩ (fun z => by rw [wr_lg, wr_lg, w9_succ (by omega)]; show (27 : Int64) * B.2 + (nI (t (k + m))).toInt64 - 96 = _; rw [hw (fun j hj => z j (by omega))]; exact l64_step hb (z m (by omega))) (fun z => (wr_ne (by omega)).trans (wr_eq.trans (nr_step (by omega) (z m (by omega)) (fun j hj => z j (by omega)) (hnm (fun j hj => z j (by omega)))))) (((hG.tr FG.lg).tr (FG.wr (by omega))).tr (FG.wr (by omega)))
              · refine g_iload 222 0 dX7_go_220 rfl rfl ?_
                refine g_callSi 225 md_X7_isLetter [.int (nI (t (k + m)))] [] dX7_go_222 rfl e_X7_go_30 rfl rfl (Nat.le_of_ble_eq_true rfl) (c_X7_isLetter (nI (t (k + m)))) (fun r222 M222 h222 => ?_)
                obtain ⟨rfl, h222⟩ := h222
                have h222 := h222.symm
                subst h222
                rw [nb_lt hb]
                refine g_iload_n 226 2 dX7_go_225 rfl rfl ?_
                refine g_icmp_ne 233 229 dX7_go_226 rfl rfl (fun c226 => ?_) (fun c226 => ?_)
                · refine g_iconst 234 (nI 0) dX7_go_233 rfl rfl ?_
                  refine g_istore_n 235 [(3, .int (nI 0)), (4, .int (nI (t (k + m)))), (2, .int (bi (lt_ (t k)))), (1, .int (nI (t k))), (0, .ref (g 18 0))] dX7_go_234 rfl (by decide) rfl ?_
                  refine g_aload_n 236 4 dX7_go_235 rfl rfl ?_
                  refine g_get 239 (nI (k + m)) dX7_go_236 rfl fX7_21 rfl (by decide) rfl hto ?_
                  refine g_aload_n 240 4 dX7_go_239 rfl rfl ?_
                  refine g_get 243 (nI k) dX7_go_240 rfl fX7_24 rfl (by decide) rfl hfr ?_
                  refine g_isub 244 (nI (k + m - k)) dX7_go_243 rfl (pk_sub (by omega)) ?_
                  refine g_bipush 246 (nI 9) dX7_go_244 rfl rfl ?_
                  refine g_icmpN_ge 269 249 dX7_go_246 rfl rfl (by omega) (by omega) (fun c246 => ?_) (fun c246 => ?_)
                  · refine g_aload_n 270 4 dX7_go_269 rfl rfl ?_
                    refine g_get 273 (nI (k + m)) dX7_go_270 rfl fX7_21 rfl (by decide) rfl hto ?_
                    refine g_aload_n 274 4 dX7_go_273 rfl rfl ?_
                    refine g_get 277 (nI k) dX7_go_274 rfl fX7_24 rfl (by decide) rfl hfr ?_
                    refine g_isub 278 (nI (k + m - k)) dX7_go_277 rfl (pk_sub (by omega)) ?_
                    refine g_iconst 279 (nI 2) dX7_go_278 rfl rfl ?_
                    refine g_icmpN_ge 299 282 dX7_go_279 rfl rfl (by omega) (by omega) (fun c279 => ?_) (fun c279 => ?_)
                    · refine g_aload_n 300 4 dX7_go_299 rfl rfl ?_
                      refine g_dup 301 dX7_go_300 rfl rfl ?_
                      refine g_get 304 (nI (k + m)) dX7_go_301 rfl fX7_21 rfl (by decide) rfl hto ?_
                      refine g_iconst 305 (nI 1) dX7_go_304 rfl rfl ?_
                      refine g_iadd 306 (nI ((k + m) + 1)) dX7_go_305 rfl (nI_add (k + m) 1) ?_
                      refine g_put 309 dX7_go_306 rfl fX7_21 pX7_4 rfl (by decide) rfl ?_
                      refine g_goto 177 dX7_go_309 rfl ?_
                      refine g_lv [0, 2, 3, 4] rfl ?_
                      exact ih177 (by omega) _ false wr_eq ((wr_ne (by omega)).trans hfr) (or_snoc hor (by cases h9 : lt_ (t (k + m)) with
                        | true => exact Or.inl rfl
                        | false => exact Or.inr (by rw [h9] at hor1; exact hor1))) ⟨fun z => absurd z (by decide), fun z => by first | exact absurd (congrArg bi (z m (by omega))) c226 | (have h9 := hgd.mpr (fun j hj => z j (by omega)); rw [c217] at h9; exact h9)⟩ (fun z => by rw [wr_lg, w9_stay (by omega)]; exact hw (fun j hj => z j (by omega))) (fun z => (wr_ne (by omega)).trans (by rw [nr_stay (by omega) (z m (by omega)) (fun j hj => z j (by omega))]; exact hnm (fun j hj => z j (by omega)))) (hG.tr (FG.wr (by omega)))
                    · refine g_aload_n 283 4 dX7_go_282 rfl rfl ?_
                      refine g_bipush 285 (nI 10) dX7_go_283 rfl rfl ?_
                      refine g_aload_n 286 4 dX7_go_285 rfl rfl ?_
                      refine g_get 289 ((B.1 18 0 7)) dX7_go_286 rfl fX7_41 rfl (by decide) rfl rfl ?_
                      refine g_imul 290 ((nI 10) * (B.1 18 0 7)) dX7_go_289 rfl rfl ?_
                      refine g_iload 292 1 dX7_go_290 rfl rfl ?_
                      refine g_iadd 293 (((nI 10) * (B.1 18 0 7)) + (nI (t (k + m)))) dX7_go_292 rfl rfl ?_
                      refine g_bipush 295 (nI 48) dX7_go_293 rfl rfl ?_
                      refine g_isub 296 ((((nI 10) * (B.1 18 0 7)) + (nI (t (k + m)))) - (nI 48)) dX7_go_295 rfl rfl ?_
                      refine g_put 299 dX7_go_296 rfl fX7_41 pX7_7 rfl (by decide) rfl ?_
                      refine g_aload_n 300 4 dX7_go_299 rfl rfl ?_
                      refine g_dup 301 dX7_go_300 rfl rfl ?_
                      refine g_get 304 (nI (k + m)) dX7_go_301 rfl fX7_21 rfl (by decide) rfl ((wr_ne (by omega)).trans hto) ?_
                      refine g_iconst 305 (nI 1) dX7_go_304 rfl rfl ?_
                      refine g_iadd 306 (nI ((k + m) + 1)) dX7_go_305 rfl (nI_add (k + m) 1) ?_
                      refine g_put 309 dX7_go_306 rfl fX7_21 pX7_4 rfl (by decide) rfl ?_
                      refine g_goto 177 dX7_go_309 rfl ?_
                      refine g_lv [0, 2, 3, 4] rfl ?_
                      exact ih177 (by omega) _ false wr_eq ((wr_ne (by omega)).trans ((wr_ne (by omega)).trans hfr)) (or_snoc hor (by cases h9 : lt_ (t (k + m)) with
                        | true => exact Or.inl rfl
                        | false => exact Or.inr (by rw [h9] at hor1; exact hor1))) ⟨fun z => absurd z (by decide), fun z => by first | exact absurd (congrArg bi (z m (by omega))) c226 | (have h9 := hgd.mpr (fun j hj => z j (by omega)); rw [c217] at h9; exact h9)⟩ (fun z => by rw [wr_lg, wr_lg, w9_stay (by omega)]; exact hw (fun j hj => z j (by omega))) (fun z => (wr_ne (by omega)).trans (wr_eq.trans (nr_step (by omega) (z m (by omega)) (fun j hj => z j (by omega)) (hnm (fun j hj => z j (by omega)))))) ((hG.tr (FG.wr (by omega))).tr (FG.wr (by omega)))
                  · refine g_aload_n 250 4 dX7_go_249 rfl rfl ?_
                    refine g_ldc2 253 (27) dX7_go_250 rfl lX7_48 ?_
                    refine g_aload_n 254 4 dX7_go_253 rfl rfl ?_
                    refine g_getl 257 ((B.2)) dX7_go_254 rfl fX7_37 rfl (by decide) rfl rfl ?_
                    refine g_lmul 258 (27 * (B.2)) dX7_go_257 rfl rfl ?_
                    refine g_iload 260 1 dX7_go_258 rfl rfl ?_
                    refine g_i2l 261 ((nI (t (k + m))).toInt64) dX7_go_260 rfl rfl ?_
                    refine g_ladd 262 ((27 * (B.2)) + ((nI (t (k + m))).toInt64)) dX7_go_261 rfl rfl ?_
                    refine g_ldc2 265 (96) dX7_go_262 rfl lX7_50 ?_
                    refine g_lsub 266 (((27 * (B.2)) + ((nI (t (k + m))).toInt64)) - 96) dX7_go_265 rfl rfl ?_
                    refine g_putl 269 dX7_go_266 rfl fX7_37 pX7_10 ?_
                    refine g_aload_n 270 4 dX7_go_269 rfl rfl ?_
                    refine g_get 273 (nI (k + m)) dX7_go_270 rfl fX7_21 rfl (by decide) rfl hto ?_
                    refine g_aload_n 274 4 dX7_go_273 rfl rfl ?_
                    refine g_get 277 (nI k) dX7_go_274 rfl fX7_24 rfl (by decide) rfl hfr ?_
                    refine g_isub 278 (nI (k + m - k)) dX7_go_277 rfl (pk_sub (by omega)) ?_
                    refine g_iconst 279 (nI 2) dX7_go_278 rfl rfl ?_
                    refine g_icmpN_ge 299 282 dX7_go_279 rfl rfl (by omega) (by omega) (fun c279 => ?_) (fun c279 => ?_)
                    · refine g_aload_n 300 4 dX7_go_299 rfl rfl ?_
                      refine g_dup 301 dX7_go_300 rfl rfl ?_
                      refine g_get 304 (nI (k + m)) dX7_go_301 rfl fX7_21 rfl (by decide) rfl hto ?_
                      refine g_iconst 305 (nI 1) dX7_go_304 rfl rfl ?_
                      refine g_iadd 306 (nI ((k + m) + 1)) dX7_go_305 rfl (nI_add (k + m) 1) ?_
                      refine g_put 309 dX7_go_306 rfl fX7_21 pX7_4 rfl (by decide) rfl ?_
                      refine g_goto 177 dX7_go_309 rfl ?_
                      refine g_lv [0, 2, 3, 4] rfl ?_
                      exact ih177 (by omega) _ false wr_eq ((wr_ne (by omega)).trans hfr) (or_snoc hor (by cases h9 : lt_ (t (k + m)) with
                        | true => exact Or.inl rfl
                        | false => exact Or.inr (by rw [h9] at hor1; exact hor1))) ⟨fun z => absurd z (by decide), fun z => by first | exact absurd (congrArg bi (z m (by omega))) c226 | (have h9 := hgd.mpr (fun j hj => z j (by omega)); rw [c217] at h9; exact h9)⟩ (fun z => by rw [wr_lg, w9_succ (by omega)]; show (27 : Int64) * B.2 + (nI (t (k + m))).toInt64 - 96 = _; rw [hw (fun j hj => z j (by omega))]; exact l64_step hb (z m (by omega))) (fun z => (wr_ne (by omega)).trans (by rw [nr_stay (by omega) (z m (by omega)) (fun j hj => z j (by omega))]; exact hnm (fun j hj => z j (by omega)))) ((hG.tr FG.lg).tr (FG.wr (by omega)))
                    · refine g_aload_n 283 4 dX7_go_282 rfl rfl ?_
                      refine g_bipush 285 (nI 10) dX7_go_283 rfl rfl ?_
                      refine g_aload_n 286 4 dX7_go_285 rfl rfl ?_
                      refine g_get 289 ((B.1 18 0 7)) dX7_go_286 rfl fX7_41 rfl (by decide) rfl rfl ?_
                      refine g_imul 290 ((nI 10) * (B.1 18 0 7)) dX7_go_289 rfl rfl ?_
                      refine g_iload 292 1 dX7_go_290 rfl rfl ?_
                      refine g_iadd 293 (((nI 10) * (B.1 18 0 7)) + (nI (t (k + m)))) dX7_go_292 rfl rfl ?_
                      refine g_bipush 295 (nI 48) dX7_go_293 rfl rfl ?_
                      refine g_isub 296 ((((nI 10) * (B.1 18 0 7)) + (nI (t (k + m)))) - (nI 48)) dX7_go_295 rfl rfl ?_
                      refine g_put 299 dX7_go_296 rfl fX7_41 pX7_7 rfl (by decide) rfl ?_
                      refine g_aload_n 300 4 dX7_go_299 rfl rfl ?_
                      refine g_dup 301 dX7_go_300 rfl rfl ?_
                      refine g_get 304 (nI (k + m)) dX7_go_301 rfl fX7_21 rfl (by decide) rfl ((wr_ne (by omega)).trans hto) ?_
                      refine g_iconst 305 (nI 1) dX7_go_304 rfl rfl ?_
                      refine g_iadd 306 (nI ((k + m) + 1)) dX7_go_305 rfl (nI_add (k + m) 1) ?_
                      refine g_put 309 dX7_go_306 rfl fX7_21 pX7_4 rfl (by decide) rfl ?_
                      refine g_goto 177 dX7_go_309 rfl ?_
                      refine g_lv [0, 2, 3, 4] rfl ?_
                      exact ih177 (by omega) _ false wr_eq ((wr_ne (by omega)).trans ((wr_ne (by omega)).trans hfr)) (or_snoc hor (by cases h9 : lt_ (t (k + m)) with
                        | true => exact Or.inl rfl
                        | false => exact Or.inr (by rw [h9] at hor1; exact hor1))) ⟨fun z => absurd z (by decide), fun z => by first | exact absurd (congrArg bi (z m (by omega))) c226 | (have h9 := hgd.mpr (fun j hj => z j (by omega)); rw [c217] at h9; exact h9)⟩ (fun z => by rw [wr_lg, wr_lg, w9_succ (by omega)]; show (27 : Int64) * B.2 + (nI (t (k + m))).toInt64 - 96 = _; rw [hw (fun j hj => z j (by omega))]; exact l64_step hb (z m (by omega))) (fun z => (wr_ne (by omega)).trans (wr_eq.trans (nr_step (by omega) (z m (by omega)) (fun j hj => z j (by omega)) (hnm (fun j hj => z j (by omega)))))) (((hG.tr FG.lg).tr (FG.wr (by omega))).tr (FG.wr (by omega)))
                · refine g_iconst 230 (nI 1) dX7_go_229 rfl rfl ?_
                  refine g_goto 234 dX7_go_230 rfl ?_
                  refine g_istore_n 235 [(3, .int (nI 1)), (4, .int (nI (t (k + m)))), (2, .int (bi (lt_ (t k)))), (1, .int (nI (t k))), (0, .ref (g 18 0))] dX7_go_234 rfl (by decide) rfl ?_
                  refine g_aload_n 236 4 dX7_go_235 rfl rfl ?_
                  refine g_get 239 (nI (k + m)) dX7_go_236 rfl fX7_21 rfl (by decide) rfl hto ?_
                  refine g_aload_n 240 4 dX7_go_239 rfl rfl ?_
                  refine g_get 243 (nI k) dX7_go_240 rfl fX7_24 rfl (by decide) rfl hfr ?_
                  refine g_isub 244 (nI (k + m - k)) dX7_go_243 rfl (pk_sub (by omega)) ?_
                  refine g_bipush 246 (nI 9) dX7_go_244 rfl rfl ?_
                  refine g_icmpN_ge 269 249 dX7_go_246 rfl rfl (by omega) (by omega) (fun c246 => ?_) (fun c246 => ?_)
                  · refine g_aload_n 270 4 dX7_go_269 rfl rfl ?_
                    refine g_get 273 (nI (k + m)) dX7_go_270 rfl fX7_21 rfl (by decide) rfl hto ?_
                    refine g_aload_n 274 4 dX7_go_273 rfl rfl ?_
                    refine g_get 277 (nI k) dX7_go_274 rfl fX7_24 rfl (by decide) rfl hfr ?_
                    refine g_isub 278 (nI (k + m - k)) dX7_go_277 rfl (pk_sub (by omega)) ?_
                    refine g_iconst 279 (nI 2) dX7_go_278 rfl rfl ?_
                    refine g_icmpN_ge 299 282 dX7_go_279 rfl rfl (by omega) (by omega) (fun c279 => ?_) (fun c279 => ?_)
                    · refine g_aload_n 300 4 dX7_go_299 rfl rfl ?_
                      refine g_dup 301 dX7_go_300 rfl rfl ?_
                      refine g_get 304 (nI (k + m)) dX7_go_301 rfl fX7_21 rfl (by decide) rfl hto ?_
                      refine g_iconst 305 (nI 1) dX7_go_304 rfl rfl ?_
                      refine g_iadd 306 (nI ((k + m) + 1)) dX7_go_305 rfl (nI_add (k + m) 1) ?_
                      refine g_put 309 dX7_go_306 rfl fX7_21 pX7_4 rfl (by decide) rfl ?_
                      refine g_goto 177 dX7_go_309 rfl ?_
                      refine g_lv [0, 2, 3, 4] rfl ?_
                      exact ih177 (by omega) _ true wr_eq ((wr_ne (by omega)).trans hfr) (or_snoc hor (by cases h9 : lt_ (t (k + m)) with
                        | true => exact Or.inl rfl
                        | false => exact Or.inr (by rw [h9] at hor1; exact hor1))) ⟨fun _ => GDm_s (hgd.mp c217) (bi_inj c226), fun _ => rfl⟩ (fun z => by rw [wr_lg, w9_stay (by omega)]; exact hw (fun j hj => z j (by omega))) (fun z => (wr_ne (by omega)).trans (by rw [nr_stay (by omega) (z m (by omega)) (fun j hj => z j (by omega))]; exact hnm (fun j hj => z j (by omega)))) (hG.tr (FG.wr (by omega)))
                    · refine g_aload_n 283 4 dX7_go_282 rfl rfl ?_
                      refine g_bipush 285 (nI 10) dX7_go_283 rfl rfl ?_
                      refine g_aload_n 286 4 dX7_go_285 rfl rfl ?_
                      refine g_get 289 ((B.1 18 0 7)) dX7_go_286 rfl fX7_41 rfl (by decide) rfl rfl ?_
                      refine g_imul 290 ((nI 10) * (B.1 18 0 7)) dX7_go_289 rfl rfl ?_
                      refine g_iload 292 1 dX7_go_290 rfl rfl ?_
                      refine g_iadd 293 (((nI 10) * (B.1 18 0 7)) + (nI (t (k + m)))) dX7_go_292 rfl rfl ?_
                      refine g_bipush 295 (nI 48) dX7_go_293 rfl rfl ?_
                      refine g_isub 296 ((((nI 10) * (B.1 18 0 7)) + (nI (t (k + m)))) - (nI 48)) dX7_go_295 rfl rfl ?_
                      refine g_put 299 dX7_go_296 rfl fX7_41 pX7_7 rfl (by decide) rfl ?_
                      refine g_aload_n 300 4 dX7_go_299 rfl rfl ?_
                      refine g_dup 301 dX7_go_300 rfl rfl ?_
                      refine g_get 304 (nI (k + m)) dX7_go_301 rfl fX7_21 rfl (by decide) rfl ((wr_ne (by omega)).trans hto) ?_
                      refine g_iconst 305 (nI 1) dX7_go_304 rfl rfl ?_
                      refine g_iadd 306 (nI ((k + m) + 1)) dX7_go_305 rfl (nI_add (k + m) 1) ?_
                      refine g_put 309 dX7_go_306 rfl fX7_21 pX7_4 rfl (by decide) rfl ?_
                      refine g_goto 177 dX7_go_309 rfl ?_
                      refine g_lv [0, 2, 3, 4] rfl ?_
                      exact ih177 (by omega) _ true wr_eq ((wr_ne (by omega)).trans ((wr_ne (by omega)).trans hfr)) (or_snoc hor (by cases h9 : lt_ (t (k + m)) with
                        | true => exact Or.inl rfl
                        | false => exact Or.inr (by rw [h9] at hor1; exact hor1))) ⟨fun _ => GDm_s (hgd.mp c217) (bi_inj c226), fun _ => rfl⟩ (fun z => by rw [wr_lg, wr_lg, w9_stay (by omega)]; exact hw (fun j hj => z j (by omega))) (fun z => (wr_ne (by omega)).trans (wr_eq.trans (nr_step (by omega) (z m (by omega)) (fun j hj => z j (by omega)) (hnm (fun j hj => z j (by omega)))))) ((hG.tr (FG.wr (by omega))).tr (FG.wr (by omega)))
                  · refine g_aload_n 250 4 dX7_go_249 rfl rfl ?_
                    refine g_ldc2 253 (27) dX7_go_250 rfl lX7_48 ?_
                    refine g_aload_n 254 4 dX7_go_253 rfl rfl ?_
                    refine g_getl 257 ((B.2)) dX7_go_254 rfl fX7_37 rfl (by decide) rfl rfl ?_
                    refine g_lmul 258 (27 * (B.2)) dX7_go_257 rfl rfl ?_
                    refine g_iload 260 1 dX7_go_258 rfl rfl ?_
                    refine g_i2l 261 ((nI (t (k + m))).toInt64) dX7_go_260 rfl rfl ?_
                    refine g_ladd 262 ((27 * (B.2)) + ((nI (t (k + m))).toInt64)) dX7_go_261 rfl rfl ?_
                    refine g_ldc2 265 (96) dX7_go_262 rfl lX7_50 ?_
                    refine g_lsub 266 (((27 * (B.2)) + ((nI (t (k + m))).toInt64)) - 96) dX7_go_265 rfl rfl ?_
                    refine g_putl 269 dX7_go_266 rfl fX7_37 pX7_10 ?_
                    refine g_aload_n 270 4 dX7_go_269 rfl rfl ?_
                    refine g_get 273 (nI (k + m)) dX7_go_270 rfl fX7_21 rfl (by decide) rfl hto ?_
                    refine g_aload_n 274 4 dX7_go_273 rfl rfl ?_
                    refine g_get 277 (nI k) dX7_go_274 rfl fX7_24 rfl (by decide) rfl hfr ?_
                    refine g_isub 278 (nI (k + m - k)) dX7_go_277 rfl (pk_sub (by omega)) ?_
                    refine g_iconst 279 (nI 2) dX7_go_278 rfl rfl ?_
                    refine g_icmpN_ge 299 282 dX7_go_279 rfl rfl (by omega) (by omega) (fun c279 => ?_) (fun c279 => ?_)
                    · refine g_aload_n 300 4 dX7_go_299 rfl rfl ?_
                      refine g_dup 301 dX7_go_300 rfl rfl ?_
                      refine g_get 304 (nI (k + m)) dX7_go_301 rfl fX7_21 rfl (by decide) rfl hto ?_
                      refine g_iconst 305 (nI 1) dX7_go_304 rfl rfl ?_
                      refine g_iadd 306 (nI ((k + m) + 1)) dX7_go_305 rfl (nI_add (k + m) 1) ?_
                      refine g_put 309 dX7_go_306 rfl fX7_21 pX7_4 rfl (by decide) rfl ?_
                      refine g_goto 177 dX7_go_309 rfl ?_
                      refine g_lv [0, 2, 3, 4] rfl ?_
                      exact ih177 (by omega) _ true wr_eq ((wr_ne (by omega)).trans hfr) (or_snoc hor (by cases h9 : lt_ (t (k + m)) with
                        | true => exact Or.inl rfl
                        | false => exact Or.inr (by rw [h9] at hor1; exact hor1))) ⟨fun _ => GDm_s (hgd.mp c217) (bi_inj c226), fun _ => rfl⟩ (fun z => by rw [wr_lg, w9_succ (by omega)]; show (27 : Int64) * B.2 + (nI (t (k + m))).toInt64 - 96 = _; rw [hw (fun j hj => z j (by omega))]; exact l64_step hb (z m (by omega))) (fun z => (wr_ne (by omega)).trans (by rw [nr_stay (by omega) (z m (by omega)) (fun j hj => z j (by omega))]; exact hnm (fun j hj => z j (by omega)))) ((hG.tr FG.lg).tr (FG.wr (by omega)))
                    · refine g_aload_n 283 4 dX7_go_282 rfl rfl ?_
                      refine g_bipush 285 (nI 10) dX7_go_283 rfl rfl ?_
                      refine g_aload_n 286 4 dX7_go_285 rfl rfl ?_
                      refine g_get 289 ((B.1 18 0 7)) dX7_go_286 rfl fX7_41 rfl (by decide) rfl rfl ?_
                      refine g_imul 290 ((nI 10) * (B.1 18 0 7)) dX7_go_289 rfl rfl ?_
                      refine g_iload 292 1 dX7_go_290 rfl rfl ?_
                      refine g_iadd 293 (((nI 10) * (B.1 18 0 7)) + (nI (t (k + m)))) dX7_go_292 rfl rfl ?_
                      refine g_bipush 295 (nI 48) dX7_go_293 rfl rfl ?_
                      refine g_isub 296 ((((nI 10) * (B.1 18 0 7)) + (nI (t (k + m)))) - (nI 48)) dX7_go_295 rfl rfl ?_
                      refine g_put 299 dX7_go_296 rfl fX7_41 pX7_7 rfl (by decide) rfl ?_
                      refine g_aload_n 300 4 dX7_go_299 rfl rfl ?_
                      refine g_dup 301 dX7_go_300 rfl rfl ?_
                      refine g_get 304 (nI (k + m)) dX7_go_301 rfl fX7_21 rfl (by decide) rfl ((wr_ne (by omega)).trans hto) ?_
                      refine g_iconst 305 (nI 1) dX7_go_304 rfl rfl ?_
                      refine g_iadd 306 (nI ((k + m) + 1)) dX7_go_305 rfl (nI_add (k + m) 1) ?_
                      refine g_put 309 dX7_go_306 rfl fX7_21 pX7_4 rfl (by decide) rfl ?_
                      refine g_goto 177 dX7_go_309 rfl ?_
                      refine g_lv [0, 2, 3, 4] rfl ?_
                      exact ih177 (by omega) _ true wr_eq ((wr_ne (by omega)).trans ((wr_ne (by omega)).trans hfr)) (or_snoc hor (by cases h9 : lt_ (t (k + m)) with
                        | true => exact Or.inl rfl
                        | false => exact Or.inr (by rw [h9] at hor1; exact hor1))) ⟨fun _ => GDm_s (hgd.mp c217) (bi_inj c226), fun _ => rfl⟩ (fun z => by rw [wr_lg, wr_lg, w9_succ (by omega)]; show (27 : Int64) * B.2 + (nI (t (k + m))).toInt64 - 96 = _; rw [hw (fun j hj => z j (by omega))]; exact l64_step hb (z m (by omega))) (fun z => (wr_ne (by omega)).trans (wr_eq.trans (nr_step (by omega) (z m (by omega)) (fun j hj => z j (by omega)) (hnm (fun j hj => z j (by omega)))))) (((hG.tr FG.lg).tr (FG.wr (by omega))).tr (FG.wr (by omega)))
            refine g_aload_n 178 3 dX7_go_177 rfl rfl ?_
            refine g_aload_n 179 3 dX7_go_178 rfl rfl ?_
            refine g_get 182 (nI (k + m)) dX7_go_179 rfl fX7_21 rfl (by decide) rfl hto ?_
            refine g_callVi 185 md_X7_tapeAt [.int (nI (k + m))] [] dX7_go_182 rfl e_X7_go_44 rfl (by decide) rfl rfl (Nat.le_of_ble_eq_true rfl) (c_X7_tapeAt (hG.ts hT) hn (k + m) (by omega)) (fun r182 M182 h182 => ?_)
            obtain ⟨rfl, h182⟩ := h182
            have h182 := h182.symm
            subst h182
            refine g_callSi 188 md_X7_isLetter [.int (nI (ta t n (k + m)))] [] dX7_go_185 rfl e_X7_go_30 rfl rfl (Nat.le_of_ble_eq_true rfl) (c_X7_isLetter (nI (ta t n (k + m)))) (fun r185 M185 h185 => ?_)
            obtain ⟨rfl, h185⟩ := h185
            have h185 := h185.symm
            subst h185
            rw [nb_lt (ta_lt hB)]
            refine g_ifB_ne 205 191 dX7_go_188 rfl rfl (fun c188 => ?_) (fun c188 => ?_)
            · exact K205 (by first | (rw [show lt_ (ta t n (k + m)) = true by assumption]; rfl) | (rw [show dg_ (ta t n (k + m)) = true by assumption]; exact Bool.or_true _))
            · refine g_aload_n 192 3 dX7_go_191 rfl rfl ?_
              refine g_aload_n 193 3 dX7_go_192 rfl rfl ?_
              refine g_get 196 (nI (k + m)) dX7_go_193 rfl fX7_21 rfl (by decide) rfl hto ?_
              refine g_callVi 199 md_X7_tapeAt [.int (nI (k + m))] [] dX7_go_196 rfl e_X7_go_44 rfl (by decide) rfl rfl (Nat.le_of_ble_eq_true rfl) (c_X7_tapeAt (hG.ts hT) hn (k + m) (by omega)) (fun r196 M196 h196 => ?_)
              obtain ⟨rfl, h196⟩ := h196
              have h196 := h196.symm
              subst h196
              refine g_callSi 202 md_X7_isDigit [.int (nI (ta t n (k + m)))] [] dX7_go_199 rfl e_X7_go_34 rfl rfl (Nat.le_of_ble_eq_true rfl) (c_X7_isDigit (nI (ta t n (k + m)))) (fun r199 M199 h199 => ?_)
              obtain ⟨rfl, h199⟩ := h199
              have h199 := h199.symm
              subst h199
              rw [nb_dg (ta_lt hB)]
              refine g_ifB_eq 312 205 dX7_go_202 rfl rfl (fun c202 => ?_) (fun c202 => ?_)
              · have he : ren t n k = k + m := ren_at hmn hor (ta_out c188 c202)
                have hm0 : 0 < m := Nat.pos_of_ne_zero (fun z => by subst z; have h9 := ta_out c188 c202 (by omega); rw [Nat.add_zero] at h9; rw [h9.1, h9.2] at hor0; exact absurd hor0 (by decide))
                obtain ⟨k1, k2, k3⟩ := tk_run (t := t) (n := n) (p := p) (by rw [hq]; omega) (by rw [hq]; omega) (by rw [hq]; exact ld_59 hor0)
                have hvt := vs_tvl (t := t) (n := n) (p := p)
                rw [hq] at k1 k2 k3 hvt
                rw [he] at k1 k3 hvt
                rw [show k + m - k = m by omega] at hvt
                refine g_aload_n 313 3 dX7_go_312 rfl rfl ?_
                refine g_iload_n 314 0 dX7_go_313 rfl rfl ?_
                refine g_ifB_eq 334 317 dX7_go_314 rfl rfl (fun c314 => ?_) (fun c314 => ?_)
                · refine g_iconst 335 (nI 1) dX7_go_334 rfl rfl ?_
                  refine g_goto 347 dX7_go_335 rfl ?_
                  refine g_put 350 dX7_go_347 rfl fX7_27 pX7_6 rfl (by decide) rfl ?_
                  exact g_vret rfl dX7_go_350 ⟨HK_1 ((wr_ne (by omega)).trans (by rw [k2]; exact hfr)) wr_eq (by rw [k1]; first | exact go_bad hor (fun z => by have h9 := hgd.mpr z; rw [c314] at h9; exact absurd h9 (by decide)) | rw [kdr_d (by omega) (by rw [show k + m - k = m by omega]; exact gd_d hor (hgd.mp c314) c318), if_neg (by omega)]), hG.tr (FG.wr (by omega))⟩
                · refine g_iload_n 318 1 dX7_go_317 rfl rfl ?_
                  refine g_ifB_ne 338 321 dX7_go_318 rfl rfl (fun c318 => ?_) (fun c318 => ?_)
                  · refine g_iload_n 339 1 dX7_go_338 rfl rfl ?_
                    refine g_ifB_eq 346 342 dX7_go_339 rfl rfl (fun c339 => ?_) (fun c339 => ?_)
                    · exact absurd (c318.symm.trans c339) (by decide)
                    · refine g_iconst 343 (nI 2) dX7_go_342 rfl rfl ?_
                      refine g_goto 347 dX7_go_343 rfl ?_
                      refine g_put 350 dX7_go_347 rfl fX7_27 pX7_6 rfl (by decide) rfl ?_
                      exact g_vret rfl dX7_go_350 ⟨HK_w (q := k) (e := k + m) ((wr_ne (by omega)).trans (by rw [k2]; exact hfr)) ((wr_ne (by omega)).trans (by rw [k3]; exact hto)) wr_eq (by rw [k1]; exact kdr_l (by rw [show k + m - k = m by omega]; exact gd_l (hgd.mp c314) c318)) (by rw [show k + m - k = m by omega]; exact gd_l (hgd.mp c314) c318) (by rw [wr_lg, show k + m - k = m by omega]; exact hw (gd_l (hgd.mp c314) c318)), hG.tr (FG.wr (by omega))⟩
                  · refine g_aload_n 322 3 dX7_go_321 rfl rfl ?_
                    refine g_get 325 (nI (k + m)) dX7_go_322 rfl fX7_21 rfl (by decide) rfl hto ?_
                    refine g_aload_n 326 3 dX7_go_325 rfl rfl ?_
                    refine g_get 329 (nI k) dX7_go_326 rfl fX7_24 rfl (by decide) rfl hfr ?_
                    refine g_isub 330 (nI (k + m - k)) dX7_go_329 rfl (pk_sub (by omega)) ?_
                    refine g_iconst 331 (nI 2) dX7_go_330 rfl rfl ?_
                    refine g_icmpN_le 338 334 dX7_go_331 rfl rfl (by omega) (by omega) (fun c331 => ?_) (fun c331 => ?_)
                    · refine g_iload_n 339 1 dX7_go_338 rfl rfl ?_
                      refine g_ifB_eq 346 342 dX7_go_339 rfl rfl (fun c339 => ?_) (fun c339 => ?_)
                      · refine g_iconst 347 (nI 3) dX7_go_346 rfl rfl ?_
                        refine g_put 350 dX7_go_347 rfl fX7_27 pX7_6 rfl (by decide) rfl ?_
                        exact g_vret rfl dX7_go_350 (by have hk2 : kdr t k (k + m) = 2 := (by rw [kdr_d (by omega) (by rw [show k + m - k = m by omega]; exact gd_d hor (hgd.mp c314) c318), if_pos (by omega)]); exact ⟨HK_2 ((wr_ne (by omega)).trans (by rw [k2]; exact hfr)) ((wr_ne (by omega)).trans (by rw [k3]; exact hto)) ((wr_ne (by omega)).trans (by rw [← hvt hk2]; exact hnm (gd_d hor (hgd.mp c314) c318))) wr_eq (by rw [k1]; exact hk2), hG.tr (FG.wr (by omega))⟩)
                      · exact absurd (c318.symm.trans c339) (by decide)
                    · refine g_iconst 335 (nI 1) dX7_go_334 rfl rfl ?_
                      refine g_goto 347 dX7_go_335 rfl ?_
                      refine g_put 350 dX7_go_347 rfl fX7_27 pX7_6 rfl (by decide) rfl ?_
                      exact g_vret rfl dX7_go_350 ⟨HK_1 ((wr_ne (by omega)).trans (by rw [k2]; exact hfr)) wr_eq (by rw [k1]; first | exact go_bad hor (fun z => by have h9 := hgd.mpr z; rw [c314] at h9; exact absurd h9 (by decide)) | rw [kdr_d (by omega) (by rw [show k + m - k = m by omega]; exact gd_d hor (hgd.mp c314) c318), if_neg (by omega)]), hG.tr (FG.wr (by omega))⟩
              · exact K205 (by first | (rw [show lt_ (ta t n (k + m)) = true by assumption]; rfl) | (rw [show dg_ (ta t n (k + m)) = true by assumption]; exact Bool.or_true _))
          exact L177 0 (Nat.zero_le _) _ true ((wr_ne (by omega)).trans ((wr_ne (by omega)).trans hat)) ((wr_ne (by omega)).trans wr_eq) (fun j h => absurd h (Nat.not_lt_zero j)) ⟨fun _ j hj => absurd hj (Nat.not_lt_zero j), fun _ => rfl⟩ (fun _ => by rw [wr_lg]; rfl) (fun _ => wr_eq) (((hF.tr (FG.wr (by omega))).tr FG.lg).tr (FG.wr (by omega)))
        refine g_aload_n 111 0 dX7_go_110 rfl rfl ?_
        refine g_geta 114 2 dX7_go_111 rfl fX7_7 rfl (by decide) rfl rfl ?_
        refine g_aload_n 115 0 dX7_go_114 rfl rfl ?_
        refine g_get 118 (nI k) dX7_go_115 rfl fX7_21 rfl (by decide) rfl ((wr_ne (by omega)).trans hat) ?_
        refine g_iald 119 (nI (t k)) dX7_go_118 rfl rfl (by decide) rfl (by decide) (by omega) ((wr_ne (by omega)).trans ((hF _ _ _ (by omega)).trans (hT.2 _ (by omega)))) ?_
        refine g_istore_n 120 [(1, .int (nI (t k))), (0, .ref (g 18 0))] dX7_go_119 rfl (by decide) rfl ?_
        refine g_iload_n 121 0 dX7_go_120 rfl rfl ?_
        refine g_callSi 124 md_X7_isLetter [.int (nI (t k))] [] dX7_go_121 rfl e_X7_go_30 rfl rfl (Nat.le_of_ble_eq_true rfl) (c_X7_isLetter (nI (t k))) (fun r121 M121 h121 => ?_)
        obtain ⟨rfl, h121⟩ := h121
        have h121 := h121.symm
        subst h121
        rw [nb_lt hb]
        refine g_ifB_ne 160 127 dX7_go_124 rfl rfl (fun c124 => ?_) (fun c124 => ?_)
        · exact K160 (by first | (rw [show lt_ (t k) = true by assumption]; rfl) | (rw [show dg_ (t k) = true by assumption]; exact Bool.or_true _))
        · refine g_iload_n 128 0 dX7_go_127 rfl rfl ?_
          refine g_callSi 131 md_X7_isDigit [.int (nI (t k))] [] dX7_go_128 rfl e_X7_go_34 rfl rfl (Nat.le_of_ble_eq_true rfl) (c_X7_isDigit (nI (t k))) (fun r128 M128 h128 => ?_)
          obtain ⟨rfl, h128⟩ := h128
          have h128 := h128.symm
          subst h128
          rw [nb_dg hb]
          refine g_ifB_ne 160 134 dX7_go_131 rfl rfl (fun c131 => ?_) (fun c131 => ?_)
          · exact K160 (by first | (rw [show lt_ (t k) = true by assumption]; rfl) | (rw [show dg_ (t k) = true by assumption]; exact Bool.or_true _))
          · refine g_aload_n 135 1 dX7_go_134 rfl rfl ?_
            refine g_iload_n 136 0 dX7_go_135 rfl rfl ?_
            refine g_bipush 138 (nI 59) dX7_go_136 rfl rfl ?_
            refine g_icmpN_ne 145 141 dX7_go_138 rfl rfl (by omega) (by omega) (fun c138 => ?_) (fun c138 => ?_)
            · refine g_iconst 146 (nI 1) dX7_go_145 rfl rfl ?_
              refine g_put 149 dX7_go_146 rfl fX7_27 pX7_6 rfl (by decide) rfl ?_
              refine g_aload_n 150 1 dX7_go_149 rfl rfl ?_
              refine g_dup 151 dX7_go_150 rfl rfl ?_
              refine g_get 154 (nI k) dX7_go_151 rfl fX7_21 rfl (by decide) rfl ((wr_ne (by omega)).trans ((wr_ne (by omega)).trans hat)) ?_
              refine g_iconst 155 (nI 1) dX7_go_154 rfl rfl ?_
              refine g_iadd 156 (nI (k + 1)) dX7_go_155 rfl (nI_add k 1) ?_
              refine g_put 159 dX7_go_156 rfl fX7_21 pX7_4 rfl (by decide) rfl ?_
              exact g_vret rfl dX7_go_159 (by obtain ⟨k1, k2, k3⟩ := tk_run (t := t) (n := n) (p := p) (by omega) (by omega) (by rw [hq]; omega); have he : ren t n k = k + 0 := ren_at hk (fun j h => absurd h (Nat.not_lt_zero j)) (fun _ => ⟨c124, c131⟩); rw [hq, he, Nat.add_zero, kdr_q] at k1; exact ⟨HK_1 ((wr_ne (by omega)).trans ((wr_ne (by omega)).trans (by rw [k2, hq]; exact wr_eq))) ((wr_ne (by omega)).trans wr_eq) k1, ((hF.tr (FG.wr (by omega))).tr (FG.wr (by omega))).tr (FG.wr (by omega))⟩)
            · refine g_iconst 142 (nI 4) dX7_go_141 rfl rfl ?_
              refine g_goto 146 dX7_go_142 rfl ?_
              refine g_put 149 dX7_go_146 rfl fX7_27 pX7_6 rfl (by decide) rfl ?_
              refine g_aload_n 150 1 dX7_go_149 rfl rfl ?_
              refine g_dup 151 dX7_go_150 rfl rfl ?_
              refine g_get 154 (nI k) dX7_go_151 rfl fX7_21 rfl (by decide) rfl ((wr_ne (by omega)).trans ((wr_ne (by omega)).trans hat)) ?_
              refine g_iconst 155 (nI 1) dX7_go_154 rfl rfl ?_
              refine g_iadd 156 (nI (k + 1)) dX7_go_155 rfl (nI_add k 1) ?_
              refine g_put 159 dX7_go_156 rfl fX7_21 pX7_4 rfl (by decide) rfl ?_
              exact g_vret rfl dX7_go_159 (by obtain ⟨k1, k2, k3⟩ := tk_stop (t := t) (n := n) (p := p) (by omega) (by omega) (by rw [hq]; omega); exact ⟨HK_3 ((wr_ne (by omega)).trans ((wr_ne (by omega)).trans (by rw [k2, hq]; exact wr_eq))) (by rw [k3, hq]; exact wr_eq) ((wr_ne (by omega)).trans wr_eq) k1, ((hF.tr (FG.wr (by omega))).tr (FG.wr (by omega))).tr (FG.wr (by omega))⟩)
      · refine g_aload_n 105 0 dX7_go_104 rfl rfl ?_
        refine g_iconst 106 (nI 0) dX7_go_105 rfl rfl ?_
        refine g_put 109 dX7_go_106 rfl fX7_27 pX7_6 rfl (by decide) rfl ?_
        exact g_vret rfl dX7_go_109 (by obtain ⟨k1, k2⟩ := tk_end (t := t) (n := n) (p := p) (by omega) (by omega); exact ⟨HK_0 ((wr_ne (by omega)).trans (by rw [k2, hq]; exact wr_eq)) wr_eq k1, (hF.tr (FG.wr (by omega))).tr (FG.wr (by omega))⟩)
    · refine g_aload_n 71 0 dX7_go_70 rfl rfl ?_
      refine g_get 74 (nI k) dX7_go_71 rfl fX7_24 rfl (by decide) rfl wr_eq ?_
      refine g_sipush 77 (nI 600) dX7_go_74 rfl rfl ?_
      refine g_icmpN_lt 93 80 dX7_go_77 rfl rfl (by omega) (by omega) (fun c77 => ?_) (fun c77 => ?_)
      · refine g_aload_n 94 0 dX7_go_93 rfl rfl ?_
        refine g_get 97 (nI k) dX7_go_94 rfl fX7_21 rfl (by decide) rfl ((wr_ne (by omega)).trans hat) ?_
        refine g_aload_n 98 0 dX7_go_97 rfl rfl ?_
        refine g_get 101 (nI n) dX7_go_98 rfl fX7_18 rfl (by decide) rfl ((wr_ne (by omega)).trans ((hF _ _ _ (by omega)).trans hT.1)) ?_
        refine g_icmpN_lt 110 104 dX7_go_101 rfl rfl (by omega) (by omega) (fun c101 => ?_) (fun c101 => ?_)
        · have hb := hb (by omega)
          have K160 : (lt_ (t k) || dg_ (t k)) = true → G l D g ca md_X7_go 160 [(1, .int (nI (t k))), (0, .ref (g 18 0))] [] (wr N 18 0 5 (nI k)) (Rv (fun M1 => HK M1 t n p ∧ FG M M1)) := by
            intro hor0
            refine g_iload_n 161 0 dX7_go_160 rfl rfl ?_
            refine g_callSi 164 md_X7_isLetter [.int (nI (t k))] [] dX7_go_161 rfl e_X7_go_30 rfl rfl (Nat.le_of_ble_eq_true rfl) (c_X7_isLetter (nI (t k))) (fun r161 M161 h161 => ?_)
            obtain ⟨rfl, h161⟩ := h161
            have h161 := h161.symm
            subst h161
            rw [nb_lt hb]
            refine g_istore_n 165 [(2, .int (bi (lt_ (t k)))), (1, .int (nI (t k))), (0, .ref (g 18 0))] dX7_go_164 rfl (by decide) rfl ?_
            refine g_iconst 166 (nI 1) dX7_go_165 rfl rfl ?_
            refine g_istore_n 167 [(3, .int (nI 1)), (2, .int (bi (lt_ (t k)))), (1, .int (nI (t k))), (0, .ref (g 18 0))] dX7_go_166 rfl (by decide) rfl ?_
            refine g_aload_n 168 3 dX7_go_167 rfl rfl ?_
            refine g_lconst 169 0 dX7_go_168 rfl rfl ?_
            refine g_putl 172 dX7_go_169 rfl fX7_37 pX7_10 ?_
            refine g_aload_n 173 3 dX7_go_172 rfl rfl ?_
            refine g_iconst 174 (nI 0) dX7_go_173 rfl rfl ?_
            refine g_put 177 dX7_go_174 rfl fX7_41 pX7_7 rfl (by decide) rfl ?_
            have L177 : ∀ m, m ≤ n - k → ∀ (B : Mm) (gd : Bool), B.1 18 0 4 = nI (k + m) → B.1 18 0 5 = nI k → (∀ j, j < m → (lt_ (t (k + j)) || dg_ (t (k + j))) = true) → (gd = true ↔ GDm t k m) → ((∀ j, j < m → lt_ (t (k + j)) = true) → B.2 = Int64.ofNat (w9 (fun i => t (k + i)) m)) → ((∀ j, j < m → dg_ (t (k + j)) = true) → B.1 18 0 7 = nI (vs t k m)) → FG M B → G l D g ca md_X7_go 177 [(3, .int (bi gd)), (2, .int (bi (lt_ (t k)))), (1, .int (nI (t k))), (0, .ref (g 18 0))] [] B (Rv (fun M1 => HK M1 t n p ∧ FG M M1)) := by
              refine upto ?_
              intro m hm ih177 B gd hto hfr hor hgd hw hnm hG
              have hmn : k + m ≤ n := by omega
              have K205 : (lt_ (ta t n (k + m)) || dg_ (ta t n (k + m))) = true → G l D g ca md_X7_go 205 [(3, .int (bi gd)), (2, .int (bi (lt_ (t k)))), (1, .int (nI (t k))), (0, .ref (g 18 0))] [] B (Rv (fun M1 => HK M1 t n p ∧ FG M M1)) := by
                intro hta
                obtain ⟨hlt, hte⟩ := ta_in hta
                have hor1 : (lt_ (t (k + m)) || dg_ (t (k + m))) = true := by rw [hte] at hta; exact hta
                have hb := hB.2 _ hlt
                refine g_aload_n 206 3 dX7_go_205 rfl rfl ?_
                refine g_geta 209 2 dX7_go_206 rfl fX7_7 rfl (by decide) rfl rfl ?_
                refine g_aload_n 210 3 dX7_go_209 rfl rfl ?_
                refine g_get 213 (nI (k + m)) dX7_go_210 rfl fX7_21 rfl (by decide) rfl hto ?_
                refine g_iald 214 (nI (t (k + m))) dX7_go_213 rfl rfl (by decide) rfl (by decide) (by omega) ((hG _ _ _ (by omega)).trans (hT.2 _ (by omega))) ?_
                refine g_istore 216 [(4, .int (nI (t (k + m)))), (3, .int (bi gd)), (2, .int (bi (lt_ (t k)))), (1, .int (nI (t k))), (0, .ref (g 18 0))] dX7_go_214 rfl (by decide) rfl ?_
                refine g_iload_n 217 1 dX7_go_216 rfl rfl ?_
                refine g_ifB_eq 233 220 dX7_go_217 rfl rfl (fun c217 => ?_) (fun c217 => ?_)
                · refine g_iconst 234 (nI 0) dX7_go_233 rfl rfl ?_
                  refine g_istore_n 235 [(3, .int (nI 0)), (4, .int (nI (t (k + m)))), (2, .int (bi (lt_ (t k)))), (1, .int (nI (t k))), (0, .ref (g 18 0))] dX7_go_234 rfl (by decide) rfl ?_
                  refine g_aload_n 236 4 dX7_go_235 rfl rfl ?_
                  refine g_get 239 (nI (k + m)) dX7_go_236 rfl fX7_21 rfl (by decide) rfl hto ?_
                  refine g_aload_n 240 4 dX7_go_239 rfl rfl ?_
                  refine g_get 243 (nI k) dX7_go_240 rfl fX7_24 rfl (by decide) rfl hfr ?_
                  refine g_isub 244 (nI (k + m - k)) dX7_go_243 rfl (pk_sub (by omega)) ?_
                  refine g_bipush 246 (nI 9) dX7_go_244 rfl rfl ?_
                  refine g_icmpN_ge 269 249 dX7_go_246 rfl rfl (by omega) (by omega) (fun c246 => ?_) (fun c246 => ?_)
                  · refine g_aload_n 270 4 dX7_go_269 rfl rfl ?_
                    refine g_get 273 (nI (k + m)) dX7_go_270 rfl fX7_21 rfl (by decide) rfl hto ?_
                    refine g_aload_n 274 4 dX7_go_273 rfl rfl ?_
                    refine g_get 277 (nI k) dX7_go_274 rfl fX7_24 rfl (by decide) rfl hfr ?_
                    refine g_isub 278 (nI (k + m - k)) dX7_go_277 rfl (pk_sub (by omega)) ?_
                    refine g_iconst 279 (nI 2) dX7_go_278 rfl rfl ?_
                    refine g_icmpN_ge 299 282 dX7_go_279 rfl rfl (by omega) (by omega) (fun c279 => ?_) (fun c279 => ?_)
                    · refine g_aload_n 300 4 dX7_go_299 rfl rfl ?_
                      refine g_dup 301 dX7_go_300 rfl rfl ?_
                      refine g_get 304 (nI (k + m)) dX7_go_301 rfl fX7_21 rfl (by decide) rfl hto ?_
                      refine g_iconst 305 (nI 1) dX7_go_304 rfl rfl ?_
                      refine g_iadd 306 (nI ((k + m) + 1)) dX7_go_305 rfl (nI_add (k + m) 1) ?_
                      refine g_put 309 dX7_go_306 rfl fX7_21 pX7_4 rfl (by decide) rfl ?_
                      refine g_goto 177 dX7_go_309 rfl ?_
                      refine g_lv [0, 2, 3, 4] rfl ?_
                      exact ih177 (by omega) _ false wr_eq ((wr_ne (by omega)).trans hfr) (or_snoc hor (by cases h9 : lt_ (t (k + m)) with
                        | true => exact Or.inl rfl
                        | false => exact Or.inr (by rw [h9] at hor1; exact hor1))) ⟨fun z => absurd z (by decide), fun z => by first | exact absurd (congrArg bi (z m (by omega))) c226 | (have h9 := hgd.mpr (fun j hj => z j (by omega)); rw [c217] at h9; exact h9)⟩ (fun z => by rw [wr_lg, w9_stay (by omega)]; exact hw (fun j hj => z j (by omega))) (fun z => (wr_ne (by omega)).trans (by rw [nr_stay (by omega) (z m (by omega)) (fun j hj => z j (by omega))]; exact hnm (fun j hj => z j (by omega)))) (hG.tr (FG.wr (by omega)))
                    · refine g_aload_n 283 4 dX7_go_282 rfl rfl ?_
                      refine g_bipush 285 (nI 10) dX7_go_283 rfl rfl ?_
                      refine g_aload_n 286 4 dX7_go_285 rfl rfl ?_
                      refine g_get 289 ((B.1 18 0 7)) dX7_go_286 rfl fX7_41 rfl (by decide) rfl rfl ?_
                      refine g_imul 290 ((nI 10) * (B.1 18 0 7)) dX7_go_289 rfl rfl ?_
                      refine g_iload 292 1 dX7_go_290 rfl rfl ?_
                      refine g_iadd 293 (((nI 10) * (B.1 18 0 7)) + (nI (t (k + m)))) dX7_go_292 rfl rfl ?_
                      refine g_bipush 295 (nI 48) dX7_go_293 rfl rfl ?_
                      refine g_isub 296 ((((nI 10) * (B.1 18 0 7)) + (nI (t (k + m)))) - (nI 48)) dX7_go_295 rfl rfl ?_
                      refine g_put 299 dX7_go_296 rfl fX7_41 pX7_7 rfl (by decide) rfl ?_
                      refine g_aload_n 300 4 dX7_go_299 rfl rfl ?_
                      refine g_dup 301 dX7_go_300 rfl rfl ?_
                      refine g_get 304 (nI (k + m)) dX7_go_301 rfl fX7_21 rfl (by decide) rfl ((wr_ne (by omega)).trans hto) ?_
                      refine g_iconst 305 (nI 1) dX7_go_304 rfl rfl ?_
                      refine g_iadd 306 (nI ((k + m) + 1)) dX7_go_305 rfl (nI_add (k + m) 1) ?_
                      refine g_put 309 dX7_go_306 rfl fX7_21 pX7_4 rfl (by decide) rfl ?_
                      refine g_goto 177 dX7_go_309 rfl ?_
                      refine g_lv [0, 2, 3, 4] rfl ?_
                      exact ih177 (by omega) _ false wr_eq ((wr_ne (by omega)).trans ((wr_ne (by omega)).trans hfr)) (or_snoc hor (by cases h9 : lt_ (t (k + m)) with
                        | true => exact Or.inl rfl
                        | false => exact Or.inr (by rw [h9] at hor1; exact hor1))) ⟨fun z => absurd z (by decide), fun z => by first | exact absurd (congrArg bi (z m (by omega))) c226 | (have h9 := hgd.mpr (fun j hj => z j (by omega)); rw [c217] at h9; exact h9)⟩ (fun z => by rw [wr_lg, wr_lg, w9_stay (by omega)]; exact hw (fun j hj => z j (by omega))) (fun z => (wr_ne (by omega)).trans (wr_eq.trans (nr_step (by omega) (z m (by omega)) (fun j hj => z j (by omega)) (hnm (fun j hj => z j (by omega)))))) ((hG.tr (FG.wr (by omega))).tr (FG.wr (by omega)))
                  · refine g_aload_n 250 4 dX7_go_249 rfl rfl ?_
                    refine g_ldc2 253 (27) dX7_go_250 rfl lX7_48 ?_
                    refine g_aload_n 254 4 dX7_go_253 rfl rfl ?_
                    refine g_getl 257 ((B.2)) dX7_go_254 rfl fX7_37 rfl (by decide) rfl rfl ?_
                    refine g_lmul 258 (27 * (B.2)) dX7_go_257 rfl rfl ?_
                    refine g_iload 260 1 dX7_go_258 rfl rfl ?_
                    refine g_i2l 261 ((nI (t (k + m))).toInt64) dX7_go_260 rfl rfl ?_
                    refine g_ladd 262 ((27 * (B.2)) + ((nI (t (k + m))).toInt64)) dX7_go_261 rfl rfl ?_
                    refine g_ldc2 265 (96) dX7_go_262 rfl lX7_50 ?_
                    refine g_lsub 266 (((27 * (B.2)) + ((nI (t (k + m))).toInt64)) - 96) dX7_go_265 rfl rfl ?_
                    refine g_putl 269 dX7_go_266 rfl fX7_37 pX7_10 ?_
                    refine g_aload_n 270 4 dX7_go_269 rfl rfl ?_
                    refine g_get 273 (nI (k + m)) dX7_go_270 rfl fX7_21 rfl (by decide) rfl hto ?_
                    refine g_aload_n 274 4 dX7_go_273 rfl rfl ?_
                    refine g_get 277 (nI k) dX7_go_274 rfl fX7_24 rfl (by decide) rfl hfr ?_
                    refine g_isub 278 (nI (k + m - k)) dX7_go_277 rfl (pk_sub (by omega)) ?_
                    refine g_iconst 279 (nI 2) dX7_go_278 rfl rfl ?_
                    refine g_icmpN_ge 299 282 dX7_go_279 rfl rfl (by omega) (by omega) (fun c279 => ?_) (fun c279 => ?_)
                    · refine g_aload_n 300 4 dX7_go_299 rfl rfl ?_
                      refine g_dup 301 dX7_go_300 rfl rfl ?_
                      refine g_get 304 (nI (k + m)) dX7_go_301 rfl fX7_21 rfl (by decide) rfl hto ?_
                      refine g_iconst 305 (nI 1) dX7_go_304 rfl rfl ?_
                      refine g_iadd 306 (nI ((k + m) + 1)) dX7_go_305 rfl (nI_add (k + m) 1) ?_
                      refine g_put 309 dX7_go_306 rfl fX7_21 pX7_4 rfl (by decide) rfl ?_
                      refine g_goto 177 dX7_go_309 rfl ?_
                      refine g_lv [0, 2, 3, 4] rfl ?_
                      exact ih177 (by omega) _ false wr_eq ((wr_ne (by omega)).trans hfr) (or_snoc hor (by cases h9 : lt_ (t (k + m)) with
                        | true => exact Or.inl rfl
                        | false => exact Or.inr (by rw [h9] at hor1; exact hor1))) ⟨fun z => absurd z (by decide), fun z => by first | exact absurd (congrArg bi (z m (by omega))) c226 | (have h9 := hgd.mpr (fun j hj => z j (by omega)); rw [c217] at h9; exact h9)⟩ (fun z => by rw [wr_lg, w9_succ (by omega)]; show (27 : Int64) * B.2 + (nI (t (k + m))).toInt64 - 96 = _; rw [hw (fun j hj => z j (by omega))]; exact l64_step hb (z m (by omega))) (fun z => (wr_ne (by omega)).trans (by rw [nr_stay (by omega) (z m (by omega)) (fun j hj => z j (by omega))]; exact hnm (fun j hj => z j (by omega)))) ((hG.tr FG.lg).tr (FG.wr (by omega)))
                    · refine g_aload_n 283 4 dX7_go_282 rfl rfl ?_
                      refine g_bipush 285 (nI 10) dX7_go_283 rfl rfl ?_
                      refine g_aload_n 286 4 dX7_go_285 rfl rfl ?_
                      refine g_get 289 ((B.1 18 0 7)) dX7_go_286 rfl fX7_41 rfl (by decide) rfl rfl ?_
                      refine g_imul 290 ((nI 10) * (B.1 18 0 7)) dX7_go_289 rfl rfl ?_
                      refine g_iload 292 1 dX7_go_290 rfl rfl ?_
                      refine g_iadd 293 (((nI 10) * (B.1 18 0 7)) + (nI (t (k + m)))) dX7_go_292 rfl rfl ?_
                      refine g_bipush 295 (nI 48) dX7_go_293 rfl rfl ?_
                      refine g_isub 296 ((((nI 10) * (B.1 18 0 7)) + (nI (t (k + m)))) - (nI 48)) dX7_go_295 rfl rfl ?_
                      refine g_put 299 dX7_go_296 rfl fX7_41 pX7_7 rfl (by decide) rfl ?_
                      refine g_aload_n 300 4 dX7_go_299 rfl rfl ?_
                      refine g_dup 301 dX7_go_300 rfl rfl ?_
                      refine g_get 304 (nI (k + m)) dX7_go_301 rfl fX7_21 rfl (by decide) rfl ((wr_ne (by omega)).trans hto) ?_
                      refine g_iconst 305 (nI 1) dX7_go_304 rfl rfl ?_
                      refine g_iadd 306 (nI ((k + m) + 1)) dX7_go_305 rfl (nI_add (k + m) 1) ?_
                      refine g_put 309 dX7_go_306 rfl fX7_21 pX7_4 rfl (by decide) rfl ?_
                      refine g_goto 177 dX7_go_309 rfl ?_
                      refine g_lv [0, 2, 3, 4] rfl ?_
                      exact ih177 (by omega) _ false wr_eq ((wr_ne (by omega)).trans ((wr_ne (by omega)).trans hfr)) (or_snoc hor (by cases h9 : lt_ (t (k + m)) with
                        | true => exact Or.inl rfl
                        | false => exact Or.inr (by rw [h9] at hor1; exact hor1))) ⟨fun z => absurd z (by decide), fun z => by first | exact absurd (congrArg bi (z m (by omega))) c226 | (have h9 := hgd.mpr (fun j hj => z j (by omega)); rw [c217] at h9; exact h9)⟩ (fun z => by rw [wr_lg, wr_lg, w9_succ (by omega)]; show (27 : Int64) * B.2 + (nI (t (k + m))).toInt64 - 96 = _; rw [hw (fun j hj => z j (by omega))]; exact l64_step hb (z m (by omega))) (fun z => (wr_ne (by omega)).trans (wr_eq.trans (nr_step (by omega) (z m (by omega)) (fun j hj => z j (by omega)) (hnm (fun j hj => z j (by omega)))))) (((hG.tr FG.lg).tr (FG.wr (by omega))).tr (FG.wr (by omega)))
                · refine g_iload 222 0 dX7_go_220 rfl rfl ?_
                  refine g_callSi 225 md_X7_isLetter [.int (nI (t (k + m)))] [] dX7_go_222 rfl e_X7_go_30 rfl rfl (Nat.le_of_ble_eq_true rfl) (c_X7_isLetter (nI (t (k + m)))) (fun r222 M222 h222 => ?_)
                  obtain ⟨rfl, h222⟩ := h222
                  have h222 := h222.symm
                  subst h222
                  rw [nb_lt hb]
                  refine g_iload_n 226 2 dX7_go_225 rfl rfl ?_
                  refine g_icmp_ne 233 229 dX7_go_226 rfl rfl (fun c226 => ?_) (fun c226 => ?_)
                  · refine g_iconst 234 (nI 0) dX7_go_233 rfl rfl ?_
                    refine g_istore_n 235 [(3, .int (nI 0)), (4, .int (nI (t (k + m)))), (2, .int (bi (lt_ (t k)))), (1, .int (nI (t k))), (0, .ref (g 18 0))] dX7_go_234 rfl (by decide) rfl ?_
                    refine g_aload_n 236 4 dX7_go_235 rfl rfl ?_
                    refine g_get 239 (nI (k + m)) dX7_go_236 rfl fX7_21 rfl (by decide) rfl hto ?_
                    refine g_aload_n 240 4 dX7_go_239 rfl rfl ?_
                    refine g_get 243 (nI k) dX7_go_240 rfl fX7_24 rfl (by decide) rfl hfr ?_
                    refine g_isub 244 (nI (k + m - k)) dX7_go_243 rfl (pk_sub (by omega)) ?_
                    refine g_bipush 246 (nI 9) dX7_go_244 rfl rfl ?_
                    refine g_icmpN_ge 269 249 dX7_go_246 rfl rfl (by omega) (by omega) (fun c246 => ?_) (fun c246 => ?_)
                    · refine g_aload_n 270 4 dX7_go_269 rfl rfl ?_
                      refine g_get 273 (nI (k + m)) dX7_go_270 rfl fX7_21 rfl (by decide) rfl hto ?_
                      refine g_aload_n 274 4 dX7_go_273 rfl rfl ?_
                      refine g_get 277 (nI k) dX7_go_274 rfl fX7_24 rfl (by decide) rfl hfr ?_
                      refine g_isub 278 (nI (k + m - k)) dX7_go_277 rfl (pk_sub (by omega)) ?_
                      refine g_iconst 279 (nI 2) dX7_go_278 rfl rfl ?_
                      refine g_icmpN_ge 299 282 dX7_go_279 rfl rfl (by omega) (by omega) (fun c279 => ?_) (fun c279 => ?_)
                      · refine g_aload_n 300 4 dX7_go_299 rfl rfl ?_
                        refine g_dup 301 dX7_go_300 rfl rfl ?_
                        refine g_get 304 (nI (k + m)) dX7_go_301 rfl fX7_21 rfl (by decide) rfl hto ?_
                        refine g_iconst 305 (nI 1) dX7_go_304 rfl rfl ?_
                        refine g_iadd 306 (nI ((k + m) + 1)) dX7_go_305 rfl (nI_add (k + m) 1) ?_
                        refine g_put 309 dX7_go_306 rfl fX7_21 pX7_4 rfl (by decide) rfl ?_
                        refine g_goto 177 dX7_go_309 rfl ?_
                        refine g_lv [0, 2, 3, 4] rfl ?_
                        exact ih177 (by omega) _ false wr_eq ((wr_ne (by omega)).trans hfr) (or_snoc hor (by cases h9 : lt_ (t (k + m)) with
                          | true => exact Or.inl rfl
                          | false => exact Or.inr (by rw [h9] at hor1; exact hor1))) ⟨fun z => absurd z (by decide), fun z => by first | exact absurd (congrArg bi (z m (by omega))) c226 | (have h9 := hgd.mpr (fun j hj => z j (by omega)); rw [c217] at h9; exact h9)⟩ (fun z => by rw [wr_lg, w9_stay (by omega)]; exact hw (fun j hj => z j (by omega))) (fun z => (wr_ne (by omega)).trans (by rw [nr_stay (by omega) (z m (by omega)) (fun j hj => z j (by omega))]; exact hnm (fun j hj => z j (by omega)))) (hG.tr (FG.wr (by omega)))
                      · refine g_aload_n 283 4 dX7_go_282 rfl rfl ?_
                        refine g_bipush 285 (nI 10) dX7_go_283 rfl rfl ?_
                        refine g_aload_n 286 4 dX7_go_285 rfl rfl ?_
                        refine g_get 289 ((B.1 18 0 7)) dX7_go_286 rfl fX7_41 rfl (by decide) rfl rfl ?_
                        refine g_imul 290 ((nI 10) * (B.1 18 0 7)) dX7_go_289 rfl rfl ?_
                        refine g_iload 292 1 dX7_go_290 rfl rfl ?_
                        refine g_iadd 293 (((nI 10) * (B.1 18 0 7)) + (nI (t (k + m)))) dX7_go_292 rfl rfl ?_
                        refine g_bipush 295 (nI 48) dX7_go_293 rfl rfl ?_
                        refine g_isub 296 ((((nI 10) * (B.1 18 0 7)) + (nI (t (k + m)))) - (nI 48)) dX7_go_295 rfl rfl ?_
                        refine g_put 299 dX7_go_296 rfl fX7_41 pX7_7 rfl (by decide) rfl ?_
                        refine g_aload_n 300 4 dX7_go_299 rfl rfl ?_
                        refine g_dup 301 dX7_go_300 rfl rfl ?_
                        refine g_get 304 (nI (k + m)) dX7_go_301 rfl fX7_21 rfl (by decide) rfl ((wr_ne (by omega)).trans hto) ?_
                        refine g_iconst 305 (nI 1) dX7_go_304 rfl rfl ?_
                        refine g_iadd 306 (nI ((k + m) + 1)) dX7_go_305 rfl (nI_add (k + m) 1) ?_
                        refine g_put 309 dX7_go_306 rfl fX7_21 pX7_4 rfl (by decide) rfl ?_
                        refine g_goto 177 dX7_go_309 rfl ?_
                        refine g_lv [0, 2, 3, 4] rfl ?_
                        exact ih177 (by omega) _ false wr_eq ((wr_ne (by omega)).trans ((wr_ne (by omega)).trans hfr)) (or_snoc hor (by cases h9 : lt_ (t (k + m)) with
                          | true => exact Or.inl rfl
                          | false => exact Or.inr (by rw [h9] at hor1; exact hor1))) ⟨fun z => absurd z (by decide), fun z => by first | exact absurd (congrArg bi (z m (by omega))) c226 | (have h9 := hgd.mpr (fun j hj => z j (by omega)); rw [c217] at h9; exact h9)⟩ (fun z => by rw [wr_lg, wr_lg, w9_stay (by omega)]; exact hw (fun j hj => z j (by omega))) (fun z => (wr_ne (by omega)).trans (wr_eq.trans (nr_step (by omega) (z m (by omega)) (fun j hj => z j (by omega)) (hnm (fun j hj => z j (by omega)))))) ((hG.tr (FG.wr (by omega))).tr (FG.wr (by omega)))
                    · refine g_aload_n 250 4 dX7_go_249 rfl rfl ?_
                      refine g_ldc2 253 (27) dX7_go_250 rfl lX7_48 ?_
                      refine g_aload_n 254 4 dX7_go_253 rfl rfl ?_
                      refine g_getl 257 ((B.2)) dX7_go_254 rfl fX7_37 rfl (by decide) rfl rfl ?_
                      refine g_lmul 258 (27 * (B.2)) dX7_go_257 rfl rfl ?_
                      refine g_iload 260 1 dX7_go_258 rfl rfl ?_
                      refine g_i2l 261 ((nI (t (k + m))).toInt64) dX7_go_260 rfl rfl ?_
                      refine g_ladd 262 ((27 * (B.2)) + ((nI (t (k + m))).toInt64)) dX7_go_261 rfl rfl ?_
                      refine g_ldc2 265 (96) dX7_go_262 rfl lX7_50 ?_
                      refine g_lsub 266 (((27 * (B.2)) + ((nI (t (k + m))).toInt64)) - 96) dX7_go_265 rfl rfl ?_
                      refine g_putl 269 dX7_go_266 rfl fX7_37 pX7_10 ?_
                      refine g_aload_n 270 4 dX7_go_269 rfl rfl ?_
                      refine g_get 273 (nI (k + m)) dX7_go_270 rfl fX7_21 rfl (by decide) rfl hto ?_
                      refine g_aload_n 274 4 dX7_go_273 rfl rfl ?_
                      refine g_get 277 (nI k) dX7_go_274 rfl fX7_24 rfl (by decide) rfl hfr ?_
                      refine g_isub 278 (nI (k + m - k)) dX7_go_277 rfl (pk_sub (by omega)) ?_
                      refine g_iconst 279 (nI 2) dX7_go_278 rfl rfl ?_
                      refine g_icmpN_ge 299 282 dX7_go_279 rfl rfl (by omega) (by omega) (fun c279 => ?_) (fun c279 => ?_)
                      · refine g_aload_n 300 4 dX7_go_299 rfl rfl ?_
                        refine g_dup 301 dX7_go_300 rfl rfl ?_
                        refine g_get 304 (nI (k + m)) dX7_go_301 rfl fX7_21 rfl (by decide) rfl hto ?_
                        refine g_iconst 305 (nI 1) dX7_go_304 rfl rfl ?_
                        refine g_iadd 306 (nI ((k + m) + 1)) dX7_go_305 rfl (nI_add (k + m) 1) ?_
                        refine g_put 309 dX7_go_306 rfl fX7_21 pX7_4 rfl (by decide) rfl ?_
                        refine g_goto 177 dX7_go_309 rfl ?_
                        refine g_lv [0, 2, 3, 4] rfl ?_
                        exact ih177 (by omega) _ false wr_eq ((wr_ne (by omega)).trans hfr) (or_snoc hor (by cases h9 : lt_ (t (k + m)) with
                          | true => exact Or.inl rfl
                          | false => exact Or.inr (by rw [h9] at hor1; exact hor1))) ⟨fun z => absurd z (by decide), fun z => by first | exact absurd (congrArg bi (z m (by omega))) c226 | (have h9 := hgd.mpr (fun j hj => z j (by omega)); rw [c217] at h9; exact h9)⟩ (fun z => by rw [wr_lg, w9_succ (by omega)]; show (27 : Int64) * B.2 + (nI (t (k + m))).toInt64 - 96 = _; rw [hw (fun j hj => z j (by omega))]; exact l64_step hb (z m (by omega))) (fun z => (wr_ne (by omega)).trans (by rw [nr_stay (by omega) (z m (by omega)) (fun j hj => z j (by omega))]; exact hnm (fun j hj => z j (by omega)))) ((hG.tr FG.lg).tr (FG.wr (by omega)))
                      · refine g_aload_n 283 4 dX7_go_282 rfl rfl ?_
                        refine g_bipush 285 (nI 10) dX7_go_283 rfl rfl ?_
                        refine g_aload_n 286 4 dX7_go_285 rfl rfl ?_
                        refine g_get 289 ((B.1 18 0 7)) dX7_go_286 rfl fX7_41 rfl (by decide) rfl rfl ?_
                        refine g_imul 290 ((nI 10) * (B.1 18 0 7)) dX7_go_289 rfl rfl ?_
                        refine g_iload 292 1 dX7_go_290 rfl rfl ?_
                        refine g_iadd 293 (((nI 10) * (B.1 18 0 7)) + (nI (t (k + m)))) dX7_go_292 rfl rfl ?_
                        refine g_bipush 295 (nI 48) dX7_go_293 rfl rfl ?_
                        refine g_isub 296 ((((nI 10) * (B.1 18 0 7)) + (nI (t (k + m)))) - (nI 48)) dX7_go_295 rfl rfl ?_
                        refine g_put 299 dX7_go_296 rfl fX7_41 pX7_7 rfl (by decide) rfl ?_
                        refine g_aload_n 300 4 dX7_go_299 rfl rfl ?_
                        refine g_dup 301 dX7_go_300 rfl rfl ?_
                        refine g_get 304 (nI (k + m)) dX7_go_301 rfl fX7_21 rfl (by decide) rfl ((wr_ne (by omega)).trans hto) ?_
                        refine g_iconst 305 (nI 1) dX7_go_304 rfl rfl ?_
                        refine g_iadd 306 (nI ((k + m) + 1)) dX7_go_305 rfl (nI_add (k + m) 1) ?_
                        refine g_put 309 dX7_go_306 rfl fX7_21 pX7_4 rfl (by decide) rfl ?_
                        refine g_goto 177 dX7_go_309 rfl ?_
                        refine g_lv [0, 2, 3, 4] rfl ?_
                        exact ih177 (by omega) _ false wr_eq ((wr_ne (by omega)).trans ((wr_ne (by omega)).trans hfr)) (or_snoc hor (by cases h9 : lt_ (t (k + m)) with
                          | true => exact Or.inl rfl
                          | false => exact Or.inr (by rw [h9] at hor1; exact hor1))) ⟨fun z => absurd z (by decide), fun z => by first | exact absurd (congrArg bi (z m (by omega))) c226 | (have h9 := hgd.mpr (fun j hj => z j (by omega)); rw [c217] at h9; exact h9)⟩ (fun z => by rw [wr_lg, wr_lg, w9_succ (by omega)]; show (27 : Int64) * B.2 + (nI (t (k + m))).toInt64 - 96 = _; rw [hw (fun j hj => z j (by omega))]; exact l64_step hb (z m (by omega))) (fun z => (wr_ne (by omega)).trans (wr_eq.trans (nr_step (by omega) (z m (by omega)) (fun j hj => z j (by omega)) (hnm (fun j hj => z j (by omega)))))) (((hG.tr FG.lg).tr (FG.wr (by omega))).tr (FG.wr (by omega)))
                  · refine g_iconst 230 (nI 1) dX7_go_229 rfl rfl ?_
                    refine g_goto 234 dX7_go_230 rfl ?_
                    refine g_istore_n 235 [(3, .int (nI 1)), (4, .int (nI (t (k + m)))), (2, .int (bi (lt_ (t k)))), (1, .int (nI (t k))), (0, .ref (g 18 0))] dX7_go_234 rfl (by decide) rfl ?_
                    refine g_aload_n 236 4 dX7_go_235 rfl rfl ?_
                    refine g_get 239 (nI (k + m)) dX7_go_236 rfl fX7_21 rfl (by decide) rfl hto ?_
                    refine g_aload_n 240 4 dX7_go_239 rfl rfl ?_
                    refine g_get 243 (nI k) dX7_go_240 rfl fX7_24 rfl (by decide) rfl hfr ?_
                    refine g_isub 244 (nI (k + m - k)) dX7_go_243 rfl (pk_sub (by omega)) ?_
                    refine g_bipush 246 (nI 9) dX7_go_244 rfl rfl ?_
                    refine g_icmpN_ge 269 249 dX7_go_246 rfl rfl (by omega) (by omega) (fun c246 => ?_) (fun c246 => ?_)
                    · refine g_aload_n 270 4 dX7_go_269 rfl rfl ?_
                      refine g_get 273 (nI (k + m)) dX7_go_270 rfl fX7_21 rfl (by decide) rfl hto ?_
                      refine g_aload_n 274 4 dX7_go_273 rfl rfl ?_
                      refine g_get 277 (nI k) dX7_go_274 rfl fX7_24 rfl (by decide) rfl hfr ?_
                      refine g_isub 278 (nI (k + m - k)) dX7_go_277 rfl (pk_sub (by omega)) ?_
                      refine g_iconst 279 (nI 2) dX7_go_278 rfl rfl ?_
                      refine g_icmpN_ge 299 282 dX7_go_279 rfl rfl (by omega) (by omega) (fun c279 => ?_) (fun c279 => ?_)
                      · refine g_aload_n 300 4 dX7_go_299 rfl rfl ?_
                        refine g_dup 301 dX7_go_300 rfl rfl ?_
                        refine g_get 304 (nI (k + m)) dX7_go_301 rfl fX7_21 rfl (by decide) rfl hto ?_
                        refine g_iconst 305 (nI 1) dX7_go_304 rfl rfl ?_
                        refine g_iadd 306 (nI ((k + m) + 1)) dX7_go_305 rfl (nI_add (k + m) 1) ?_
                        refine g_put 309 dX7_go_306 rfl fX7_21 pX7_4 rfl (by decide) rfl ?_
                        refine g_goto 177 dX7_go_309 rfl ?_
                        refine g_lv [0, 2, 3, 4] rfl ?_
                        exact ih177 (by omega) _ true wr_eq ((wr_ne (by omega)).trans hfr) (or_snoc hor (by cases h9 : lt_ (t (k + m)) with
                          | true => exact Or.inl rfl
                          | false => exact Or.inr (by rw [h9] at hor1; exact hor1))) ⟨fun _ => GDm_s (hgd.mp c217) (bi_inj c226), fun _ => rfl⟩ (fun z => by rw [wr_lg, w9_stay (by omega)]; exact hw (fun j hj => z j (by omega))) (fun z => (wr_ne (by omega)).trans (by rw [nr_stay (by omega) (z m (by omega)) (fun j hj => z j (by omega))]; exact hnm (fun j hj => z j (by omega)))) (hG.tr (FG.wr (by omega)))
                      · refine g_aload_n 283 4 dX7_go_282 rfl rfl ?_
                        refine g_bipush 285 (nI 10) dX7_go_283 rfl rfl ?_
                        refine g_aload_n 286 4 dX7_go_285 rfl rfl ?_
                        refine g_get 289 ((B.1 18 0 7)) dX7_go_286 rfl fX7_41 rfl (by decide) rfl rfl ?_
                        refine g_imul 290 ((nI 10) * (B.1 18 0 7)) dX7_go_289 rfl rfl ?_
                        refine g_iload 292 1 dX7_go_290 rfl rfl ?_
                        refine g_iadd 293 (((nI 10) * (B.1 18 0 7)) + (nI (t (k + m)))) dX7_go_292 rfl rfl ?_
                        refine g_bipush 295 (nI 48) dX7_go_293 rfl rfl ?_
                        refine g_isub 296 ((((nI 10) * (B.1 18 0 7)) + (nI (t (k + m)))) - (nI 48)) dX7_go_295 rfl rfl ?_
                        refine g_put 299 dX7_go_296 rfl fX7_41 pX7_7 rfl (by decide) rfl ?_
                        refine g_aload_n 300 4 dX7_go_299 rfl rfl ?_
                        refine g_dup 301 dX7_go_300 rfl rfl ?_
                        refine g_get 304 (nI (k + m)) dX7_go_301 rfl fX7_21 rfl (by decide) rfl ((wr_ne (by omega)).trans hto) ?_
                        refine g_iconst 305 (nI 1) dX7_go_304 rfl rfl ?_
                        refine g_iadd 306 (nI ((k + m) + 1)) dX7_go_305 rfl (nI_add (k + m) 1) ?_
                        refine g_put 309 dX7_go_306 rfl fX7_21 pX7_4 rfl (by decide) rfl ?_
                        refine g_goto 177 dX7_go_309 rfl ?_
                        refine g_lv [0, 2, 3, 4] rfl ?_
                        exact ih177 (by omega) _ true wr_eq ((wr_ne (by omega)).trans ((wr_ne (by omega)).trans hfr)) (or_snoc hor (by cases h9 : lt_ (t (k + m)) with
                          | true => exact Or.inl rfl
                          | false => exact Or.inr (by rw [h9] at hor1; exact hor1))) ⟨fun _ => GDm_s (hgd.mp c217) (bi_inj c226), fun _ => rfl⟩ (fun z => by rw [wr_lg, wr_lg, w9_stay (by omega)]; exact hw (fun j hj => z j (by omega))) (fun z => (wr_ne (by omega)).trans (wr_eq.trans (nr_step (by omega) (z m (by omega)) (fun j hj => z j (by omega)) (hnm (fun j hj => z j (by omega)))))) ((hG.tr (FG.wr (by omega))).tr (FG.wr (by omega)))
                    · refine g_aload_n 250 4 dX7_go_249 rfl rfl ?_
                      refine g_ldc2 253 (27) dX7_go_250 rfl lX7_48 ?_
                      refine g_aload_n 254 4 dX7_go_253 rfl rfl ?_
                      refine g_getl 257 ((B.2)) dX7_go_254 rfl fX7_37 rfl (by decide) rfl rfl ?_
                      refine g_lmul 258 (27 * (B.2)) dX7_go_257 rfl rfl ?_
                      refine g_iload 260 1 dX7_go_258 rfl rfl ?_
                      refine g_i2l 261 ((nI (t (k + m))).toInt64) dX7_go_260 rfl rfl ?_
                      refine g_ladd 262 ((27 * (B.2)) + ((nI (t (k + m))).toInt64)) dX7_go_261 rfl rfl ?_
                      refine g_ldc2 265 (96) dX7_go_262 rfl lX7_50 ?_
                      refine g_lsub 266 (((27 * (B.2)) + ((nI (t (k + m))).toInt64)) - 96) dX7_go_265 rfl rfl ?_
                      refine g_putl 269 dX7_go_266 rfl fX7_37 pX7_10 ?_
                      refine g_aload_n 270 4 dX7_go_269 rfl rfl ?_
                      refine g_get 273 (nI (k + m)) dX7_go_270 rfl fX7_21 rfl (by decide) rfl hto ?_
                      refine g_aload_n 274 4 dX7_go_273 rfl rfl ?_
                      refine g_get 277 (nI k) dX7_go_274 rfl fX7_24 rfl (by decide) rfl hfr ?_
                      refine g_isub 278 (nI (k + m - k)) dX7_go_277 rfl (pk_sub (by omega)) ?_
                      refine g_iconst 279 (nI 2) dX7_go_278 rfl rfl ?_
                      refine g_icmpN_ge 299 282 dX7_go_279 rfl rfl (by omega) (by omega) (fun c279 => ?_) (fun c279 => ?_)
                      · refine g_aload_n 300 4 dX7_go_299 rfl rfl ?_
                        refine g_dup 301 dX7_go_300 rfl rfl ?_
                        refine g_get 304 (nI (k + m)) dX7_go_301 rfl fX7_21 rfl (by decide) rfl hto ?_
                        refine g_iconst 305 (nI 1) dX7_go_304 rfl rfl ?_
                        refine g_iadd 306 (nI ((k + m) + 1)) dX7_go_305 rfl (nI_add (k + m) 1) ?_
                        refine g_put 309 dX7_go_306 rfl fX7_21 pX7_4 rfl (by decide) rfl ?_
                        refine g_goto 177 dX7_go_309 rfl ?_
                        refine g_lv [0, 2, 3, 4] rfl ?_
                        exact ih177 (by omega) _ true wr_eq ((wr_ne (by omega)).trans hfr) (or_snoc hor (by cases h9 : lt_ (t (k + m)) with
                          | true => exact Or.inl rfl
                          | false => exact Or.inr (by rw [h9] at hor1; exact hor1))) ⟨fun _ => GDm_s (hgd.mp c217) (bi_inj c226), fun _ => rfl⟩ (fun z => by rw [wr_lg, w9_succ (by omega)]; show (27 : Int64) * B.2 + (nI (t (k + m))).toInt64 - 96 = _; rw [hw (fun j hj => z j (by omega))]; exact l64_step hb (z m (by omega))) (fun z => (wr_ne (by omega)).trans (by rw [nr_stay (by omega) (z m (by omega)) (fun j hj => z j (by omega))]; exact hnm (fun j hj => z j (by omega)))) ((hG.tr FG.lg).tr (FG.wr (by omega)))
                      · refine g_aload_n 283 4 dX7_go_282 rfl rfl ?_
                        refine g_bipush 285 (nI 10) dX7_go_283 rfl rfl ?_
                        refine g_aload_n 286 4 dX7_go_285 rfl rfl ?_
                        refine g_get 289 ((B.1 18 0 7)) dX7_go_286 rfl fX7_41 rfl (by decide) rfl rfl ?_
                        refine g_imul 290 ((nI 10) * (B.1 18 0 7)) dX7_go_289 rfl rfl ?_
                        refine g_iload 292 1 dX7_go_290 rfl rfl ?_
                        refine g_iadd 293 (((nI 10) * (B.1 18 0 7)) + (nI (t (k + m)))) dX7_go_292 rfl rfl ?_
                        refine g_bipush 295 (nI 48) dX7_go_293 rfl rfl ?_
                        refine g_isub 296 ((((nI 10) * (B.1 18 0 7)) + (nI (t (k + m)))) - (nI 48)) dX7_go_295 rfl rfl ?_
                        refine g_put 299 dX7_go_296 rfl fX7_41 pX7_7 rfl (by decide) rfl ?_
                        refine g_aload_n 300 4 dX7_go_299 rfl rfl ?_
                        refine g_dup 301 dX7_go_300 rfl rfl ?_
                        refine g_get 304 (nI (k + m)) dX7_go_301 rfl fX7_21 rfl (by decide) rfl ((wr_ne (by omega)).trans hto) ?_
                        refine g_iconst 305 (nI 1) dX7_go_304 rfl rfl ?_
                        refine g_iadd 306 (nI ((k + m) + 1)) dX7_go_305 rfl (nI_add (k + m) 1) ?_
                        refine g_put 309 dX7_go_306 rfl fX7_21 pX7_4 rfl (by decide) rfl ?_
                        refine g_goto 177 dX7_go_309 rfl ?_
                        refine g_lv [0, 2, 3, 4] rfl ?_
                        exact ih177 (by omega) _ true wr_eq ((wr_ne (by omega)).trans ((wr_ne (by omega)).trans hfr)) (or_snoc hor (by cases h9 : lt_ (t (k + m)) with
                          | true => exact Or.inl rfl
                          | false => exact Or.inr (by rw [h9] at hor1; exact hor1))) ⟨fun _ => GDm_s (hgd.mp c217) (bi_inj c226), fun _ => rfl⟩ (fun z => by rw [wr_lg, wr_lg, w9_succ (by omega)]; show (27 : Int64) * B.2 + (nI (t (k + m))).toInt64 - 96 = _; rw [hw (fun j hj => z j (by omega))]; exact l64_step hb (z m (by omega))) (fun z => (wr_ne (by omega)).trans (wr_eq.trans (nr_step (by omega) (z m (by omega)) (fun j hj => z j (by omega)) (hnm (fun j hj => z j (by omega)))))) (((hG.tr FG.lg).tr (FG.wr (by omega))).tr (FG.wr (by omega)))
              refine g_aload_n 178 3 dX7_go_177 rfl rfl ?_
              refine g_aload_n 179 3 dX7_go_178 rfl rfl ?_
              refine g_get 182 (nI (k + m)) dX7_go_179 rfl fX7_21 rfl (by decide) rfl hto ?_
              refine g_callVi 185 md_X7_tapeAt [.int (nI (k + m))] [] dX7_go_182 rfl e_X7_go_44 rfl (by decide) rfl rfl (Nat.le_of_ble_eq_true rfl) (c_X7_tapeAt (hG.ts hT) hn (k + m) (by omega)) (fun r182 M182 h182 => ?_)
              obtain ⟨rfl, h182⟩ := h182
              have h182 := h182.symm
              subst h182
              refine g_callSi 188 md_X7_isLetter [.int (nI (ta t n (k + m)))] [] dX7_go_185 rfl e_X7_go_30 rfl rfl (Nat.le_of_ble_eq_true rfl) (c_X7_isLetter (nI (ta t n (k + m)))) (fun r185 M185 h185 => ?_)
              obtain ⟨rfl, h185⟩ := h185
              have h185 := h185.symm
              subst h185
              rw [nb_lt (ta_lt hB)]
              refine g_ifB_ne 205 191 dX7_go_188 rfl rfl (fun c188 => ?_) (fun c188 => ?_)
              · exact K205 (by first | (rw [show lt_ (ta t n (k + m)) = true by assumption]; rfl) | (rw [show dg_ (ta t n (k + m)) = true by assumption]; exact Bool.or_true _))
              · refine g_aload_n 192 3 dX7_go_191 rfl rfl ?_
                refine g_aload_n 193 3 dX7_go_192 rfl rfl ?_
                refine g_get 196 (nI (k + m)) dX7_go_193 rfl fX7_21 rfl (by decide) rfl hto ?_
                refine g_callVi 199 md_X7_tapeAt [.int (nI (k + m))] [] dX7_go_196 rfl e_X7_go_44 rfl (by decide) rfl rfl (Nat.le_of_ble_eq_true rfl) (c_X7_tapeAt (hG.ts hT) hn (k + m) (by omega)) (fun r196 M196 h196 => ?_)
                obtain ⟨rfl, h196⟩ := h196
                have h196 := h196.symm
                subst h196
                refine g_callSi 202 md_X7_isDigit [.int (nI (ta t n (k + m)))] [] dX7_go_199 rfl e_X7_go_34 rfl rfl (Nat.le_of_ble_eq_true rfl) (c_X7_isDigit (nI (ta t n (k + m)))) (fun r199 M199 h199 => ?_)
                obtain ⟨rfl, h199⟩ := h199
                have h199 := h199.symm
                subst h199
                rw [nb_dg (ta_lt hB)]
                refine g_ifB_eq 312 205 dX7_go_202 rfl rfl (fun c202 => ?_) (fun c202 => ?_)
                · have he : ren t n k = k + m := ren_at hmn hor (ta_out c188 c202)
                  have hm0 : 0 < m := Nat.pos_of_ne_zero (fun z => by subst z; have h9 := ta_out c188 c202 (by omega); rw [Nat.add_zero] at h9; rw [h9.1, h9.2] at hor0; exact absurd hor0 (by decide))
                  obtain ⟨k1, k2, k3⟩ := tk_run (t := t) (n := n) (p := p) (by rw [hq]; omega) (by rw [hq]; omega) (by rw [hq]; exact ld_59 hor0)
                  have hvt := vs_tvl (t := t) (n := n) (p := p)
                  rw [hq] at k1 k2 k3 hvt
                  rw [he] at k1 k3 hvt
                  rw [show k + m - k = m by omega] at hvt
                  refine g_aload_n 313 3 dX7_go_312 rfl rfl ?_
                  refine g_iload_n 314 0 dX7_go_313 rfl rfl ?_
                  refine g_ifB_eq 334 317 dX7_go_314 rfl rfl (fun c314 => ?_) (fun c314 => ?_)
                  · refine g_iconst 335 (nI 1) dX7_go_334 rfl rfl ?_
                    refine g_goto 347 dX7_go_335 rfl ?_
                    refine g_put 350 dX7_go_347 rfl fX7_27 pX7_6 rfl (by decide) rfl ?_
                    exact g_vret rfl dX7_go_350 ⟨HK_1 ((wr_ne (by omega)).trans (by rw [k2]; exact hfr)) wr_eq (by rw [k1]; first | exact go_bad hor (fun z => by have h9 := hgd.mpr z; rw [c314] at h9; exact absurd h9 (by decide)) | rw [kdr_d (by omega) (by rw [show k + m - k = m by omega]; exact gd_d hor (hgd.mp c314) c318), if_neg (by omega)]), hG.tr (FG.wr (by omega))⟩
                  · refine g_iload_n 318 1 dX7_go_317 rfl rfl ?_
                    refine g_ifB_ne 338 321 dX7_go_318 rfl rfl (fun c318 => ?_) (fun c318 => ?_)
                    · refine g_iload_n 339 1 dX7_go_338 rfl rfl ?_
                      refine g_ifB_eq 346 342 dX7_go_339 rfl rfl (fun c339 => ?_) (fun c339 => ?_)
                      · exact absurd (c318.symm.trans c339) (by decide)
                      · refine g_iconst 343 (nI 2) dX7_go_342 rfl rfl ?_
                        refine g_goto 347 dX7_go_343 rfl ?_
                        refine g_put 350 dX7_go_347 rfl fX7_27 pX7_6 rfl (by decide) rfl ?_
                        exact g_vret rfl dX7_go_350 ⟨HK_w (q := k) (e := k + m) ((wr_ne (by omega)).trans (by rw [k2]; exact hfr)) ((wr_ne (by omega)).trans (by rw [k3]; exact hto)) wr_eq (by rw [k1]; exact kdr_l (by rw [show k + m - k = m by omega]; exact gd_l (hgd.mp c314) c318)) (by rw [show k + m - k = m by omega]; exact gd_l (hgd.mp c314) c318) (by rw [wr_lg, show k + m - k = m by omega]; exact hw (gd_l (hgd.mp c314) c318)), hG.tr (FG.wr (by omega))⟩
                    · refine g_aload_n 322 3 dX7_go_321 rfl rfl ?_
                      refine g_get 325 (nI (k + m)) dX7_go_322 rfl fX7_21 rfl (by decide) rfl hto ?_
                      refine g_aload_n 326 3 dX7_go_325 rfl rfl ?_
                      refine g_get 329 (nI k) dX7_go_326 rfl fX7_24 rfl (by decide) rfl hfr ?_
                      refine g_isub 330 (nI (k + m - k)) dX7_go_329 rfl (pk_sub (by omega)) ?_
                      refine g_iconst 331 (nI 2) dX7_go_330 rfl rfl ?_
                      refine g_icmpN_le 338 334 dX7_go_331 rfl rfl (by omega) (by omega) (fun c331 => ?_) (fun c331 => ?_)
                      · refine g_iload_n 339 1 dX7_go_338 rfl rfl ?_
                        refine g_ifB_eq 346 342 dX7_go_339 rfl rfl (fun c339 => ?_) (fun c339 => ?_)
                        · refine g_iconst 347 (nI 3) dX7_go_346 rfl rfl ?_
                          refine g_put 350 dX7_go_347 rfl fX7_27 pX7_6 rfl (by decide) rfl ?_
                          exact g_vret rfl dX7_go_350 (by have hk2 : kdr t k (k + m) = 2 := (by rw [kdr_d (by omega) (by rw [show k + m - k = m by omega]; exact gd_d hor (hgd.mp c314) c318), if_pos (by omega)]); exact ⟨HK_2 ((wr_ne (by omega)).trans (by rw [k2]; exact hfr)) ((wr_ne (by omega)).trans (by rw [k3]; exact hto)) ((wr_ne (by omega)).trans (by rw [← hvt hk2]; exact hnm (gd_d hor (hgd.mp c314) c318))) wr_eq (by rw [k1]; exact hk2), hG.tr (FG.wr (by omega))⟩)
                        · exact absurd (c318.symm.trans c339) (by decide)
                      · refine g_iconst 335 (nI 1) dX7_go_334 rfl rfl ?_
                        refine g_goto 347 dX7_go_335 rfl ?_
                        refine g_put 350 dX7_go_347 rfl fX7_27 pX7_6 rfl (by decide) rfl ?_
                        exact g_vret rfl dX7_go_350 ⟨HK_1 ((wr_ne (by omega)).trans (by rw [k2]; exact hfr)) wr_eq (by rw [k1]; first | exact go_bad hor (fun z => by have h9 := hgd.mpr z; rw [c314] at h9; exact absurd h9 (by decide)) | rw [kdr_d (by omega) (by rw [show k + m - k = m by omega]; exact gd_d hor (hgd.mp c314) c318), if_neg (by omega)]), hG.tr (FG.wr (by omega))⟩
                · exact K205 (by first | (rw [show lt_ (ta t n (k + m)) = true by assumption]; rfl) | (rw [show dg_ (ta t n (k + m)) = true by assumption]; exact Bool.or_true _))
            exact L177 0 (Nat.zero_le _) _ true ((wr_ne (by omega)).trans ((wr_ne (by omega)).trans hat)) ((wr_ne (by omega)).trans wr_eq) (fun j h => absurd h (Nat.not_lt_zero j)) ⟨fun _ j hj => absurd hj (Nat.not_lt_zero j), fun _ => rfl⟩ (fun _ => by rw [wr_lg]; rfl) (fun _ => wr_eq) (((hF.tr (FG.wr (by omega))).tr FG.lg).tr (FG.wr (by omega)))
          refine g_aload_n 111 0 dX7_go_110 rfl rfl ?_
          refine g_geta 114 2 dX7_go_111 rfl fX7_7 rfl (by decide) rfl rfl ?_
          refine g_aload_n 115 0 dX7_go_114 rfl rfl ?_
          refine g_get 118 (nI k) dX7_go_115 rfl fX7_21 rfl (by decide) rfl ((wr_ne (by omega)).trans hat) ?_
          refine g_iald 119 (nI (t k)) dX7_go_118 rfl rfl (by decide) rfl (by decide) (by omega) ((wr_ne (by omega)).trans ((hF _ _ _ (by omega)).trans (hT.2 _ (by omega)))) ?_
          refine g_istore_n 120 [(1, .int (nI (t k))), (0, .ref (g 18 0))] dX7_go_119 rfl (by decide) rfl ?_
          refine g_iload_n 121 0 dX7_go_120 rfl rfl ?_
          refine g_callSi 124 md_X7_isLetter [.int (nI (t k))] [] dX7_go_121 rfl e_X7_go_30 rfl rfl (Nat.le_of_ble_eq_true rfl) (c_X7_isLetter (nI (t k))) (fun r121 M121 h121 => ?_)
          obtain ⟨rfl, h121⟩ := h121
          have h121 := h121.symm
          subst h121
          rw [nb_lt hb]
          refine g_ifB_ne 160 127 dX7_go_124 rfl rfl (fun c124 => ?_) (fun c124 => ?_)
          · exact K160 (by first | (rw [show lt_ (t k) = true by assumption]; rfl) | (rw [show dg_ (t k) = true by assumption]; exact Bool.or_true _))
          · refine g_iload_n 128 0 dX7_go_127 rfl rfl ?_
            refine g_callSi 131 md_X7_isDigit [.int (nI (t k))] [] dX7_go_128 rfl e_X7_go_34 rfl rfl (Nat.le_of_ble_eq_true rfl) (c_X7_isDigit (nI (t k))) (fun r128 M128 h128 => ?_)
            obtain ⟨rfl, h128⟩ := h128
            have h128 := h128.symm
            subst h128
            rw [nb_dg hb]
            refine g_ifB_ne 160 134 dX7_go_131 rfl rfl (fun c131 => ?_) (fun c131 => ?_)
            · exact K160 (by first | (rw [show lt_ (t k) = true by assumption]; rfl) | (rw [show dg_ (t k) = true by assumption]; exact Bool.or_true _))
            · refine g_aload_n 135 1 dX7_go_134 rfl rfl ?_
              refine g_iload_n 136 0 dX7_go_135 rfl rfl ?_
              refine g_bipush 138 (nI 59) dX7_go_136 rfl rfl ?_
              refine g_icmpN_ne 145 141 dX7_go_138 rfl rfl (by omega) (by omega) (fun c138 => ?_) (fun c138 => ?_)
              · refine g_iconst 146 (nI 1) dX7_go_145 rfl rfl ?_
                refine g_put 149 dX7_go_146 rfl fX7_27 pX7_6 rfl (by decide) rfl ?_
                refine g_aload_n 150 1 dX7_go_149 rfl rfl ?_
                refine g_dup 151 dX7_go_150 rfl rfl ?_
                refine g_get 154 (nI k) dX7_go_151 rfl fX7_21 rfl (by decide) rfl ((wr_ne (by omega)).trans ((wr_ne (by omega)).trans hat)) ?_
                refine g_iconst 155 (nI 1) dX7_go_154 rfl rfl ?_
                refine g_iadd 156 (nI (k + 1)) dX7_go_155 rfl (nI_add k 1) ?_
                refine g_put 159 dX7_go_156 rfl fX7_21 pX7_4 rfl (by decide) rfl ?_
                exact g_vret rfl dX7_go_159 (by obtain ⟨k1, k2, k3⟩ := tk_run (t := t) (n := n) (p := p) (by omega) (by omega) (by rw [hq]; omega); have he : ren t n k = k + 0 := ren_at hk (fun j h => absurd h (Nat.not_lt_zero j)) (fun _ => ⟨c124, c131⟩); rw [hq, he, Nat.add_zero, kdr_q] at k1; exact ⟨HK_1 ((wr_ne (by omega)).trans ((wr_ne (by omega)).trans (by rw [k2, hq]; exact wr_eq))) ((wr_ne (by omega)).trans wr_eq) k1, ((hF.tr (FG.wr (by omega))).tr (FG.wr (by omega))).tr (FG.wr (by omega))⟩)
              · refine g_iconst 142 (nI 4) dX7_go_141 rfl rfl ?_
                refine g_goto 146 dX7_go_142 rfl ?_
                refine g_put 149 dX7_go_146 rfl fX7_27 pX7_6 rfl (by decide) rfl ?_
                refine g_aload_n 150 1 dX7_go_149 rfl rfl ?_
                refine g_dup 151 dX7_go_150 rfl rfl ?_
                refine g_get 154 (nI k) dX7_go_151 rfl fX7_21 rfl (by decide) rfl ((wr_ne (by omega)).trans ((wr_ne (by omega)).trans hat)) ?_
                refine g_iconst 155 (nI 1) dX7_go_154 rfl rfl ?_
                refine g_iadd 156 (nI (k + 1)) dX7_go_155 rfl (nI_add k 1) ?_
                refine g_put 159 dX7_go_156 rfl fX7_21 pX7_4 rfl (by decide) rfl ?_
                exact g_vret rfl dX7_go_159 (by obtain ⟨k1, k2, k3⟩ := tk_stop (t := t) (n := n) (p := p) (by omega) (by omega) (by rw [hq]; omega); exact ⟨HK_3 ((wr_ne (by omega)).trans ((wr_ne (by omega)).trans (by rw [k2, hq]; exact wr_eq))) (by rw [k3, hq]; exact wr_eq) ((wr_ne (by omega)).trans wr_eq) k1, ((hF.tr (FG.wr (by omega))).tr (FG.wr (by omega))).tr (FG.wr (by omega))⟩)
        · refine g_aload_n 105 0 dX7_go_104 rfl rfl ?_
          refine g_iconst 106 (nI 0) dX7_go_105 rfl rfl ?_
          refine g_put 109 dX7_go_106 rfl fX7_27 pX7_6 rfl (by decide) rfl ?_
          exact g_vret rfl dX7_go_109 (by obtain ⟨k1, k2⟩ := tk_end (t := t) (n := n) (p := p) (by omega) (by omega); exact ⟨HK_0 ((wr_ne (by omega)).trans (by rw [k2, hq]; exact wr_eq)) wr_eq k1, (hF.tr (FG.wr (by omega))).tr (FG.wr (by omega))⟩)
      · refine g_aload_n 81 0 dX7_go_80 rfl rfl ?_
        refine g_sipush 84 (nI 600) dX7_go_81 rfl rfl ?_
        refine g_put 87 dX7_go_84 rfl fX7_24 pX7_5 rfl (by decide) rfl ?_
        refine g_aload_n 88 0 dX7_go_87 rfl rfl ?_
        refine g_iconst 89 (nI 1) dX7_go_88 rfl rfl ?_
        refine g_put 92 dX7_go_89 rfl fX7_27 pX7_6 rfl (by decide) rfl ?_
        exact g_vret rfl dX7_go_92 (by obtain ⟨k1, k2⟩ := tk_600 (t := t) (n := n) (p := p) (by omega) (by omega); exact ⟨HK_1 ((wr_ne (by omega)).trans (by rw [k2]; exact wr_eq)) wr_eq k1, ((hF.tr (FG.wr (by omega))).tr (FG.wr (by omega))).tr (FG.wr (by omega))⟩)
  have L0 : ∀ k, k ≤ n → p ≤ k → ∀ N : Mm, (∀ i, p ≤ i → i < k → bk_ (t i) = true) → N.1 18 0 4 = nI k → FG M N → G l D g ca md_X7_go 0 [(0, .ref (g 18 0))] [] N (Rv (fun M1 => HK M1 t n p ∧ FG M M1)) := by
    refine upto ?_
    intro k hk ih0' hpk N hv hat hF
    have ih0 : ∀ k', k' = k + 1 → k < n → ∀ N : Mm, (∀ i, p ≤ i → i < k' → bk_ (t i) = true) → N.1 18 0 4 = nI k' → FG M N → G l D g ca md_X7_go 0 [(0, .ref (g 18 0))] [] N (Rv (fun M1 => HK M1 t n p ∧ FG M M1)) := fun k' e hk' N h1 h2 h3 => by subst e; exact ih0' hk' (by omega) N h1 h2 h3
    have hb : k < n → t k < 256 := fun z => hB.2 k z
    refine g_aload_n 1 0 dX7_go_0 rfl rfl ?_
    refine g_get 4 (nI k) dX7_go_1 rfl fX7_21 rfl (by decide) rfl hat ?_
    refine g_aload_n 5 0 dX7_go_4 rfl rfl ?_
    refine g_get 8 (nI n) dX7_go_5 rfl fX7_18 rfl (by decide) rfl ((hF _ _ _ (by omega)).trans hT.1) ?_
    refine g_icmpN_ge 52 11 dX7_go_8 rfl rfl (by omega) (by omega) (fun c8 => ?_) (fun c8 => ?_)
    · exact K52 k N hk (scn_eq hpk hk hv (fun z => by unfold bk_; refine decide_eq_false (fun y => ?_); omega)) hat hF
    · have hb := hb (by omega)
      refine g_aload_n 12 0 dX7_go_11 rfl rfl ?_
      refine g_geta 15 2 dX7_go_12 rfl fX7_7 rfl (by decide) rfl rfl ?_
      refine g_aload_n 16 0 dX7_go_15 rfl rfl ?_
      refine g_get 19 (nI k) dX7_go_16 rfl fX7_21 rfl (by decide) rfl hat ?_
      refine g_iald 20 (nI (t k)) dX7_go_19 rfl rfl (by decide) rfl (by decide) (by omega) ((hF _ _ _ (by omega)).trans (hT.2 _ (by omega))) ?_
      refine g_bipush 22 (nI 32) dX7_go_20 rfl rfl ?_
      refine g_icmpN_eq 39 25 dX7_go_22 rfl rfl (by omega) (by omega) (fun c22 => ?_) (fun c22 => ?_)
      · refine g_aload_n 40 0 dX7_go_39 rfl rfl ?_
        refine g_dup 41 dX7_go_40 rfl rfl ?_
        refine g_get 44 (nI k) dX7_go_41 rfl fX7_21 rfl (by decide) rfl hat ?_
        refine g_iconst 45 (nI 1) dX7_go_44 rfl rfl ?_
        refine g_iadd 46 (nI (k + 1)) dX7_go_45 rfl (nI_add k 1) ?_
        refine g_put 49 dX7_go_46 rfl fX7_21 pX7_4 rfl (by decide) rfl ?_
        refine g_goto 0 dX7_go_49 rfl ?_
        refine ih0 (k + 1) rfl (by omega) _ (fun i h1 h2 => ?_) wr_eq (hF.tr (FG.wr (by omega)))
        rcases (show i < k ∨ i = k by omega) with z | rfl
        · exact hv i h1 z
        · unfold bk_; refine decide_eq_true ?_; omega
      · refine g_aload_n 26 0 dX7_go_25 rfl rfl ?_
        refine g_geta 29 2 dX7_go_26 rfl fX7_7 rfl (by decide) rfl rfl ?_
        refine g_aload_n 30 0 dX7_go_29 rfl rfl ?_
        refine g_get 33 (nI k) dX7_go_30 rfl fX7_21 rfl (by decide) rfl hat ?_
        refine g_iald 34 (nI (t k)) dX7_go_33 rfl rfl (by decide) rfl (by decide) (by omega) ((hF _ _ _ (by omega)).trans (hT.2 _ (by omega))) ?_
        refine g_bipush 36 (nI 10) dX7_go_34 rfl rfl ?_
        refine g_icmpN_ne 52 39 dX7_go_36 rfl rfl (by omega) (by omega) (fun c36 => ?_) (fun c36 => ?_)
        · exact K52 k N hk (scn_eq hpk hk hv (fun z => by unfold bk_; refine decide_eq_false (fun y => ?_); omega)) hat hF
        · refine g_aload_n 40 0 dX7_go_39 rfl rfl ?_
          refine g_dup 41 dX7_go_40 rfl rfl ?_
          refine g_get 44 (nI k) dX7_go_41 rfl fX7_21 rfl (by decide) rfl hat ?_
          refine g_iconst 45 (nI 1) dX7_go_44 rfl rfl ?_
          refine g_iadd 46 (nI (k + 1)) dX7_go_45 rfl (nI_add k 1) ?_
          refine g_put 49 dX7_go_46 rfl fX7_21 pX7_4 rfl (by decide) rfl ?_
          refine g_goto 0 dX7_go_49 rfl ?_
          refine ih0 (k + 1) rfl (by omega) _ (fun i h1 h2 => ?_) wr_eq (hF.tr (FG.wr (by omega)))
          rcases (show i < k ∨ i = k by omega) with z | rfl
          · exact hv i h1 z
          · unfold bk_; refine decide_eq_true ?_; omega
  exact L0 p hp (Nat.le_refl _) M (fun i h1 h2 => absurd h1 (by omega)) hat0 FG.rf
