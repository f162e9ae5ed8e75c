set_option maxHeartbeats 4000000 in
set_option maxRecDepth 100000 in
theorem c_X7_usedOf {l : Launch} {D : va_G} {g : Nat → Nat → Nat} {ca : Nat → ClassId} {M : Mm} {am tn : Nat} {Lt : Nat → Nat} {ft : Nat → Nat → Bool} {mu : Nat → Nat → Nat} (hp : PMd M am tn Lt ft mu) (k : Nat) (hk : k < am) : Ct l D g ca md_X7_usedOf [.ref (g 18 0), .int (nI k)] M (Ri (fun r M1 => r = nI (fb_sm (mu k) tn) ∧ M1 = M)) := by
  refine Ct.of (by decide) rfl (Nat.le_of_ble_eq_true rfl) ?_
  have ba := hp.a24
  have bt := hp.t8
  show G l D g ca md_X7_usedOf 0 [(0, .ref (g 18 0)), (1, .int (nI k))] [] M _
  refine g_iconst 1 (nI 0) dX7_usedOf_0 rfl rfl ?_
  refine g_istore_n 2 [(2, .int (nI 0)), (0, .ref (g 18 0)), (1, .int (nI k))] dX7_usedOf_1 rfl (by decide) rfl ?_
  refine g_iconst 3 (nI 0) dX7_usedOf_2 rfl rfl ?_
  refine g_istore_n 4 [(3, .int (nI 0)), (2, .int (nI 0)), (0, .ref (g 18 0)), (1, .int (nI k))] dX7_usedOf_3 rfl (by decide) rfl ?_
  have L4 : ∀ i, i ≤ tn → ∀ v, v = fb_sm (mu k) i → G l D g ca md_X7_usedOf 4 [(3, .int (nI i)), (2, .int (nI v)), (0, .ref (g 18 0)), (1, .int (nI k))] [] M (Ri (fun r M1 => r = nI (fb_sm (mu k) tn) ∧ M1 = M)) := by
    refine upto ?_
    intro i hi ih4 v hv
    refine g_iload_n 5 0 dX7_usedOf_4 rfl rfl ?_
    refine g_aload_n 6 2 dX7_usedOf_5 rfl rfl ?_
    refine g_get 9 (nI tn) dX7_usedOf_6 rfl fX7_221 rfl (by decide) rfl hp.tn_ ?_
    refine g_icmpN_ge 32 12 dX7_usedOf_9 rfl rfl (by omega) (by omega) (fun c9 => ?_) (fun c9 => ?_)
    · refine g_iload_n 33 1 dX7_usedOf_32 rfl rfl ?_
      exact g_iret rfl dX7_usedOf_33 ⟨by rw [hv, show i = tn by omega], rfl⟩
    · refine g_iload_n 13 1 dX7_usedOf_12 rfl rfl ?_
      refine g_aload_n 14 2 dX7_usedOf_13 rfl rfl ?_
      refine g_geta 17 20 dX7_usedOf_14 rfl fX7_82 rfl (by decide) rfl rfl ?_
      refine g_bipush 19 (nI 8) dX7_usedOf_17 rfl rfl ?_
      refine g_iload_n 20 3 dX7_usedOf_19 rfl rfl ?_
      refine g_imul 21 (nI (8 * k)) dX7_usedOf_20 rfl (pk_mul 8 k) ?_
      refine g_iload_n 22 0 dX7_usedOf_21 rfl rfl ?_
      refine g_iadd 23 (nI ((8 * k) + i)) dX7_usedOf_22 rfl (nI_add (8 * k) i) ?_
      refine g_iald 24 (nI (mu k i)) dX7_usedOf_23 rfl rfl (by decide) rfl (by decide) (by omega) (hp.much (by omega) (by omega)) ?_
      refine g_iadd 25 (nI (v + (mu k i))) dX7_usedOf_24 rfl (nI_add v (mu k i)) ?_
      refine g_istore_n 26 [(2, .int (nI (v + (mu k i)))), (3, .int (nI i)), (0, .ref (g 18 0)), (1, .int (nI k))] dX7_usedOf_25 rfl (by decide) rfl ?_
      refine g_iinc 29 (nI (i + 1)) [(3, .int (nI (i + 1))), (2, .int (nI (v + (mu k i)))), (0, .ref (g 18 0)), (1, .int (nI k))] dX7_usedOf_26 rfl 1 rfl (nI_add i 1) (by decide) rfl ?_
      refine g_goto 4 dX7_usedOf_29 rfl ?_
      exact ih4 (by omega) _ (by rw [fb_sm_succ, hv])
  exact L4 0 (Nat.zero_le _) 0 rfl

set_option maxHeartbeats 4000000 in
set_option maxRecDepth 100000 in
theorem c_X7_hasGot {l : Launch} {D : va_G} {g : Nat → Nat → Nat} {ca : Nat → ClassId} {M : Mm} {am tn : Nat} {Lt : Nat → Nat} {ft : Nat → Nat → Bool} {mu : Nat → Nat → Nat} (hp : PMd M am tn Lt ft mu) (i : Nat) (hi : i < tn) : Ct l D g ca md_X7_hasGot [.ref (g 18 0), .int (nI i)] M (Ri (fun r M1 => r = nI (fb_sm (fun k => mu k i) am) ∧ M1 = M)) := by
  refine Ct.of (by decide) rfl (Nat.le_of_ble_eq_true rfl) ?_
  have ba := hp.a24
  have bt := hp.t8
  show G l D g ca md_X7_hasGot 0 [(0, .ref (g 18 0)), (1, .int (nI i))] [] M _
  refine g_iconst 1 (nI 0) dX7_hasGot_0 rfl rfl ?_
  refine g_istore_n 2 [(2, .int (nI 0)), (0, .ref (g 18 0)), (1, .int (nI i))] dX7_hasGot_1 rfl (by decide) rfl ?_
  refine g_iconst 3 (nI 0) dX7_hasGot_2 rfl rfl ?_
  refine g_istore_n 4 [(3, .int (nI 0)), (2, .int (nI 0)), (0, .ref (g 18 0)), (1, .int (nI i))] dX7_hasGot_3 rfl (by decide) rfl ?_
  have L4 : ∀ k, k ≤ am → ∀ v, v = fb_sm (fun k => mu k i) k → G l D g ca md_X7_hasGot 4 [(3, .int (nI k)), (2, .int (nI v)), (0, .ref (g 18 0)), (1, .int (nI i))] [] M (Ri (fun r M1 => r = nI (fb_sm (fun k => mu k i) am) ∧ M1 = M)) := by
    refine upto ?_
    intro k hk ih4 v hv
    refine g_iload_n 5 0 dX7_hasGot_4 rfl rfl ?_
    refine g_aload_n 6 2 dX7_hasGot_5 rfl rfl ?_
    refine g_get 9 (nI am) dX7_hasGot_6 rfl fX7_224 rfl (by decide) rfl hp.am_ ?_
    refine g_icmpN_ge 32 12 dX7_hasGot_9 rfl rfl (by omega) (by omega) (fun c9 => ?_) (fun c9 => ?_)
    · refine g_iload_n 33 1 dX7_hasGot_32 rfl rfl ?_
      exact g_iret rfl dX7_hasGot_33 ⟨by rw [hv, show k = am by omega], rfl⟩
    · refine g_iload_n 13 1 dX7_hasGot_12 rfl rfl ?_
      refine g_aload_n 14 2 dX7_hasGot_13 rfl rfl ?_
      refine g_geta 17 20 dX7_hasGot_14 rfl fX7_82 rfl (by decide) rfl rfl ?_
      refine g_bipush 19 (nI 8) dX7_hasGot_17 rfl rfl ?_
      refine g_iload_n 20 0 dX7_hasGot_19 rfl rfl ?_
      refine g_imul 21 (nI (8 * k)) dX7_hasGot_20 rfl (pk_mul 8 k) ?_
      refine g_iload_n 22 3 dX7_hasGot_21 rfl rfl ?_
      refine g_iadd 23 (nI ((8 * k) + i)) dX7_hasGot_22 rfl (nI_add (8 * k) i) ?_
      refine g_iald 24 (nI (mu k i)) dX7_hasGot_23 rfl rfl (by decide) rfl (by decide) (by omega) (hp.much (by omega) (by omega)) ?_
      refine g_iadd 25 (nI (v + (mu k i))) dX7_hasGot_24 rfl (nI_add v (mu k i)) ?_
      refine g_istore_n 26 [(2, .int (nI (v + (mu k i)))), (3, .int (nI k)), (0, .ref (g 18 0)), (1, .int (nI i))] dX7_hasGot_25 rfl (by decide) rfl ?_
      refine g_iinc 29 (nI (k + 1)) [(3, .int (nI (k + 1))), (2, .int (nI (v + (mu k i)))), (0, .ref (g 18 0)), (1, .int (nI i))] dX7_hasGot_26 rfl 1 rfl (nI_add k 1) (by decide) rfl ?_
      refine g_goto 4 dX7_hasGot_29 rfl ?_
      exact ih4 (by omega) _ (by rw [fb_sm_succ, hv])
  exact L4 0 (Nat.zero_le _) 0 rfl

set_option maxHeartbeats 4000000 in
set_option maxRecDepth 100000 in
theorem c_X7_spareOf {l : Launch} {D : va_G} {g : Nat → Nat → Nat} {ca : Nat → ClassId} {M : Mm} {am tn : Nat} {Lt : Nat → Nat} {ft : Nat → Nat → Bool} {mu : Nat → Nat → Nat} (hp : PMd M am tn Lt ft mu) {a : Sa} (hN : RM (M.1 18 12) a) (hI : Iv a) (hLt : ∀ k, k < am → Lt k < a 0 3) {sp : Nat → Nat} (hsp : ∀ k, k < am → fb_sm (mu k) tn + sp k = a 12 (Lt k)) (k : Nat) (hk : k < am) : Ct l D g ca md_X7_spareOf [.ref (g 18 0), .int (nI k)] M (Ri (fun r M1 => r = nI (sp k) ∧ M1 = M)) := by
  refine Ct.of (by decide) rfl (Nat.le_of_ble_eq_true rfl) ?_
  have ba := hp.a24
  have bt := hp.t8
  show G l D g ca md_X7_spareOf 0 [(0, .ref (g 18 0)), (1, .int (nI k))] [] M _
  refine g_aload_n 1 0 dX7_spareOf_0 rfl rfl ?_
  refine g_aload_n 2 0 dX7_spareOf_1 rfl rfl ?_
  refine g_geta 5 18 dX7_spareOf_2 rfl fX7_76 rfl (by decide) rfl rfl ?_
  refine g_iload_n 6 1 dX7_spareOf_5 rfl rfl ?_
  refine g_iald 7 (nI (Lt k)) dX7_spareOf_6 rfl rfl (by decide) rfl (by decide) (by omega) (hp.age (by omega)) ?_
  refine g_iconst 8 (nI 2) dX7_spareOf_7 rfl rfl ?_
  refine g_callVi 11 md_X7_lies [.int (nI (Lt k)), .int (nI 2)] [] dX7_spareOf_8 rfl e_X7_spareOf_176 rfl (by decide) rfl rfl (Nat.le_of_ble_eq_true rfl) (c_X7_lies hN hI (Lt k) 2 12 (hLt k hk) (by decide) rfl) (fun r8 M8 h8 => ?_)
  obtain ⟨rfl, h8⟩ := h8
  have h8 := h8.symm
  subst h8
  refine g_aload_n 12 0 dX7_spareOf_11 rfl rfl ?_
  refine g_iload_n 13 1 dX7_spareOf_12 rfl rfl ?_
  refine g_callVi 16 md_X7_usedOf [.int (nI k)] [.int (nI (a 12 (Lt k)))] dX7_spareOf_13 rfl e_X7_spareOf_240 rfl (by decide) rfl rfl (Nat.le_of_ble_eq_true rfl) (c_X7_usedOf hp k (by omega)) (fun r13 M13 h13 => ?_)
  obtain ⟨rfl, h13⟩ := h13
  have h13 := h13.symm
  subst h13
  refine g_isub 17 (nI (sp k)) dX7_spareOf_16 rfl (by have h9 := hsp k hk; rw [pk_sub (by omega)]; congr 1; omega) ?_
  exact g_iret rfl dX7_spareOf_17 ⟨rfl, rfl⟩

set_option maxHeartbeats 4000000 in
set_option maxRecDepth 100000 in
theorem c_X7_starts {l : Launch} {D : va_G} {g : Nat → Nat → Nat} {ca : Nat → ClassId} {M : Mm} {am tn : Nat} {Lt : Nat → Nat} {ft : Nat → Nat → Bool} {mu : Nat → Nat → Nat} (hp : PMd M am tn Lt ft mu) : Ct l D g ca md_X7_starts [.ref (g 18 0)] M (Rv (fun M1 => Sc M1 am tn (fun _ => 0) (fun _ => 0) 0 (fun _ => 0) ∧ FBs M M1)) := by
  refine Ct.of (by decide) rfl (Nat.le_of_ble_eq_true rfl) ?_
  have ba := hp.a24
  have bt := hp.t8
  show G l D g ca md_X7_starts 0 [(0, .ref (g 18 0))] [] M _
  refine g_aload_n 1 0 dX7_starts_0 rfl rfl ?_
  refine g_iconst 2 (nI 0) dX7_starts_1 rfl rfl ?_
  refine g_put 5 dX7_starts_2 rfl fX7_243 pX7_27 rfl (by decide) rfl ?_
  refine g_iconst 6 (nI 0) dX7_starts_5 rfl rfl ?_
  refine g_istore_n 7 [(1, .int (nI 0)), (0, .ref (g 18 0))] dX7_starts_6 rfl (by decide) rfl ?_
  have L7 : ∀ k, k ≤ am → ∀ (N : Mm), N.1 18 0 27 = nI 0 → (∀ q, q < k → N.1 18 21 q = -1) → FBs M N → G l D g ca md_X7_starts 7 [(1, .int (nI k)), (0, .ref (g 18 0))] [] N (Rv (fun M1 => Sc M1 am tn (fun _ => 0) (fun _ => 0) 0 (fun _ => 0) ∧ FBs M M1)) := by
    refine upto ?_
    intro k hk ih7 N h27 h21 hF
    have hpN := hF.pm hp
    refine g_iload_n 8 0 dX7_starts_7 rfl rfl ?_
    refine g_aload_n 9 1 dX7_starts_8 rfl rfl ?_
    refine g_get 12 (nI am) dX7_starts_9 rfl fX7_224 rfl (by decide) rfl hpN.am_ ?_
    refine g_icmpN_ge 28 15 dX7_starts_12 rfl rfl (by omega) (by omega) (fun c12 => ?_) (fun c12 => ?_)
    · refine g_iconst 29 (nI 0) dX7_starts_28 rfl rfl ?_
      refine g_istore_n 30 [(1, .int (nI 0)), (0, .ref (g 18 0))] dX7_starts_29 rfl (by decide) rfl ?_
      have L30 : ∀ i, i ≤ tn → ∀ (N2 : Mm), N2.1 18 0 27 = nI 0 → (∀ q, q < am → N2.1 18 21 q = -1) → (∀ q, q < i → N2.1 18 22 q = -1) → FBs M N2 → G l D g ca md_X7_starts 30 [(1, .int (nI i)), (0, .ref (g 18 0))] [] N2 (Rv (fun M1 => Sc M1 am tn (fun _ => 0) (fun _ => 0) 0 (fun _ => 0) ∧ FBs M M1)) := by
        refine upto ?_
        intro i hi ih30 N2 h27 h21 h22 hF
        have hpN := hF.pm hp
        refine g_iload_n 31 0 dX7_starts_30 rfl rfl ?_
        refine g_aload_n 32 1 dX7_starts_31 rfl rfl ?_
        refine g_get 35 (nI tn) dX7_starts_32 rfl fX7_221 rfl (by decide) rfl hpN.tn_ ?_
        refine g_icmpN_ge 51 38 dX7_starts_35 rfl rfl (by omega) (by omega) (fun c35 => ?_) (fun c35 => ?_)
        · exact g_vret rfl dX7_starts_51 ⟨⟨fun q hq => ⟨h21 q hq, show (0 : Nat) < 100 by decide⟩, fun q hq => ⟨h22 q (by omega), show (0 : Nat) < 100 by decide⟩, h27, fun x hx => absurd hx (Nat.not_lt_zero x), fb_ct_zero.mpr (fun k _ => rfl)⟩, hF⟩
        · refine g_aload_n 39 1 dX7_starts_38 rfl rfl ?_
          refine g_geta 42 22 dX7_starts_39 rfl fX7_88 rfl (by decide) rfl rfl ?_
          refine g_iload_n 43 0 dX7_starts_42 rfl rfl ?_
          refine g_iconst 44 ((-1)) dX7_starts_43 rfl rfl ?_
          refine g_iast 45 dX7_starts_44 rfl rfl (by decide) rfl (by decide) (by omega) ?_
          refine g_iinc 48 (nI (i + 1)) [(1, .int (nI (i + 1))), (0, .ref (g 18 0))] dX7_starts_45 rfl 0 rfl (nI_add i 1) (by decide) rfl ?_
          refine g_goto 30 dX7_starts_48 rfl ?_
          exact ih30 (by omega) _ (by rw [wr_ne (by omega)]; exact h27) (fun q hq => by rw [wr_ne (by omega)]; exact h21 q hq) (fun q hq => by rcases (show q = i ∨ q < i by omega) with rfl | e <;> first | exact wr_eq | (rw [wr_ne (by omega)]; exact h22 q e)) (hF.tr (FBs.wr (by omega)))
      exact L30 0 (Nat.zero_le _) N h27 (fun q hq => h21 q (by omega)) (fun q h => absurd h (Nat.not_lt_zero q)) hF
    · refine g_aload_n 16 1 dX7_starts_15 rfl rfl ?_
      refine g_geta 19 21 dX7_starts_16 rfl fX7_85 rfl (by decide) rfl rfl ?_
      refine g_iload_n 20 0 dX7_starts_19 rfl rfl ?_
      refine g_iconst 21 ((-1)) dX7_starts_20 rfl rfl ?_
      refine g_iast 22 dX7_starts_21 rfl rfl (by decide) rfl (by decide) (by omega) ?_
      refine g_iinc 25 (nI (k + 1)) [(1, .int (nI (k + 1))), (0, .ref (g 18 0))] dX7_starts_22 rfl 0 rfl (nI_add k 1) (by decide) rfl ?_
      refine g_goto 7 dX7_starts_25 rfl ?_
      exact ih7 (by omega) _ (by rw [wr_ne (by omega)]; exact h27) (fun q hq => by rcases (show q = k ∨ q < k by omega) with rfl | e <;> first | exact wr_eq | (rw [wr_ne (by omega)]; exact h21 q e)) (hF.tr (FBs.wr (by omega)))
  exact L7 0 (Nat.zero_le _) _ wr_eq (fun q h => absurd h (Nat.not_lt_zero q)) (FBs.wr (by omega))


theorem lfk_succ {ft : Nat → Nat → Bool} {lf : Nat → Nat} {i k q : Nat} (h : q ≠ k ∨ (ft k i && decide (lf k = 0)) = false) : (if q < k + 1 ∧ (ft q i && decide (lf q = 0)) = true then i + 1 else lf q) = (if q < k ∧ (ft q i && decide (lf q = 0)) = true then i + 1 else lf q) := by
  by_cases h1 : q < k ∧ (ft q i && decide (lf q = 0)) = true
  · rw [if_pos h1, if_pos ⟨by omega, h1.2⟩]
  · rw [if_neg h1, if_neg]
    rintro ⟨h2, h3⟩
    rcases h with h | h
    · exact h1 ⟨by omega, h3⟩
    · by_cases e : q = k
      · subst e; rw [h] at h3; exact absurd h3 (by decide)
      · exact h1 ⟨by omega, h3⟩

theorem rl_cnt {ft : Nat → Nat → Bool} {lf : Nat → Nat} {am i qn : Nat} (h : fb_ct (fun k => decide (lf k ≠ 0)) am = qn) : qn + fb_ct (fun k => ft k i && decide (lf k = 0)) am ≤ am ∧ fb_ct (fun q => decide ((if q < am ∧ (ft q i && decide (lf q = 0)) = true then i + 1 else lf q) ≠ 0)) am = qn + fb_ct (fun k => ft k i && decide (lf k = 0)) am := by
  have h1 : fb_ct (fun k => (fun k => decide (lf k ≠ 0)) k || (fun k => ft k i && decide (lf k = 0)) k) am = fb_ct (fun k => decide (lf k ≠ 0)) am + fb_ct (fun k => ft k i && decide (lf k = 0)) am := fb_ct_or (fun k hk z => by
    have z1 := of_decide_eq_true z.1
    have z2 := z.2
    rw [Bool.and_eq_true] at z2
    exact z1 (of_decide_eq_true z2.2))
  have h2 := fb_ct_le (fun k => (fun k => decide (lf k ≠ 0)) k || (fun k => ft k i && decide (lf k = 0)) k) am
  refine ⟨by omega, ?_⟩
  rw [← h, ← h1]
  apply fb_ct_cong
  intro q hq
  by_cases z : (ft q i && decide (lf q = 0)) = true
  · rw [if_pos ⟨hq, z⟩]
    show _ = (decide (lf q ≠ 0) || (ft q i && decide (lf q = 0)))
    rw [z, Bool.or_true]
    exact decide_eq_true (by omega)
  · rw [if_neg (fun y => z y.2)]
    show _ = (decide (lf q ≠ 0) || (ft q i && decide (lf q = 0)))
    rw [Bool.eq_false_iff.mpr z, Bool.or_false]

set_option maxHeartbeats 4000000 in
set_option maxRecDepth 100000 in
theorem c_X7_reachesLots {l : Launch} {D : va_G} {g : Nat → Nat → Nat} {ca : Nat → ClassId} {M : Mm} {am tn : Nat} {Lt : Nat → Nat} {ft : Nat → Nat → Bool} {mu : Nat → Nat → Nat} (hp : PMd M am tn Lt ft mu) {lf fo : Nat → Nat} {qn : Nat} {qu : Nat → Nat} (hs : Sc M am tn lf fo qn qu) (i : Nat) (hi : i < tn) : Ct l D g ca md_X7_reachesLots [.ref (g 18 0), .int (nI i)] M (Rv (fun M1 => (∃ qv2, Sc M1 am tn (fun q => if q < am ∧ (ft q i && decide (lf q = 0)) = true then i + 1 else lf q) fo (qn + fb_ct (fun k => ft k i && decide (lf k = 0)) am) qv2 ∧ (∀ x, x < qn → qv2 x = qu x) ∧ (∀ m, m < am → (ft m i && decide (lf m = 0)) = true → qv2 (qn + fb_ct (fun k => ft k i && decide (lf k = 0)) m) = m) ∧ (∀ x, qn ≤ x → x < qn + fb_ct (fun k => ft k i && decide (lf k = 0)) am → ft (qv2 x) i = true)) ∧ FBs M M1)) := by
  refine Ct.of (by decide) rfl (Nat.le_of_ble_eq_true rfl) ?_
  have ba := hp.a24
  have bt := hp.t8
  have hcnt2 := (rl_cnt (ft := ft) (i := i) hs.2.2.2.2).1
  show G l D g ca md_X7_reachesLots 0 [(0, .ref (g 18 0)), (1, .int (nI i))] [] M _
  refine g_iconst 1 (nI 0) dX7_reachesLots_0 rfl rfl ?_
  refine g_istore_n 2 [(2, .int (nI 0)), (0, .ref (g 18 0)), (1, .int (nI i))] dX7_reachesLots_1 rfl (by decide) rfl ?_
  have L2 : ∀ k, k ≤ am → ∀ (N : Mm) (qk : Nat) (qv : Nat → Nat), (∀ q, q < am → N.1 18 21 q = nI ((if q < k ∧ (ft q i && decide (lf q = 0)) = true then i + 1 else lf q)) - 1 ∧ (if q < k ∧ (ft q i && decide (lf q = 0)) = true then i + 1 else lf q) < 100) → N.1 18 0 27 = nI qk → qk = qn + fb_ct (fun k => ft k i && decide (lf k = 0)) k → (∀ x, x < qk → N.1 18 23 x = nI (qv x) ∧ qv x < am) → (∀ x, x < qn → qv x = qu x) → (∀ m, m < k → (ft m i && decide (lf m = 0)) = true → qv (qn + fb_ct (fun k => ft k i && decide (lf k = 0)) m) = m) → (∀ x, qn ≤ x → x < qk → ft (qv x) i = true) → FRl M N → G l D g ca md_X7_reachesLots 2 [(2, .int (nI k)), (0, .ref (g 18 0)), (1, .int (nI i))] [] N (Rv (fun M1 => (∃ qv2, Sc M1 am tn (fun q => if q < am ∧ (ft q i && decide (lf q = 0)) = true then i + 1 else lf q) fo (qn + fb_ct (fun k => ft k i && decide (lf k = 0)) am) qv2 ∧ (∀ x, x < qn → qv2 x = qu x) ∧ (∀ m, m < am → (ft m i && decide (lf m = 0)) = true → qv2 (qn + fb_ct (fun k => ft k i && decide (lf k = 0)) m) = m) ∧ (∀ x, qn ≤ x → x < qn + fb_ct (fun k => ft k i && decide (lf k = 0)) am → ft (qv2 x) i = true)) ∧ FBs M M1)) := by
    refine upto ?_
    intro k hk ih2 N qk qv h21 h27 hqk h23 hold hnew hall hF
    have hpN := hF.fb.pm hp
    refine g_iload_n 3 0 dX7_reachesLots_2 rfl rfl ?_
    refine g_aload_n 4 1 dX7_reachesLots_3 rfl rfl ?_
    refine g_get 7 (nI am) dX7_reachesLots_4 rfl fX7_224 rfl (by decide) rfl hpN.am_ ?_
    refine g_icmpN_ge 70 10 dX7_reachesLots_7 rfl rfl (by omega) (by omega) (fun c7 => ?_) (fun c7 => ?_)
    · exact g_vret rfl dX7_reachesLots_70 ⟨⟨qv, ⟨fun q hq => by rw [show k = am by omega] at h21; exact h21 q hq, fun j hj => by rw [hF.1 _ _ _ (by omega)]; exact hs.2.1 j hj, by rw [h27, hqk, show k = am by omega], fun x hx => h23 x (by rw [hqk, show k = am by omega]; exact hx), (rl_cnt hs.2.2.2.2).2⟩, hold, fun m hm hsm => hnew m (by omega) hsm, fun x h1 h2 => hall x h1 (by rw [hqk, show k = am by omega]; exact h2)⟩, hF.fb⟩
    · refine g_aload_n 11 1 dX7_reachesLots_10 rfl rfl ?_
      refine g_geta 14 24 dX7_reachesLots_11 rfl fX7_94 rfl (by decide) rfl rfl ?_
      refine g_bipush 16 (nI 8) dX7_reachesLots_14 rfl rfl ?_
      refine g_iload_n 17 0 dX7_reachesLots_16 rfl rfl ?_
      refine g_imul 18 (nI (8 * k)) dX7_reachesLots_17 rfl (pk_mul 8 k) ?_
      refine g_iload_n 19 2 dX7_reachesLots_18 rfl rfl ?_
      refine g_iadd 20 (nI ((8 * k) + i)) dX7_reachesLots_19 rfl (nI_add (8 * k) i) ?_
      refine g_zald 21 (bi (ft k i)) dX7_reachesLots_20 rfl rfl (by decide) rfl (by decide) (by omega) (hpN.may (by omega) (by omega)) ?_
      refine g_ifB_eq 64 24 dX7_reachesLots_21 rfl rfl (fun c21 => ?_) (fun c21 => ?_)
      · have hsel : (ft k i && decide (lf k = 0)) = false := by rw [c21]; rfl
        refine g_iinc 67 (nI (k + 1)) [(2, .int (nI (k + 1))), (0, .ref (g 18 0)), (1, .int (nI i))] dX7_reachesLots_64 rfl 0 rfl (nI_add k 1) (by decide) rfl ?_
        refine g_goto 2 dX7_reachesLots_67 rfl ?_
        exact ih2 (by omega) _ qk qv (fun q hq => by rw [lfk_succ (Or.inr hsel)]; exact h21 q hq) h27 (by rw [hqk, fb_ct_succ, if_neg (by rw [hsel]; decide)]; omega) h23 hold (fun m hm hs => hnew m (by rcases (show m = k ∨ m < k by omega) with rfl | e <;> first | exact e | (rw [hsel] at hs; exact absurd hs (by decide))) hs) hall hF
      · have hft : ft k i = true := c21
        have hlf := (h21 k (by omega)).2
        rw [if_neg (by omega)] at hlf
        refine g_aload_n 25 1 dX7_reachesLots_24 rfl rfl ?_
        refine g_geta 28 21 dX7_reachesLots_25 rfl fX7_85 rfl (by decide) rfl rfl ?_
        refine g_iload_n 29 0 dX7_reachesLots_28 rfl rfl ?_
        refine g_iald 30 (nI (lf k) - 1) dX7_reachesLots_29 rfl rfl (by decide) rfl (by decide) (by omega) ((h21 k (by omega)).1.trans (by rw [if_neg (by omega)])) ?_
        refine g_iconst 31 ((-1)) dX7_reachesLots_30 rfl rfl ?_
        refine g_icmp_eq 37 34 dX7_reachesLots_31 rfl rfl (fun c31 => ?_) (fun c31 => ?_)
        · have hl0 : lf k = 0 := (nI_m1_eq (by omega)).mp c31
          have hsel : (ft k i && decide (lf k = 0)) = true := by rw [hft, decide_eq_true hl0]; rfl
          have hqlt : qk < am := by have h9 := fb_ct_mono (fun k => ft k i && decide (lf k = 0)) (m := k + 1) (n := am) (by omega); rw [fb_ct_succ, if_pos hsel] at h9; have h8 := hcnt2; omega
          refine g_aload_n 38 1 dX7_reachesLots_37 rfl rfl ?_
          refine g_geta 41 21 dX7_reachesLots_38 rfl fX7_85 rfl (by decide) rfl rfl ?_
          refine g_iload_n 42 0 dX7_reachesLots_41 rfl rfl ?_
          refine g_iload_n 43 2 dX7_reachesLots_42 rfl rfl ?_
          refine g_iast 44 dX7_reachesLots_43 rfl rfl (by decide) rfl (by decide) (by omega) ?_
          refine g_aload_n 45 1 dX7_reachesLots_44 rfl rfl ?_
          refine g_geta 48 23 dX7_reachesLots_45 rfl fX7_91 rfl (by decide) rfl rfl ?_
          refine g_aload_n 49 1 dX7_reachesLots_48 rfl rfl ?_
          refine g_get 52 (nI qk) dX7_reachesLots_49 rfl fX7_243 rfl (by decide) rfl ((wr_ne (by omega)).trans h27) ?_
          refine g_iload_n 53 0 dX7_reachesLots_52 rfl rfl ?_
          refine g_iast 54 dX7_reachesLots_53 rfl rfl (by decide) rfl (by decide) (by omega) ?_
          refine g_aload_n 55 1 dX7_reachesLots_54 rfl rfl ?_
          refine g_dup 56 dX7_reachesLots_55 rfl rfl ?_
          refine g_get 59 (nI qk) dX7_reachesLots_56 rfl fX7_243 rfl (by decide) rfl ((wr_ne (by omega)).trans ((wr_ne (by omega)).trans h27)) ?_
          refine g_iconst 60 (nI 1) dX7_reachesLots_59 rfl rfl ?_
          refine g_iadd 61 (nI (qk + 1)) dX7_reachesLots_60 rfl (nI_add qk 1) ?_
          refine g_put 64 dX7_reachesLots_61 rfl fX7_243 pX7_27 rfl (by decide) rfl ?_
          refine g_iinc 67 (nI (k + 1)) [(2, .int (nI (k + 1))), (0, .ref (g 18 0)), (1, .int (nI i))] dX7_reachesLots_64 rfl 0 rfl (nI_add k 1) (by decide) rfl ?_
          refine g_goto 2 dX7_reachesLots_67 rfl ?_
          exact ih2 (by omega) _ (qk + 1) (uf qv qk k) (fun q hq => by rcases (show q = k ∨ q ≠ k by omega) with rfl | e <;> first | (rw [if_pos ⟨by omega, hsel⟩]; exact ⟨by rw [wr_ne (by omega), wr_ne (by omega), wr_eq]; exact (nI_pred i).symm, by omega⟩) | (rw [wr_ne (by omega), wr_ne (by omega), wr_ne (by omega), lfk_succ (Or.inl e)]; exact h21 q hq)) wr_eq (by rw [hqk, fb_ct_succ, if_pos hsel]; omega) (fun x hx => by rw [wr_ne (by omega)]; rcases (show x = qk ∨ x < qk by omega) with rfl | e <;> first | (rw [uf_eq]; exact ⟨wr_eq, by omega⟩) | (rw [uf_ne (by omega), wr_ne (by omega), wr_ne (by omega)]; exact h23 x e)) (fun x hx => by rw [uf_ne (by omega)]; exact hold x hx) (fun m hm hs => by rcases (show m = k ∨ m < k by omega) with rfl | e <;> first | (rw [← hqk, uf_eq]) | (have h9 := fb_ct_mono (fun k => ft k i && decide (lf k = 0)) (m := m + 1) (n := k) (by omega); rw [fb_ct_succ, if_pos hs] at h9; rw [uf_ne (by omega)]; exact hnew m e hs)) (fun x h1 h2 => by rcases (show x = qk ∨ x < qk by omega) with rfl | e <;> first | (rw [uf_eq]; exact hft) | (rw [uf_ne (by omega)]; exact hall x h1 e)) (hF.tr (((FRl.wr (by omega)).tr (FRl.wr (by omega))).tr (FRl.wr (by omega))))
        · have hsel : (ft k i && decide (lf k = 0)) = false := by rw [decide_eq_false (fun z => c31 ((nI_m1_eq (by omega)).mpr z)), Bool.and_false]
          refine g_goto 64 dX7_reachesLots_34 rfl ?_
          refine g_iinc 67 (nI (k + 1)) [(2, .int (nI (k + 1))), (0, .ref (g 18 0)), (1, .int (nI i))] dX7_reachesLots_64 rfl 0 rfl (nI_add k 1) (by decide) rfl ?_
          refine g_goto 2 dX7_reachesLots_67 rfl ?_
          exact ih2 (by omega) _ qk qv (fun q hq => by rw [lfk_succ (Or.inr hsel)]; exact h21 q hq) h27 (by rw [hqk, fb_ct_succ, if_neg (by rw [hsel]; decide)]; omega) h23 hold (fun m hm hs => hnew m (by rcases (show m = k ∨ m < k by omega) with rfl | e <;> first | exact e | (rw [hsel] at hs; exact absurd hs (by decide))) hs) hall hF
  exact L2 0 (Nat.zero_le _) M qn qu (fun q hq => by rw [if_neg (by omega)]; exact hs.1 q hq) hs.2.2.1 rfl hs.2.2.2.1 (fun _ _ => rfl) (fun m h => absurd h (Nat.not_lt_zero m)) (fun x h1 h2 => absurd h1 (by omega)) FRl.rf
