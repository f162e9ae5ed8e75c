def cL (t : Nat → Nat) (q m : Nat) : Nat := fb_ct (fun i => lt_ (t (q + i))) m
def cD (t : Nat → Nat) (q m : Nat) : Nat := fb_ct (fun i => dg_ (t (q + i))) m
theorem run_l {t : Nat → Nat} {q m lc dc vv : Nat} (h : lt_ (t (q + m)) = true) (e1 : lc = cL t q m) (e2 : dc = cD t q m) (e3 : vv = vs t q m) : lc + 1 = cL t q (m + 1) ∧ dc = cD t q (m + 1) ∧ vv = vs t q (m + 1) := by
  unfold cL cD at *
  rw [fb_ct_succ, fb_ct_succ, vs_succ, lt_dg h, h, if_pos rfl, if_neg (by decide), if_neg (by decide)]
  exact ⟨by omega, by omega, e3⟩
theorem run_d {t : Nat → Nat} {q m lc dc vv : Nat} (hl : lt_ (t (q + m)) = false) (h : dg_ (t (q + m)) = true) (e1 : lc = cL t q m) (e2 : dc = cD t q m) (e3 : vv = vs t q m) : lc = cL t q (m + 1) ∧ dc + 1 = cD t q (m + 1) ∧ (dc + 1 ≤ 2 → vv * 10 + (t (q + m) - 48) = vs t q (m + 1)) ∧ (¬ dc + 1 ≤ 2 → vv = vs t q (m + 1)) := by
  unfold cL cD at *
  rw [fb_ct_succ, fb_ct_succ, vs_succ, h, hl, if_neg (by decide), if_pos rfl, if_pos rfl, ← e2, ← e3]
  exact ⟨by omega, by omega, fun z => (if_pos z).symm, fun z => (if_neg z).symm⟩
theorem sg_sub : ∀ b : Fin 256, dg_ b.val = true → sb b.val - nI 48 = nI (b.val - 48) := by decide +kernel
theorem sg_sb {b : Nat} (h : b < 256) (h2 : dg_ b = true) : sb b - nI 48 = nI (b - 48) := sg_sub ⟨b, h⟩ h2
theorem ren_at {t : Nat → Nat} {n q m : Nat} (h1 : q + m ≤ n) (h2 : ∀ j, j < m → (lt_ (t (q + j)) || dg_ (t (q + j))) = true) (h3 : q + m < n → lt_ (t (q + m)) = false ∧ dg_ (t (q + m)) = false) : ren t n q = q + m :=
  scn_eq (f := fun i => lt_ (t i) || dg_ (t i)) (by omega) h1 (fun i z1 z2 => by have := h2 (i - q) (by omega); rw [show q + (i - q) = i by omega] at this; exact this) (fun z => by show (lt_ (t (q + m)) || dg_ (t (q + m))) = false; rw [(h3 z).1, (h3 z).2]; rfl)
theorem or_snoc {t : Nat → Nat} {q m : Nat} (h : ∀ j, j < m → (lt_ (t (q + j)) || dg_ (t (q + j))) = true) (h2 : lt_ (t (q + m)) = true ∨ dg_ (t (q + m)) = true) : ∀ j, j < m + 1 → (lt_ (t (q + j)) || dg_ (t (q + j))) = true := by
  intro j hj
  rcases (show j < m ∨ j = m by omega) with z | rfl
  · exact h j z
  · rcases h2 with z | z
    · rw [z]; rfl
    · rw [z, Bool.or_true]

set_option maxHeartbeats 4000000 in
set_option maxRecDepth 100000 in
theorem c_X5_readRun {l : Launch} {D : va_G} {g : Nat → Nat → Nat} {ca : Nat → ClassId} {M : Mm} {t : Nat → Nat} {n q : Nat} (hT : TC M t n) (hB : Tb t n) (hat0 : M.1 14 0 1 = nI q) (hpl : M.1 14 0 3 = nI q) (hq : q ≤ n) : Ct l D g ca md_X5_readRun [.ref (g 14 0)] M (Rv (fun M1 => M1.1 14 0 1 = nI (ren t n q) ∧ M1.1 14 0 2 = nI (kdr t q (ren t n q)) ∧ M1.1 14 0 4 = nI (vs t q (ren t n q - q)) ∧ FRn M M1)) := by
  refine Ct.of (by decide) rfl (Nat.le_of_ble_eq_true rfl) ?_
  have hn := hB.1
  show G l D g ca md_X5_readRun 0 [(0, .ref (g 14 0))] [] M _
  refine g_iconst 1 (nI 0) dX5_readRun_0 rfl rfl ?_
  refine g_istore_n 2 [(1, .int (nI 0)), (0, .ref (g 14 0))] dX5_readRun_1 rfl (by decide) rfl ?_
  refine g_iconst 3 (nI 0) dX5_readRun_2 rfl rfl ?_
  refine g_istore_n 4 [(2, .int (nI 0)), (1, .int (nI 0)), (0, .ref (g 14 0))] dX5_readRun_3 rfl (by decide) rfl ?_
  refine g_aload_n 5 2 dX5_readRun_4 rfl rfl ?_
  refine g_iconst 6 (nI 0) dX5_readRun_5 rfl rfl ?_
  refine g_put 9 dX5_readRun_6 rfl fX5_40 pX5_4 rfl (by decide) rfl ?_
  have L9 : ∀ m, m ≤ n - q → ∀ (N : Mm) (lc dc vv : Nat), lc = cL t q m → dc = cD t q m → vv = vs t q m → (∀ j, j < m → (lt_ (t (q + j)) || dg_ (t (q + j))) = true) → N.1 14 0 1 = nI (q + m) → N.1 14 0 4 = nI vv → FRn M N → G l D g ca md_X5_readRun 9 [(2, .int (nI dc)), (1, .int (nI lc)), (0, .ref (g 14 0))] [] N (Rv (fun M1 => M1.1 14 0 1 = nI (ren t n q) ∧ M1.1 14 0 2 = nI (kdr t q (ren t n q)) ∧ M1.1 14 0 4 = nI (vs t q (ren t n q - q)) ∧ FRn M M1)) := by
    refine upto ?_
    intro m hm ih9 N lc dc vv e1 e2 e3 hv hat hvl hF
    have hmn : q + m ≤ n := by omega
    have hb : q + m < n → t (q + m) < 256 := fun z => hB.2 _ z
    refine g_aload_n 10 2 dX5_readRun_9 rfl rfl ?_
    refine g_get 13 (nI (q + m)) dX5_readRun_10 rfl fX5_15 rfl (by decide) rfl hat ?_
    refine g_aload_n 14 2 dX5_readRun_13 rfl rfl ?_
    refine g_geto 17 dX5_readRun_14 rfl fX5_9 rfl (by decide) rfl ?_
    refine g_get 20 (nI n) dX5_readRun_17 rfl fX5_25 rfl (by decide) rfl ((hF.1 _ _ _ (by omega)).trans hT.1) ?_
    refine g_icmpN_ge 138 23 dX5_readRun_20 rfl rfl (by omega) (by omega) (fun c20 => ?_) (fun c20 => ?_)
    · have hlc : lc ≤ m := by rw [e1]; exact fb_ct_le _ _
      have hdc : dc ≤ m := by rw [e2]; exact fb_ct_le _ _
      have he : ren t n q = q + m := ren_at hmn hv (fun z => by first | omega | (rw [sg_lt hb] at c38; rw [sg_dg hb] at c56; exact ⟨c38, c56⟩))
      have e4 : q + m - q = m := by omega
      refine g_iload_n 139 0 dX5_readRun_138 rfl rfl ?_
      refine g_ifN_ne 153 142 dX5_readRun_139 rfl rfl (by omega) (fun c139 => ?_) (fun c139 => ?_)
      · refine g_aload_n 154 2 dX5_readRun_153 rfl rfl ?_
        refine g_iload_n 155 1 dX5_readRun_154 rfl rfl ?_
        refine g_ifN_ne 167 158 dX5_readRun_155 rfl rfl (by omega) (fun c155 => ?_) (fun c155 => ?_)
        · refine g_iconst 168 (nI 1) dX5_readRun_167 rfl rfl ?_
          refine g_put 171 dX5_readRun_168 rfl fX5_30 pX5_2 rfl (by decide) rfl ?_
          exact g_vret rfl dX5_readRun_171 ⟨by rw [he]; exact (wr_ne (by omega)).trans hat, by rw [he]; refine wr_eq.trans ?_; unfold kdr; rw [if_neg (show ¬ nDg t q (q + m) = 0 by unfold nDg; rw [e4]; intro z; have z3 : dc = 0 := e2.trans z; omega), if_neg (show ¬ (nLt t q (q + m) = 0 ∧ nDg t q (q + m) ≤ 2) by unfold nDg nLt; rw [e4]; intro z; have z1 : lc = fb_ct (fun i => lt_ (t (q + i))) m := e1; have z2 : dc = fb_ct (fun i => dg_ (t (q + i))) m := e2; omega)], by rw [he, e4, ← e3]; exact (wr_ne (by omega)).trans hvl, hF.tr (FRn.wr (by omega))⟩
        · refine g_iload_n 159 0 dX5_readRun_158 rfl rfl ?_
          refine g_iconst 160 (nI 2) dX5_readRun_159 rfl rfl ?_
          refine g_icmpN_gt 167 163 dX5_readRun_160 rfl rfl (by omega) (by omega) (fun c160 => ?_) (fun c160 => ?_)
          · refine g_iconst 168 (nI 1) dX5_readRun_167 rfl rfl ?_
            refine g_put 171 dX5_readRun_168 rfl fX5_30 pX5_2 rfl (by decide) rfl ?_
            exact g_vret rfl dX5_readRun_171 ⟨by rw [he]; exact (wr_ne (by omega)).trans hat, by rw [he]; refine wr_eq.trans ?_; unfold kdr; rw [if_neg (show ¬ nDg t q (q + m) = 0 by unfold nDg; rw [e4]; intro z; have z3 : dc = 0 := e2.trans z; omega), if_neg (show ¬ (nLt t q (q + m) = 0 ∧ nDg t q (q + m) ≤ 2) by unfold nDg nLt; rw [e4]; intro z; have z1 : lc = fb_ct (fun i => lt_ (t (q + i))) m := e1; have z2 : dc = fb_ct (fun i => dg_ (t (q + i))) m := e2; omega)], by rw [he, e4, ← e3]; exact (wr_ne (by omega)).trans hvl, hF.tr (FRn.wr (by omega))⟩
          · refine g_iconst 164 (nI 2) dX5_readRun_163 rfl rfl ?_
            refine g_goto 168 dX5_readRun_164 rfl ?_
            refine g_put 171 dX5_readRun_168 rfl fX5_30 pX5_2 rfl (by decide) rfl ?_
            exact g_vret rfl dX5_readRun_171 ⟨by rw [he]; exact (wr_ne (by omega)).trans hat, by rw [he]; refine wr_eq.trans ?_; unfold kdr; rw [if_neg (show ¬ nDg t q (q + m) = 0 by unfold nDg; rw [e4]; intro z; have z3 : dc = 0 := e2.trans z; omega), if_pos (show nLt t q (q + m) = 0 ∧ nDg t q (q + m) ≤ 2 by unfold nDg nLt; rw [e4]; exact ⟨by have z : lc = fb_ct (fun i => lt_ (t (q + i))) m := e1; omega, by have z : dc = fb_ct (fun i => dg_ (t (q + i))) m := e2; omega⟩)], by rw [he, e4, ← e3]; exact (wr_ne (by omega)).trans hvl, hF.tr (FRn.wr (by omega))⟩
      · refine g_aload_n 143 2 dX5_readRun_142 rfl rfl ?_
        refine g_aload_n 144 2 dX5_readRun_143 rfl rfl ?_
        refine g_callVi 147 md_X5_wordKind [] [.ref (g 14 0)] dX5_readRun_144 rfl e_X5_readRun_50 rfl (by decide) rfl rfl (Nat.le_of_ble_eq_true rfl) (c_X5_wordKind (hF.tc hT) hB hat ((hF.1 _ _ _ (by omega)).trans hpl) (by omega) hmn) (fun r144 M144 h144 => ?_)
        obtain ⟨rfl, h144⟩ := h144
        have h144 := h144.symm
        subst h144
        refine g_put 150 dX5_readRun_147 rfl fX5_30 pX5_2 rfl (by decide) rfl ?_
        refine g_goto 171 dX5_readRun_150 rfl ?_
        exact g_vret rfl dX5_readRun_171 ⟨by rw [he]; exact (wr_ne (by omega)).trans hat, by rw [he]; refine wr_eq.trans ?_; unfold kdr; rw [if_pos (show nDg t q (q + m) = 0 by unfold nDg; rw [e4]; have z3 : dc = fb_ct (fun i => dg_ (t (q + i))) m := e2; omega)], by rw [he, e4, ← e3]; exact (wr_ne (by omega)).trans hvl, hF.tr (FRn.wr (by omega))⟩
    · have hb := hb (by omega)
      have hlc : lc ≤ m := by rw [e1]; exact fb_ct_le _ _
      have hdc : dc ≤ m := by rw [e2]; exact fb_ct_le _ _
      refine g_aload_n 24 2 dX5_readRun_23 rfl rfl ?_
      refine g_geto 27 dX5_readRun_24 rfl fX5_9 rfl (by decide) rfl ?_
      refine g_geta 30 1 dX5_readRun_27 rfl fX5_33 rfl (by decide) rfl rfl ?_
      refine g_aload_n 31 2 dX5_readRun_30 rfl rfl ?_
      refine g_get 34 (nI (q + m)) dX5_readRun_31 rfl fX5_15 rfl (by decide) rfl hat ?_
      refine g_bald 35 (sb (t (q + m))) dX5_readRun_34 rfl rfl (by decide) rfl (by decide) (by omega) ((hF.1 _ _ _ (by omega)).trans (hT.2 _ (by omega))) ?_
      refine g_callSi 38 md_X5_isLetter [.int (sb (t (q + m)))] [] dX5_readRun_35 rfl e_X5_readRun_43 rfl rfl (Nat.le_of_ble_eq_true rfl) (c_X5_isLetter (sb (t (q + m)))) (fun r35 M35 h35 => ?_)
      obtain ⟨rfl, h35⟩ := h35
      have h35 := h35.symm
      subst h35
      refine g_ifB_ne 59 41 dX5_readRun_38 rfl rfl (fun c38 => ?_) (fun c38 => ?_)
      · refine g_aload_n 60 2 dX5_readRun_59 rfl rfl ?_
        refine g_geto 63 dX5_readRun_60 rfl fX5_9 rfl (by decide) rfl ?_
        refine g_geta 66 1 dX5_readRun_63 rfl fX5_33 rfl (by decide) rfl rfl ?_
        refine g_aload_n 67 2 dX5_readRun_66 rfl rfl ?_
        refine g_get 70 (nI (q + m)) dX5_readRun_67 rfl fX5_15 rfl (by decide) rfl hat ?_
        refine g_bald 71 (sb (t (q + m))) dX5_readRun_70 rfl rfl (by decide) rfl (by decide) (by omega) ((hF.1 _ _ _ (by omega)).trans (hT.2 _ (by omega))) ?_
        refine g_callSi 74 md_X5_isLetter [.int (sb (t (q + m)))] [] dX5_readRun_71 rfl e_X5_readRun_43 rfl rfl (Nat.le_of_ble_eq_true rfl) (c_X5_isLetter (sb (t (q + m)))) (fun r71 M71 h71 => ?_)
        obtain ⟨rfl, h71⟩ := h71
        have h71 := h71.symm
        subst h71
        refine g_ifB_eq 83 77 dX5_readRun_74 rfl rfl (fun c74 => ?_) (fun c74 => ?_)
        · exact absurd (c38.symm.trans c74) (by decide)
        · have hlt : lt_ (t (q + m)) = true := (sg_lt hb).symm.trans c74
          have rl := run_l hlt e1 e2 e3
          refine g_iinc 80 (nI (lc + 1)) [(1, .int (nI (lc + 1))), (2, .int (nI dc)), (0, .ref (g 14 0))] dX5_readRun_77 rfl 1 rfl (nI_add lc 1) (by decide) rfl ?_
          refine g_goto 125 dX5_readRun_80 rfl ?_
          refine g_aload_n 126 2 dX5_readRun_125 rfl rfl ?_
          refine g_dup 127 dX5_readRun_126 rfl rfl ?_
          refine g_get 130 (nI (q + m)) dX5_readRun_127 rfl fX5_15 rfl (by decide) rfl hat ?_
          refine g_iconst 131 (nI 1) dX5_readRun_130 rfl rfl ?_
          refine g_iadd 132 (nI ((q + m) + 1)) dX5_readRun_131 rfl (nI_add (q + m) 1) ?_
          refine g_put 135 dX5_readRun_132 rfl fX5_15 pX5_1 rfl (by decide) rfl ?_
          refine g_goto 9 dX5_readRun_135 rfl ?_
          refine g_lv [1, 0, 2] rfl ?_
          exact ih9 (by omega) _ _ _ _ rl.1 rl.2.1 rl.2.2 (or_snoc hv (Or.inl hlt)) wr_eq ((wr_ne (by omega)).trans hvl) (hF.tr (FRn.wr (by omega)))
      · refine g_aload_n 42 2 dX5_readRun_41 rfl rfl ?_
        refine g_geto 45 dX5_readRun_42 rfl fX5_9 rfl (by decide) rfl ?_
        refine g_geta 48 1 dX5_readRun_45 rfl fX5_33 rfl (by decide) rfl rfl ?_
        refine g_aload_n 49 2 dX5_readRun_48 rfl rfl ?_
        refine g_get 52 (nI (q + m)) dX5_readRun_49 rfl fX5_15 rfl (by decide) rfl hat ?_
        refine g_bald 53 (sb (t (q + m))) dX5_readRun_52 rfl rfl (by decide) rfl (by decide) (by omega) ((hF.1 _ _ _ (by omega)).trans (hT.2 _ (by omega))) ?_
        refine g_callSi 56 md_X5_isDigit [.int (sb (t (q + m)))] [] dX5_readRun_53 rfl e_X5_readRun_47 rfl rfl (Nat.le_of_ble_eq_true rfl) (c_X5_isDigit (sb (t (q + m)))) (fun r53 M53 h53 => ?_)
        obtain ⟨rfl, h53⟩ := h53
        have h53 := h53.symm
        subst h53
        refine g_ifB_eq 138 59 dX5_readRun_56 rfl rfl (fun c56 => ?_) (fun c56 => ?_)
        · have hlc : lc ≤ m := by rw [e1]; exact fb_ct_le _ _
          have hdc : dc ≤ m := by rw [e2]; exact fb_ct_le _ _
          have he : ren t n q = q + m := ren_at hmn hv (fun z => by first | omega | (rw [sg_lt hb] at c38; rw [sg_dg hb] at c56; exact ⟨c38, c56⟩))
          have e4 : q + m - q = m := by omega
          refine g_iload_n 139 0 dX5_readRun_138 rfl rfl ?_
          refine g_ifN_ne 153 142 dX5_readRun_139 rfl rfl (by omega) (fun c139 => ?_) (fun c139 => ?_)
          · refine g_aload_n 154 2 dX5_readRun_153 rfl rfl ?_
            refine g_iload_n 155 1 dX5_readRun_154 rfl rfl ?_
            refine g_ifN_ne 167 158 dX5_readRun_155 rfl rfl (by omega) (fun c155 => ?_) (fun c155 => ?_)
            · refine g_iconst 168 (nI 1) dX5_readRun_167 rfl rfl ?_
              refine g_put 171 dX5_readRun_168 rfl fX5_30 pX5_2 rfl (by decide) rfl ?_
              exact g_vret rfl dX5_readRun_171 ⟨by rw [he]; exact (wr_ne (by omega)).trans hat, by rw [he]; refine wr_eq.trans ?_; unfold kdr; rw [if_neg (show ¬ nDg t q (q + m) = 0 by unfold nDg; rw [e4]; intro z; have z3 : dc = 0 := e2.trans z; omega), if_neg (show ¬ (nLt t q (q + m) = 0 ∧ nDg t q (q + m) ≤ 2) by unfold nDg nLt; rw [e4]; intro z; have z1 : lc = fb_ct (fun i => lt_ (t (q + i))) m := e1; have z2 : dc = fb_ct (fun i => dg_ (t (q + i))) m := e2; omega)], by rw [he, e4, ← e3]; exact (wr_ne (by omega)).trans hvl, hF.tr (FRn.wr (by omega))⟩
            · refine g_iload_n 159 0 dX5_readRun_158 rfl rfl ?_
              refine g_iconst 160 (nI 2) dX5_readRun_159 rfl rfl ?_
              refine g_icmpN_gt 167 163 dX5_readRun_160 rfl rfl (by omega) (by omega) (fun c160 => ?_) (fun c160 => ?_)
              · refine g_iconst 168 (nI 1) dX5_readRun_167 rfl rfl ?_
                refine g_put 171 dX5_readRun_168 rfl fX5_30 pX5_2 rfl (by decide) rfl ?_
                exact g_vret rfl dX5_readRun_171 ⟨by rw [he]; exact (wr_ne (by omega)).trans hat, by rw [he]; refine wr_eq.trans ?_; unfold kdr; rw [if_neg (show ¬ nDg t q (q + m) = 0 by unfold nDg; rw [e4]; intro z; have z3 : dc = 0 := e2.trans z; omega), if_neg (show ¬ (nLt t q (q + m) = 0 ∧ nDg t q (q + m) ≤ 2) by unfold nDg nLt; rw [e4]; intro z; have z1 : lc = fb_ct (fun i => lt_ (t (q + i))) m := e1; have z2 : dc = fb_ct (fun i => dg_ (t (q + i))) m := e2; omega)], by rw [he, e4, ← e3]; exact (wr_ne (by omega)).trans hvl, hF.tr (FRn.wr (by omega))⟩
              · refine g_iconst 164 (nI 2) dX5_readRun_163 rfl rfl ?_
                refine g_goto 168 dX5_readRun_164 rfl ?_
                refine g_put 171 dX5_readRun_168 rfl fX5_30 pX5_2 rfl (by decide) rfl ?_
                exact g_vret rfl dX5_readRun_171 ⟨by rw [he]; exact (wr_ne (by omega)).trans hat, by rw [he]; refine wr_eq.trans ?_; unfold kdr; rw [if_neg (show ¬ nDg t q (q + m) = 0 by unfold nDg; rw [e4]; intro z; have z3 : dc = 0 := e2.trans z; omega), if_pos (show nLt t q (q + m) = 0 ∧ nDg t q (q + m) ≤ 2 by unfold nDg nLt; rw [e4]; exact ⟨by have z : lc = fb_ct (fun i => lt_ (t (q + i))) m := e1; omega, by have z : dc = fb_ct (fun i => dg_ (t (q + i))) m := e2; omega⟩)], by rw [he, e4, ← e3]; exact (wr_ne (by omega)).trans hvl, hF.tr (FRn.wr (by omega))⟩
          · refine g_aload_n 143 2 dX5_readRun_142 rfl rfl ?_
            refine g_aload_n 144 2 dX5_readRun_143 rfl rfl ?_
            refine g_callVi 147 md_X5_wordKind [] [.ref (g 14 0)] dX5_readRun_144 rfl e_X5_readRun_50 rfl (by decide) rfl rfl (Nat.le_of_ble_eq_true rfl) (c_X5_wordKind (hF.tc hT) hB hat ((hF.1 _ _ _ (by omega)).trans hpl) (by omega) hmn) (fun r144 M144 h144 => ?_)
            obtain ⟨rfl, h144⟩ := h144
            have h144 := h144.symm
            subst h144
            refine g_put 150 dX5_readRun_147 rfl fX5_30 pX5_2 rfl (by decide) rfl ?_
            refine g_goto 171 dX5_readRun_150 rfl ?_
            exact g_vret rfl dX5_readRun_171 ⟨by rw [he]; exact (wr_ne (by omega)).trans hat, by rw [he]; refine wr_eq.trans ?_; unfold kdr; rw [if_pos (show nDg t q (q + m) = 0 by unfold nDg; rw [e4]; have z3 : dc = fb_ct (fun i => dg_ (t (q + i))) m := e2; omega)], by rw [he, e4, ← e3]; exact (wr_ne (by omega)).trans hvl, hF.tr (FRn.wr (by omega))⟩
        · refine g_aload_n 60 2 dX5_readRun_59 rfl rfl ?_
          refine g_geto 63 dX5_readRun_60 rfl fX5_9 rfl (by decide) rfl ?_
          refine g_geta 66 1 dX5_readRun_63 rfl fX5_33 rfl (by decide) rfl rfl ?_
          refine g_aload_n 67 2 dX5_readRun_66 rfl rfl ?_
          refine g_get 70 (nI (q + m)) dX5_readRun_67 rfl fX5_15 rfl (by decide) rfl hat ?_
          refine g_bald 71 (sb (t (q + m))) dX5_readRun_70 rfl rfl (by decide) rfl (by decide) (by omega) ((hF.1 _ _ _ (by omega)).trans (hT.2 _ (by omega))) ?_
          refine g_callSi 74 md_X5_isLetter [.int (sb (t (q + m)))] [] dX5_readRun_71 rfl e_X5_readRun_43 rfl rfl (Nat.le_of_ble_eq_true rfl) (c_X5_isLetter (sb (t (q + m)))) (fun r71 M71 h71 => ?_)
          obtain ⟨rfl, h71⟩ := h71
          have h71 := h71.symm
          subst h71
          refine g_ifB_eq 83 77 dX5_readRun_74 rfl rfl (fun c74 => ?_) (fun c74 => ?_)
          · have hdg : dg_ (t (q + m)) = true := (sg_dg hb).symm.trans c56
            have rd := run_d ((sg_lt hb).symm.trans c38) hdg e1 e2 e3
            refine g_iinc 86 (nI (dc + 1)) [(2, .int (nI (dc + 1))), (1, .int (nI lc)), (0, .ref (g 14 0))] dX5_readRun_83 rfl 0 rfl (nI_add dc 1) (by decide) rfl ?_
            refine g_aload_n 87 2 dX5_readRun_86 rfl rfl ?_
            refine g_iload_n 88 0 dX5_readRun_87 rfl rfl ?_
            refine g_iconst 89 (nI 2) dX5_readRun_88 rfl rfl ?_
            refine g_icmpN_gt 118 92 dX5_readRun_89 rfl rfl (by omega) (by omega) (fun c89 => ?_) (fun c89 => ?_)
            · refine g_aload_n 119 2 dX5_readRun_118 rfl rfl ?_
              refine g_get 122 (nI vv) dX5_readRun_119 rfl fX5_40 rfl (by decide) rfl hvl ?_
              refine g_put 125 dX5_readRun_122 rfl fX5_40 pX5_4 rfl (by decide) rfl ?_
              refine g_aload_n 126 2 dX5_readRun_125 rfl rfl ?_
              refine g_dup 127 dX5_readRun_126 rfl rfl ?_
              refine g_get 130 (nI (q + m)) dX5_readRun_127 rfl fX5_15 rfl (by decide) rfl ((wr_ne (by omega)).trans hat) ?_
              refine g_iconst 131 (nI 1) dX5_readRun_130 rfl rfl ?_
              refine g_iadd 132 (nI ((q + m) + 1)) dX5_readRun_131 rfl (nI_add (q + m) 1) ?_
              refine g_put 135 dX5_readRun_132 rfl fX5_15 pX5_1 rfl (by decide) rfl ?_
              refine g_goto 9 dX5_readRun_135 rfl ?_
              exact ih9 (by omega) _ _ _ _ rd.1 rd.2.1 (rd.2.2.2 (by omega)) (or_snoc hv (Or.inr hdg)) wr_eq ((wr_ne (by omega)).trans wr_eq) ((hF.tr (FRn.wr (by omega))).tr (FRn.wr (by omega)))
            · refine g_aload_n 93 2 dX5_readRun_92 rfl rfl ?_
              refine g_get 96 (nI vv) dX5_readRun_93 rfl fX5_40 rfl (by decide) rfl hvl ?_
              refine g_bipush 98 (nI 10) dX5_readRun_96 rfl rfl ?_
              refine g_imul 99 (nI (vv * 10)) dX5_readRun_98 rfl (pk_mul vv 10) ?_
              refine g_aload_n 100 2 dX5_readRun_99 rfl rfl ?_
              refine g_geto 103 dX5_readRun_100 rfl fX5_9 rfl (by decide) rfl ?_
              refine g_geta 106 1 dX5_readRun_103 rfl fX5_33 rfl (by decide) rfl rfl ?_
              refine g_aload_n 107 2 dX5_readRun_106 rfl rfl ?_
              refine g_get 110 (nI (q + m)) dX5_readRun_107 rfl fX5_15 rfl (by decide) rfl hat ?_
              refine g_bald 111 (sb (t (q + m))) dX5_readRun_110 rfl rfl (by decide) rfl (by decide) (by omega) ((hF.1 _ _ _ (by omega)).trans (hT.2 _ (by omega))) ?_
              refine g_bipush 113 (nI 48) dX5_readRun_111 rfl rfl ?_
              refine g_isub 114 (nI (t (q + m) - 48)) dX5_readRun_113 rfl (sg_sb hb hdg) ?_
              refine g_iadd 115 (nI ((vv * 10) + (t (q + m) - 48))) dX5_readRun_114 rfl (nI_add (vv * 10) (t (q + m) - 48)) ?_
              refine g_goto 122 dX5_readRun_115 rfl ?_
              refine g_put 125 dX5_readRun_122 rfl fX5_40 pX5_4 rfl (by decide) rfl ?_
              refine g_aload_n 126 2 dX5_readRun_125 rfl rfl ?_
              refine g_dup 127 dX5_readRun_126 rfl rfl ?_
              refine g_get 130 (nI (q + m)) dX5_readRun_127 rfl fX5_15 rfl (by decide) rfl ((wr_ne (by omega)).trans hat) ?_
              refine g_iconst 131 (nI 1) dX5_readRun_130 rfl rfl ?_
              refine g_iadd 132 (nI ((q + m) + 1)) dX5_readRun_131 rfl (nI_add (q + m) 1) ?_
              refine g_put 135 dX5_readRun_132 rfl fX5_15 pX5_1 rfl (by decide) rfl ?_
              refine g_goto 9 dX5_readRun_135 rfl ?_
              exact ih9 (by omega) _ _ _ _ rd.1 rd.2.1 (rd.2.2.1 (by omega)) (or_snoc hv (Or.inr hdg)) wr_eq ((wr_ne (by omega)).trans wr_eq) ((hF.tr (FRn.wr (by omega))).tr (FRn.wr (by omega)))
          · exact absurd (c74.symm.trans c38) (by decide)
  exact L9 0 (Nat.zero_le _) _ _ _ _ rfl rfl rfl (fun j h => absurd h (Nat.not_lt_zero j)) ((wr_ne (by omega)).trans hat0) wr_eq (FRn.wr (by omega))

theorem tk_600 {t : Nat → Nat} {n p : Nat} (h1 : 600 < n) (h2 : 600 ≤ tpl t n p) : tkd t n p = 1 ∧ tpc t n p = 600 := by
  unfold tkd tpc; rw [if_pos ⟨h1, h2⟩, if_pos ⟨h1, h2⟩]; exact ⟨rfl, rfl⟩
theorem tk_end {t : Nat → Nat} {n p : Nat} (h1 : ¬ (600 < n ∧ 600 ≤ tpl t n p)) (h2 : n ≤ tpl t n p) : tkd t n p = 0 ∧ tpc t n p = tpl t n p := by
  unfold tkd tpc; rw [if_neg h1, if_neg h1, if_pos h2]; exact ⟨rfl, rfl⟩
theorem tk_stop {t : Nat → Nat} {n p : Nat} (h1 : ¬ (600 < n ∧ 600 ≤ tpl t n p)) (h2 : tpl t n p < n) (h3 : t (tpl t n p) = 59) : tkd t n p = 3 ∧ tpc t n p = tpl t n p ∧ tnx t n p = tpl t n p + 1 := by
  unfold tkd tpc tnx; rw [if_neg h1, if_neg h1, if_neg (by omega), if_pos h3, if_pos h3]; exact ⟨rfl, rfl, rfl⟩
theorem tk_run {t : Nat → Nat} {n p : Nat} (h1 : ¬ (600 < n ∧ 600 ≤ tpl t n p)) (h2 : tpl t n p < n) (h3 : ¬ t (tpl t n p) = 59) : tkd t n p = kdr t (tpl t n p) (ren t n (tpl t n p)) ∧ tpc t n p = tpl t n p ∧ tnx t n p = ren t n (tpl t n p) := by
  unfold tkd tpc tnx kdr; rw [if_neg h1, if_neg h1, if_neg (by omega), if_neg h3, if_neg h3]; exact ⟨rfl, rfl, rfl⟩
theorem run_in {t : Nat → Nat} {n q : Nat} : ∀ j, j < ren t n q - q → (lt_ (t (q + j)) || dg_ (t (q + j))) = true := fun j hj => scn_in (f := fun i => lt_ (t i) || dg_ (t i)) (n := n) (p := q) (by omega) (by unfold ren at hj; omega)
theorem kdr_2 {t : Nat → Nat} {q e : Nat} (h : kdr t q e = 2) : nLt t q e = 0 ∧ nDg t q e ≤ 2 ∧ 0 < nDg t q e := by
  unfold kdr at h
  split at h
  · unfold wkd at h; split at h <;> (try omega); split at h <;> (try omega); split at h <;> (try omega); split at h <;> omega
  · split at h
    · omega
    · omega
theorem dg_all {t : Nat → Nat} {q m : Nat} (h : ∀ j, j < m → (lt_ (t (q + j)) || dg_ (t (q + j))) = true) (h2 : fb_ct (fun i => lt_ (t (q + i))) m = 0) : ∀ j, j < m → dg_ (t (q + j)) = true := by
  intro j hj
  have e := run_len h
  have h3 := fb_ct_all.mp (show fb_ct (fun i => dg_ (t (q + i))) m = m by omega) j hj
  exact h3
theorem vs_tvl {t : Nat → Nat} {n p : Nat} (h : kdr t (tpl t n p) (ren t n (tpl t n p)) = 2) : vs t (tpl t n p) (ren t n (tpl t n p) - tpl t n p) = tvl t n p := by
  obtain ⟨h1, h2, h3⟩ := kdr_2 h
  unfold tvl
  generalize tpl t n p = q at *
  have hr := run_in (t := t) (n := n) (q := q)
  unfold nLt at h1; unfold nDg at h2 h3
  generalize hm : ren t n q - q = m at *
  have hd := dg_all hr h1
  have hl := run_len hr
  rcases (show m = 1 ∨ m = 2 by omega) with rfl | rfl
  · rw [if_pos rfl]; exact vs_1 (hd 0 (by omega))
  · rw [if_neg (by omega)]; exact vs_2 (hd 0 (by omega)) (hd 1 (by omega))
theorem tpl_le {t : Nat → Nat} {n p : Nat} (h : p ≤ n) : tpl t n p ≤ n := scn_le h
theorem tnx_le {t : Nat → Nat} {n p : Nat} (h : p ≤ n) (h2 : 2 ≤ tkd t n p) : tnx t n p ≤ n := by
  have := tpl_le (t := t) h
  by_cases z : n ≤ tpl t n p
  · exfalso; unfold tkd at h2; rw [if_pos z] at h2; split at h2 <;> omega
  · unfold tnx
    split
    · omega
    · exact scn_le (by omega)
theorem F14.fo {M M1 : Mm} (h : F14 M M1) : Fo 14 M M1 := ⟨fun o' c' i' z => h.1 o' c' i' (by omega), h.2⟩
theorem FRn.fo {M M1 : Mm} (h : FRn M M1) : Fo 14 M M1 := ⟨fun o' c' i' z => h.1 o' c' i' (by omega), h.2⟩
theorem TC.fo {M M1 : Mm} {t : Nat → Nat} {n o : Nat} (hT : TC M t n) (h : Fo o M M1) (ho : o ≠ 13) : TC M1 t n := ⟨(h.1 _ _ _ (by omega)).trans hT.1, fun i hi => (h.1 _ _ _ (by omega)).trans (hT.2 i hi)⟩

set_option maxHeartbeats 4000000 in
set_option maxRecDepth 100000 in
theorem c_X5_advance {l : Launch} {D : va_G} {g : Nat → Nat → Nat} {ca : Nat → ClassId} {M : Mm} {t : Nat → Nat} {n p : Nat} (hT : TC M t n) (hB : Tb t n) (hat0 : M.1 14 0 1 = nI p) (hp : p ≤ n) : Ct l D g ca md_X5_advance [.ref (g 14 0)] M (Rv (fun M1 => M1.1 14 0 2 = nI (tkd t n p) ∧ M1.1 14 0 3 = nI (tpc t n p) ∧ (2 ≤ tkd t n p → M1.1 14 0 1 = nI (tnx t n p)) ∧ (tkd t n p = 2 → M1.1 14 0 4 = nI (tvl t n p)) ∧ Fo 14 M M1)) := by
  refine Ct.of (by decide) rfl (Nat.le_of_ble_eq_true rfl) ?_
  have hn := hB.1
  show G l D g ca md_X5_advance 0 [(0, .ref (g 14 0))] [] M _
  refine g_aload_n 1 0 dX5_advance_0 rfl rfl ?_
  refine g_callVv 4 md_X5_skipBlanks [] [] dX5_advance_1 rfl e_X5_advance_19 rfl (by decide) rfl rfl (Nat.le_of_ble_eq_true rfl) (c_X5_skipBlanks hT hB hat0 hp) (fun N h1 => ?_)
  obtain ⟨hat, hF⟩ := h1
  have hq := tpl_le (t := t) hp
  refine g_aload_n 5 0 dX5_advance_4 rfl rfl ?_
  refine g_aload_n 6 0 dX5_advance_5 rfl rfl ?_
  refine g_get 9 (nI (tpl t n p)) dX5_advance_6 rfl fX5_15 rfl (by decide) rfl hat ?_
  refine g_put 12 dX5_advance_9 rfl fX5_22 pX5_3 rfl (by decide) rfl ?_
  refine g_aload_n 13 0 dX5_advance_12 rfl rfl ?_
  refine g_geto 16 dX5_advance_13 rfl fX5_9 rfl (by decide) rfl ?_
  refine g_get 19 (nI n) dX5_advance_16 rfl fX5_25 rfl (by decide) rfl ((wr_ne (by omega)).trans ((hF.1 _ _ _ (by omega)).trans hT.1)) ?_
  refine g_sipush 22 (nI 600) dX5_advance_19 rfl rfl ?_
  refine g_icmpN_le 50 25 dX5_advance_22 rfl rfl (by omega) (by omega) (fun c22 => ?_) (fun c22 => ?_)
  · refine g_aload_n 51 0 dX5_advance_50 rfl rfl ?_
    refine g_get 54 (nI (tpl t n p)) dX5_advance_51 rfl fX5_15 rfl (by decide) rfl ((wr_ne (by omega)).trans hat) ?_
    refine g_aload_n 55 0 dX5_advance_54 rfl rfl ?_
    refine g_geto 58 dX5_advance_55 rfl fX5_9 rfl (by decide) rfl ?_
    refine g_get 61 (nI n) dX5_advance_58 rfl fX5_25 rfl (by decide) rfl ((wr_ne (by omega)).trans ((hF.1 _ _ _ (by omega)).trans hT.1)) ?_
    refine g_icmpN_lt 72 64 dX5_advance_61 rfl rfl (by omega) (by omega) (fun c61 => ?_) (fun c61 => ?_)
    · refine g_aload_n 73 0 dX5_advance_72 rfl rfl ?_
      refine g_geto 76 dX5_advance_73 rfl fX5_9 rfl (by decide) rfl ?_
      refine g_geta 79 1 dX5_advance_76 rfl fX5_33 rfl (by decide) rfl rfl ?_
      refine g_aload_n 80 0 dX5_advance_79 rfl rfl ?_
      refine g_get 83 (nI (tpl t n p)) dX5_advance_80 rfl fX5_15 rfl (by decide) rfl ((wr_ne (by omega)).trans hat) ?_
      refine g_bald 84 (sb (t (tpl t n p))) dX5_advance_83 rfl rfl (by decide) rfl (by decide) (by omega) ((wr_ne (by omega)).trans ((hF.1 _ _ _ (by omega)).trans (hT.2 _ (by omega)))) ?_
      refine g_bipush 86 (nI 59) dX5_advance_84 rfl rfl ?_
      refine g_icmp_ne 107 89 dX5_advance_86 rfl rfl (fun c86 => ?_) (fun c86 => ?_)
      · refine g_aload_n 108 0 dX5_advance_107 rfl rfl ?_
        refine g_callVv 111 md_X5_readRun [] [] dX5_advance_108 rfl e_X5_advance_37 rfl (by decide) rfl rfl (Nat.le_of_ble_eq_true rfl) (c_X5_readRun (TC.fo (o := 14) hT (hF.fo.tr Fo.wr) (by decide)) hB ((wr_ne (by omega)).trans hat) wr_eq hq) (fun N2 h108 => ?_)
        obtain ⟨g1, g2, g3, g4⟩ := h108
        obtain ⟨k1, k2, k3⟩ := tk_run (t := t) (n := n) (p := p) (by omega) (by omega) (fun z => c86 ((sg_59 (hB.2 _ (by omega))).mpr z))
        exact g_vret rfl dX5_advance_111 ⟨by rw [k1]; exact g2, by rw [k2]; exact (g4.1 _ _ _ (by omega)).trans wr_eq, fun _ => by rw [k3]; exact g1, fun z => by rw [k1] at z; rw [g3, vs_tvl z], (hF.fo.tr Fo.wr).tr g4.fo⟩
      · refine g_aload_n 90 0 dX5_advance_89 rfl rfl ?_
        refine g_iconst 91 (nI 3) dX5_advance_90 rfl rfl ?_
        refine g_put 94 dX5_advance_91 rfl fX5_30 pX5_2 rfl (by decide) rfl ?_
        refine g_aload_n 95 0 dX5_advance_94 rfl rfl ?_
        refine g_dup 96 dX5_advance_95 rfl rfl ?_
        refine g_get 99 (nI (tpl t n p)) dX5_advance_96 rfl fX5_15 rfl (by decide) rfl ((wr_ne (by omega)).trans ((wr_ne (by omega)).trans hat)) ?_
        refine g_iconst 100 (nI 1) dX5_advance_99 rfl rfl ?_
        refine g_iadd 101 (nI ((tpl t n p) + 1)) dX5_advance_100 rfl (nI_add (tpl t n p) 1) ?_
        refine g_put 104 dX5_advance_101 rfl fX5_15 pX5_1 rfl (by decide) rfl ?_
        refine g_goto 111 dX5_advance_104 rfl ?_
        exact g_vret rfl dX5_advance_111 (by obtain ⟨k1, k2, k3⟩ := tk_stop (t := t) (n := n) (p := p) (by omega) (by omega) ((sg_59 (hB.2 _ (by omega))).mp c86); rw [k1, k2, k3]; exact ⟨(wr_ne (by omega)).trans wr_eq, (wr_ne (by omega)).trans ((wr_ne (by omega)).trans wr_eq), fun _ => wr_eq, fun z => absurd z (by decide), ((hF.fo.tr Fo.wr).tr Fo.wr).tr Fo.wr⟩)
    · refine g_aload_n 65 0 dX5_advance_64 rfl rfl ?_
      refine g_iconst 66 (nI 0) dX5_advance_65 rfl rfl ?_
      refine g_put 69 dX5_advance_66 rfl fX5_30 pX5_2 rfl (by decide) rfl ?_
      refine g_goto 111 dX5_advance_69 rfl ?_
      exact g_vret rfl dX5_advance_111 (by obtain ⟨k1, k2⟩ := tk_end (t := t) (n := n) (p := p) (by omega) (by omega); rw [k1, k2]; exact ⟨wr_eq, (wr_ne (by omega)).trans wr_eq, fun z => absurd z (by decide), fun z => absurd z (by decide), (hF.fo.tr Fo.wr).tr Fo.wr⟩)
  · refine g_aload_n 26 0 dX5_advance_25 rfl rfl ?_
    refine g_get 29 (nI (tpl t n p)) dX5_advance_26 rfl fX5_15 rfl (by decide) rfl ((wr_ne (by omega)).trans hat) ?_
    refine g_sipush 32 (nI 600) dX5_advance_29 rfl rfl ?_
    refine g_icmpN_lt 50 35 dX5_advance_32 rfl rfl (by omega) (by omega) (fun c32 => ?_) (fun c32 => ?_)
    · refine g_aload_n 51 0 dX5_advance_50 rfl rfl ?_
      refine g_get 54 (nI (tpl t n p)) dX5_advance_51 rfl fX5_15 rfl (by decide) rfl ((wr_ne (by omega)).trans hat) ?_
      refine g_aload_n 55 0 dX5_advance_54 rfl rfl ?_
      refine g_geto 58 dX5_advance_55 rfl fX5_9 rfl (by decide) rfl ?_
      refine g_get 61 (nI n) dX5_advance_58 rfl fX5_25 rfl (by decide) rfl ((wr_ne (by omega)).trans ((hF.1 _ _ _ (by omega)).trans hT.1)) ?_
      refine g_icmpN_lt 72 64 dX5_advance_61 rfl rfl (by omega) (by omega) (fun c61 => ?_) (fun c61 => ?_)
      · refine g_aload_n 73 0 dX5_advance_72 rfl rfl ?_
        refine g_geto 76 dX5_advance_73 rfl fX5_9 rfl (by decide) rfl ?_
        refine g_geta 79 1 dX5_advance_76 rfl fX5_33 rfl (by decide) rfl rfl ?_
        refine g_aload_n 80 0 dX5_advance_79 rfl rfl ?_
        refine g_get 83 (nI (tpl t n p)) dX5_advance_80 rfl fX5_15 rfl (by decide) rfl ((wr_ne (by omega)).trans hat) ?_
        refine g_bald 84 (sb (t (tpl t n p))) dX5_advance_83 rfl rfl (by decide) rfl (by decide) (by omega) ((wr_ne (by omega)).trans ((hF.1 _ _ _ (by omega)).trans (hT.2 _ (by omega)))) ?_
        refine g_bipush 86 (nI 59) dX5_advance_84 rfl rfl ?_
        refine g_icmp_ne 107 89 dX5_advance_86 rfl rfl (fun c86 => ?_) (fun c86 => ?_)
        · refine g_aload_n 108 0 dX5_advance_107 rfl rfl ?_
          refine g_callVv 111 md_X5_readRun [] [] dX5_advance_108 rfl e_X5_advance_37 rfl (by decide) rfl rfl (Nat.le_of_ble_eq_true rfl) (c_X5_readRun (TC.fo (o := 14) hT (hF.fo.tr Fo.wr) (by decide)) hB ((wr_ne (by omega)).trans hat) wr_eq hq) (fun N2 h108 => ?_)
          obtain ⟨g1, g2, g3, g4⟩ := h108
          obtain ⟨k1, k2, k3⟩ := tk_run (t := t) (n := n) (p := p) (by omega) (by omega) (fun z => c86 ((sg_59 (hB.2 _ (by omega))).mpr z))
          exact g_vret rfl dX5_advance_111 ⟨by rw [k1]; exact g2, by rw [k2]; exact (g4.1 _ _ _ (by omega)).trans wr_eq, fun _ => by rw [k3]; exact g1, fun z => by rw [k1] at z; rw [g3, vs_tvl z], (hF.fo.tr Fo.wr).tr g4.fo⟩
        · refine g_aload_n 90 0 dX5_advance_89 rfl rfl ?_
          refine g_iconst 91 (nI 3) dX5_advance_90 rfl rfl ?_
          refine g_put 94 dX5_advance_91 rfl fX5_30 pX5_2 rfl (by decide) rfl ?_
          refine g_aload_n 95 0 dX5_advance_94 rfl rfl ?_
          refine g_dup 96 dX5_advance_95 rfl rfl ?_
          refine g_get 99 (nI (tpl t n p)) dX5_advance_96 rfl fX5_15 rfl (by decide) rfl ((wr_ne (by omega)).trans ((wr_ne (by omega)).trans hat)) ?_
          refine g_iconst 100 (nI 1) dX5_advance_99 rfl rfl ?_
          refine g_iadd 101 (nI ((tpl t n p) + 1)) dX5_advance_100 rfl (nI_add (tpl t n p) 1) ?_
          refine g_put 104 dX5_advance_101 rfl fX5_15 pX5_1 rfl (by decide) rfl ?_
          refine g_goto 111 dX5_advance_104 rfl ?_
          exact g_vret rfl dX5_advance_111 (by obtain ⟨k1, k2, k3⟩ := tk_stop (t := t) (n := n) (p := p) (by omega) (by omega) ((sg_59 (hB.2 _ (by omega))).mp c86); rw [k1, k2, k3]; exact ⟨(wr_ne (by omega)).trans wr_eq, (wr_ne (by omega)).trans ((wr_ne (by omega)).trans wr_eq), fun _ => wr_eq, fun z => absurd z (by decide), ((hF.fo.tr Fo.wr).tr Fo.wr).tr Fo.wr⟩)
      · refine g_aload_n 65 0 dX5_advance_64 rfl rfl ?_
        refine g_iconst 66 (nI 0) dX5_advance_65 rfl rfl ?_
        refine g_put 69 dX5_advance_66 rfl fX5_30 pX5_2 rfl (by decide) rfl ?_
        refine g_goto 111 dX5_advance_69 rfl ?_
        exact g_vret rfl dX5_advance_111 (by obtain ⟨k1, k2⟩ := tk_end (t := t) (n := n) (p := p) (by omega) (by omega); rw [k1, k2]; exact ⟨wr_eq, (wr_ne (by omega)).trans wr_eq, fun z => absurd z (by decide), fun z => absurd z (by decide), (hF.fo.tr Fo.wr).tr Fo.wr⟩)
    · refine g_aload_n 36 0 dX5_advance_35 rfl rfl ?_
      refine g_sipush 39 (nI 600) dX5_advance_36 rfl rfl ?_
      refine g_put 42 dX5_advance_39 rfl fX5_22 pX5_3 rfl (by decide) rfl ?_
      refine g_aload_n 43 0 dX5_advance_42 rfl rfl ?_
      refine g_iconst 44 (nI 1) dX5_advance_43 rfl rfl ?_
      refine g_put 47 dX5_advance_44 rfl fX5_30 pX5_2 rfl (by decide) rfl ?_
      refine g_goto 111 dX5_advance_47 rfl ?_
      exact g_vret rfl dX5_advance_111 (by obtain ⟨k1, k2⟩ := tk_600 (t := t) (n := n) (p := p) (by omega) (by omega); rw [k1, k2]; exact ⟨wr_eq, (wr_ne (by omega)).trans wr_eq, fun z => absurd z (by decide), fun z => absurd z (by decide), ((hF.fo.tr Fo.wr).tr Fo.wr).tr Fo.wr⟩)
