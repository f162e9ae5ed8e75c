set_option maxHeartbeats 4000000 in
set_option maxRecDepth 100000 in
theorem c_X5_isLetter {l : Launch} {D : va_G} {g : Nat → Nat → Nat} {ca : Nat → ClassId} {M : Mm} (x : Int32) : Ct l D g ca md_X5_isLetter [.int x] M (Ri (fun r M1 => r = bi (isin x (nI 97) (nI 122)) ∧ M1 = M)) := by
  refine Ct.of (by decide) rfl (Nat.le_of_ble_eq_true rfl) ?_
  show G l D g ca md_X5_isLetter 0 [(0, .int x)] [] M _
  refine g_iload_n 1 0 dX5_isLetter_0 rfl rfl ?_
  refine g_bipush 3 (nI 97) dX5_isLetter_1 rfl rfl ?_
  refine g_icmp_lt 16 6 dX5_isLetter_3 rfl rfl (fun c3 => ?_) (fun c3 => ?_)
  · refine g_iconst 17 (nI 0) dX5_isLetter_16 rfl rfl ?_
    exact g_zret rfl dX5_isLetter_17 rfl ⟨by unfold isin; first | (rw [decide_eq_true ⟨fa_of_nlt c3, fa_of_nlt c9⟩]; rfl) | (rw [decide_eq_false (fun q => (fa_of_lt c3).2.1 q.1)]; rfl) | (rw [decide_eq_false (fun q => (fa_of_lt c9).2.1 q.2)]; rfl), rfl⟩
  · refine g_iload_n 7 0 dX5_isLetter_6 rfl rfl ?_
    refine g_bipush 9 (nI 122) dX5_isLetter_7 rfl rfl ?_
    refine g_icmp_gt 16 12 dX5_isLetter_9 rfl rfl (fun c9 => ?_) (fun c9 => ?_)
    · refine g_iconst 17 (nI 0) dX5_isLetter_16 rfl rfl ?_
      exact g_zret rfl dX5_isLetter_17 rfl ⟨by unfold isin; first | (rw [decide_eq_true ⟨fa_of_nlt c3, fa_of_nlt c9⟩]; rfl) | (rw [decide_eq_false (fun q => (fa_of_lt c3).2.1 q.1)]; rfl) | (rw [decide_eq_false (fun q => (fa_of_lt c9).2.1 q.2)]; rfl), rfl⟩
    · refine g_iconst 13 (nI 1) dX5_isLetter_12 rfl rfl ?_
      refine g_goto 17 dX5_isLetter_13 rfl ?_
      exact g_zret rfl dX5_isLetter_17 rfl ⟨by unfold isin; first | (rw [decide_eq_true ⟨fa_of_nlt c3, fa_of_nlt c9⟩]; rfl) | (rw [decide_eq_false (fun q => (fa_of_lt c3).2.1 q.1)]; rfl) | (rw [decide_eq_false (fun q => (fa_of_lt c9).2.1 q.2)]; rfl), rfl⟩

set_option maxHeartbeats 4000000 in
set_option maxRecDepth 100000 in
theorem c_X5_isDigit {l : Launch} {D : va_G} {g : Nat → Nat → Nat} {ca : Nat → ClassId} {M : Mm} (x : Int32) : Ct l D g ca md_X5_isDigit [.int x] M (Ri (fun r M1 => r = bi (isin x (nI 48) (nI 57)) ∧ M1 = M)) := by
  refine Ct.of (by decide) rfl (Nat.le_of_ble_eq_true rfl) ?_
  show G l D g ca md_X5_isDigit 0 [(0, .int x)] [] M _
  refine g_iload_n 1 0 dX5_isDigit_0 rfl rfl ?_
  refine g_bipush 3 (nI 48) dX5_isDigit_1 rfl rfl ?_
  refine g_icmp_lt 16 6 dX5_isDigit_3 rfl rfl (fun c3 => ?_) (fun c3 => ?_)
  · refine g_iconst 17 (nI 0) dX5_isDigit_16 rfl rfl ?_
    exact g_zret rfl dX5_isDigit_17 rfl ⟨by unfold isin; first | (rw [decide_eq_true ⟨fa_of_nlt c3, fa_of_nlt c9⟩]; rfl) | (rw [decide_eq_false (fun q => (fa_of_lt c3).2.1 q.1)]; rfl) | (rw [decide_eq_false (fun q => (fa_of_lt c9).2.1 q.2)]; rfl), rfl⟩
  · refine g_iload_n 7 0 dX5_isDigit_6 rfl rfl ?_
    refine g_bipush 9 (nI 57) dX5_isDigit_7 rfl rfl ?_
    refine g_icmp_gt 16 12 dX5_isDigit_9 rfl rfl (fun c9 => ?_) (fun c9 => ?_)
    · refine g_iconst 17 (nI 0) dX5_isDigit_16 rfl rfl ?_
      exact g_zret rfl dX5_isDigit_17 rfl ⟨by unfold isin; first | (rw [decide_eq_true ⟨fa_of_nlt c3, fa_of_nlt c9⟩]; rfl) | (rw [decide_eq_false (fun q => (fa_of_lt c3).2.1 q.1)]; rfl) | (rw [decide_eq_false (fun q => (fa_of_lt c9).2.1 q.2)]; rfl), rfl⟩
    · refine g_iconst 13 (nI 1) dX5_isDigit_12 rfl rfl ?_
      refine g_goto 17 dX5_isDigit_13 rfl ?_
      exact g_zret rfl dX5_isDigit_17 rfl ⟨by unfold isin; first | (rw [decide_eq_true ⟨fa_of_nlt c3, fa_of_nlt c9⟩]; rfl) | (rw [decide_eq_false (fun q => (fa_of_lt c3).2.1 q.1)]; rfl) | (rw [decide_eq_false (fun q => (fa_of_lt c9).2.1 q.2)]; rfl), rfl⟩

set_option maxHeartbeats 4000000 in
set_option maxRecDepth 100000 in
theorem c_X7_isLetter {l : Launch} {D : va_G} {g : Nat → Nat → Nat} {ca : Nat → ClassId} {M : Mm} (x : Int32) : Ct l D g ca md_X7_isLetter [.int x] M (Ri (fun r M1 => r = bi (isin x (nI 97) (nI 122)) ∧ M1 = M)) := by
  refine Ct.of (by decide) rfl (Nat.le_of_ble_eq_true rfl) ?_
  show G l D g ca md_X7_isLetter 0 [(0, .int x)] [] M _
  refine g_iload_n 1 0 dX7_isLetter_0 rfl rfl ?_
  refine g_bipush 3 (nI 97) dX7_isLetter_1 rfl rfl ?_
  refine g_icmp_lt 16 6 dX7_isLetter_3 rfl rfl (fun c3 => ?_) (fun c3 => ?_)
  · refine g_iconst 17 (nI 0) dX7_isLetter_16 rfl rfl ?_
    exact g_zret rfl dX7_isLetter_17 rfl ⟨by unfold isin; first | (rw [decide_eq_true ⟨fa_of_nlt c3, fa_of_nlt c9⟩]; rfl) | (rw [decide_eq_false (fun q => (fa_of_lt c3).2.1 q.1)]; rfl) | (rw [decide_eq_false (fun q => (fa_of_lt c9).2.1 q.2)]; rfl), rfl⟩
  · refine g_iload_n 7 0 dX7_isLetter_6 rfl rfl ?_
    refine g_bipush 9 (nI 122) dX7_isLetter_7 rfl rfl ?_
    refine g_icmp_gt 16 12 dX7_isLetter_9 rfl rfl (fun c9 => ?_) (fun c9 => ?_)
    · refine g_iconst 17 (nI 0) dX7_isLetter_16 rfl rfl ?_
      exact g_zret rfl dX7_isLetter_17 rfl ⟨by unfold isin; first | (rw [decide_eq_true ⟨fa_of_nlt c3, fa_of_nlt c9⟩]; rfl) | (rw [decide_eq_false (fun q => (fa_of_lt c3).2.1 q.1)]; rfl) | (rw [decide_eq_false (fun q => (fa_of_lt c9).2.1 q.2)]; rfl), rfl⟩
    · refine g_iconst 13 (nI 1) dX7_isLetter_12 rfl rfl ?_
      refine g_goto 17 dX7_isLetter_13 rfl ?_
      exact g_zret rfl dX7_isLetter_17 rfl ⟨by unfold isin; first | (rw [decide_eq_true ⟨fa_of_nlt c3, fa_of_nlt c9⟩]; rfl) | (rw [decide_eq_false (fun q => (fa_of_lt c3).2.1 q.1)]; rfl) | (rw [decide_eq_false (fun q => (fa_of_lt c9).2.1 q.2)]; rfl), rfl⟩

set_option maxHeartbeats 4000000 in
set_option maxRecDepth 100000 in
theorem c_X7_isDigit {l : Launch} {D : va_G} {g : Nat → Nat → Nat} {ca : Nat → ClassId} {M : Mm} (x : Int32) : Ct l D g ca md_X7_isDigit [.int x] M (Ri (fun r M1 => r = bi (isin x (nI 48) (nI 57)) ∧ M1 = M)) := by
  refine Ct.of (by decide) rfl (Nat.le_of_ble_eq_true rfl) ?_
  show G l D g ca md_X7_isDigit 0 [(0, .int x)] [] M _
  refine g_iload_n 1 0 dX7_isDigit_0 rfl rfl ?_
  refine g_bipush 3 (nI 48) dX7_isDigit_1 rfl rfl ?_
  refine g_icmp_lt 16 6 dX7_isDigit_3 rfl rfl (fun c3 => ?_) (fun c3 => ?_)
  · refine g_iconst 17 (nI 0) dX7_isDigit_16 rfl rfl ?_
    exact g_zret rfl dX7_isDigit_17 rfl ⟨by unfold isin; first | (rw [decide_eq_true ⟨fa_of_nlt c3, fa_of_nlt c9⟩]; rfl) | (rw [decide_eq_false (fun q => (fa_of_lt c3).2.1 q.1)]; rfl) | (rw [decide_eq_false (fun q => (fa_of_lt c9).2.1 q.2)]; rfl), rfl⟩
  · refine g_iload_n 7 0 dX7_isDigit_6 rfl rfl ?_
    refine g_bipush 9 (nI 57) dX7_isDigit_7 rfl rfl ?_
    refine g_icmp_gt 16 12 dX7_isDigit_9 rfl rfl (fun c9 => ?_) (fun c9 => ?_)
    · refine g_iconst 17 (nI 0) dX7_isDigit_16 rfl rfl ?_
      exact g_zret rfl dX7_isDigit_17 rfl ⟨by unfold isin; first | (rw [decide_eq_true ⟨fa_of_nlt c3, fa_of_nlt c9⟩]; rfl) | (rw [decide_eq_false (fun q => (fa_of_lt c3).2.1 q.1)]; rfl) | (rw [decide_eq_false (fun q => (fa_of_lt c9).2.1 q.2)]; rfl), rfl⟩
    · refine g_iconst 13 (nI 1) dX7_isDigit_12 rfl rfl ?_
      refine g_goto 17 dX7_isDigit_13 rfl ?_
      exact g_zret rfl dX7_isDigit_17 rfl ⟨by unfold isin; first | (rw [decide_eq_true ⟨fa_of_nlt c3, fa_of_nlt c9⟩]; rfl) | (rw [decide_eq_false (fun q => (fa_of_lt c3).2.1 q.1)]; rfl) | (rw [decide_eq_false (fun q => (fa_of_lt c9).2.1 q.2)]; rfl), rfl⟩

set_option maxHeartbeats 4000000 in
set_option maxRecDepth 100000 in
theorem c_X5_rewind {l : Launch} {D : va_G} {g : Nat → Nat → Nat} {ca : Nat → ClassId} {M : Mm}  : Ct l D g ca md_X5_rewind [.ref (g 14 0)] M (Rv (fun M1 => M1 = wr M 14 0 1 (nI 0))) := by
  refine Ct.of (by decide) rfl (Nat.le_of_ble_eq_true rfl) ?_
  show G l D g ca md_X5_rewind 0 [(0, .ref (g 14 0))] [] M _
  refine g_aload_n 1 0 dX5_rewind_0 rfl rfl ?_
  refine g_iconst 2 (nI 0) dX5_rewind_1 rfl rfl ?_
  refine g_put 5 dX5_rewind_2 rfl fX5_15 pX5_1 rfl (by decide) rfl ?_
  exact g_vret rfl dX5_rewind_5 rfl

def F14 (M M1 : Mm) : Prop := (∀ o' c' i', ¬ (o' = 14 ∧ c' = 0 ∧ i' = 1) → M1.1 o' c' i' = M.1 o' c' i') ∧ M1.2 = M.2
theorem F14.tr {M M1 M2 : Mm} (h : F14 M M1) (h2 : F14 M1 M2) : F14 M M2 := ⟨fun o' c' i' z => (h2.1 o' c' i' z).trans (h.1 o' c' i' z), h2.2.trans h.2⟩

set_option maxHeartbeats 4000000 in
set_option maxRecDepth 100000 in
theorem c_X5_skipBlanks {l : Launch} {D : va_G} {g : Nat → Nat → Nat} {ca : Nat → ClassId} {M : Mm} {t : Nat → Nat} {n p : Nat} (hT : TC M t n) (hB : Tb t n) (hat0 : M.1 14 0 1 = nI p) (hp : p ≤ n) : Ct l D g ca md_X5_skipBlanks [.ref (g 14 0)] M (Rv (fun M1 => M1.1 14 0 1 = nI (tpl t n p) ∧ F14 M M1)) := by
  refine Ct.of (by decide) rfl (Nat.le_of_ble_eq_true rfl) ?_
  have hn := hB.1
  show G l D g ca md_X5_skipBlanks 0 [(0, .ref (g 14 0))] [] M _
  have L0 : ∀ k, k ≤ n → p ≤ k → ∀ N : Mm, (∀ i, p ≤ i → i < k → bk_ (t i) = true) → N.1 14 0 1 = nI k → F14 M N → G l D g ca md_X5_skipBlanks 0 [(0, .ref (g 14 0))] [] N (Rv (fun M1 => M1.1 14 0 1 = nI (tpl t n p) ∧ F14 M M1)) := by
    refine upto ?_
    intro k hk ih0' hpk N hv hat hF
    have ih0 : ∀ k', k' = k + 1 → k < n → ∀ N : Mm, (∀ i, p ≤ i → i < k' → bk_ (t i) = true) → N.1 14 0 1 = nI k' → F14 M N → G l D g ca md_X5_skipBlanks 0 [(0, .ref (g 14 0))] [] N (Rv (fun M1 => M1.1 14 0 1 = nI (tpl t n p) ∧ F14 M M1)) := fun k' e hk' N h1 h2 h3 => by subst e; exact ih0' hk' (by omega) N h1 h2 h3
    have hb : k < n → t k < 256 := fun z => hB.2 k z
    refine g_aload_n 1 0 dX5_skipBlanks_0 rfl rfl ?_
    refine g_get 4 (nI k) dX5_skipBlanks_1 rfl fX5_15 rfl (by decide) rfl hat ?_
    refine g_aload_n 5 0 dX5_skipBlanks_4 rfl rfl ?_
    refine g_geto 8 dX5_skipBlanks_5 rfl fX5_9 rfl (by decide) rfl ?_
    refine g_get 11 (nI n) dX5_skipBlanks_8 rfl fX5_25 rfl (by decide) rfl ((hF.1 _ _ _ (by omega)).trans hT.1) ?_
    refine g_icmpN_ge 61 14 dX5_skipBlanks_11 rfl rfl (by omega) (by omega) (fun c11 => ?_) (fun c11 => ?_)
    · exact g_vret rfl dX5_skipBlanks_61 ⟨by rw [hat, show tpl t n p = k from scn_eq hpk hk hv (fun z => by unfold bk_; refine decide_eq_false (fun y => ?_); first | omega | (rcases y with y | y; exact c28 ((sg_32 hb).mpr y); exact c45 ((sg_10 hb).mpr y)))], hF⟩
    · have hb := hb (by omega)
      refine g_aload_n 15 0 dX5_skipBlanks_14 rfl rfl ?_
      refine g_geto 18 dX5_skipBlanks_15 rfl fX5_9 rfl (by decide) rfl ?_
      refine g_geta 21 1 dX5_skipBlanks_18 rfl fX5_33 rfl (by decide) rfl rfl ?_
      refine g_aload_n 22 0 dX5_skipBlanks_21 rfl rfl ?_
      refine g_get 25 (nI k) dX5_skipBlanks_22 rfl fX5_15 rfl (by decide) rfl hat ?_
      refine g_bald 26 (sb (t k)) dX5_skipBlanks_25 rfl rfl (by decide) rfl (by decide) (by omega) ((hF.1 _ _ _ (by omega)).trans (hT.2 _ (by omega))) ?_
      refine g_bipush 28 (nI 32) dX5_skipBlanks_26 rfl rfl ?_
      refine g_icmp_eq 48 31 dX5_skipBlanks_28 rfl rfl (fun c28 => ?_) (fun c28 => ?_)
      · refine g_aload_n 49 0 dX5_skipBlanks_48 rfl rfl ?_
        refine g_dup 50 dX5_skipBlanks_49 rfl rfl ?_
        refine g_get 53 (nI k) dX5_skipBlanks_50 rfl fX5_15 rfl (by decide) rfl hat ?_
        refine g_iconst 54 (nI 1) dX5_skipBlanks_53 rfl rfl ?_
        refine g_iadd 55 (nI (k + 1)) dX5_skipBlanks_54 rfl (nI_add k 1) ?_
        refine g_put 58 dX5_skipBlanks_55 rfl fX5_15 pX5_1 rfl (by decide) rfl ?_
        refine g_goto 0 dX5_skipBlanks_58 rfl ?_
        refine ih0 (k + 1) rfl (by omega) _ (fun i h1 h2 => ?_) wr_eq (hF.tr ⟨fun o' c' i' z => wr_ne (by omega), wr_lg _ _ _ _ _⟩)
        rcases (show i < k ∨ i = k by omega) with z | rfl
        · exact hv i h1 z
        · unfold bk_; refine decide_eq_true ?_; first | exact Or.inl ((sg_32 hb).mp (by assumption)) | exact Or.inr ((sg_10 hb).mp (by assumption))
      · refine g_aload_n 32 0 dX5_skipBlanks_31 rfl rfl ?_
        refine g_geto 35 dX5_skipBlanks_32 rfl fX5_9 rfl (by decide) rfl ?_
        refine g_geta 38 1 dX5_skipBlanks_35 rfl fX5_33 rfl (by decide) rfl rfl ?_
        refine g_aload_n 39 0 dX5_skipBlanks_38 rfl rfl ?_
        refine g_get 42 (nI k) dX5_skipBlanks_39 rfl fX5_15 rfl (by decide) rfl hat ?_
        refine g_bald 43 (sb (t k)) dX5_skipBlanks_42 rfl rfl (by decide) rfl (by decide) (by omega) ((hF.1 _ _ _ (by omega)).trans (hT.2 _ (by omega))) ?_
        refine g_bipush 45 (nI 10) dX5_skipBlanks_43 rfl rfl ?_
        refine g_icmp_ne 61 48 dX5_skipBlanks_45 rfl rfl (fun c45 => ?_) (fun c45 => ?_)
        · exact g_vret rfl dX5_skipBlanks_61 ⟨by rw [hat, show tpl t n p = k from scn_eq hpk hk hv (fun z => by unfold bk_; refine decide_eq_false (fun y => ?_); first | omega | (rcases y with y | y; exact c28 ((sg_32 hb).mpr y); exact c45 ((sg_10 hb).mpr y)))], hF⟩
        · refine g_aload_n 49 0 dX5_skipBlanks_48 rfl rfl ?_
          refine g_dup 50 dX5_skipBlanks_49 rfl rfl ?_
          refine g_get 53 (nI k) dX5_skipBlanks_50 rfl fX5_15 rfl (by decide) rfl hat ?_
          refine g_iconst 54 (nI 1) dX5_skipBlanks_53 rfl rfl ?_
          refine g_iadd 55 (nI (k + 1)) dX5_skipBlanks_54 rfl (nI_add k 1) ?_
          refine g_put 58 dX5_skipBlanks_55 rfl fX5_15 pX5_1 rfl (by decide) rfl ?_
          refine g_goto 0 dX5_skipBlanks_58 rfl ?_
          refine ih0 (k + 1) rfl (by omega) _ (fun i h1 h2 => ?_) wr_eq (hF.tr ⟨fun o' c' i' z => wr_ne (by omega), wr_lg _ _ _ _ _⟩)
          rcases (show i < k ∨ i = k by omega) with z | rfl
          · exact hv i h1 z
          · unfold bk_; refine decide_eq_true ?_; first | exact Or.inl ((sg_32 hb).mp (by assumption)) | exact Or.inr ((sg_10 hb).mp (by assumption))
  exact L0 p hp (Nat.le_refl _) M (fun i h1 h2 => absurd h1 (by omega)) hat0 ⟨fun _ _ _ _ => rfl, rfl⟩
