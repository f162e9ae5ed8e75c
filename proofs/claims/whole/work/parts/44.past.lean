/-- a stock's block is another's -/
def CpB (M M1 : Mm) (o o2 : Nat) : Prop := (∀ k, k < 7 → M1.1 o 0 k = M.1 o2 0 k) ∧ (∀ c n i, atab 2 c = some (0, n) → i < n → M1.1 o c i = M.1 o2 c i)
theorem CpB.rp {M M1 : Mm} {o o2 : Nat} (h : CpB M M1 o o2) {a : Sa} (hS : RP (M.1 o2) a) : RP (M1.1 o) a := by
  have b2 := hS.c6
  have b3 := hS.l24
  have b4 := hS.o41
  have e : ∀ c n i, atab 2 c = some (0, n) → i < n → M1.1 o c i = M.1 o2 c i := h.2
  refine ⟨fun k hk => ?_, fun c hc => ?_, fun i hi => ?_, fun j h1 h2 l hl => ?_, fun j h1 h2 q hq => ?_, hS.c6, hS.l24, hS.o41⟩
  · rw [h.1 k hk]; exact hS.sc hk
  · rw [e 8 6 c rfl (by omega)]; exact hS.life hc
  · rw [e 9 24 i rfl hi]; exact hS.latest hi
  · rw [e j 24 l (by rcases (show j = 10 ∨ j = 11 ∨ j = 12 ∨ j = 13 by omega) with rfl | rfl | rfl | rfl <;> rfl) (by omega)]; exact hS.lot h1 h2 hl
  · rw [e j 41 q (by rcases (show j = 14 ∨ j = 15 ∨ j = 16 ∨ j = 17 ∨ j = 18 ∨ j = 19 by omega) with rfl | rfl | rfl | rfl | rfl | rfl <;> rfl) (by omega)]; exact hS.ord h1 h2 hq
theorem CpB.rr {M M1 : Mm} {o o2 : Nat} (h : CpB M M1 o o2) {a : Sa} (hR : RR (M.1 o2) a) : RR (M1.1 o) a := by
  intro p hp c hc
  rw [h.2 20 144 _ rfl (by omega)]; exact hR p hp c hc
theorem CpB.sk {M M1 : Mm} {o o2 : Nat} (h : CpB M M1 o o2) {a : Sa} (hK : SK (M.1 o2) a) : SK (M1.1 o) a := ⟨h.rp hK.1, h.rr hK.2.1, hK.2.2⟩

set_option maxHeartbeats 4000000 in
set_option maxRecDepth 100000 in
theorem c_X0_keep {l : Launch} {D : va_G} {g : Nat → Nat → Nat} {ca : Nat → ClassId} {M : Mm} {o : Nat} (ho : o < 2) {n q : Nat} (hn : M.1 17 0 1 = nI n) (hn10 : n < 10) (hq : M.1 17 0 2 = nI q) (hq10 : q ≤ 10) : Ct l D g ca md_X0_keep [.ref (g 17 0), .ref (g o 0)] M (Rv (fun M1 => CpB M M1 (2 + n) o ∧ M1.1 17 0 1 = nI (if n + 1 < 10 then n + 1 else 0) ∧ M1.1 17 0 2 = nI (min (q + 1) 10) ∧ (∀ o1 c1 i1, o1 ≠ 2 + n → o1 ≠ 17 → M1.1 o1 c1 i1 = M.1 o1 c1 i1) ∧ M1.2 = M.2)) := by
  refine Ct.of (by decide) rfl (Nat.le_of_ble_eq_true rfl) ?_
  show G l D g ca md_X0_keep 0 [(0, .ref (g 17 0)), (1, .ref (g o 0))] [] M _
  refine g_aload_n 1 0 dX0_keep_0 rfl rfl ?_
  refine g_geta 4 1 dX0_keep_1 rfl fX0_11 rfl (by decide) rfl rfl ?_
  refine g_aload_n 5 0 dX0_keep_4 rfl rfl ?_
  refine g_get 8 (nI n) dX0_keep_5 rfl fX0_18 rfl (by decide) rfl hn ?_
  refine g_aald 9 dX0_keep_8 rfl rfl (by omega) ?_
  refine g_aload_n 10 1 dX0_keep_9 rfl rfl ?_
  refine g_callVv 13 md_X2_copyFrom [.ref (g o 0)] [] dX0_keep_10 rfl e_X0_keep_22 (kd_st (by omega)) (by decide) rfl rfl (Nat.le_of_ble_eq_true rfl) (c_X2_copyFrom (kd_st (by omega)) (kd_st (by omega)) (by omega)) (fun N h10 => ?_)
  obtain ⟨h1, h2, hF⟩ := h10
  refine g_aload_n 14 0 dX0_keep_13 rfl rfl ?_
  refine g_aload_n 15 0 dX0_keep_14 rfl rfl ?_
  refine g_get 18 (nI n) dX0_keep_15 rfl fX0_18 rfl (by decide) rfl ((hF.1 _ _ _ (by omega)).trans hn) ?_
  refine g_iconst 19 (nI 1) dX0_keep_18 rfl rfl ?_
  refine g_iadd 20 (nI (n + 1)) dX0_keep_19 rfl (nI_add n 1) ?_
  refine g_bipush 22 (nI 10) dX0_keep_20 rfl rfl ?_
  refine g_icmpN_ge 34 25 dX0_keep_22 rfl rfl (by omega) (by omega) (fun c22 => ?_) (fun c22 => ?_)
  · refine g_iconst 35 (nI 0) dX0_keep_34 rfl rfl ?_
    refine g_put 38 dX0_keep_35 rfl fX0_18 pX0_1 rfl (by decide) rfl ?_
    refine g_aload_n 39 0 dX0_keep_38 rfl rfl ?_
    refine g_aload_n 40 0 dX0_keep_39 rfl rfl ?_
    refine g_get 43 (nI q) dX0_keep_40 rfl fX0_26 rfl (by decide) rfl ((wr_ne (by omega)).trans ((hF.1 _ _ _ (by omega)).trans hq)) ?_
    refine g_iconst 44 (nI 1) dX0_keep_43 rfl rfl ?_
    refine g_iadd 45 (nI (q + 1)) dX0_keep_44 rfl (nI_add q 1) ?_
    refine g_bipush 47 (nI 10) dX0_keep_45 rfl rfl ?_
    refine g_mmin 50 (nI (min (q + 1) 10)) dX0_keep_47 rfl ml_X0_29 (by decide) (Nat.le_of_ble_eq_true rfl) (nI_min (by omega) (by decide)) ?_
    refine g_put 53 dX0_keep_50 rfl fX0_26 pX0_2 rfl (by decide) rfl ?_
    exact g_vret rfl dX0_keep_53 ⟨⟨fun k hk => by rw [wr_ne (by omega), wr_ne (by omega)]; exact h1 k hk, fun c m i hc hi => by rw [wr_ne (by omega), wr_ne (by omega)]; exact h2 c m i hc hi⟩, by rw [wr_ne (by omega), wr_eq]; first | rw [if_pos (by omega)] | rw [if_neg (by omega)], wr_eq, fun o1 c1 i1 z1 z2 => by rw [wr_ne (by omega), wr_ne (by omega)]; exact hF.1 o1 c1 i1 z1, by rw [wr_lg, wr_lg]; exact hF.2⟩
  · refine g_aload_n 26 0 dX0_keep_25 rfl rfl ?_
    refine g_get 29 (nI n) dX0_keep_26 rfl fX0_18 rfl (by decide) rfl ((hF.1 _ _ _ (by omega)).trans hn) ?_
    refine g_iconst 30 (nI 1) dX0_keep_29 rfl rfl ?_
    refine g_iadd 31 (nI (n + 1)) dX0_keep_30 rfl (nI_add n 1) ?_
    refine g_goto 35 dX0_keep_31 rfl ?_
    refine g_put 38 dX0_keep_35 rfl fX0_18 pX0_1 rfl (by decide) rfl ?_
    refine g_aload_n 39 0 dX0_keep_38 rfl rfl ?_
    refine g_aload_n 40 0 dX0_keep_39 rfl rfl ?_
    refine g_get 43 (nI q) dX0_keep_40 rfl fX0_26 rfl (by decide) rfl ((wr_ne (by omega)).trans ((hF.1 _ _ _ (by omega)).trans hq)) ?_
    refine g_iconst 44 (nI 1) dX0_keep_43 rfl rfl ?_
    refine g_iadd 45 (nI (q + 1)) dX0_keep_44 rfl (nI_add q 1) ?_
    refine g_bipush 47 (nI 10) dX0_keep_45 rfl rfl ?_
    refine g_mmin 50 (nI (min (q + 1) 10)) dX0_keep_47 rfl ml_X0_29 (by decide) (Nat.le_of_ble_eq_true rfl) (nI_min (by omega) (by decide)) ?_
    refine g_put 53 dX0_keep_50 rfl fX0_26 pX0_2 rfl (by decide) rfl ?_
    exact g_vret rfl dX0_keep_53 ⟨⟨fun k hk => by rw [wr_ne (by omega), wr_ne (by omega)]; exact h1 k hk, fun c m i hc hi => by rw [wr_ne (by omega), wr_ne (by omega)]; exact h2 c m i hc hi⟩, by rw [wr_ne (by omega), wr_eq]; first | rw [if_pos (by omega)] | rw [if_neg (by omega)], wr_eq, fun o1 c1 i1 z1 z2 => by rw [wr_ne (by omega), wr_ne (by omega)]; exact hF.1 o1 c1 i1 z1, by rw [wr_lg, wr_lg]; exact hF.2⟩

set_option maxHeartbeats 4000000 in
set_option maxRecDepth 100000 in
theorem c_X0_bringBack {l : Launch} {D : va_G} {g : Nat → Nat → Nat} {ca : Nat → ClassId} {M : Mm} {o : Nat} (ho : o < 2) {n q : Nat} (hn : M.1 17 0 1 = nI n) (hn10 : n < 10) (hq : M.1 17 0 2 = nI q) (hq10 : q ≤ 10) (hq0 : 0 < q) : Ct l D g ca md_X0_bringBack [.ref (g 17 0), .ref (g o 0)] M (Rv (fun M1 => CpB M M1 o (2 + (if 0 < n then n - 1 else 9)) ∧ M1.1 17 0 1 = nI (if 0 < n then n - 1 else 9) ∧ M1.1 17 0 2 = nI (q - 1) ∧ (∀ o1 c1 i1, o1 ≠ o → o1 ≠ 17 → M1.1 o1 c1 i1 = M.1 o1 c1 i1) ∧ M1.2 = M.2)) := by
  refine Ct.of (by decide) rfl (Nat.le_of_ble_eq_true rfl) ?_
  show G l D g ca md_X0_bringBack 0 [(0, .ref (g 17 0)), (1, .ref (g o 0))] [] M _
  refine g_aload_n 1 0 dX0_bringBack_0 rfl rfl ?_
  refine g_aload_n 2 0 dX0_bringBack_1 rfl rfl ?_
  refine g_get 5 (nI n) dX0_bringBack_2 rfl fX0_18 rfl (by decide) rfl hn ?_
  refine g_ifN_le 17 8 dX0_bringBack_5 rfl rfl (by omega) (fun c5 => ?_) (fun c5 => ?_)
  · refine g_bipush 19 (nI 9) dX0_bringBack_17 rfl rfl ?_
    refine g_put 22 dX0_bringBack_19 rfl fX0_18 pX0_1 rfl (by decide) rfl ?_
    refine g_aload_n 23 0 dX0_bringBack_22 rfl rfl ?_
    refine g_dup 24 dX0_bringBack_23 rfl rfl ?_
    refine g_get 27 (nI q) dX0_bringBack_24 rfl fX0_26 rfl (by decide) rfl ((wr_ne (by omega)).trans hq) ?_
    refine g_iconst 28 (nI 1) dX0_bringBack_27 rfl rfl ?_
    refine g_isub 29 (nI (q - 1)) dX0_bringBack_28 rfl (pk_sub (by omega)) ?_
    refine g_put 32 dX0_bringBack_29 rfl fX0_26 pX0_2 rfl (by decide) rfl ?_
    refine g_aload_n 33 1 dX0_bringBack_32 rfl rfl ?_
    refine g_aload_n 34 0 dX0_bringBack_33 rfl rfl ?_
    refine g_geta 37 1 dX0_bringBack_34 rfl fX0_11 rfl (by decide) rfl rfl ?_
    refine g_aload_n 38 0 dX0_bringBack_37 rfl rfl ?_
    refine g_get 41 (nI 9) dX0_bringBack_38 rfl fX0_18 rfl (by decide) rfl ((wr_ne (by omega)).trans wr_eq) ?_
    refine g_aald 42 dX0_bringBack_41 rfl rfl (by omega) ?_
    refine g_callVv 45 md_X2_copyFrom [.ref (g (2 + 9) 0)] [] dX0_bringBack_42 rfl e_X0_bringBack_22 (kd_st (by omega)) (by decide) rfl rfl (Nat.le_of_ble_eq_true rfl) (c_X2_copyFrom (kd_st (by omega)) (kd_st (by omega)) (by omega)) (fun N h42 => ?_)
    obtain ⟨h1, h2, hF⟩ := h42
    exact g_vret rfl dX0_bringBack_45 ⟨by (first | rw [if_pos c5] | rw [if_neg (by omega)]); exact ⟨fun k hk => by rw [h1 k hk, wr_ne (by omega), wr_ne (by omega)], fun c m i hc hi => by rw [h2 c m i hc hi, wr_ne (by omega), wr_ne (by omega)]⟩, by rw [hF.1 _ _ _ (by omega), wr_ne (by omega), wr_eq]; first | rw [if_pos (by omega)] | rw [if_neg (by omega)], by rw [hF.1 _ _ _ (by omega), wr_eq], fun o1 c1 i1 z1 z2 => by rw [hF.1 _ _ _ z1, wr_ne (by omega), wr_ne (by omega)], by rw [hF.2, wr_lg, wr_lg]⟩
  · refine g_aload_n 9 0 dX0_bringBack_8 rfl rfl ?_
    refine g_get 12 (nI n) dX0_bringBack_9 rfl fX0_18 rfl (by decide) rfl hn ?_
    refine g_iconst 13 (nI 1) dX0_bringBack_12 rfl rfl ?_
    refine g_isub 14 (nI (n - 1)) dX0_bringBack_13 rfl (pk_sub (by omega)) ?_
    refine g_goto 19 dX0_bringBack_14 rfl ?_
    refine g_put 22 dX0_bringBack_19 rfl fX0_18 pX0_1 rfl (by decide) rfl ?_
    refine g_aload_n 23 0 dX0_bringBack_22 rfl rfl ?_
    refine g_dup 24 dX0_bringBack_23 rfl rfl ?_
    refine g_get 27 (nI q) dX0_bringBack_24 rfl fX0_26 rfl (by decide) rfl ((wr_ne (by omega)).trans hq) ?_
    refine g_iconst 28 (nI 1) dX0_bringBack_27 rfl rfl ?_
    refine g_isub 29 (nI (q - 1)) dX0_bringBack_28 rfl (pk_sub (by omega)) ?_
    refine g_put 32 dX0_bringBack_29 rfl fX0_26 pX0_2 rfl (by decide) rfl ?_
    refine g_aload_n 33 1 dX0_bringBack_32 rfl rfl ?_
    refine g_aload_n 34 0 dX0_bringBack_33 rfl rfl ?_
    refine g_geta 37 1 dX0_bringBack_34 rfl fX0_11 rfl (by decide) rfl rfl ?_
    refine g_aload_n 38 0 dX0_bringBack_37 rfl rfl ?_
    refine g_get 41 (nI (n - 1)) dX0_bringBack_38 rfl fX0_18 rfl (by decide) rfl ((wr_ne (by omega)).trans wr_eq) ?_
    refine g_aald 42 dX0_bringBack_41 rfl rfl (by omega) ?_
    refine g_callVv 45 md_X2_copyFrom [.ref (g (2 + (n - 1)) 0)] [] dX0_bringBack_42 rfl e_X0_bringBack_22 (kd_st (by omega)) (by decide) rfl rfl (Nat.le_of_ble_eq_true rfl) (c_X2_copyFrom (kd_st (by omega)) (kd_st (by omega)) (by omega)) (fun N h42 => ?_)
    obtain ⟨h1, h2, hF⟩ := h42
    exact g_vret rfl dX0_bringBack_45 ⟨by (first | rw [if_pos c5] | rw [if_neg (by omega)]); exact ⟨fun k hk => by rw [h1 k hk, wr_ne (by omega), wr_ne (by omega)], fun c m i hc hi => by rw [h2 c m i hc hi, wr_ne (by omega), wr_ne (by omega)]⟩, by rw [hF.1 _ _ _ (by omega), wr_ne (by omega), wr_eq]; first | rw [if_pos (by omega)] | rw [if_neg (by omega)], by rw [hF.1 _ _ _ (by omega), wr_eq], fun o1 c1 i1 z1 z2 => by rw [hF.1 _ _ _ z1, wr_ne (by omega), wr_ne (by omega)], by rw [hF.2, wr_lg, wr_lg]⟩

set_option maxHeartbeats 4000000 in
set_option maxRecDepth 100000 in
theorem c_X0_forget {l : Launch} {D : va_G} {g : Nat → Nat → Nat} {ca : Nat → ClassId} {M : Mm}  : Ct l D g ca md_X0_forget [.ref (g 17 0)] M (Rv (fun M1 => M1 = wr M 17 0 2 (nI 0))) := by
  refine Ct.of (by decide) rfl (Nat.le_of_ble_eq_true rfl) ?_
  show G l D g ca md_X0_forget 0 [(0, .ref (g 17 0))] [] M _
  refine g_aload_n 1 0 dX0_forget_0 rfl rfl ?_
  refine g_iconst 2 (nI 0) dX0_forget_1 rfl rfl ?_
  refine g_put 5 dX0_forget_2 rfl fX0_26 pX0_2 rfl (by decide) rfl ?_
  exact g_vret rfl dX0_forget_5 rfl
