set_option maxHeartbeats 4000000 in
set_option maxRecDepth 100000 in
theorem c_X7_dayOf {l : Launch} {D : va_G} {g : Nat → Nat → Nat} {ca : Nat → ClassId} {M : Mm} {a : Sa} (hN : RM (M.1 18 12) a) (hI : Iv a) (q : Nat) (hq : q < a 0 4) : Ct l D g ca md_X7_dayOf [.ref (g 18 0), .int (nI q)] M (Ri (fun r M1 => r = nI (a 17 q) ∧ M1 = M)) := by
  refine Ct.of (by decide) rfl (Nat.le_of_ble_eq_true rfl) ?_
  have b0 := hI.today
  have b1 := hI.g4
  have b1' := hI.g1
  have b2 := hN.c6
  have b3 := hN.l24
  have b4 := hN.o40
  show G l D g ca md_X7_dayOf 0 [(0, .ref (g 18 0)), (1, .int (nI q))] [] M _
  refine g_iload_n 1 1 dX7_dayOf_0 rfl rfl ?_
  refine g_bipush 3 (nI 40) dX7_dayOf_1 rfl rfl ?_
  refine g_icmpN_ne 13 6 dX7_dayOf_3 rfl rfl (by omega) (by omega) (fun c3 => ?_) (fun c3 => ?_)
  · refine g_aload_n 14 0 dX7_dayOf_13 rfl rfl ?_
    refine g_iload_n 15 1 dX7_dayOf_14 rfl rfl ?_
    refine g_iconst 16 (nI 3) dX7_dayOf_15 rfl rfl ?_
    refine g_callVi 19 md_X7_ordered [.int (nI q), .int (nI 3)] [] dX7_dayOf_16 rfl e_X7_dayOf_169 rfl (by decide) rfl rfl (Nat.le_of_ble_eq_true rfl) (c_X7_ordered hN hI q 3 17 (by omega) (by decide) rfl) (fun r16 M16 h16 => ?_)
    obtain ⟨rfl, h16⟩ := h16
    have h16 := h16.symm
    subst h16
    exact g_iret rfl dX7_dayOf_19 ⟨rfl, rfl⟩
  · exact absurd c3 (by omega)

set_option maxHeartbeats 4000000 in
set_option maxRecDepth 100000 in
theorem c_X7_puts {l : Launch} {D : va_G} {g : Nat → Nat → Nat} {ca : Nat → ClassId} {M : Mm} {a : Sa} (hN : RM (M.1 18 12) a) (hI : Iv a) {n : Nat} {f κ : Nat → Nat} (hn : M.1 18 0 24 = nI n) (hf : ∀ i, i < n → M.1 18 17 i = nI (f i) ∧ f i < a 0 4) (hcap : n < 8) (x d : Nat) (hx : x = 40 ∨ x < a 0 4) (hd : d < 65536) (hκ : ∀ y, y < a 0 4 → κ y = a 17 y) (hκx : κ x = d) : Ct l D g ca md_X7_puts [.ref (g 18 0), .int (nI x), .int (nI d)] M (Rv (fun M1 => M1.1 18 0 24 = nI (n + 1) ∧ (∀ i, i < n + 1 → M1.1 18 17 i = nI (insF κ x n f i)) ∧ FTu M M1)) := by
  refine Ct.of (by decide) rfl (Nat.le_of_ble_eq_true rfl) ?_
  have b0 := hI.today
  have b1 := hI.g4
  have b1' := hI.g1
  have b2 := hN.c6
  have b3 := hN.l24
  have b4 := hN.o40
  show G l D g ca md_X7_puts 0 [(0, .ref (g 18 0)), (1, .int (nI x)), (2, .int (nI d))] [] M _
  refine g_iload_n 1 1 dX7_puts_0 rfl rfl ?_
  refine g_bipush 3 (nI 40) dX7_puts_1 rfl rfl ?_
  refine g_icmpN_ne 11 6 dX7_puts_3 rfl rfl (by first | omega | (have := hI.ord (o := F k') (by omega); omega)) (by first | omega | (have := hI.ord (o := F k') (by omega); omega)) (fun c3 => ?_) (fun c3 => ?_)
  · refine g_aload_n 12 0 dX7_puts_11 rfl rfl ?_
    refine g_get 15 (nI n) dX7_puts_12 rfl fX7_221 rfl (by decide) rfl hn ?_
    refine g_istore_n 16 [(3, .int (nI n)), (0, .ref (g 18 0)), (1, .int (nI x)), (2, .int (nI d))] dX7_puts_15 rfl (by decide) rfl ?_
    have L16 : ∀ k, ∀ (N : Mm) (F : Nat → Nat), (∀ i, i < n + 1 → i ≠ k → N.1 18 17 i = nI (F i) ∧ F i < a 0 4) → insF κ x k F = insF κ x n f → FTu M N → N.1 18 0 24 = nI n → k ≤ n → G l D g ca md_X7_puts 16 [(3, .int (nI k)), (0, .ref (g 18 0)), (1, .int (nI x)), (2, .int (nI d))] [] N (Rv (fun M1 => M1.1 18 0 24 = nI (n + 1) ∧ (∀ i, i < n + 1 → M1.1 18 17 i = nI (insF κ x n f i)) ∧ FTu M M1)) := by
      refine downto ?_
      intro k ih16 N F hN_ hE hF hcnt hk
      have hN_N := hF.rm hN
      refine g_iload_n 17 0 dX7_puts_16 rfl rfl ?_
      refine g_ifN_le 56 20 dX7_puts_17 rfl rfl (by first | omega | (have := hI.ord (o := F k') (by omega); omega)) (fun c17 => ?_) (fun c17 => ?_)
      · refine g_aload_n 57 1 dX7_puts_56 rfl rfl ?_
        refine g_geta 60 17 dX7_puts_57 rfl fX7_73 rfl (by decide) rfl rfl ?_
        refine g_iload_n 61 0 dX7_puts_60 rfl rfl ?_
        refine g_iload_n 62 2 dX7_puts_61 rfl rfl ?_
        refine g_iast 63 dX7_puts_62 rfl rfl (by decide) rfl (by decide) (by omega) ?_
        refine g_aload_n 64 1 dX7_puts_63 rfl rfl ?_
        refine g_dup 65 dX7_puts_64 rfl rfl ?_
        refine g_get 68 (nI n) dX7_puts_65 rfl fX7_221 rfl (by decide) rfl ((wr_ne (by omega)).trans hcnt) ?_
        refine g_iconst 69 (nI 1) dX7_puts_68 rfl rfl ?_
        refine g_iadd 70 (nI (n + 1)) dX7_puts_69 rfl (nI_add n 1) ?_
        refine g_put 73 dX7_puts_70 rfl fX7_221 pX7_24 rfl (by decide) rfl ?_
        subst c17
        exact g_vret rfl dX7_puts_73 ⟨wr_eq, fun i hi => by rw [← hE, insF_0, wr_ne (by omega)]; rcases (show i = 0 ∨ i ≠ 0 by omega) with rfl | e <;> first | (rw [uf_ne e, wr_ne (by omega)]; exact (hN_ i hi e).1) | (rw [uf_eq]; exact wr_eq), hF.tr ((FTu.wr (by omega)).tr (FTu.wr (by omega)))⟩
      · obtain ⟨k', rfl⟩ : ∃ k', k = k' + 1 := ⟨k - 1, by omega⟩
        have hv9 := (hN_ k' (by omega) (by omega)).2
        refine g_aload_n 21 1 dX7_puts_20 rfl rfl ?_
        refine g_aload_n 22 1 dX7_puts_21 rfl rfl ?_
        refine g_geta 25 17 dX7_puts_22 rfl fX7_73 rfl (by decide) rfl rfl ?_
        refine g_iload_n 26 0 dX7_puts_25 rfl rfl ?_
        refine g_iconst 27 (nI 1) dX7_puts_26 rfl rfl ?_
        refine g_isub 28 (nI (k')) dX7_puts_27 rfl (nI_pred k') ?_
        refine g_iald 29 (nI (F (k'))) dX7_puts_28 rfl rfl (by decide) rfl (by decide) (by omega) (hN_ (k') (by omega) (by omega)).1 ?_
        refine g_callVi 32 md_X7_dayOf [.int (nI (F (k')))] [] dX7_puts_29 rfl e_X7_puts_237 rfl (by decide) rfl rfl (Nat.le_of_ble_eq_true rfl) (c_X7_dayOf hN_N hI (F k') hv9) (fun r29 M29 h29 => ?_)
        obtain ⟨rfl, h29⟩ := h29
        have h29 := h29.symm
        subst h29
        refine g_iload_n 33 3 dX7_puts_32 rfl rfl ?_
        refine g_icmpN_le 56 36 dX7_puts_33 rfl rfl (by first | omega | (have := hI.ord (o := F k') (by omega); omega)) (by first | omega | (have := hI.ord (o := F k') (by omega); omega)) (fun c33 => ?_) (fun c33 => ?_)
        · refine g_aload_n 57 1 dX7_puts_56 rfl rfl ?_
          refine g_geta 60 17 dX7_puts_57 rfl fX7_73 rfl (by decide) rfl rfl ?_
          refine g_iload_n 61 0 dX7_puts_60 rfl rfl ?_
          refine g_iload_n 62 2 dX7_puts_61 rfl rfl ?_
          refine g_iast 63 dX7_puts_62 rfl rfl (by decide) rfl (by decide) (by omega) ?_
          refine g_aload_n 64 1 dX7_puts_63 rfl rfl ?_
          refine g_dup 65 dX7_puts_64 rfl rfl ?_
          refine g_get 68 (nI n) dX7_puts_65 rfl fX7_221 rfl (by decide) rfl ((wr_ne (by omega)).trans hcnt) ?_
          refine g_iconst 69 (nI 1) dX7_puts_68 rfl rfl ?_
          refine g_iadd 70 (nI (n + 1)) dX7_puts_69 rfl (nI_add n 1) ?_
          refine g_put 73 dX7_puts_70 rfl fX7_221 pX7_24 rfl (by decide) rfl ?_
          exact g_vret rfl dX7_puts_73 ⟨wr_eq, fun i hi => by rw [← hE, insF_f (by rw [hκx, hκ _ hv9]; exact c33), wr_ne (by omega)]; rcases (show i = k' + 1 ∨ i ≠ k' + 1 by omega) with rfl | e <;> first | (rw [uf_ne e, wr_ne (by omega)]; exact (hN_ i hi e).1) | (rw [uf_eq]; exact wr_eq), hF.tr ((FTu.wr (by omega)).tr (FTu.wr (by omega)))⟩
        · refine g_aload_n 37 1 dX7_puts_36 rfl rfl ?_
          refine g_geta 40 17 dX7_puts_37 rfl fX7_73 rfl (by decide) rfl rfl ?_
          refine g_iload_n 41 0 dX7_puts_40 rfl rfl ?_
          refine g_aload_n 42 1 dX7_puts_41 rfl rfl ?_
          refine g_geta 45 17 dX7_puts_42 rfl fX7_73 rfl (by decide) rfl rfl ?_
          refine g_iload_n 46 0 dX7_puts_45 rfl rfl ?_
          refine g_iconst 47 (nI 1) dX7_puts_46 rfl rfl ?_
          refine g_isub 48 (nI (k')) dX7_puts_47 rfl (nI_pred k') ?_
          refine g_iald 49 (nI (F (k'))) dX7_puts_48 rfl rfl (by decide) rfl (by decide) (by omega) (hN_ (k') (by omega) (by omega)).1 ?_
          refine g_iast 50 dX7_puts_49 rfl rfl (by decide) rfl (by decide) (by omega) ?_
          refine g_iinc 53 (nI (k')) [(3, .int (nI (k'))), (0, .ref (g 18 0)), (1, .int (nI x)), (2, .int (nI d))] dX7_puts_50 rfl 0 rfl (pk_m1 k') (by decide) rfl ?_
          refine g_goto 16 dX7_puts_53 rfl ?_
          exact ih16 k' rfl _ (uf F (k' + 1) (F k')) (fun i hi hne => by rcases (show i = k' + 1 ∨ i ≠ k' + 1 by omega) with rfl | e <;> first | (rw [uf_ne e, wr_ne (by omega)]; exact hN_ i hi e) | (rw [uf_eq]; exact ⟨wr_eq, hv9⟩)) (by rw [← hE, insF_t (by rw [hκx, hκ _ hv9]; exact c33)]) (hF.tr (FTu.wr (by omega))) (by rw [wr_ne (by omega)]; exact hcnt) (by omega)
    exact L16 n M f (fun i hi hne => hf i (by omega)) rfl FTu.rf hn (Nat.le_refl _)
  · refine g_aload_n 7 0 dX7_puts_6 rfl rfl ?_
    refine g_iload_n 8 2 dX7_puts_7 rfl rfl ?_
    refine g_put 11 dX7_puts_8 rfl fX7_234 pX7_26 rfl (by decide) rfl ?_
    refine g_aload_n 12 0 dX7_puts_11 rfl rfl ?_
    refine g_get 15 (nI n) dX7_puts_12 rfl fX7_221 rfl (by decide) rfl ((wr_ne (by omega)).trans hn) ?_
    refine g_istore_n 16 [(3, .int (nI n)), (0, .ref (g 18 0)), (1, .int (nI x)), (2, .int (nI d))] dX7_puts_15 rfl (by decide) rfl ?_
    have L16 : ∀ k, ∀ (N : Mm) (F : Nat → Nat), (∀ i, i < n + 1 → i ≠ k → N.1 18 17 i = nI (F i) ∧ F i < a 0 4) → insF κ x k F = insF κ x n f → FTu M N → N.1 18 0 24 = nI n → k ≤ n → G l D g ca md_X7_puts 16 [(3, .int (nI k)), (0, .ref (g 18 0)), (1, .int (nI x)), (2, .int (nI d))] [] N (Rv (fun M1 => M1.1 18 0 24 = nI (n + 1) ∧ (∀ i, i < n + 1 → M1.1 18 17 i = nI (insF κ x n f i)) ∧ FTu M M1)) := by
      refine downto ?_
      intro k ih16 N F hN_ hE hF hcnt hk
      have hN_N := hF.rm hN
      refine g_iload_n 17 0 dX7_puts_16 rfl rfl ?_
      refine g_ifN_le 56 20 dX7_puts_17 rfl rfl (by first | omega | (have := hI.ord (o := F k') (by omega); omega)) (fun c17 => ?_) (fun c17 => ?_)
      · refine g_aload_n 57 1 dX7_puts_56 rfl rfl ?_
        refine g_geta 60 17 dX7_puts_57 rfl fX7_73 rfl (by decide) rfl rfl ?_
        refine g_iload_n 61 0 dX7_puts_60 rfl rfl ?_
        refine g_iload_n 62 2 dX7_puts_61 rfl rfl ?_
        refine g_iast 63 dX7_puts_62 rfl rfl (by decide) rfl (by decide) (by omega) ?_
        refine g_aload_n 64 1 dX7_puts_63 rfl rfl ?_
        refine g_dup 65 dX7_puts_64 rfl rfl ?_
        refine g_get 68 (nI n) dX7_puts_65 rfl fX7_221 rfl (by decide) rfl ((wr_ne (by omega)).trans hcnt) ?_
        refine g_iconst 69 (nI 1) dX7_puts_68 rfl rfl ?_
        refine g_iadd 70 (nI (n + 1)) dX7_puts_69 rfl (nI_add n 1) ?_
        refine g_put 73 dX7_puts_70 rfl fX7_221 pX7_24 rfl (by decide) rfl ?_
        subst c17
        exact g_vret rfl dX7_puts_73 ⟨wr_eq, fun i hi => by rw [← hE, insF_0, wr_ne (by omega)]; rcases (show i = 0 ∨ i ≠ 0 by omega) with rfl | e <;> first | (rw [uf_ne e, wr_ne (by omega)]; exact (hN_ i hi e).1) | (rw [uf_eq]; exact wr_eq), hF.tr ((FTu.wr (by omega)).tr (FTu.wr (by omega)))⟩
      · obtain ⟨k', rfl⟩ : ∃ k', k = k' + 1 := ⟨k - 1, by omega⟩
        have hv9 := (hN_ k' (by omega) (by omega)).2
        refine g_aload_n 21 1 dX7_puts_20 rfl rfl ?_
        refine g_aload_n 22 1 dX7_puts_21 rfl rfl ?_
        refine g_geta 25 17 dX7_puts_22 rfl fX7_73 rfl (by decide) rfl rfl ?_
        refine g_iload_n 26 0 dX7_puts_25 rfl rfl ?_
        refine g_iconst 27 (nI 1) dX7_puts_26 rfl rfl ?_
        refine g_isub 28 (nI (k')) dX7_puts_27 rfl (nI_pred k') ?_
        refine g_iald 29 (nI (F (k'))) dX7_puts_28 rfl rfl (by decide) rfl (by decide) (by omega) (hN_ (k') (by omega) (by omega)).1 ?_
        refine g_callVi 32 md_X7_dayOf [.int (nI (F (k')))] [] dX7_puts_29 rfl e_X7_puts_237 rfl (by decide) rfl rfl (Nat.le_of_ble_eq_true rfl) (c_X7_dayOf hN_N hI (F k') hv9) (fun r29 M29 h29 => ?_)
        obtain ⟨rfl, h29⟩ := h29
        have h29 := h29.symm
        subst h29
        refine g_iload_n 33 3 dX7_puts_32 rfl rfl ?_
        refine g_icmpN_le 56 36 dX7_puts_33 rfl rfl (by first | omega | (have := hI.ord (o := F k') (by omega); omega)) (by first | omega | (have := hI.ord (o := F k') (by omega); omega)) (fun c33 => ?_) (fun c33 => ?_)
        · refine g_aload_n 57 1 dX7_puts_56 rfl rfl ?_
          refine g_geta 60 17 dX7_puts_57 rfl fX7_73 rfl (by decide) rfl rfl ?_
          refine g_iload_n 61 0 dX7_puts_60 rfl rfl ?_
          refine g_iload_n 62 2 dX7_puts_61 rfl rfl ?_
          refine g_iast 63 dX7_puts_62 rfl rfl (by decide) rfl (by decide) (by omega) ?_
          refine g_aload_n 64 1 dX7_puts_63 rfl rfl ?_
          refine g_dup 65 dX7_puts_64 rfl rfl ?_
          refine g_get 68 (nI n) dX7_puts_65 rfl fX7_221 rfl (by decide) rfl ((wr_ne (by omega)).trans hcnt) ?_
          refine g_iconst 69 (nI 1) dX7_puts_68 rfl rfl ?_
          refine g_iadd 70 (nI (n + 1)) dX7_puts_69 rfl (nI_add n 1) ?_
          refine g_put 73 dX7_puts_70 rfl fX7_221 pX7_24 rfl (by decide) rfl ?_
          exact g_vret rfl dX7_puts_73 ⟨wr_eq, fun i hi => by rw [← hE, insF_f (by rw [hκx, hκ _ hv9]; exact c33), wr_ne (by omega)]; rcases (show i = k' + 1 ∨ i ≠ k' + 1 by omega) with rfl | e <;> first | (rw [uf_ne e, wr_ne (by omega)]; exact (hN_ i hi e).1) | (rw [uf_eq]; exact wr_eq), hF.tr ((FTu.wr (by omega)).tr (FTu.wr (by omega)))⟩
        · refine g_aload_n 37 1 dX7_puts_36 rfl rfl ?_
          refine g_geta 40 17 dX7_puts_37 rfl fX7_73 rfl (by decide) rfl rfl ?_
          refine g_iload_n 41 0 dX7_puts_40 rfl rfl ?_
          refine g_aload_n 42 1 dX7_puts_41 rfl rfl ?_
          refine g_geta 45 17 dX7_puts_42 rfl fX7_73 rfl (by decide) rfl rfl ?_
          refine g_iload_n 46 0 dX7_puts_45 rfl rfl ?_
          refine g_iconst 47 (nI 1) dX7_puts_46 rfl rfl ?_
          refine g_isub 48 (nI (k')) dX7_puts_47 rfl (nI_pred k') ?_
          refine g_iald 49 (nI (F (k'))) dX7_puts_48 rfl rfl (by decide) rfl (by decide) (by omega) (hN_ (k') (by omega) (by omega)).1 ?_
          refine g_iast 50 dX7_puts_49 rfl rfl (by decide) rfl (by decide) (by omega) ?_
          refine g_iinc 53 (nI (k')) [(3, .int (nI (k'))), (0, .ref (g 18 0)), (1, .int (nI x)), (2, .int (nI d))] dX7_puts_50 rfl 0 rfl (pk_m1 k') (by decide) rfl ?_
          refine g_goto 16 dX7_puts_53 rfl ?_
          exact ih16 k' rfl _ (uf F (k' + 1) (F k')) (fun i hi hne => by rcases (show i = k' + 1 ∨ i ≠ k' + 1 by omega) with rfl | e <;> first | (rw [uf_ne e, wr_ne (by omega)]; exact hN_ i hi e) | (rw [uf_eq]; exact ⟨wr_eq, hv9⟩)) (by rw [← hE, insF_t (by rw [hκx, hκ _ hv9]; exact c33)]) (hF.tr (FTu.wr (by omega))) (by rw [wr_ne (by omega)]; exact hcnt) (by omega)
    exact L16 n _ f (fun i hi hne => by rw [wr_ne (by omega)]; exact hf i (by omega)) rfl (FTu.wr (by omega)) (by rw [wr_ne (by omega)]; exact hn) (Nat.le_refl _)

set_option maxHeartbeats 4000000 in
set_option maxRecDepth 100000 in
theorem c_X7_putsLot {l : Launch} {D : va_G} {g : Nat → Nat → Nat} {ca : Nat → ClassId} {M : Mm} {a : Sa} (hN : RM (M.1 18 12) a) (hI : Iv a) {n : Nat} {f κ : Nat → Nat} (hn : M.1 18 0 25 = nI n) (hf : ∀ i, i < n → M.1 18 18 i = nI (f i) ∧ f i < a 0 3) (hcap : n < 24) (x : Nat) (hx : x < a 0 3) (hκ : κ = a 11) : Ct l D g ca md_X7_putsLot [.ref (g 18 0), .int (nI x)] M (Rv (fun M1 => M1.1 18 0 25 = nI (n + 1) ∧ (∀ i, i < n + 1 → M1.1 18 18 i = nI (insF κ x n f i)) ∧ FAg M M1)) := by
  refine Ct.of (by decide) rfl (Nat.le_of_ble_eq_true rfl) ?_
  have b0 := hI.today
  have b1 := hI.g4
  have b1' := hI.g1
  have b2 := hN.c6
  have b3 := hN.l24
  have b4 := hN.o40
  show G l D g ca md_X7_putsLot 0 [(0, .ref (g 18 0)), (1, .int (nI x))] [] M _
  refine g_aload_n 1 0 dX7_putsLot_0 rfl rfl ?_
  refine g_get 4 (nI n) dX7_putsLot_1 rfl fX7_224 rfl (by decide) rfl hn ?_
  refine g_istore_n 5 [(2, .int (nI n)), (0, .ref (g 18 0)), (1, .int (nI x))] dX7_putsLot_4 rfl (by decide) rfl ?_
  have L5 : ∀ k, ∀ (N : Mm) (F : Nat → Nat), (∀ i, i < n + 1 → i ≠ k → N.1 18 18 i = nI (F i) ∧ F i < a 0 3) → insF κ x k F = insF κ x n f → FAg M N → N.1 18 0 25 = nI n → k ≤ n → G l D g ca md_X7_putsLot 5 [(2, .int (nI k)), (0, .ref (g 18 0)), (1, .int (nI x))] [] N (Rv (fun M1 => M1.1 18 0 25 = nI (n + 1) ∧ (∀ i, i < n + 1 → M1.1 18 18 i = nI (insF κ x n f i)) ∧ FAg M M1)) := by
    refine downto ?_
    intro k ih5 N F hN_ hE hF hcnt hk
    have hN_N := hF.rm hN
    refine g_iload_n 6 0 dX7_putsLot_5 rfl rfl ?_
    refine g_ifN_le 51 9 dX7_putsLot_6 rfl rfl (by first | omega | (have := hI.lot (l := F k') (by omega); have := hI.lot (l := x) (by omega); omega)) (fun c6 => ?_) (fun c6 => ?_)
    · refine g_aload_n 52 1 dX7_putsLot_51 rfl rfl ?_
      refine g_geta 55 18 dX7_putsLot_52 rfl fX7_76 rfl (by decide) rfl rfl ?_
      refine g_iload_n 56 0 dX7_putsLot_55 rfl rfl ?_
      refine g_iload_n 57 2 dX7_putsLot_56 rfl rfl ?_
      refine g_iast 58 dX7_putsLot_57 rfl rfl (by decide) rfl (by decide) (by omega) ?_
      refine g_aload_n 59 1 dX7_putsLot_58 rfl rfl ?_
      refine g_dup 60 dX7_putsLot_59 rfl rfl ?_
      refine g_get 63 (nI n) dX7_putsLot_60 rfl fX7_224 rfl (by decide) rfl ((wr_ne (by omega)).trans hcnt) ?_
      refine g_iconst 64 (nI 1) dX7_putsLot_63 rfl rfl ?_
      refine g_iadd 65 (nI (n + 1)) dX7_putsLot_64 rfl (nI_add n 1) ?_
      refine g_put 68 dX7_putsLot_65 rfl fX7_224 pX7_25 rfl (by decide) rfl ?_
      subst c6
      exact g_vret rfl dX7_putsLot_68 ⟨wr_eq, fun i hi => by rw [← hE, insF_0, wr_ne (by omega)]; rcases (show i = 0 ∨ i ≠ 0 by omega) with rfl | e <;> first | (rw [uf_ne e, wr_ne (by omega)]; exact (hN_ i hi e).1) | (rw [uf_eq]; exact wr_eq), hF.tr ((FAg.wr (by omega)).tr (FAg.wr (by omega)))⟩
    · obtain ⟨k', rfl⟩ : ∃ k', k = k' + 1 := ⟨k - 1, by omega⟩
      have hv9 := (hN_ k' (by omega) (by omega)).2
      refine g_aload_n 10 1 dX7_putsLot_9 rfl rfl ?_
      refine g_aload_n 11 1 dX7_putsLot_10 rfl rfl ?_
      refine g_geta 14 18 dX7_putsLot_11 rfl fX7_76 rfl (by decide) rfl rfl ?_
      refine g_iload_n 15 0 dX7_putsLot_14 rfl rfl ?_
      refine g_iconst 16 (nI 1) dX7_putsLot_15 rfl rfl ?_
      refine g_isub 17 (nI (k')) dX7_putsLot_16 rfl (nI_pred k') ?_
      refine g_iald 18 (nI (F (k'))) dX7_putsLot_17 rfl rfl (by decide) rfl (by decide) (by omega) (hN_ (k') (by omega) (by omega)).1 ?_
      refine g_iconst 19 (nI 1) dX7_putsLot_18 rfl rfl ?_
      refine g_callVi 22 md_X7_lies [.int (nI (F (k'))), .int (nI 1)] [] dX7_putsLot_19 rfl e_X7_putsLot_176 rfl (by decide) rfl rfl (Nat.le_of_ble_eq_true rfl) (c_X7_lies hN_N hI (F (k')) 1 11 (by omega) (by decide) rfl) (fun r19 M19 h19 => ?_)
      obtain ⟨rfl, h19⟩ := h19
      have h19 := h19.symm
      subst h19
      refine g_aload_n 23 1 dX7_putsLot_22 rfl rfl ?_
      refine g_iload_n 24 2 dX7_putsLot_23 rfl rfl ?_
      refine g_iconst 25 (nI 1) dX7_putsLot_24 rfl rfl ?_
      refine g_callVi 28 md_X7_lies [.int (nI x), .int (nI 1)] [.int (nI (a 11 (F (k'))))] dX7_putsLot_25 rfl e_X7_putsLot_176 rfl (by decide) rfl rfl (Nat.le_of_ble_eq_true rfl) (c_X7_lies hN_N hI x 1 11 (by omega) (by decide) rfl) (fun r25 M25 h25 => ?_)
      obtain ⟨rfl, h25⟩ := h25
      have h25 := h25.symm
      subst h25
      refine g_icmpN_le 51 31 dX7_putsLot_28 rfl rfl (by first | omega | (have := hI.lot (l := F k') (by omega); have := hI.lot (l := x) (by omega); omega)) (by first | omega | (have := hI.lot (l := F k') (by omega); have := hI.lot (l := x) (by omega); omega)) (fun c28 => ?_) (fun c28 => ?_)
      · refine g_aload_n 52 1 dX7_putsLot_51 rfl rfl ?_
        refine g_geta 55 18 dX7_putsLot_52 rfl fX7_76 rfl (by decide) rfl rfl ?_
        refine g_iload_n 56 0 dX7_putsLot_55 rfl rfl ?_
        refine g_iload_n 57 2 dX7_putsLot_56 rfl rfl ?_
        refine g_iast 58 dX7_putsLot_57 rfl rfl (by decide) rfl (by decide) (by omega) ?_
        refine g_aload_n 59 1 dX7_putsLot_58 rfl rfl ?_
        refine g_dup 60 dX7_putsLot_59 rfl rfl ?_
        refine g_get 63 (nI n) dX7_putsLot_60 rfl fX7_224 rfl (by decide) rfl ((wr_ne (by omega)).trans hcnt) ?_
        refine g_iconst 64 (nI 1) dX7_putsLot_63 rfl rfl ?_
        refine g_iadd 65 (nI (n + 1)) dX7_putsLot_64 rfl (nI_add n 1) ?_
        refine g_put 68 dX7_putsLot_65 rfl fX7_224 pX7_25 rfl (by decide) rfl ?_
        exact g_vret rfl dX7_putsLot_68 ⟨wr_eq, fun i hi => by rw [← hE, insF_f (by rw [hκ]; exact c28), wr_ne (by omega)]; rcases (show i = k' + 1 ∨ i ≠ k' + 1 by omega) with rfl | e <;> first | (rw [uf_ne e, wr_ne (by omega)]; exact (hN_ i hi e).1) | (rw [uf_eq]; exact wr_eq), hF.tr ((FAg.wr (by omega)).tr (FAg.wr (by omega)))⟩
      · refine g_aload_n 32 1 dX7_putsLot_31 rfl rfl ?_
        refine g_geta 35 18 dX7_putsLot_32 rfl fX7_76 rfl (by decide) rfl rfl ?_
        refine g_iload_n 36 0 dX7_putsLot_35 rfl rfl ?_
        refine g_aload_n 37 1 dX7_putsLot_36 rfl rfl ?_
        refine g_geta 40 18 dX7_putsLot_37 rfl fX7_76 rfl (by decide) rfl rfl ?_
        refine g_iload_n 41 0 dX7_putsLot_40 rfl rfl ?_
        refine g_iconst 42 (nI 1) dX7_putsLot_41 rfl rfl ?_
        refine g_isub 43 (nI (k')) dX7_putsLot_42 rfl (nI_pred k') ?_
        refine g_iald 44 (nI (F (k'))) dX7_putsLot_43 rfl rfl (by decide) rfl (by decide) (by omega) (hN_ (k') (by omega) (by omega)).1 ?_
        refine g_iast 45 dX7_putsLot_44 rfl rfl (by decide) rfl (by decide) (by omega) ?_
        refine g_iinc 48 (nI (k')) [(2, .int (nI (k'))), (0, .ref (g 18 0)), (1, .int (nI x))] dX7_putsLot_45 rfl 0 rfl (pk_m1 k') (by decide) rfl ?_
        refine g_goto 5 dX7_putsLot_48 rfl ?_
        exact ih5 k' rfl _ (uf F (k' + 1) (F k')) (fun i hi hne => by rcases (show i = k' + 1 ∨ i ≠ k' + 1 by omega) with rfl | e <;> first | (rw [uf_ne e, wr_ne (by omega)]; exact hN_ i hi e) | (rw [uf_eq]; exact ⟨wr_eq, hv9⟩)) (by rw [← hE, insF_t (by rw [hκ]; exact c28)]) (hF.tr (FAg.wr (by omega))) (by rw [wr_ne (by omega)]; exact hcnt) (by omega)
  exact L5 n M f (fun i hi hne => hf i (by omega)) rfl FAg.rf hn (Nat.le_refl _)
