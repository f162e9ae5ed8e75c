set_option maxHeartbeats 4000000 in
set_option maxRecDepth 100000 in
theorem c_X1_insertLot {l : Launch} {D : va_G} {g : Nat → Nat → Nat} {ca : Nat → ClassId} {M : Mm} {o n x : Nat} {a : Sa} {f : Nat → Nat} (hko : kd o = 2) (hS : RP (M.1 o) a) (hI : Iv a) (hst : M.1 16 0 0 = nI o) (hn : M.1 16 0 1 = nI n) (hf : ∀ i, i < n → M.1 16 4 i = nI (f i) ∧ f i < a 0 3) (hx : x < a 0 3) (hcap : n < 24) : Ct l D g ca md_X1_insertLot [.ref (g 16 0), .int (nI x)] M (Rv (fun M1 => M1.1 16 0 1 = nI (n + 1) ∧ (∀ i, i < n + 1 → M1.1 16 4 i = nI (insF (a 11) x n f i) ∧ insF (a 11) x n f i < a 0 3) ∧ FL M M1)) := by
  refine Ct.of (by decide) rfl (Nat.le_of_ble_eq_true rfl) ?_
  have b3 := hS.l24
  have b4 := hS.o41
  have ho12 := kd_2 hko
  show G l D g ca md_X1_insertLot 0 [(0, .ref (g 16 0)), (1, .int (nI x))] [] M _
  refine g_aload_n 1 0 dX1_insertLot_0 rfl rfl ?_
  refine g_get 4 (nI n) dX1_insertLot_1 rfl fX1_46 rfl (by decide) rfl hn ?_
  refine g_istore_n 5 [(2, .int (nI n)), (0, .ref (g 16 0)), (1, .int (nI x))] dX1_insertLot_4 rfl (by decide) rfl ?_
  have L5 : ∀ k, ∀ (N : Mm) (F : Nat → Nat), (∀ i, i < n + 1 → i ≠ k → N.1 16 4 i = nI (F i) ∧ F i < a 0 3) → insF (a 11) x k F = insF (a 11) x n f → FL M N → N.1 16 0 1 = nI n → k ≤ n → G l D g ca md_X1_insertLot 5 [(2, .int (nI k)), (0, .ref (g 16 0)), (1, .int (nI x))] [] N (Rv (fun M1 => M1.1 16 0 1 = nI (n + 1) ∧ (∀ i, i < n + 1 → M1.1 16 4 i = nI (insF (a 11) x n f i) ∧ insF (a 11) x n f i < a 0 3) ∧ FL M M1)) := by
    refine downto ?_
    intro k ih5 N F hN hE hF hcnt hk
    have hNo := fun c i => hF.1 o c i (by omega)
    have hst2 : N.1 16 0 0 = nI o := (hF.1 16 0 0 (by omega)).trans hst
    refine g_iload_n 6 0 dX1_insertLot_5 rfl rfl ?_
    refine g_ifN_le 57 9 dX1_insertLot_6 rfl rfl (by first | omega | (have := hI.lot (l := x) (by omega); omega) | (have := hI.ord (o := x) (by omega); omega) | (have := hI.lot (l := F k') (by omega); omega) | (have := hI.ord (o := F k') (by omega); omega)) (fun c6 => ?_) (fun c6 => ?_)
    · refine g_aload_n 58 1 dX1_insertLot_57 rfl rfl ?_
      refine g_geta 61 4 dX1_insertLot_58 rfl fX1_9 rfl (by decide) rfl rfl ?_
      refine g_iload_n 62 0 dX1_insertLot_61 rfl rfl ?_
      refine g_iload_n 63 2 dX1_insertLot_62 rfl rfl ?_
      refine g_iast 64 dX1_insertLot_63 rfl rfl (by decide) rfl (by decide) (by omega) ?_
      refine g_aload_n 65 1 dX1_insertLot_64 rfl rfl ?_
      refine g_dup 66 dX1_insertLot_65 rfl rfl ?_
      refine g_get 69 (nI n) dX1_insertLot_66 rfl fX1_46 rfl (by decide) rfl ((wr_ne (by omega)).trans hcnt) ?_
      refine g_iconst 70 (nI 1) dX1_insertLot_69 rfl rfl ?_
      refine g_iadd 71 (nI (n + 1)) dX1_insertLot_70 rfl (nI_add n 1) ?_
      refine g_put 74 dX1_insertLot_71 rfl fX1_46 pX1_1 rfl (by decide) rfl ?_
      subst c6
      exact g_vret rfl dX1_insertLot_74 ⟨wr_eq, fun i hi => by rw [← hE, insF_0, wr_ne (by omega)]; rcases (show i = 0 ∨ i ≠ 0 by omega) with rfl | e <;> first | (rw [uf_ne e, wr_ne (by omega)]; exact hN i hi e) | (rw [uf_eq]; exact ⟨wr_eq, hx⟩), hF.tr ((FL.wr (by omega)).tr (FL.wr (by omega)))⟩
    · obtain ⟨k', rfl⟩ : ∃ k', k = k' + 1 := ⟨k - 1, by omega⟩
      have hv9 := (hN k' (by omega) (by omega)).2
      refine g_aload_n 10 1 dX1_insertLot_9 rfl rfl ?_
      refine g_gets 13 o dX1_insertLot_10 rfl fX1_24 rfl (by decide) rfl hst2 (by omega) ?_
      refine g_geta 16 11 dX1_insertLot_13 rfl fX1_53 hko (by decide) rfl rfl ?_
      refine g_aload_n 17 1 dX1_insertLot_16 rfl rfl ?_
      refine g_geta 20 4 dX1_insertLot_17 rfl fX1_9 rfl (by decide) rfl rfl ?_
      refine g_iload_n 21 0 dX1_insertLot_20 rfl rfl ?_
      refine g_iconst 22 (nI 1) dX1_insertLot_21 rfl rfl ?_
      refine g_isub 23 (nI (k')) dX1_insertLot_22 rfl (nI_pred k') ?_
      refine g_iald 24 (nI (F (k'))) dX1_insertLot_23 rfl rfl (by decide) rfl (by decide) (by omega) (hN (k') (by omega) (by omega)).1 ?_
      refine g_iald 25 (nI (a 11 (F (k')))) dX1_insertLot_24 rfl hko (by decide) rfl (by decide) (by omega) ((hNo _ _).trans (hS.lot (by decide) (by decide) (by first | omega | exact (hN k' (by omega) (by omega)).2))) ?_
      refine g_aload_n 26 1 dX1_insertLot_25 rfl rfl ?_
      refine g_gets 29 o dX1_insertLot_26 rfl fX1_24 rfl (by decide) rfl hst2 (by omega) ?_
      refine g_geta 32 11 dX1_insertLot_29 rfl fX1_53 hko (by decide) rfl rfl ?_
      refine g_iload_n 33 2 dX1_insertLot_32 rfl rfl ?_
      refine g_iald 34 (nI (a 11 x)) dX1_insertLot_33 rfl hko (by decide) rfl (by decide) (by omega) ((hNo _ _).trans (hS.lot (by decide) (by decide) (by first | omega | exact (hN k' (by omega) (by omega)).2))) ?_
      refine g_icmpN_le 57 37 dX1_insertLot_34 rfl rfl (by first | omega | (have := hI.lot (l := x) (by omega); omega) | (have := hI.ord (o := x) (by omega); omega) | (have := hI.lot (l := F k') (by omega); omega) | (have := hI.ord (o := F k') (by omega); omega)) (by first | omega | (have := hI.lot (l := x) (by omega); omega) | (have := hI.ord (o := x) (by omega); omega) | (have := hI.lot (l := F k') (by omega); omega) | (have := hI.ord (o := F k') (by omega); omega)) (fun c34 => ?_) (fun c34 => ?_)
      · refine g_aload_n 58 1 dX1_insertLot_57 rfl rfl ?_
        refine g_geta 61 4 dX1_insertLot_58 rfl fX1_9 rfl (by decide) rfl rfl ?_
        refine g_iload_n 62 0 dX1_insertLot_61 rfl rfl ?_
        refine g_iload_n 63 2 dX1_insertLot_62 rfl rfl ?_
        refine g_iast 64 dX1_insertLot_63 rfl rfl (by decide) rfl (by decide) (by omega) ?_
        refine g_aload_n 65 1 dX1_insertLot_64 rfl rfl ?_
        refine g_dup 66 dX1_insertLot_65 rfl rfl ?_
        refine g_get 69 (nI n) dX1_insertLot_66 rfl fX1_46 rfl (by decide) rfl ((wr_ne (by omega)).trans hcnt) ?_
        refine g_iconst 70 (nI 1) dX1_insertLot_69 rfl rfl ?_
        refine g_iadd 71 (nI (n + 1)) dX1_insertLot_70 rfl (nI_add n 1) ?_
        refine g_put 74 dX1_insertLot_71 rfl fX1_46 pX1_1 rfl (by decide) rfl ?_
        exact g_vret rfl dX1_insertLot_74 ⟨wr_eq, fun i hi => by rw [← hE, insF_f c34, wr_ne (by omega)]; rcases (show i = k' + 1 ∨ i ≠ k' + 1 by omega) with rfl | e <;> first | (rw [uf_ne e, wr_ne (by omega)]; exact hN i hi e) | (rw [uf_eq]; exact ⟨wr_eq, hx⟩), hF.tr ((FL.wr (by omega)).tr (FL.wr (by omega)))⟩
      · refine g_aload_n 38 1 dX1_insertLot_37 rfl rfl ?_
        refine g_geta 41 4 dX1_insertLot_38 rfl fX1_9 rfl (by decide) rfl rfl ?_
        refine g_iload_n 42 0 dX1_insertLot_41 rfl rfl ?_
        refine g_aload_n 43 1 dX1_insertLot_42 rfl rfl ?_
        refine g_geta 46 4 dX1_insertLot_43 rfl fX1_9 rfl (by decide) rfl rfl ?_
        refine g_iload_n 47 0 dX1_insertLot_46 rfl rfl ?_
        refine g_iconst 48 (nI 1) dX1_insertLot_47 rfl rfl ?_
        refine g_isub 49 (nI (k')) dX1_insertLot_48 rfl (nI_pred k') ?_
        refine g_iald 50 (nI (F (k'))) dX1_insertLot_49 rfl rfl (by decide) rfl (by decide) (by omega) (hN (k') (by omega) (by omega)).1 ?_
        refine g_iast 51 dX1_insertLot_50 rfl rfl (by decide) rfl (by decide) (by omega) ?_
        refine g_iinc 54 (nI (k')) [(2, .int (nI (k'))), (0, .ref (g 16 0)), (1, .int (nI x))] dX1_insertLot_51 rfl 0 rfl (pk_m1 k') (by decide) rfl ?_
        refine g_goto 5 dX1_insertLot_54 rfl ?_
        exact ih5 k' rfl _ (uf F (k' + 1) (F k')) (fun i hi hne => by rcases (show i = k' + 1 ∨ i ≠ k' + 1 by omega) with rfl | e <;> first | (rw [uf_ne e, wr_ne (by omega)]; exact hN i hi e) | (rw [uf_eq]; exact ⟨wr_eq, hv9⟩)) (by rw [← hE, insF_t c34]) (hF.tr (FL.wr (by omega))) (by rw [wr_ne (by omega)]; exact hcnt) (by omega)
  exact L5 n M f (fun i hi hne => hf i (by omega)) rfl FL.rf hn (Nat.le_refl _)

set_option maxHeartbeats 4000000 in
set_option maxRecDepth 100000 in
theorem c_X1_insertOrder {l : Launch} {D : va_G} {g : Nat → Nat → Nat} {ca : Nat → ClassId} {M : Mm} {o n x : Nat} {a : Sa} {f : Nat → Nat} (hko : kd o = 2) (hS : RP (M.1 o) a) (hI : Iv a) (hst : M.1 16 0 0 = nI o) (hn : M.1 16 0 2 = nI n) (hf : ∀ i, i < n → M.1 16 6 i = nI (f i) ∧ f i < a 0 4) (hx : x < a 0 4) (hcap : n < 6) : Ct l D g ca md_X1_insertOrder [.ref (g 16 0), .int (nI x)] M (Rv (fun M1 => M1.1 16 0 2 = nI (n + 1) ∧ (∀ i, i < n + 1 → M1.1 16 6 i = nI (insF (a 17) x n f i) ∧ insF (a 17) x n f i < a 0 4) ∧ FT M M1)) := by
  refine Ct.of (by decide) rfl (Nat.le_of_ble_eq_true rfl) ?_
  have b3 := hS.l24
  have b4 := hS.o41
  have ho12 := kd_2 hko
  show G l D g ca md_X1_insertOrder 0 [(0, .ref (g 16 0)), (1, .int (nI x))] [] M _
  refine g_aload_n 1 0 dX1_insertOrder_0 rfl rfl ?_
  refine g_get 4 (nI n) dX1_insertOrder_1 rfl fX1_35 rfl (by decide) rfl hn ?_
  refine g_istore_n 5 [(2, .int (nI n)), (0, .ref (g 16 0)), (1, .int (nI x))] dX1_insertOrder_4 rfl (by decide) rfl ?_
  have L5 : ∀ k, ∀ (N : Mm) (F : Nat → Nat), (∀ i, i < n + 1 → i ≠ k → N.1 16 6 i = nI (F i) ∧ F i < a 0 4) → insF (a 17) x k F = insF (a 17) x n f → FT M N → N.1 16 0 2 = nI n → k ≤ n → G l D g ca md_X1_insertOrder 5 [(2, .int (nI k)), (0, .ref (g 16 0)), (1, .int (nI x))] [] N (Rv (fun M1 => M1.1 16 0 2 = nI (n + 1) ∧ (∀ i, i < n + 1 → M1.1 16 6 i = nI (insF (a 17) x n f i) ∧ insF (a 17) x n f i < a 0 4) ∧ FT M M1)) := by
    refine downto ?_
    intro k ih5 N F hN hE hF hcnt hk
    have hNo := fun c i => hF.1 o c i (by omega)
    have hst2 : N.1 16 0 0 = nI o := (hF.1 16 0 0 (by omega)).trans hst
    refine g_iload_n 6 0 dX1_insertOrder_5 rfl rfl ?_
    refine g_ifN_le 57 9 dX1_insertOrder_6 rfl rfl (by first | omega | (have := hI.lot (l := x) (by omega); omega) | (have := hI.ord (o := x) (by omega); omega) | (have := hI.lot (l := F k') (by omega); omega) | (have := hI.ord (o := F k') (by omega); omega)) (fun c6 => ?_) (fun c6 => ?_)
    · refine g_aload_n 58 1 dX1_insertOrder_57 rfl rfl ?_
      refine g_geta 61 6 dX1_insertOrder_58 rfl fX1_18 rfl (by decide) rfl rfl ?_
      refine g_iload_n 62 0 dX1_insertOrder_61 rfl rfl ?_
      refine g_iload_n 63 2 dX1_insertOrder_62 rfl rfl ?_
      refine g_iast 64 dX1_insertOrder_63 rfl rfl (by decide) rfl (by decide) (by omega) ?_
      refine g_aload_n 65 1 dX1_insertOrder_64 rfl rfl ?_
      refine g_dup 66 dX1_insertOrder_65 rfl rfl ?_
      refine g_get 69 (nI n) dX1_insertOrder_66 rfl fX1_35 rfl (by decide) rfl ((wr_ne (by omega)).trans hcnt) ?_
      refine g_iconst 70 (nI 1) dX1_insertOrder_69 rfl rfl ?_
      refine g_iadd 71 (nI (n + 1)) dX1_insertOrder_70 rfl (nI_add n 1) ?_
      refine g_put 74 dX1_insertOrder_71 rfl fX1_35 pX1_2 rfl (by decide) rfl ?_
      subst c6
      exact g_vret rfl dX1_insertOrder_74 ⟨wr_eq, fun i hi => by rw [← hE, insF_0, wr_ne (by omega)]; rcases (show i = 0 ∨ i ≠ 0 by omega) with rfl | e <;> first | (rw [uf_ne e, wr_ne (by omega)]; exact hN i hi e) | (rw [uf_eq]; exact ⟨wr_eq, hx⟩), hF.tr ((FT.wr (by omega)).tr (FT.wr (by omega)))⟩
    · obtain ⟨k', rfl⟩ : ∃ k', k = k' + 1 := ⟨k - 1, by omega⟩
      have hv9 := (hN k' (by omega) (by omega)).2
      refine g_aload_n 10 1 dX1_insertOrder_9 rfl rfl ?_
      refine g_gets 13 o dX1_insertOrder_10 rfl fX1_24 rfl (by decide) rfl hst2 (by omega) ?_
      refine g_geta 16 17 dX1_insertOrder_13 rfl fX1_91 hko (by decide) rfl rfl ?_
      refine g_aload_n 17 1 dX1_insertOrder_16 rfl rfl ?_
      refine g_geta 20 6 dX1_insertOrder_17 rfl fX1_18 rfl (by decide) rfl rfl ?_
      refine g_iload_n 21 0 dX1_insertOrder_20 rfl rfl ?_
      refine g_iconst 22 (nI 1) dX1_insertOrder_21 rfl rfl ?_
      refine g_isub 23 (nI (k')) dX1_insertOrder_22 rfl (nI_pred k') ?_
      refine g_iald 24 (nI (F (k'))) dX1_insertOrder_23 rfl rfl (by decide) rfl (by decide) (by omega) (hN (k') (by omega) (by omega)).1 ?_
      refine g_iald 25 (nI (a 17 (F (k')))) dX1_insertOrder_24 rfl hko (by decide) rfl (by decide) (by omega) ((hNo _ _).trans (hS.ord (by decide) (by decide) (by first | omega | exact (hN k' (by omega) (by omega)).2))) ?_
      refine g_aload_n 26 1 dX1_insertOrder_25 rfl rfl ?_
      refine g_gets 29 o dX1_insertOrder_26 rfl fX1_24 rfl (by decide) rfl hst2 (by omega) ?_
      refine g_geta 32 17 dX1_insertOrder_29 rfl fX1_91 hko (by decide) rfl rfl ?_
      refine g_iload_n 33 2 dX1_insertOrder_32 rfl rfl ?_
      refine g_iald 34 (nI (a 17 x)) dX1_insertOrder_33 rfl hko (by decide) rfl (by decide) (by omega) ((hNo _ _).trans (hS.ord (by decide) (by decide) (by first | omega | exact (hN k' (by omega) (by omega)).2))) ?_
      refine g_icmpN_le 57 37 dX1_insertOrder_34 rfl rfl (by first | omega | (have := hI.lot (l := x) (by omega); omega) | (have := hI.ord (o := x) (by omega); omega) | (have := hI.lot (l := F k') (by omega); omega) | (have := hI.ord (o := F k') (by omega); omega)) (by first | omega | (have := hI.lot (l := x) (by omega); omega) | (have := hI.ord (o := x) (by omega); omega) | (have := hI.lot (l := F k') (by omega); omega) | (have := hI.ord (o := F k') (by omega); omega)) (fun c34 => ?_) (fun c34 => ?_)
      · refine g_aload_n 58 1 dX1_insertOrder_57 rfl rfl ?_
        refine g_geta 61 6 dX1_insertOrder_58 rfl fX1_18 rfl (by decide) rfl rfl ?_
        refine g_iload_n 62 0 dX1_insertOrder_61 rfl rfl ?_
        refine g_iload_n 63 2 dX1_insertOrder_62 rfl rfl ?_
        refine g_iast 64 dX1_insertOrder_63 rfl rfl (by decide) rfl (by decide) (by omega) ?_
        refine g_aload_n 65 1 dX1_insertOrder_64 rfl rfl ?_
        refine g_dup 66 dX1_insertOrder_65 rfl rfl ?_
        refine g_get 69 (nI n) dX1_insertOrder_66 rfl fX1_35 rfl (by decide) rfl ((wr_ne (by omega)).trans hcnt) ?_
        refine g_iconst 70 (nI 1) dX1_insertOrder_69 rfl rfl ?_
        refine g_iadd 71 (nI (n + 1)) dX1_insertOrder_70 rfl (nI_add n 1) ?_
        refine g_put 74 dX1_insertOrder_71 rfl fX1_35 pX1_2 rfl (by decide) rfl ?_
        exact g_vret rfl dX1_insertOrder_74 ⟨wr_eq, fun i hi => by rw [← hE, insF_f c34, wr_ne (by omega)]; rcases (show i = k' + 1 ∨ i ≠ k' + 1 by omega) with rfl | e <;> first | (rw [uf_ne e, wr_ne (by omega)]; exact hN i hi e) | (rw [uf_eq]; exact ⟨wr_eq, hx⟩), hF.tr ((FT.wr (by omega)).tr (FT.wr (by omega)))⟩
      · refine g_aload_n 38 1 dX1_insertOrder_37 rfl rfl ?_
        refine g_geta 41 6 dX1_insertOrder_38 rfl fX1_18 rfl (by decide) rfl rfl ?_
        refine g_iload_n 42 0 dX1_insertOrder_41 rfl rfl ?_
        refine g_aload_n 43 1 dX1_insertOrder_42 rfl rfl ?_
        refine g_geta 46 6 dX1_insertOrder_43 rfl fX1_18 rfl (by decide) rfl rfl ?_
        refine g_iload_n 47 0 dX1_insertOrder_46 rfl rfl ?_
        refine g_iconst 48 (nI 1) dX1_insertOrder_47 rfl rfl ?_
        refine g_isub 49 (nI (k')) dX1_insertOrder_48 rfl (nI_pred k') ?_
        refine g_iald 50 (nI (F (k'))) dX1_insertOrder_49 rfl rfl (by decide) rfl (by decide) (by omega) (hN (k') (by omega) (by omega)).1 ?_
        refine g_iast 51 dX1_insertOrder_50 rfl rfl (by decide) rfl (by decide) (by omega) ?_
        refine g_iinc 54 (nI (k')) [(2, .int (nI (k'))), (0, .ref (g 16 0)), (1, .int (nI x))] dX1_insertOrder_51 rfl 0 rfl (pk_m1 k') (by decide) rfl ?_
        refine g_goto 5 dX1_insertOrder_54 rfl ?_
        exact ih5 k' rfl _ (uf F (k' + 1) (F k')) (fun i hi hne => by rcases (show i = k' + 1 ∨ i ≠ k' + 1 by omega) with rfl | e <;> first | (rw [uf_ne e, wr_ne (by omega)]; exact hN i hi e) | (rw [uf_eq]; exact ⟨wr_eq, hv9⟩)) (by rw [← hE, insF_t c34]) (hF.tr (FT.wr (by omega))) (by rw [wr_ne (by omega)]; exact hcnt) (by omega)
  exact L5 n M f (fun i hi hne => hf i (by omega)) rfl FT.rf hn (Nat.le_refl _)
