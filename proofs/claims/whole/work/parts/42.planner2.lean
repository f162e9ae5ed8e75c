set_option maxHeartbeats 4000000 in
set_option maxRecDepth 100000 in
theorem c_X1_gatherLots {l : Launch} {D : va_G} {g : Nat → Nat → Nat} {ca : Nat → ClassId} {M : Mm} {o : Nat} {a : Sa} (hko : kd o = 2) (hS : RP (M.1 o) a) (hI : Iv a) (hst : M.1 16 0 0 = nI o) (gd : Nat) (hgd : gd < 65536) : Ct l D g ca md_X1_gatherLots [.ref (g 16 0), .int (nI gd)] M (Rv (fun M1 => M1.1 16 0 1 = nI (AgN a gd) ∧ (∀ i, i < AgN a gd → M1.1 16 4 i = nI (Ag a gd i)) ∧ (∀ i, i < AgN a gd → M1.1 16 5 i = nI (a 12 (Ag a gd i))) ∧ FR M M1)) := by
  refine Ct.of (by decide) rfl (Nat.le_of_ble_eq_true rfl) ?_
  have b1 := hI.g4
  have b3 := hS.l24
  have b4 := hS.o41
  have b2 := hS.c6
  have ho12 := kd_2 hko
  have hag := AgN_le (a := a) (gd := gd)
  show G l D g ca md_X1_gatherLots 0 [(0, .ref (g 16 0)), (1, .int (nI gd))] [] M _
  refine g_aload_n 1 0 dX1_gatherLots_0 rfl rfl ?_
  refine g_iconst 2 (nI 0) dX1_gatherLots_1 rfl rfl ?_
  refine g_put 5 dX1_gatherLots_2 rfl fX1_46 pX1_1 rfl (by decide) rfl ?_
  refine g_iconst 6 (nI 0) dX1_gatherLots_5 rfl rfl ?_
  refine g_istore_n 7 [(2, .int (nI 0)), (0, .ref (g 16 0)), (1, .int (nI gd))] dX1_gatherLots_6 rfl (by decide) rfl ?_
  have L7 : ∀ k, k ≤ a 0 3 → ∀ (N : Mm), N.1 16 0 1 = nI (gat (a 11) (lsel a gd) k).1 → (∀ i, i < (gat (a 11) (lsel a gd) k).1 → N.1 16 4 i = nI ((gat (a 11) (lsel a gd) k).2 i) ∧ (gat (a 11) (lsel a gd) k).2 i < a 0 3) → FL M N → G l D g ca md_X1_gatherLots 7 [(2, .int (nI k)), (0, .ref (g 16 0)), (1, .int (nI gd))] [] N (Rv (fun M1 => M1.1 16 0 1 = nI (AgN a gd) ∧ (∀ i, i < AgN a gd → M1.1 16 4 i = nI (Ag a gd i)) ∧ (∀ i, i < AgN a gd → M1.1 16 5 i = nI (a 12 (Ag a gd i))) ∧ FR M M1)) := by
    refine upto ?_
    intro k hk ih7 N hcnt hN hF
    have hNo := fun c i => hF.1 o c i (by omega)
    have hst2 : N.1 16 0 0 = nI o := (hF.1 16 0 0 (by omega)).trans hst
    have hle := gat_le (a 11) (lsel a gd) k
    refine g_iload_n 8 0 dX1_gatherLots_7 rfl rfl ?_
    refine g_aload_n 9 1 dX1_gatherLots_8 rfl rfl ?_
    refine g_gets 12 o dX1_gatherLots_9 rfl fX1_24 rfl (by decide) rfl hst2 (by omega) ?_
    refine g_get 15 (nI (a 0 3)) dX1_gatherLots_12 rfl fX1_70 hko (by decide) rfl ((hNo _ _).trans (hS.sc (by decide))) ?_
    refine g_icmpN_ge 42 18 dX1_gatherLots_15 rfl rfl (by omega) (by omega) (fun c15 => ?_) (fun c15 => ?_)
    · refine g_iconst 43 (nI 0) dX1_gatherLots_42 rfl rfl ?_
      refine g_istore_n 44 [(2, .int (nI 0)), (0, .ref (g 16 0)), (1, .int (nI gd))] dX1_gatherLots_43 rfl (by decide) rfl ?_
      have hk3 : k = a 0 3 := by omega
      have L44 : ∀ k, k ≤ AgN a gd → ∀ (N2 : Mm), N2.1 16 0 1 = nI (AgN a gd) → (∀ i, i < AgN a gd → N2.1 16 4 i = nI (Ag a gd i)) → (∀ i, i < k → N2.1 16 5 i = nI (a 12 (Ag a gd i))) → FR M N2 → G l D g ca md_X1_gatherLots 44 [(2, .int (nI k)), (0, .ref (g 16 0)), (1, .int (nI gd))] [] N2 (Rv (fun M1 => M1.1 16 0 1 = nI (AgN a gd) ∧ (∀ i, i < AgN a gd → M1.1 16 4 i = nI (Ag a gd i)) ∧ (∀ i, i < AgN a gd → M1.1 16 5 i = nI (a 12 (Ag a gd i))) ∧ FR M M1)) := by
        refine upto ?_
        intro k hk ih44 N2 hcnt hN h5 hF
        have hNo := fun c i => hF.1 o c i (by omega)
        have hst2 : N2.1 16 0 0 = nI o := (hF.1 16 0 0 (by omega)).trans hst
        refine g_iload_n 45 0 dX1_gatherLots_44 rfl rfl ?_
        refine g_aload_n 46 1 dX1_gatherLots_45 rfl rfl ?_
        refine g_get 49 (nI (AgN a gd)) dX1_gatherLots_46 rfl fX1_46 rfl (by decide) rfl hcnt ?_
        refine g_icmpN_ge 78 52 dX1_gatherLots_49 rfl rfl (by omega) (by omega) (fun c49 => ?_) (fun c49 => ?_)
        · exact g_vret rfl dX1_gatherLots_78 ⟨hcnt, hN, fun i hi => h5 i (by omega), hF⟩
        · refine g_aload_n 53 1 dX1_gatherLots_52 rfl rfl ?_
          refine g_geta 56 5 dX1_gatherLots_53 rfl fX1_15 rfl (by decide) rfl rfl ?_
          refine g_iload_n 57 0 dX1_gatherLots_56 rfl rfl ?_
          refine g_aload_n 58 1 dX1_gatherLots_57 rfl rfl ?_
          refine g_gets 61 o dX1_gatherLots_58 rfl fX1_24 rfl (by decide) rfl hst2 (by omega) ?_
          refine g_geta 64 12 dX1_gatherLots_61 rfl fX1_77 hko (by decide) rfl rfl ?_
          refine g_aload_n 65 1 dX1_gatherLots_64 rfl rfl ?_
          refine g_geta 68 4 dX1_gatherLots_65 rfl fX1_9 rfl (by decide) rfl rfl ?_
          refine g_iload_n 69 0 dX1_gatherLots_68 rfl rfl ?_
          refine g_iald 70 (nI (Ag a gd k)) dX1_gatherLots_69 rfl rfl (by decide) rfl (by decide) (by first | omega | (have := (Ag_in (a := a) (gd := gd) (k := k) (by omega)).1; omega)) (hN k (by omega)) ?_
          refine g_iald 71 (nI (a 12 (Ag a gd k))) dX1_gatherLots_70 rfl hko (by decide) rfl (by decide) (by first | omega | (have := (Ag_in (a := a) (gd := gd) (k := k) (by omega)).1; omega)) ((hNo _ _).trans (hS.lot (by decide) (by decide) (by first | omega | exact (Ag_in (by omega)).1))) ?_
          refine g_iast 72 dX1_gatherLots_71 rfl rfl (by decide) rfl (by decide) (by first | omega | (have := (Ag_in (a := a) (gd := gd) (k := k) (by omega)).1; omega)) ?_
          refine g_iinc 75 (nI (k + 1)) [(2, .int (nI (k + 1))), (0, .ref (g 16 0)), (1, .int (nI gd))] dX1_gatherLots_72 rfl 0 rfl (nI_add k 1) (by decide) rfl ?_
          refine g_goto 44 dX1_gatherLots_75 rfl ?_
          exact ih44 (by omega) _ (by rw [wr_ne (by omega)]; exact hcnt) (fun i hi => by rw [wr_ne (by omega)]; exact hN i hi) (fun i hi => by rcases (show i = k ∨ i < k by omega) with rfl | e <;> first | exact wr_eq | (rw [wr_ne (by omega)]; exact h5 i e)) (hF.tr (FR.wr (by omega)))
      exact L44 0 (Nat.zero_le _) N (by rw [hk3] at hcnt; exact hcnt) (fun i hi => by rw [hk3] at hN; exact (hN i hi).1) (fun i hi => absurd hi (Nat.not_lt_zero i)) hF.fr
    · refine g_aload_n 19 1 dX1_gatherLots_18 rfl rfl ?_
      refine g_gets 22 o dX1_gatherLots_19 rfl fX1_24 rfl (by decide) rfl hst2 (by omega) ?_
      refine g_geta 25 10 dX1_gatherLots_22 rfl fX1_71 hko (by decide) rfl rfl ?_
      refine g_iload_n 26 0 dX1_gatherLots_25 rfl rfl ?_
      refine g_iald 27 (nI (a 10 k)) dX1_gatherLots_26 rfl hko (by decide) rfl (by decide) (by first | omega | (have := (Ag_in (a := a) (gd := gd) (k := k) (by omega)).1; omega)) ((hNo _ _).trans (hS.lot (by decide) (by decide) (by first | omega | exact (Ag_in (by omega)).1))) ?_
      refine g_iload_n 28 2 dX1_gatherLots_27 rfl rfl ?_
      refine g_icmpN_ne 36 31 dX1_gatherLots_28 rfl rfl (by have := hI.lot (l := k) (by omega); omega) (by omega) (fun c28 => ?_) (fun c28 => ?_)
      · refine g_iinc 39 (nI (k + 1)) [(2, .int (nI (k + 1))), (0, .ref (g 16 0)), (1, .int (nI gd))] dX1_gatherLots_36 rfl 0 rfl (nI_add k 1) (by decide) rfl ?_
        refine g_goto 7 dX1_gatherLots_39 rfl ?_
        exact ih7 (by omega) _ (by rw [gat_f (decide_eq_false c28)]; exact hcnt) (by rw [gat_f (decide_eq_false c28)]; exact hN) hF
      · refine g_aload_n 32 1 dX1_gatherLots_31 rfl rfl ?_
        refine g_iload_n 33 0 dX1_gatherLots_32 rfl rfl ?_
        refine g_callVv 36 md_X1_insertLot [.int (nI k)] [] dX1_gatherLots_33 rfl e_X1_gatherLots_74 rfl (by decide) rfl rfl (Nat.le_of_ble_eq_true rfl) (c_X1_insertLot hko (RP_eq hNo hS) hI hst2 hcnt hN (by omega) (by omega)) (fun N3 h33 => ?_)
        obtain ⟨hc3, hN3, hF3⟩ := h33
        refine g_iinc 39 (nI (k + 1)) [(2, .int (nI (k + 1))), (0, .ref (g 16 0)), (1, .int (nI gd))] dX1_gatherLots_36 rfl 0 rfl (nI_add k 1) (by decide) rfl ?_
        refine g_goto 7 dX1_gatherLots_39 rfl ?_
        exact ih7 (by omega) _ (by rw [gat_t (decide_eq_true c28)]; exact hc3) (by rw [gat_t (decide_eq_true c28)]; exact hN3) (hF.tr hF3)
  exact L7 0 (Nat.zero_le _) _ wr_eq (fun i hi => absurd hi (Nat.not_lt_zero i)) (FL.wr (by omega))

set_option maxHeartbeats 4000000 in
set_option maxRecDepth 100000 in
theorem c_X1_gatherOrders {l : Launch} {D : va_G} {g : Nat → Nat → Nat} {ca : Nat → ClassId} {M : Mm} {o : Nat} {a : Sa} (hko : kd o = 2) (hS : RP (M.1 o) a) (hI : Iv a) (hst : M.1 16 0 0 = nI o) (gd : Nat) (hgd : gd < 65536) : Ct l D g ca md_X1_gatherOrders [.ref (g 16 0), .int (nI gd)] M (Rv (fun M1 => M1.1 16 0 2 = nI (TuN a gd) ∧ (∀ i, i < TuN a gd → M1.1 16 6 i = nI (Tu a gd i)) ∧ FT M M1)) := by
  refine Ct.of (by decide) rfl (Nat.le_of_ble_eq_true rfl) ?_
  have b1 := hI.g4
  have b3 := hS.l24
  have b4 := hS.o41
  have b2 := hS.c6
  have ho12 := kd_2 hko
  show G l D g ca md_X1_gatherOrders 0 [(0, .ref (g 16 0)), (1, .int (nI gd))] [] M _
  refine g_aload_n 1 0 dX1_gatherOrders_0 rfl rfl ?_
  refine g_iconst 2 (nI 0) dX1_gatherOrders_1 rfl rfl ?_
  refine g_put 5 dX1_gatherOrders_2 rfl fX1_35 pX1_2 rfl (by decide) rfl ?_
  refine g_iconst 6 (nI 0) dX1_gatherOrders_5 rfl rfl ?_
  refine g_istore_n 7 [(2, .int (nI 0)), (0, .ref (g 16 0)), (1, .int (nI gd))] dX1_gatherOrders_6 rfl (by decide) rfl ?_
  have L7 : ∀ k, k ≤ a 0 4 → ∀ (N : Mm), N.1 16 0 2 = nI (gat (a 17) (osel a gd) k).1 → (∀ i, i < (gat (a 17) (osel a gd) k).1 → N.1 16 6 i = nI ((gat (a 17) (osel a gd) k).2 i) ∧ (gat (a 17) (osel a gd) k).2 i < a 0 4) → FT M N → G l D g ca md_X1_gatherOrders 7 [(2, .int (nI k)), (0, .ref (g 16 0)), (1, .int (nI gd))] [] N (Rv (fun M1 => M1.1 16 0 2 = nI (TuN a gd) ∧ (∀ i, i < TuN a gd → M1.1 16 6 i = nI (Tu a gd i)) ∧ FT M M1)) := by
    refine upto ?_
    intro k hk ih7 N hcnt hN hF
    have hNo := fun c i => hF.1 o c i (by omega)
    have hst2 : N.1 16 0 0 = nI o := (hF.1 16 0 0 (by omega)).trans hst
    refine g_iload_n 8 0 dX1_gatherOrders_7 rfl rfl ?_
    refine g_aload_n 9 1 dX1_gatherOrders_8 rfl rfl ?_
    refine g_gets 12 o dX1_gatherOrders_9 rfl fX1_24 rfl (by decide) rfl hst2 (by omega) ?_
    refine g_get 15 (nI (a 0 4)) dX1_gatherOrders_12 rfl fX1_80 hko (by decide) rfl ((hNo _ _).trans (hS.sc (by decide))) ?_
    refine g_icmpN_ge 62 18 dX1_gatherOrders_15 rfl rfl (by omega) (by omega) (fun c15 => ?_) (fun c15 => ?_)
    · exact g_vret rfl dX1_gatherOrders_62 ⟨by rw [hcnt, show k = a 0 4 by omega]; rfl, fun i hi => by rw [show k = a 0 4 by omega] at hN; exact (hN i hi).1, hF⟩
    · refine g_aload_n 19 1 dX1_gatherOrders_18 rfl rfl ?_
      refine g_gets 22 o dX1_gatherOrders_19 rfl fX1_24 rfl (by decide) rfl hst2 (by omega) ?_
      refine g_geta 25 15 dX1_gatherOrders_22 rfl fX1_81 hko (by decide) rfl rfl ?_
      refine g_iload_n 26 0 dX1_gatherOrders_25 rfl rfl ?_
      refine g_iald 27 (nI (a 15 k)) dX1_gatherOrders_26 rfl hko (by decide) rfl (by decide) (by omega) ((hNo _ _).trans (hS.ord (by decide) (by decide) (by first | omega | exact (Ag_in (by omega)).1))) ?_
      refine g_iload_n 28 2 dX1_gatherOrders_27 rfl rfl ?_
      refine g_icmpN_ne 56 31 dX1_gatherOrders_28 rfl rfl (by have := hI.ord (o := k) (by omega); omega) (by omega) (fun c28 => ?_) (fun c28 => ?_)
      · refine g_iinc 59 (nI (k + 1)) [(2, .int (nI (k + 1))), (0, .ref (g 16 0)), (1, .int (nI gd))] dX1_gatherOrders_56 rfl 0 rfl (nI_add k 1) (by decide) rfl ?_
        refine g_goto 7 dX1_gatherOrders_59 rfl ?_
        exact ih7 (by omega) _ (by rw [gat_f (decide_eq_false (fun z => by first | exact c28 z.1 | exact of_decide_eq_false c39 z.2))]; exact hcnt) (by rw [gat_f (decide_eq_false (fun z => by first | exact c28 z.1 | exact of_decide_eq_false c39 z.2))]; exact hN) hF
      · refine g_aload_n 32 1 dX1_gatherOrders_31 rfl rfl ?_
        refine g_gets 35 o dX1_gatherOrders_32 rfl fX1_24 rfl (by decide) rfl hst2 (by omega) ?_
        refine g_iload_n 36 0 dX1_gatherOrders_35 rfl rfl ?_
        refine g_callVi 39 md_X2_isOpen [.int (nI k)] [] dX1_gatherOrders_36 rfl e_X1_gatherOrders_84 hko (by decide) rfl rfl (Nat.le_of_ble_eq_true rfl) (c_X2_isOpen hko (RP_eq hNo hS) hI (nI k)) (fun r36 M36 h36 => ?_)
        obtain ⟨rfl, h36⟩ := h36
        have h36 := h36.symm
        subst h36
        rw [opn_nI (by omega) (by omega)]
        refine g_ifB_eq 56 42 dX1_gatherOrders_39 rfl rfl (fun c39 => ?_) (fun c39 => ?_)
        · refine g_iinc 59 (nI (k + 1)) [(2, .int (nI (k + 1))), (0, .ref (g 16 0)), (1, .int (nI gd))] dX1_gatherOrders_56 rfl 0 rfl (nI_add k 1) (by decide) rfl ?_
          refine g_goto 7 dX1_gatherOrders_59 rfl ?_
          exact ih7 (by omega) _ (by rw [gat_f (decide_eq_false (fun z => by first | exact c28 z.1 | exact of_decide_eq_false c39 z.2))]; exact hcnt) (by rw [gat_f (decide_eq_false (fun z => by first | exact c28 z.1 | exact of_decide_eq_false c39 z.2))]; exact hN) hF
        · refine g_aload_n 43 1 dX1_gatherOrders_42 rfl rfl ?_
          refine g_get 46 (nI ((gat (a 17) (osel a gd) k).1)) dX1_gatherOrders_43 rfl fX1_35 rfl (by decide) rfl hcnt ?_
          refine g_bipush 48 (nI 6) dX1_gatherOrders_46 rfl rfl ?_
          refine g_icmpN_ge 56 51 dX1_gatherOrders_48 rfl rfl (by have := gatO_le hI (gd := gd) (m := k) (by omega); omega) (by omega) (fun c48 => ?_) (fun c48 => ?_)
          · exact absurd c48 (by have h9 := gatO_le hI (gd := gd) (m := k + 1) (by omega); rw [gat_t (decide_eq_true ⟨c28, of_decide_eq_true c39⟩)] at h9; have h8 : (gat (a 17) (osel a gd) k).1 + 1 ≤ a 0 2 := h9; omega)
          · refine g_aload_n 52 1 dX1_gatherOrders_51 rfl rfl ?_
            refine g_iload_n 53 0 dX1_gatherOrders_52 rfl rfl ?_
            refine g_callVv 56 md_X1_insertOrder [.int (nI k)] [] dX1_gatherOrders_53 rfl e_X1_gatherOrders_88 rfl (by decide) rfl rfl (Nat.le_of_ble_eq_true rfl) (c_X1_insertOrder hko (RP_eq hNo hS) hI hst2 hcnt hN (by omega) (by omega)) (fun N3 h53 => ?_)
            obtain ⟨hc3, hN3, hF3⟩ := h53
            refine g_iinc 59 (nI (k + 1)) [(2, .int (nI (k + 1))), (0, .ref (g 16 0)), (1, .int (nI gd))] dX1_gatherOrders_56 rfl 0 rfl (nI_add k 1) (by decide) rfl ?_
            refine g_goto 7 dX1_gatherOrders_59 rfl ?_
            exact ih7 (by omega) _ (by rw [gat_t (decide_eq_true ⟨c28, of_decide_eq_true c39⟩)]; exact hc3) (by rw [gat_t (decide_eq_true ⟨c28, of_decide_eq_true c39⟩)]; exact hN3) (hF.tr hF3)
  exact L7 0 (Nat.zero_le _) _ wr_eq (fun i hi => absurd hi (Nat.not_lt_zero i)) (FT.wr (by omega))

set_option maxHeartbeats 4000000 in
set_option maxRecDepth 100000 in
theorem c_X1_cell {l : Launch} {D : va_G} {g : Nat → Nat → Nat} {ca : Nat → ClassId} {M : Mm} (k i : Nat) : Ct l D g ca md_X1_cell [.int (nI k), .int (nI i)] M (Ri (fun r M1 => r = nI (k * 6 + i) ∧ M1 = M)) := by
  refine Ct.of (by decide) rfl (Nat.le_of_ble_eq_true rfl) ?_
  show G l D g ca md_X1_cell 0 [(0, .int (nI k)), (1, .int (nI i))] [] M _
  refine g_iload_n 1 0 dX1_cell_0 rfl rfl ?_
  refine g_bipush 3 (nI 6) dX1_cell_1 rfl rfl ?_
  refine g_imul 4 (nI (k * 6)) dX1_cell_3 rfl (pk_mul k 6) ?_
  refine g_iload_n 5 1 dX1_cell_4 rfl rfl ?_
  refine g_iadd 6 (nI ((k * 6) + i)) dX1_cell_5 rfl (nI_add (k * 6) i) ?_
  exact g_iret rfl dX1_cell_6 ⟨rfl, rfl⟩

set_option maxHeartbeats 4000000 in
set_option maxRecDepth 100000 in
theorem c_X1_serve {l : Launch} {D : va_G} {g : Nat → Nat → Nat} {ca : Nat → ClassId} {M : Mm} {o : Nat} {a : Sa} (hko : kd o = 2) (hS : RP (M.1 o) a) (hI : Iv a) (hst : M.1 16 0 0 = nI o) {gd : Nat} (hg1 : M.1 16 0 1 = nI (AgN a gd)) (hg4 : ∀ k, k < AgN a gd → M.1 16 4 k = nI (Ag a gd k)) (hg6 : ∀ i, i < TuN a gd → M.1 16 6 i = nI (Tu a gd i)) (i : Nat) (hi : i < TuN a gd) (hg5 : ∀ k, k < AgN a gd → M.1 16 5 k = nI (prp a gd i k)) : Ct l D g ca md_X1_serve [.ref (g 16 0), .int (nI i)] M (Rv (fun M1 => (∀ k, k < AgN a gd → M1.1 16 5 k = nI (prp a gd (i + 1) k)) ∧ (∀ k, k < AgN a gd → M1.1 16 7 (k * 6 + i) = nI (shp a gd i k)) ∧ (∀ q q2, q < 24 → q2 < 6 → q2 ≠ i → M1.1 16 7 (q * 6 + q2) = M.1 16 7 (q * 6 + q2)) ∧ FV M M1)) := by
  refine Ct.of (by decide) rfl (Nat.le_of_ble_eq_true rfl) ?_
  have b1 := hI.g4
  have b3 := hS.l24
  have b4 := hS.o41
  have b2 := hS.c6
  have ho12 := kd_2 hko
  have hag := AgN_le (a := a) (gd := gd)
  have htn := TuN_le hI (gd := gd)
  have hti := Tu_in hi
  show G l D g ca md_X1_serve 0 [(0, .ref (g 16 0)), (1, .int (nI i))] [] M _
  refine g_aload_n 1 0 dX1_serve_0 rfl rfl ?_
  refine g_geta 4 6 dX1_serve_1 rfl fX1_18 rfl (by decide) rfl rfl ?_
  refine g_iload_n 5 1 dX1_serve_4 rfl rfl ?_
  refine g_iald 6 (nI (Tu a gd i)) dX1_serve_5 rfl rfl (by decide) rfl (by decide) (by first | omega | (have := (Ag_in (a := a) (gd := gd) (k := k) (by omega)).1; omega)) (hg6 _ (by omega)) ?_
  refine g_istore_n 7 [(2, .int (nI (Tu a gd i))), (0, .ref (g 16 0)), (1, .int (nI i))] dX1_serve_6 rfl (by decide) rfl ?_
  refine g_aload_n 8 1 dX1_serve_7 rfl rfl ?_
  refine g_gets 11 o dX1_serve_8 rfl fX1_24 rfl (by decide) rfl hst (by omega) ?_
  refine g_geta 14 16 dX1_serve_11 rfl fX1_94 hko (by decide) rfl rfl ?_
  refine g_iload_n 15 0 dX1_serve_14 rfl rfl ?_
  refine g_iald 16 (nI (a 16 (Tu a gd i))) dX1_serve_15 rfl hko (by decide) rfl (by decide) (by first | omega | (have := (Ag_in (a := a) (gd := gd) (k := k) (by omega)).1; omega)) ((hS.ord (by decide) (by decide) hti.1)) ?_
  refine g_istore_n 17 [(3, .int (nI (a 16 (Tu a gd i)))), (2, .int (nI (Tu a gd i))), (0, .ref (g 16 0)), (1, .int (nI i))] dX1_serve_16 rfl (by decide) rfl ?_
  refine g_iconst 18 (nI 0) dX1_serve_17 rfl rfl ?_
  refine g_istore 20 [(4, .int (nI 0)), (3, .int (nI (a 16 (Tu a gd i)))), (2, .int (nI (Tu a gd i))), (0, .ref (g 16 0)), (1, .int (nI i))] dX1_serve_18 rfl (by decide) rfl ?_
  have L20 : ∀ k, k ≤ AgN a gd → ∀ (N : Mm) (v : Nat), (∀ q, q < k → q < AgN a gd → N.1 16 5 q = nI (prp a gd (i + 1) q)) → (∀ q, k ≤ q → q < AgN a gd → N.1 16 5 q = nI (prp a gd i q)) → (∀ q, q < k → N.1 16 7 (q * 6 + i) = nI (shp a gd i q)) → (∀ q q2, q < 24 → q2 < 6 → q2 ≠ i → N.1 16 7 (q * 6 + q2) = M.1 16 7 (q * 6 + q2)) → v = pw (fun k => ftp a gd k i) (prp a gd i) (a 16 (Tu a gd i)) k → FV M N → G l D g ca md_X1_serve 20 [(4, .int (nI k)), (3, .int (nI v)), (2, .int (nI (Tu a gd i))), (0, .ref (g 16 0)), (1, .int (nI i))] [] N (Rv (fun M1 => (∀ k, k < AgN a gd → M1.1 16 5 k = nI (prp a gd (i + 1) k)) ∧ (∀ k, k < AgN a gd → M1.1 16 7 (k * 6 + i) = nI (shp a gd i k)) ∧ (∀ q q2, q < 24 → q2 < 6 → q2 ≠ i → M1.1 16 7 (q * 6 + q2) = M.1 16 7 (q * 6 + q2)) ∧ FV M M1)) := by
    refine upto ?_
    intro k hk ih20 N v h51 h52 h7 h77 hv hF
    have hNo := fun c i => hF.1 o c i (by omega)
    have hst2 : N.1 16 0 0 = nI o := (hF.1 16 0 0 (by omega)).trans hst
    have hv9 : v ≤ 99 := by rw [hv, pw_cum]; have := hI.ord hti.1; omega
    refine g_iload 22 0 dX1_serve_20 rfl rfl ?_
    refine g_aload_n 23 3 dX1_serve_22 rfl rfl ?_
    refine g_get 26 (nI (AgN a gd)) dX1_serve_23 rfl fX1_46 rfl (by decide) rfl ((hF.1 _ _ _ (by omega)).trans hg1) ?_
    refine g_icmpN_ge 100 29 dX1_serve_26 rfl rfl (by omega) (by omega) (fun c26 => ?_) (fun c26 => ?_)
    · exact g_vret rfl dX1_serve_100 ⟨fun q hq => h51 q (by omega) hq, fun q hq => h7 q (by omega), h77, hF⟩
    · refine g_aload_n 30 3 dX1_serve_29 rfl rfl ?_
      refine g_gets 33 o dX1_serve_30 rfl fX1_24 rfl (by decide) rfl hst2 (by omega) ?_
      refine g_aload_n 34 3 dX1_serve_33 rfl rfl ?_
      refine g_geta 37 4 dX1_serve_34 rfl fX1_9 rfl (by decide) rfl rfl ?_
      refine g_iload 39 0 dX1_serve_37 rfl rfl ?_
      refine g_iald 40 (nI (Ag a gd k)) dX1_serve_39 rfl rfl (by decide) rfl (by decide) (by first | omega | (have := (Ag_in (a := a) (gd := gd) (k := k) (by omega)).1; omega)) ((hF.1 _ _ _ (by omega)).trans (hg4 _ (by omega))) ?_
      refine g_iload_n 41 2 dX1_serve_40 rfl rfl ?_
      refine g_callVi 44 md_X2_fits [.int (nI (Ag a gd k)), .int (nI (Tu a gd i))] [] dX1_serve_41 rfl e_X1_serve_97 hko (by decide) rfl rfl (Nat.le_of_ble_eq_true rfl) (c_X2_fits hko (RP_eq hNo hS) hI (Tu a gd i) (Ag a gd k) hti.1 (Ag_in (by omega)).1) (fun r41 M41 h41 => ?_)
      obtain ⟨rfl, h41⟩ := h41
      have h41 := h41.symm
      subst h41
      refine g_ifB_eq 61 47 dX1_serve_44 rfl rfl (fun c44 => ?_) (fun c44 => ?_)
      · refine g_iconst 62 (nI 0) dX1_serve_61 rfl rfl ?_
        refine g_istore 64 [(5, .int (nI 0)), (4, .int (nI k)), (3, .int (nI v)), (2, .int (nI (Tu a gd i))), (0, .ref (g 16 0)), (1, .int (nI i))] dX1_serve_62 rfl (by decide) rfl ?_
        have hps : ps (fun k => ftp a gd k i) (prp a gd i) (a 16 (Tu a gd i)) k = 0 := if_neg (by show ¬ (fit a (Ag a gd k) (Tu a gd i) = true); rw [c44]; decide)
        have hpt : shp a gd i k = _ := hps
        refine g_aload_n 65 4 dX1_serve_64 rfl rfl ?_
        refine g_geta 68 7 dX1_serve_65 rfl fX1_21 rfl (by decide) rfl rfl ?_
        refine g_iload 70 1 dX1_serve_68 rfl rfl ?_
        refine g_iload_n 71 5 dX1_serve_70 rfl rfl ?_
        refine g_callSi 74 md_X1_cell [.int (nI k), .int (nI i)] [.ref (g 16 7)] dX1_serve_71 rfl e_X1_serve_49 rfl rfl (Nat.le_of_ble_eq_true rfl) (c_X1_cell k i) (fun r71 M71 h71 => ?_)
        obtain ⟨rfl, h71⟩ := h71
        have h71 := h71.symm
        subst h71
        refine g_iload 76 0 dX1_serve_74 rfl rfl ?_
        refine g_iast 77 dX1_serve_76 rfl rfl (by decide) rfl (by decide) (by first | omega | (have := (Ag_in (a := a) (gd := gd) (k := k) (by omega)).1; omega)) ?_
        refine g_aload_n 78 4 dX1_serve_77 rfl rfl ?_
        refine g_geta 81 5 dX1_serve_78 rfl fX1_15 rfl (by decide) rfl rfl ?_
        refine g_iload 83 1 dX1_serve_81 rfl rfl ?_
        refine g_dup2 84 dX1_serve_83 rfl rfl rfl ?_
        refine g_iald 85 (nI (prp a gd i k)) dX1_serve_84 rfl rfl (by decide) rfl (by decide) (by first | omega | (have := (Ag_in (a := a) (gd := gd) (k := k) (by omega)).1; omega)) ((wr_ne (by omega)).trans (h52 k (by omega) (by omega))) ?_
        refine g_iload 87 0 dX1_serve_85 rfl rfl ?_
        refine g_isub 88 (nI (prp a gd i k - 0)) dX1_serve_87 rfl (pk_sub (by omega)) ?_
        refine g_iast 89 dX1_serve_88 rfl rfl (by decide) rfl (by decide) (by first | omega | (have := (Ag_in (a := a) (gd := gd) (k := k) (by omega)).1; omega)) ?_
        refine g_iload_n 90 2 dX1_serve_89 rfl rfl ?_
        refine g_iload 92 0 dX1_serve_90 rfl rfl ?_
        refine g_isub 93 (nI (v - 0)) dX1_serve_92 rfl (pk_sub (by omega)) ?_
        refine g_istore_n 94 [(3, .int (nI (v - 0))), (5, .int (nI 0)), (4, .int (nI k)), (2, .int (nI (Tu a gd i))), (0, .ref (g 16 0)), (1, .int (nI i))] dX1_serve_93 rfl (by decide) rfl ?_
        refine g_iinc 97 (nI (k + 1)) [(4, .int (nI (k + 1))), (3, .int (nI (v - 0))), (5, .int (nI 0)), (2, .int (nI (Tu a gd i))), (0, .ref (g 16 0)), (1, .int (nI i))] dX1_serve_94 rfl 2 rfl (nI_add k 1) (by decide) rfl ?_
        refine g_goto 20 dX1_serve_97 rfl ?_
        refine g_lv [0, 1, 3, 4, 5] rfl ?_
        exact ih20 (by omega) _ (v - (0)) (fun q h1 h2 => by rw [wr_at, wr_ne (by omega)]; split <;> first | (rw [show q = k by omega, prp_succ, hpt]) | (exact h51 q (by omega) h2)) (fun q h1 h2 => by rw [wr_ne (by omega), wr_ne (by omega)]; exact h52 q (by omega) h2) (fun q h1 => by rcases (show q = k ∨ q < k by omega) with rfl | e <;> first | (rw [wr_ne (by omega), wr_eq, hpt]) | (rw [wr_ne (by omega), wr_ne (by omega)]; exact h7 q e)) (fun q q2 h1 h2 h3 => by rw [wr_ne (by omega), wr_ne (by omega)]; exact h77 q q2 h1 h2 h3) (by rw [hv, pw_succ] at *; first | rw [hps] | skip) (hF.tr ((FV.wr (by omega)).tr (FV.wr (by omega))))
      · refine g_iload_n 48 1 dX1_serve_47 rfl rfl ?_
        refine g_aload_n 49 3 dX1_serve_48 rfl rfl ?_
        refine g_geta 52 5 dX1_serve_49 rfl fX1_15 rfl (by decide) rfl rfl ?_
        refine g_iload 54 0 dX1_serve_52 rfl rfl ?_
        refine g_iald 55 (nI (prp a gd i k)) dX1_serve_54 rfl rfl (by decide) rfl (by decide) (by first | omega | (have := (Ag_in (a := a) (gd := gd) (k := k) (by omega)).1; omega)) (h52 k (by omega) (by omega)) ?_
        refine g_mmin 58 (nI (min v (prp a gd i k))) dX1_serve_55 rfl ml_X1_101 (by decide) (Nat.le_of_ble_eq_true rfl) (nI_min (by omega) (by have := prp_le (a := a) (gd := gd) (i := i) (k := k); have := (hI.lot (Ag_in (a := a) (gd := gd) (k := k) (by omega)).1); omega)) ?_
        refine g_goto 62 dX1_serve_58 rfl ?_
        refine g_istore 64 [(5, .int (nI (min v (prp a gd i k)))), (4, .int (nI k)), (3, .int (nI v)), (2, .int (nI (Tu a gd i))), (0, .ref (g 16 0)), (1, .int (nI i))] dX1_serve_62 rfl (by decide) rfl ?_
        have hps : ps (fun k => ftp a gd k i) (prp a gd i) (a 16 (Tu a gd i)) k = min v (prp a gd i k) := by rw [hv]; exact if_pos c44
        have hpt : shp a gd i k = _ := hps
        refine g_aload_n 65 4 dX1_serve_64 rfl rfl ?_
        refine g_geta 68 7 dX1_serve_65 rfl fX1_21 rfl (by decide) rfl rfl ?_
        refine g_iload 70 1 dX1_serve_68 rfl rfl ?_
        refine g_iload_n 71 5 dX1_serve_70 rfl rfl ?_
        refine g_callSi 74 md_X1_cell [.int (nI k), .int (nI i)] [.ref (g 16 7)] dX1_serve_71 rfl e_X1_serve_49 rfl rfl (Nat.le_of_ble_eq_true rfl) (c_X1_cell k i) (fun r71 M71 h71 => ?_)
        obtain ⟨rfl, h71⟩ := h71
        have h71 := h71.symm
        subst h71
        refine g_iload 76 0 dX1_serve_74 rfl rfl ?_
        refine g_iast 77 dX1_serve_76 rfl rfl (by decide) rfl (by decide) (by first | omega | (have := (Ag_in (a := a) (gd := gd) (k := k) (by omega)).1; omega)) ?_
        refine g_aload_n 78 4 dX1_serve_77 rfl rfl ?_
        refine g_geta 81 5 dX1_serve_78 rfl fX1_15 rfl (by decide) rfl rfl ?_
        refine g_iload 83 1 dX1_serve_81 rfl rfl ?_
        refine g_dup2 84 dX1_serve_83 rfl rfl rfl ?_
        refine g_iald 85 (nI (prp a gd i k)) dX1_serve_84 rfl rfl (by decide) rfl (by decide) (by first | omega | (have := (Ag_in (a := a) (gd := gd) (k := k) (by omega)).1; omega)) ((wr_ne (by omega)).trans (h52 k (by omega) (by omega))) ?_
        refine g_iload 87 0 dX1_serve_85 rfl rfl ?_
        refine g_isub 88 (nI (prp a gd i k - (min v (prp a gd i k)))) dX1_serve_87 rfl (pk_sub (by omega)) ?_
        refine g_iast 89 dX1_serve_88 rfl rfl (by decide) rfl (by decide) (by first | omega | (have := (Ag_in (a := a) (gd := gd) (k := k) (by omega)).1; omega)) ?_
        refine g_iload_n 90 2 dX1_serve_89 rfl rfl ?_
        refine g_iload 92 0 dX1_serve_90 rfl rfl ?_
        refine g_isub 93 (nI (v - (min v (prp a gd i k)))) dX1_serve_92 rfl (pk_sub (by omega)) ?_
        refine g_istore_n 94 [(3, .int (nI (v - (min v (prp a gd i k))))), (5, .int (nI (min v (prp a gd i k)))), (4, .int (nI k)), (2, .int (nI (Tu a gd i))), (0, .ref (g 16 0)), (1, .int (nI i))] dX1_serve_93 rfl (by decide) rfl ?_
        refine g_iinc 97 (nI (k + 1)) [(4, .int (nI (k + 1))), (3, .int (nI (v - (min v (prp a gd i k))))), (5, .int (nI (min v (prp a gd i k)))), (2, .int (nI (Tu a gd i))), (0, .ref (g 16 0)), (1, .int (nI i))] dX1_serve_94 rfl 2 rfl (nI_add k 1) (by decide) rfl ?_
        refine g_goto 20 dX1_serve_97 rfl ?_
        refine g_lv [0, 1, 3, 4, 5] rfl ?_
        exact ih20 (by omega) _ (v - (min v (prp a gd i k))) (fun q h1 h2 => by rw [wr_at, wr_ne (by omega)]; split <;> first | (rw [show q = k by omega, prp_succ, hpt]) | (exact h51 q (by omega) h2)) (fun q h1 h2 => by rw [wr_ne (by omega), wr_ne (by omega)]; exact h52 q (by omega) h2) (fun q h1 => by rcases (show q = k ∨ q < k by omega) with rfl | e <;> first | (rw [wr_ne (by omega), wr_eq, hpt]) | (rw [wr_ne (by omega), wr_ne (by omega)]; exact h7 q e)) (fun q q2 h1 h2 h3 => by rw [wr_ne (by omega), wr_ne (by omega)]; exact h77 q q2 h1 h2 h3) (by rw [hv, pw_succ] at *; first | rw [hps] | skip) (hF.tr ((FV.wr (by omega)).tr (FV.wr (by omega))))
  exact L20 0 (Nat.zero_le _) M _ (fun q h _ => absurd h (Nat.not_lt_zero q)) (fun q _ h => hg5 q h) (fun q h => absurd h (Nat.not_lt_zero q)) (fun _ _ _ _ _ => rfl) rfl FV.rf
