set_option maxHeartbeats 4000000 in
set_option maxRecDepth 100000 in
theorem c_X1_make {l : Launch} {D : va_G} {g : Nat → Nat → Nat} {ca : Nat → ClassId} {M : Mm} {o : Nat} {a : Sa} (hko : kd o = 2) (hS : RP (M.1 o) a) (hI : Iv a) (gd : Nat) (hgd : gd < 65536) : Ct l D g ca md_X1_make [.ref (g 16 0), .ref (g o 0), .int (nI gd)] M (Rv (fun M1 => PlS M1 o a gd ∧ Fo 16 M M1)) := by
  refine Ct.of (by decide) rfl (Nat.le_of_ble_eq_true rfl) ?_
  have b1 := hI.g4
  have b3 := hS.l24
  have b4 := hS.o41
  have b2 := hS.c6
  have ho12 := kd_2 hko
  have hag := AgN_le (a := a) (gd := gd)
  have htn := TuN_le hI (gd := gd)
  show G l D g ca md_X1_make 0 [(0, .ref (g 16 0)), (1, .ref (g o 0)), (2, .int (nI gd))] [] M _
  refine g_aload_n 1 0 dX1_make_0 rfl rfl ?_
  refine g_aload_n 2 1 dX1_make_1 rfl rfl ?_
  refine g_puts 5 dX1_make_2 rfl fX1_24 pX1_0 rfl (by decide) rfl (by omega) ?_
  refine g_aload_n 6 0 dX1_make_5 rfl rfl ?_
  refine g_iload_n 7 2 dX1_make_6 rfl rfl ?_
  refine g_callVv 10 md_X1_gatherLots [.int (nI gd)] [] dX1_make_7 rfl e_X1_make_28 rfl (by decide) rfl rfl (Nat.le_of_ble_eq_true rfl) (c_X1_gatherLots hko (RP_eq (B := M.1 o) (fun c i => wr_ne (by omega)) hS) hI wr_eq gd hgd) (fun N1 h7 => ?_)
  obtain ⟨g1, g4, g5, fR⟩ := h7
  refine g_aload_n 11 0 dX1_make_10 rfl rfl ?_
  refine g_iload_n 12 2 dX1_make_11 rfl rfl ?_
  refine g_callVv 15 md_X1_gatherOrders [.int (nI gd)] [] dX1_make_12 rfl e_X1_make_32 rfl (by decide) rfl rfl (Nat.le_of_ble_eq_true rfl) (c_X1_gatherOrders hko (RP_eq (B := M.1 o) (fun c i => (fR.1 o c i (by omega)).trans (wr_ne (by omega))) hS) hI ((fR.1 16 0 0 (by omega)).trans wr_eq) gd hgd) (fun N2 h12 => ?_)
  obtain ⟨g2, g6, fT⟩ := h12
  refine g_iconst 16 (nI 0) dX1_make_15 rfl rfl ?_
  refine g_istore_n 17 [(3, .int (nI 0)), (0, .ref (g 16 0)), (1, .ref (g o 0)), (2, .int (nI gd))] dX1_make_16 rfl (by decide) rfl ?_
  have L17 : ∀ k, k ≤ TuN a gd → ∀ (N : Mm), N.1 16 0 0 = nI o → N.1 16 0 1 = nI (AgN a gd) → N.1 16 0 2 = nI (TuN a gd) → (∀ q, q < AgN a gd → N.1 16 4 q = nI (Ag a gd q)) → (∀ i, i < TuN a gd → N.1 16 6 i = nI (Tu a gd i)) → (∀ q, q < AgN a gd → N.1 16 5 q = nI (prp a gd k q)) → (∀ q, q < AgN a gd → ∀ i, i < k → N.1 16 7 (q * 6 + i) = nI (shp a gd i q)) → Fo 16 M N → G l D g ca md_X1_make 17 [(3, .int (nI k)), (0, .ref (g 16 0)), (1, .ref (g o 0)), (2, .int (nI gd))] [] N (Rv (fun M1 => PlS M1 o a gd ∧ Fo 16 M M1)) := by
    refine upto ?_
    intro k hk ih17 N p1 p2 p3 p4 p6 h5 h7 hF
    have hNo := fun c i => hF.1 o c i (by omega)
    refine g_iload_n 18 0 dX1_make_17 rfl rfl ?_
    refine g_aload_n 19 1 dX1_make_18 rfl rfl ?_
    refine g_get 22 (nI (TuN a gd)) dX1_make_19 rfl fX1_35 rfl (by decide) rfl p3 ?_
    refine g_icmpN_ge 36 25 dX1_make_22 rfl rfl (by omega) (by omega) (fun c22 => ?_) (fun c22 => ?_)
    · exact g_vret rfl dX1_make_36 ⟨⟨p1, p2, p3, p4, p6, fun q hq => by rw [show TuN a gd = k by omega]; exact h5 q hq, fun q hq i hi => h7 q hq i (by omega)⟩, hF⟩
    · refine g_aload_n 26 1 dX1_make_25 rfl rfl ?_
      refine g_iload_n 27 0 dX1_make_26 rfl rfl ?_
      refine g_callVv 30 md_X1_serve [.int (nI k)] [] dX1_make_27 rfl e_X1_make_39 rfl (by decide) rfl rfl (Nat.le_of_ble_eq_true rfl) (c_X1_serve hko (RP_eq hNo hS) hI p1 p2 p4 p6 k (by omega) h5) (fun N4 h27 => ?_)
      obtain ⟨s5, s7, s77, sF⟩ := h27
      refine g_iinc 33 (nI (k + 1)) [(3, .int (nI (k + 1))), (0, .ref (g 16 0)), (1, .ref (g o 0)), (2, .int (nI gd))] dX1_make_30 rfl 0 rfl (nI_add k 1) (by decide) rfl ?_
      refine g_goto 17 dX1_make_33 rfl ?_
      exact ih17 (by omega) _ ((sF.1 _ _ _ (by omega)).trans p1) ((sF.1 _ _ _ (by omega)).trans p2) ((sF.1 _ _ _ (by omega)).trans p3) (fun q hq => (sF.1 _ _ _ (by omega)).trans (p4 q hq)) (fun i hi => (sF.1 _ _ _ (by omega)).trans (p6 i hi)) s5 (fun q hq i hi => by rcases (show i = k ∨ i < k by omega) with rfl | e <;> first | exact s7 q hq | exact (s77 q i (by omega) (by omega) (by omega)).trans (h7 q hq i e)) (hF.tr ⟨fun o1 c1 i1 z => sF.1 _ _ _ (by omega), sF.2⟩)
  exact L17 0 (Nat.zero_le _) _ (((fT.1 _ _ _ (by omega)).trans (fR.1 _ _ _ (by omega))).trans wr_eq) ((fT.1 _ _ _ (by omega)).trans g1) g2 (fun q hq => (fT.1 _ _ _ (by omega)).trans (g4 q hq)) g6 (fun q hq => (fT.1 _ _ _ (by omega)).trans (g5 q hq)) (fun q _ i h => absurd h (Nat.not_lt_zero i)) ⟨fun o1 c1 i1 h => ((fT.1 _ _ _ (by omega)).trans (fR.1 _ _ _ (by omega))).trans (wr_ne (by omega)), (fT.2.trans fR.2).trans (wr_lg _ _ _ _ _)⟩

set_option maxHeartbeats 4000000 in
set_option maxRecDepth 100000 in
theorem c_X1_turnOf {l : Launch} {D : va_G} {g : Nat → Nat → Nat} {ca : Nat → ClassId} {M : Mm} {o gd : Nat} {a : Sa} (hko : kd o = 2) (hI : Iv a) (hp : PlS M o a gd) (x : Nat) (hx : x < a 0 4) (h15 : a 15 x = gd) (h18 : a 18 x = 0) : Ct l D g ca md_X1_turnOf [.ref (g 16 0), .int (nI x)] M (Ri (fun r M1 => r = nI (tpos a gd x) ∧ M1 = M)) := by
  refine Ct.of (by decide) rfl (Nat.le_of_ble_eq_true rfl) ?_
  have b1 := hI.g4
  have b2 := hI.c6
  have b3 := hI.l24
  have b4 := hI.o41
  have ho12 := kd_2 hko
  have hag := AgN_le (a := a) (gd := gd)
  have htn := TuN_le hI (gd := gd)
  show G l D g ca md_X1_turnOf 0 [(0, .ref (g 16 0)), (1, .int (nI x))] [] M _
  refine g_iconst 1 (nI 0) dX1_turnOf_0 rfl rfl ?_
  refine g_istore_n 2 [(2, .int (nI 0)), (0, .ref (g 16 0)), (1, .int (nI x))] dX1_turnOf_1 rfl (by decide) rfl ?_
  have L2 : ∀ k, k ≤ TuN a gd → (∀ i, i < k → ¬ Tu a gd i = x) → G l D g ca md_X1_turnOf 2 [(2, .int (nI k)), (0, .ref (g 16 0)), (1, .int (nI x))] [] M (Ri (fun r M1 => r = nI (tpos a gd x) ∧ M1 = M)) := by
    refine upto ?_
    intro k hk ih2 hv
    refine g_iload_n 3 0 dX1_turnOf_2 rfl rfl ?_
    refine g_aload_n 4 1 dX1_turnOf_3 rfl rfl ?_
    refine g_get 7 (nI (TuN a gd)) dX1_turnOf_4 rfl fX1_35 rfl (by decide) rfl hp.2.2.1 ?_
    refine g_icmpN_ge 28 10 dX1_turnOf_7 rfl rfl (by first | omega | (have := (Tu_in (a := a) (gd := gd) (i := k) (by omega)).1; omega) | (have := (Ag_in (a := a) (gd := gd) (k := k) (by omega)).1; omega)) (by first | omega | (have := (Tu_in (a := a) (gd := gd) (i := k) (by omega)).1; omega) | (have := (Ag_in (a := a) (gd := gd) (k := k) (by omega)).1; omega)) (fun c7 => ?_) (fun c7 => ?_)
    · refine g_iconst 29 ((-1)) dX1_turnOf_28 rfl rfl ?_
      exact g_iret rfl dX1_turnOf_29 ⟨by first | (rw [show tpos a gd x = k from first_eq (by omega) (decide_eq_true c17) (fun i hi => decide_eq_false (hv i hi))]) | (exact absurd (tpos_lt hx h15 h18).2 (hv _ (by have := (tpos_lt hx h15 h18).1; omega))), rfl⟩
    · refine g_aload_n 11 1 dX1_turnOf_10 rfl rfl ?_
      refine g_geta 14 6 dX1_turnOf_11 rfl fX1_18 rfl (by decide) rfl rfl ?_
      refine g_iload_n 15 0 dX1_turnOf_14 rfl rfl ?_
      refine g_iald 16 (nI (Tu a gd k)) dX1_turnOf_15 rfl rfl (by decide) rfl (by decide) (by omega) (hp.2.2.2.2.1 _ (by omega)) ?_
      refine g_iload_n 17 2 dX1_turnOf_16 rfl rfl ?_
      refine g_icmpN_ne 22 20 dX1_turnOf_17 rfl rfl (by first | omega | (have := (Tu_in (a := a) (gd := gd) (i := k) (by omega)).1; omega) | (have := (Ag_in (a := a) (gd := gd) (k := k) (by omega)).1; omega)) (by first | omega | (have := (Tu_in (a := a) (gd := gd) (i := k) (by omega)).1; omega) | (have := (Ag_in (a := a) (gd := gd) (k := k) (by omega)).1; omega)) (fun c17 => ?_) (fun c17 => ?_)
      · refine g_iinc 25 (nI (k + 1)) [(2, .int (nI (k + 1))), (0, .ref (g 16 0)), (1, .int (nI x))] dX1_turnOf_22 rfl 0 rfl (nI_add k 1) (by decide) rfl ?_
        refine g_goto 2 dX1_turnOf_25 rfl ?_
        exact ih2 (by omega) (lt_s hv c17)
      · refine g_iload_n 21 0 dX1_turnOf_20 rfl rfl ?_
        exact g_iret rfl dX1_turnOf_21 ⟨by first | (rw [show tpos a gd x = k from first_eq (by omega) (decide_eq_true c17) (fun i hi => decide_eq_false (hv i hi))]) | (exact absurd (tpos_lt hx h15 h18).2 (hv _ (by have := (tpos_lt hx h15 h18).1; omega))), rfl⟩
  exact L2 0 (Nat.zero_le _) (fun i h => absurd h (Nat.not_lt_zero i))

theorem nI_nm1 {t : Nat} (h : t < 65536) : ¬ nI t = -1 := by
  intro z
  rw [fa_eq, nI_toInt (by omega)] at z
  have e : (-1 : Int32).toInt = -1 := rfl
  rw [e] at z
  omega

set_option maxHeartbeats 4000000 in
set_option maxRecDepth 100000 in
theorem c_X1_grantOf {l : Launch} {D : va_G} {g : Nat → Nat → Nat} {ca : Nat → ClassId} {M : Mm} {o gd : Nat} {a : Sa} (hko : kd o = 2) (hI : Iv a) (hp : PlS M o a gd) (x : Nat) (hx : x < a 0 4) (h15 : a 15 x = gd) (h18 : a 18 x = 0) : Ct l D g ca md_X1_grantOf [.ref (g 16 0), .int (nI x)] M (Ri (fun r M1 => r = nI (fb_sm (shp a gd (tpos a gd x)) (AgN a gd)) ∧ M1 = M)) := by
  refine Ct.of (by decide) rfl (Nat.le_of_ble_eq_true rfl) ?_
  have b1 := hI.g4
  have b2 := hI.c6
  have b3 := hI.l24
  have b4 := hI.o41
  have ho12 := kd_2 hko
  have hag := AgN_le (a := a) (gd := gd)
  have htn := TuN_le hI (gd := gd)
  show G l D g ca md_X1_grantOf 0 [(0, .ref (g 16 0)), (1, .int (nI x))] [] M _
  refine g_aload_n 1 0 dX1_grantOf_0 rfl rfl ?_
  refine g_iload_n 2 1 dX1_grantOf_1 rfl rfl ?_
  refine g_callVi 5 md_X1_turnOf [.int (nI x)] [] dX1_grantOf_2 rfl e_X1_grantOf_42 rfl (by decide) rfl rfl (Nat.le_of_ble_eq_true rfl) (c_X1_turnOf hko hI hp x hx h15 h18) (fun r2 M2 h2 => ?_)
  obtain ⟨rfl, h2⟩ := h2
  have h2 := h2.symm
  subst h2
  obtain ⟨t, et⟩ : ∃ t, t = tpos a gd x := ⟨_, rfl⟩
  have ht : t < TuN a gd := by rw [et]; exact (tpos_lt hx h15 h18).1
  refine g_top (nI t) (by rw [et]) ?_
  refine g_istore_n 6 [(2, .int (nI t)), (0, .ref (g 16 0)), (1, .int (nI x))] dX1_grantOf_5 rfl (by decide) rfl ?_
  refine g_iconst 7 (nI 0) dX1_grantOf_6 rfl rfl ?_
  refine g_istore_n 8 [(3, .int (nI 0)), (2, .int (nI t)), (0, .ref (g 16 0)), (1, .int (nI x))] dX1_grantOf_7 rfl (by decide) rfl ?_
  refine g_iconst 9 (nI 0) dX1_grantOf_8 rfl rfl ?_
  refine g_istore 11 [(4, .int (nI 0)), (3, .int (nI 0)), (2, .int (nI t)), (0, .ref (g 16 0)), (1, .int (nI x))] dX1_grantOf_9 rfl (by decide) rfl ?_
  have L11 : ∀ k, k ≤ AgN a gd → ∀ v, v = fb_sm (shp a gd t) k → G l D g ca md_X1_grantOf 11 [(4, .int (nI k)), (3, .int (nI v)), (2, .int (nI t)), (0, .ref (g 16 0)), (1, .int (nI x))] [] M (Ri (fun r M1 => r = nI (fb_sm (shp a gd (tpos a gd x)) (AgN a gd)) ∧ M1 = M)) := by
    refine upto ?_
    intro k hk ih11 v hv
    refine g_iload 13 0 dX1_grantOf_11 rfl rfl ?_
    refine g_aload_n 14 3 dX1_grantOf_13 rfl rfl ?_
    refine g_get 17 (nI (AgN a gd)) dX1_grantOf_14 rfl fX1_46 rfl (by decide) rfl hp.2.1 ?_
    refine g_icmpN_ge 45 20 dX1_grantOf_17 rfl rfl (by first | omega | (have := (Tu_in (a := a) (gd := gd) (i := k) (by omega)).1; omega) | (have := (Ag_in (a := a) (gd := gd) (k := k) (by omega)).1; omega)) (by first | omega | (have := (Tu_in (a := a) (gd := gd) (i := k) (by omega)).1; omega) | (have := (Ag_in (a := a) (gd := gd) (k := k) (by omega)).1; omega)) (fun c17 => ?_) (fun c17 => ?_)
    · refine g_iload_n 46 1 dX1_grantOf_45 rfl rfl ?_
      exact g_iret rfl dX1_grantOf_46 ⟨by rw [hv, show k = AgN a gd by omega, et], rfl⟩
    · refine g_iload_n 21 2 dX1_grantOf_20 rfl rfl ?_
      refine g_iconst 22 ((-1)) dX1_grantOf_21 rfl rfl ?_
      refine g_icmp_eq 45 25 dX1_grantOf_22 rfl rfl (fun c22 => ?_) (fun c22 => ?_)
      · exact absurd c22 (nI_nm1 (by omega))
      · refine g_iload_n 26 1 dX1_grantOf_25 rfl rfl ?_
        refine g_aload_n 27 3 dX1_grantOf_26 rfl rfl ?_
        refine g_geta 30 7 dX1_grantOf_27 rfl fX1_21 rfl (by decide) rfl rfl ?_
        refine g_iload 32 0 dX1_grantOf_30 rfl rfl ?_
        refine g_iload_n 33 2 dX1_grantOf_32 rfl rfl ?_
        refine g_callSi 36 md_X1_cell [.int (nI k), .int (nI t)] [.ref (g 16 7), .int (nI v)] dX1_grantOf_33 rfl e_X1_grantOf_49 rfl rfl (Nat.le_of_ble_eq_true rfl) (c_X1_cell k t) (fun r33 M33 h33 => ?_)
        obtain ⟨rfl, h33⟩ := h33
        have h33 := h33.symm
        subst h33
        refine g_iald 37 (nI (shp a gd t k)) dX1_grantOf_36 rfl rfl (by decide) rfl (by decide) (by omega) (hp.2.2.2.2.2.2 k (by omega) t (by omega)) ?_
        refine g_iadd 38 (nI (v + (shp a gd t k))) dX1_grantOf_37 rfl (nI_add v (shp a gd t k)) ?_
        refine g_istore_n 39 [(3, .int (nI (v + (shp a gd t k)))), (4, .int (nI k)), (2, .int (nI t)), (0, .ref (g 16 0)), (1, .int (nI x))] dX1_grantOf_38 rfl (by decide) rfl ?_
        refine g_iinc 42 (nI (k + 1)) [(4, .int (nI (k + 1))), (3, .int (nI (v + (shp a gd t k)))), (2, .int (nI t)), (0, .ref (g 16 0)), (1, .int (nI x))] dX1_grantOf_39 rfl 1 rfl (nI_add k 1) (by decide) rfl ?_
        refine g_goto 11 dX1_grantOf_42 rfl ?_
        exact ih11 (by omega) _ (by rw [fb_sm_succ, hv])
  exact L11 0 (Nat.zero_le _) 0 rfl

set_option maxHeartbeats 4000000 in
set_option maxRecDepth 100000 in
theorem c_X1_shareOf {l : Launch} {D : va_G} {g : Nat → Nat → Nat} {ca : Nat → ClassId} {M : Mm} {o gd : Nat} {a : Sa} (hko : kd o = 2) (hI : Iv a) (hp : PlS M o a gd) (x : Nat) (hx : x < a 0 4) (h15 : a 15 x = gd) (h18 : a 18 x = 0) (p : Nat) (hp3 : p < a 0 3) : Ct l D g ca md_X1_shareOf [.ref (g 16 0), .int (nI p), .int (nI x)] M (Ri (fun r M1 => r = nI (if apos a gd p < AgN a gd then shp a gd (tpos a gd x) (apos a gd p) else 0) ∧ M1 = M)) := by
  refine Ct.of (by decide) rfl (Nat.le_of_ble_eq_true rfl) ?_
  have b1 := hI.g4
  have b2 := hI.c6
  have b3 := hI.l24
  have b4 := hI.o41
  have ho12 := kd_2 hko
  have hag := AgN_le (a := a) (gd := gd)
  have htn := TuN_le hI (gd := gd)
  show G l D g ca md_X1_shareOf 0 [(0, .ref (g 16 0)), (1, .int (nI p)), (2, .int (nI x))] [] M _
  refine g_aload_n 1 0 dX1_shareOf_0 rfl rfl ?_
  refine g_iload_n 2 2 dX1_shareOf_1 rfl rfl ?_
  refine g_callVi 5 md_X1_turnOf [.int (nI x)] [] dX1_shareOf_2 rfl e_X1_shareOf_42 rfl (by decide) rfl rfl (Nat.le_of_ble_eq_true rfl) (c_X1_turnOf hko hI hp x hx h15 h18) (fun r2 M2 h2 => ?_)
  obtain ⟨rfl, h2⟩ := h2
  have h2 := h2.symm
  subst h2
  obtain ⟨t, et⟩ : ∃ t, t = tpos a gd x := ⟨_, rfl⟩
  have ht : t < TuN a gd := by rw [et]; exact (tpos_lt hx h15 h18).1
  refine g_top (nI t) (by rw [et]) ?_
  refine g_istore_n 6 [(3, .int (nI t)), (0, .ref (g 16 0)), (1, .int (nI p)), (2, .int (nI x))] dX1_shareOf_5 rfl (by decide) rfl ?_
  refine g_iconst 7 (nI 0) dX1_shareOf_6 rfl rfl ?_
  refine g_istore 9 [(4, .int (nI 0)), (3, .int (nI t)), (0, .ref (g 16 0)), (1, .int (nI p)), (2, .int (nI x))] dX1_shareOf_7 rfl (by decide) rfl ?_
  have L9 : ∀ k, k ≤ AgN a gd → (∀ i, i < k → ¬ Ag a gd i = p) → G l D g ca md_X1_shareOf 9 [(4, .int (nI k)), (3, .int (nI t)), (0, .ref (g 16 0)), (1, .int (nI p)), (2, .int (nI x))] [] M (Ri (fun r M1 => r = nI (if apos a gd p < AgN a gd then shp a gd (tpos a gd x) (apos a gd p) else 0) ∧ M1 = M)) := by
    refine upto ?_
    intro k hk ih9 hv
    refine g_iload 11 0 dX1_shareOf_9 rfl rfl ?_
    refine g_aload_n 12 2 dX1_shareOf_11 rfl rfl ?_
    refine g_get 15 (nI (AgN a gd)) dX1_shareOf_12 rfl fX1_46 rfl (by decide) rfl hp.2.1 ?_
    refine g_icmpN_ge 52 18 dX1_shareOf_15 rfl rfl (by first | omega | (have := (Tu_in (a := a) (gd := gd) (i := k) (by omega)).1; omega) | (have := (Ag_in (a := a) (gd := gd) (k := k) (by omega)).1; omega)) (by first | omega | (have := (Tu_in (a := a) (gd := gd) (i := k) (by omega)).1; omega) | (have := (Ag_in (a := a) (gd := gd) (k := k) (by omega)).1; omega)) (fun c15 => ?_) (fun c15 => ?_)
    · refine g_iconst 53 (nI 0) dX1_shareOf_52 rfl rfl ?_
      exact g_iret rfl dX1_shareOf_53 ⟨by first | (rw [show apos a gd p = k from first_eq (by omega) (decide_eq_true c31) (fun i hi => decide_eq_false (hv i hi)), if_pos (by omega), et]) | (rw [if_neg (by rw [show apos a gd p = AgN a gd from first_no (fun i hi => decide_eq_false (hv i (by omega)))]; omega)]), rfl⟩
    · refine g_iload_n 19 1 dX1_shareOf_18 rfl rfl ?_
      refine g_iconst 20 ((-1)) dX1_shareOf_19 rfl rfl ?_
      refine g_icmp_eq 52 23 dX1_shareOf_20 rfl rfl (fun c20 => ?_) (fun c20 => ?_)
      · exact absurd c20 (nI_nm1 (by omega))
      · refine g_aload_n 24 2 dX1_shareOf_23 rfl rfl ?_
        refine g_geta 27 4 dX1_shareOf_24 rfl fX1_9 rfl (by decide) rfl rfl ?_
        refine g_iload 29 0 dX1_shareOf_27 rfl rfl ?_
        refine g_iald 30 (nI (Ag a gd k)) dX1_shareOf_29 rfl rfl (by decide) rfl (by decide) (by omega) (hp.2.2.2.1 _ (by omega)) ?_
        refine g_iload_n 31 3 dX1_shareOf_30 rfl rfl ?_
        refine g_icmpN_ne 46 34 dX1_shareOf_31 rfl rfl (by first | omega | (have := (Tu_in (a := a) (gd := gd) (i := k) (by omega)).1; omega) | (have := (Ag_in (a := a) (gd := gd) (k := k) (by omega)).1; omega)) (by first | omega | (have := (Tu_in (a := a) (gd := gd) (i := k) (by omega)).1; omega) | (have := (Ag_in (a := a) (gd := gd) (k := k) (by omega)).1; omega)) (fun c31 => ?_) (fun c31 => ?_)
        · refine g_iinc 49 (nI (k + 1)) [(4, .int (nI (k + 1))), (3, .int (nI t)), (0, .ref (g 16 0)), (1, .int (nI p)), (2, .int (nI x))] dX1_shareOf_46 rfl 0 rfl (nI_add k 1) (by decide) rfl ?_
          refine g_goto 9 dX1_shareOf_49 rfl ?_
          exact ih9 (by omega) (lt_s hv c31)
        · refine g_aload_n 35 2 dX1_shareOf_34 rfl rfl ?_
          refine g_geta 38 7 dX1_shareOf_35 rfl fX1_21 rfl (by decide) rfl rfl ?_
          refine g_iload 40 0 dX1_shareOf_38 rfl rfl ?_
          refine g_iload_n 41 1 dX1_shareOf_40 rfl rfl ?_
          refine g_callSi 44 md_X1_cell [.int (nI k), .int (nI t)] [.ref (g 16 7)] dX1_shareOf_41 rfl e_X1_shareOf_49 rfl rfl (Nat.le_of_ble_eq_true rfl) (c_X1_cell k t) (fun r41 M41 h41 => ?_)
          obtain ⟨rfl, h41⟩ := h41
          have h41 := h41.symm
          subst h41
          refine g_iald 45 (nI (shp a gd t k)) dX1_shareOf_44 rfl rfl (by decide) rfl (by decide) (by omega) (hp.2.2.2.2.2.2 k (by omega) t (by omega)) ?_
          exact g_iret rfl dX1_shareOf_45 ⟨by first | (rw [show apos a gd p = k from first_eq (by omega) (decide_eq_true c31) (fun i hi => decide_eq_false (hv i hi)), if_pos (by omega), et]) | (rw [if_neg (by rw [show apos a gd p = AgN a gd from first_no (fun i hi => decide_eq_false (hv i (by omega)))]; omega)]), rfl⟩
  exact L9 0 (Nat.zero_le _) (fun i h => absurd h (Nat.not_lt_zero i))

set_option maxHeartbeats 4000000 in
set_option maxRecDepth 100000 in
theorem c_X1_sumRestTo {l : Launch} {D : va_G} {g : Nat → Nat → Nat} {ca : Nat → ClassId} {M : Mm} {o gd : Nat} {a : Sa} (hko : kd o = 2) (hI : Iv a) (hp : PlS M o a gd) (hS : RP (M.1 o) a) (d : Nat) (hd : d < 65536) : Ct l D g ca md_X1_sumRestTo [.ref (g 16 0), .int (nI d)] M (Ri (fun r M1 => r = nI (fb_sm (fun k => if a 11 (Ag a gd k) ≤ d then prp a gd (TuN a gd) k else 0) (AgN a gd)) ∧ M1 = M)) := by
  refine Ct.of (by decide) rfl (Nat.le_of_ble_eq_true rfl) ?_
  have b1 := hI.g4
  have b2 := hI.c6
  have b3 := hI.l24
  have b4 := hI.o41
  have ho12 := kd_2 hko
  have hag := AgN_le (a := a) (gd := gd)
  have htn := TuN_le hI (gd := gd)
  show G l D g ca md_X1_sumRestTo 0 [(0, .ref (g 16 0)), (1, .int (nI d))] [] M _
  refine g_iconst 1 (nI 0) dX1_sumRestTo_0 rfl rfl ?_
  refine g_istore_n 2 [(2, .int (nI 0)), (0, .ref (g 16 0)), (1, .int (nI d))] dX1_sumRestTo_1 rfl (by decide) rfl ?_
  refine g_iconst 3 (nI 0) dX1_sumRestTo_2 rfl rfl ?_
  refine g_istore_n 4 [(3, .int (nI 0)), (2, .int (nI 0)), (0, .ref (g 16 0)), (1, .int (nI d))] dX1_sumRestTo_3 rfl (by decide) rfl ?_
  have L4 : ∀ k, k ≤ AgN a gd → ∀ v, v = fb_sm (fun k => if a 11 (Ag a gd k) ≤ d then prp a gd (TuN a gd) k else 0) k → G l D g ca md_X1_sumRestTo 4 [(3, .int (nI k)), (2, .int (nI v)), (0, .ref (g 16 0)), (1, .int (nI d))] [] M (Ri (fun r M1 => r = nI (fb_sm (fun k => if a 11 (Ag a gd k) ≤ d then prp a gd (TuN a gd) k else 0) (AgN a gd)) ∧ M1 = M)) := by
    refine upto ?_
    intro k hk ih4 v hv
    refine g_iload_n 5 0 dX1_sumRestTo_4 rfl rfl ?_
    refine g_aload_n 6 2 dX1_sumRestTo_5 rfl rfl ?_
    refine g_get 9 (nI (AgN a gd)) dX1_sumRestTo_6 rfl fX1_46 rfl (by decide) rfl hp.2.1 ?_
    refine g_icmpN_ge 45 12 dX1_sumRestTo_9 rfl rfl (by first | omega | (have := hI.lot (Ag_in (a := a) (gd := gd) (k := k) (by omega)).1; omega)) (by first | omega | (have := hI.lot (Ag_in (a := a) (gd := gd) (k := k) (by omega)).1; omega)) (fun c9 => ?_) (fun c9 => ?_)
    · refine g_iload_n 46 1 dX1_sumRestTo_45 rfl rfl ?_
      exact g_iret rfl dX1_sumRestTo_46 ⟨by rw [hv, show k = AgN a gd by omega], rfl⟩
    · refine g_aload_n 13 2 dX1_sumRestTo_12 rfl rfl ?_
      refine g_gets 16 o dX1_sumRestTo_13 rfl fX1_24 rfl (by decide) rfl hp.1 (by omega) ?_
      refine g_geta 19 11 dX1_sumRestTo_16 rfl fX1_53 hko (by decide) rfl rfl ?_
      refine g_aload_n 20 2 dX1_sumRestTo_19 rfl rfl ?_
      refine g_geta 23 4 dX1_sumRestTo_20 rfl fX1_9 rfl (by decide) rfl rfl ?_
      refine g_iload_n 24 0 dX1_sumRestTo_23 rfl rfl ?_
      refine g_iald 25 (nI (Ag a gd k)) dX1_sumRestTo_24 rfl rfl (by decide) rfl (by decide) (by first | omega | (have := (Tu_in (a := a) (gd := gd) (i := k) (by omega)).1; omega) | (have := (Ag_in (a := a) (gd := gd) (k := k) (by omega)).1; omega)) (hp.2.2.2.1 _ (by omega)) ?_
      refine g_iald 26 (nI (a 11 (Ag a gd k))) dX1_sumRestTo_25 rfl hko (by decide) rfl (by decide) (by first | omega | (have := (Tu_in (a := a) (gd := gd) (i := k) (by omega)).1; omega) | (have := (Ag_in (a := a) (gd := gd) (k := k) (by omega)).1; omega)) (hS.lot (by decide) (by decide) (Ag_in (by omega)).1) ?_
      refine g_iload_n 27 3 dX1_sumRestTo_26 rfl rfl ?_
      refine g_icmpN_gt 39 30 dX1_sumRestTo_27 rfl rfl (by first | omega | (have := hI.lot (Ag_in (a := a) (gd := gd) (k := k) (by omega)).1; omega)) (by first | omega | (have := hI.lot (Ag_in (a := a) (gd := gd) (k := k) (by omega)).1; omega)) (fun c27 => ?_) (fun c27 => ?_)
      · refine g_iinc 42 (nI (k + 1)) [(3, .int (nI (k + 1))), (2, .int (nI v)), (0, .ref (g 16 0)), (1, .int (nI d))] dX1_sumRestTo_39 rfl 0 rfl (nI_add k 1) (by decide) rfl ?_
        refine g_goto 4 dX1_sumRestTo_42 rfl ?_
        exact ih4 (by omega) _ (by rw [fb_sm_succ, hv]; first | rw [if_pos c27] | rw [if_neg (by omega)]; rfl)
      · refine g_iload_n 31 1 dX1_sumRestTo_30 rfl rfl ?_
        refine g_aload_n 32 2 dX1_sumRestTo_31 rfl rfl ?_
        refine g_geta 35 5 dX1_sumRestTo_32 rfl fX1_15 rfl (by decide) rfl rfl ?_
        refine g_iload_n 36 0 dX1_sumRestTo_35 rfl rfl ?_
        refine g_iald 37 (nI (prp a gd (TuN a gd) k)) dX1_sumRestTo_36 rfl rfl (by decide) rfl (by decide) (by first | omega | (have := (Tu_in (a := a) (gd := gd) (i := k) (by omega)).1; omega) | (have := (Ag_in (a := a) (gd := gd) (k := k) (by omega)).1; omega)) (hp.2.2.2.2.2.1 _ (by omega)) ?_
        refine g_iadd 38 (nI (v + (prp a gd (TuN a gd) k))) dX1_sumRestTo_37 rfl (nI_add v (prp a gd (TuN a gd) k)) ?_
        refine g_istore_n 39 [(2, .int (nI (v + (prp a gd (TuN a gd) k)))), (3, .int (nI k)), (0, .ref (g 16 0)), (1, .int (nI d))] dX1_sumRestTo_38 rfl (by decide) rfl ?_
        refine g_iinc 42 (nI (k + 1)) [(3, .int (nI (k + 1))), (2, .int (nI (v + (prp a gd (TuN a gd) k)))), (0, .ref (g 16 0)), (1, .int (nI d))] dX1_sumRestTo_39 rfl 1 rfl (nI_add k 1) (by decide) rfl ?_
        refine g_goto 4 dX1_sumRestTo_42 rfl ?_
        exact ih4 (by omega) _ (by rw [fb_sm_succ, hv]; first | rw [if_pos c27] | rw [if_neg (by omega)]; rfl)
  exact L4 0 (Nat.zero_le _) 0 rfl

set_option maxHeartbeats 4000000 in
set_option maxRecDepth 100000 in
theorem c_X1_reserveAll {l : Launch} {D : va_G} {g : Nat → Nat → Nat} {ca : Nat → ClassId} {M : Mm} {o gd : Nat} {a : Sa} (hko : kd o = 2) (hS : RP (M.1 o) a) (hI : Iv a) (hR : RR (M.1 o) a) (hr : Ir a) (hb : Ib a) (hp : PlS M o a gd) : Ct l D g ca md_X1_reserveAll [.ref (g 16 0)] M (Ri (fun r M1 => r = nI (rsv a gd).2 ∧ RR (M1.1 o) (rsv a gd).1 ∧ F20 o M M1 ∧ Ir (rsv a gd).1)) := by
  refine Ct.of (by decide) rfl (Nat.le_of_ble_eq_true rfl) ?_
  have b2 := hI.c6
  have b3 := hI.l24
  have b4 := hr.2
  have ho12 := kd_2 hko
  have hag := AgN_le (a := a) (gd := gd)
  have htn := TuN_le hI (gd := gd)
  show G l D g ca md_X1_reserveAll 0 [(0, .ref (g 16 0))] [] M _
  refine g_iconst 1 (nI 0) dX1_reserveAll_0 rfl rfl ?_
  refine g_istore_n 2 [(1, .int (nI 0)), (0, .ref (g 16 0))] dX1_reserveAll_1 rfl (by decide) rfl ?_
  refine g_iconst 3 (nI 0) dX1_reserveAll_2 rfl rfl ?_
  refine g_istore_n 4 [(2, .int (nI 0)), (1, .int (nI 0)), (0, .ref (g 16 0))] dX1_reserveAll_3 rfl (by decide) rfl ?_
  have L4 : ∀ k2, k2 ≤ AgN a gd → ∀ (N : Mm) (Y : Sa × Nat), Y = rout a gd k2 → F20 o M N → RR (N.1 o) Y.1 → (∀ j i, j < 20 → Y.1 j i = a j i) → Ir Y.1 → Ib Y.1 → G l D g ca md_X1_reserveAll 4 [(2, .int (nI k2)), (1, .int (nI Y.2)), (0, .ref (g 16 0))] [] N (Ri (fun r M1 => r = nI (rsv a gd).2 ∧ RR (M1.1 o) (rsv a gd).1 ∧ F20 o M M1 ∧ Ir (rsv a gd).1)) := by
    refine upto ?_
    intro k2 hk2 ih4 N Y hY hF hRN eX hrN hbN
    refine g_iload_n 5 0 dX1_reserveAll_4 rfl rfl ?_
    refine g_aload_n 6 2 dX1_reserveAll_5 rfl rfl ?_
    refine g_get 9 (nI (AgN a gd)) dX1_reserveAll_6 rfl fX1_46 rfl (by decide) rfl ((hF.1 _ _ _ (by omega)).trans hp.2.1) ?_
    refine g_icmpN_ge 100 12 dX1_reserveAll_9 rfl rfl (by omega) (by omega) (fun c9 => ?_) (fun c9 => ?_)
    · refine g_iload_n 101 1 dX1_reserveAll_100 rfl rfl ?_
      exact g_iret rfl dX1_reserveAll_101 ⟨by rw [hY, show k2 = AgN a gd by omega]; rfl, by rw [hY, show k2 = AgN a gd by omega] at hRN; exact hRN, hF, by rw [hY, show k2 = AgN a gd by omega] at hrN; exact hrN⟩
    · refine g_iconst 13 (nI 0) dX1_reserveAll_12 rfl rfl ?_
      refine g_istore_n 14 [(3, .int (nI 0)), (2, .int (nI k2)), (1, .int (nI Y.2)), (0, .ref (g 16 0))] dX1_reserveAll_13 rfl (by decide) rfl ?_
      refine g_lv [0, 2, 1, 3] rfl ?_
      have L14 : ∀ k, k ≤ TuN a gd → ∀ (N : Mm) (X : Sa × Nat), X = rin a gd k2 (rout a gd k2) k → F20 o M N → RR (N.1 o) X.1 → (∀ j i, j < 20 → X.1 j i = a j i) → Ir X.1 → Ib X.1 → G l D g ca md_X1_reserveAll 14 [(3, .int (nI k)), (1, .int (nI X.2)), (2, .int (nI k2)), (0, .ref (g 16 0))] [] N (Ri (fun r M1 => r = nI (rsv a gd).2 ∧ RR (M1.1 o) (rsv a gd).1 ∧ F20 o M M1 ∧ Ir (rsv a gd).1)) := by
        refine upto ?_
        intro k hk ih14 N X hX hF hRN eX hrN hbN
        refine g_iload_n 15 0 dX1_reserveAll_14 rfl rfl ?_
        refine g_aload_n 16 3 dX1_reserveAll_15 rfl rfl ?_
        refine g_get 19 (nI (TuN a gd)) dX1_reserveAll_16 rfl fX1_35 rfl (by decide) rfl ((hF.1 _ _ _ (by omega)).trans hp.2.2.1) ?_
        refine g_icmpN_ge 94 22 dX1_reserveAll_19 rfl rfl (by omega) (by omega) (fun c19 => ?_) (fun c19 => ?_)
        · refine g_iinc 97 (nI (k2 + 1)) [(2, .int (nI (k2 + 1))), (3, .int (nI k)), (1, .int (nI X.2)), (0, .ref (g 16 0))] dX1_reserveAll_94 rfl 2 rfl (nI_add k2 1) (by decide) rfl ?_
          refine g_goto 4 dX1_reserveAll_97 rfl ?_
          refine g_lv [0, 2, 3] rfl ?_
          exact ih4 (by omega) _ X (by rw [hX, show k = TuN a gd by omega]; rfl) hF hRN eX hrN hbN
        · refine g_aload_n 23 3 dX1_reserveAll_22 rfl rfl ?_
          refine g_geta 26 7 dX1_reserveAll_23 rfl fX1_21 rfl (by decide) rfl rfl ?_
          refine g_iload_n 27 2 dX1_reserveAll_26 rfl rfl ?_
          refine g_iload_n 28 0 dX1_reserveAll_27 rfl rfl ?_
          refine g_callSi 31 md_X1_cell [.int (nI k2), .int (nI k)] [.ref (g 16 7)] dX1_reserveAll_28 rfl e_X1_reserveAll_49 rfl rfl (Nat.le_of_ble_eq_true rfl) (c_X1_cell k2 k) (fun r28 M28 h28 => ?_)
          obtain ⟨rfl, h28⟩ := h28
          have h28 := h28.symm
          subst h28
          refine g_iald 32 (nI (shp a gd k k2)) dX1_reserveAll_31 rfl rfl (by decide) rfl (by decide) (by omega) ((hF.1 _ _ _ (by omega)).trans (hp.2.2.2.2.2.2 k2 (by omega) k (by omega))) ?_
          refine g_istore 34 [(4, .int (nI (shp a gd k k2))), (3, .int (nI k)), (1, .int (nI X.2)), (2, .int (nI k2)), (0, .ref (g 16 0))] dX1_reserveAll_32 rfl (by decide) rfl ?_
          refine g_aload_n 35 4 dX1_reserveAll_34 rfl rfl ?_
          refine g_gets 38 o dX1_reserveAll_35 rfl fX1_24 rfl (by decide) rfl ((hF.1 _ _ _ (by omega)).trans hp.1) (by omega) ?_
          refine g_aload_n 39 4 dX1_reserveAll_38 rfl rfl ?_
          refine g_geta 42 4 dX1_reserveAll_39 rfl fX1_9 rfl (by decide) rfl rfl ?_
          refine g_iload_n 43 3 dX1_reserveAll_42 rfl rfl ?_
          refine g_iald 44 (nI (Ag a gd k2)) dX1_reserveAll_43 rfl rfl (by decide) rfl (by decide) (by omega) ((hF.1 _ _ _ (by omega)).trans (hp.2.2.2.1 _ (by omega))) ?_
          refine g_aload_n 45 4 dX1_reserveAll_44 rfl rfl ?_
          refine g_geta 48 6 dX1_reserveAll_45 rfl fX1_18 rfl (by decide) rfl rfl ?_
          refine g_iload_n 49 1 dX1_reserveAll_48 rfl rfl ?_
          refine g_iald 50 (nI (Tu a gd k)) dX1_reserveAll_49 rfl rfl (by decide) rfl (by decide) (by omega) ((hF.1 _ _ _ (by omega)).trans (hp.2.2.2.2.1 _ (by omega))) ?_
          have hta := Tu_in (a := a) (gd := gd) (i := k) (by omega)
          have hla := Ag_in (a := a) (gd := gd) (k := k2) (by omega)
          refine g_callVi 53 md_X2_reservedFor [.int (nI (Ag a gd k2)), .int (nI (Tu a gd k))] [] dX1_reserveAll_50 rfl e_X1_reserveAll_58 hko (by decide) rfl rfl (Nat.le_of_ble_eq_true rfl) (c_X2_reservedFor hko (hF.rp eX hS) (Iv_of eX hI) hRN hrN (Ag a gd k2) (Tu a gd k) (by rw [eX 0 3 (by omega)]; omega) (by rw [eX 0 4 (by omega)]; omega)) (fun r50 M50 h50 => ?_)
          obtain ⟨rfl, h50⟩ := h50
          have h50 := h50.symm
          subst h50
          refine g_istore 55 [(5, .int (nI (res X.1 (Ag a gd k2) (Tu a gd k)))), (4, .int (nI (shp a gd k k2))), (3, .int (nI k)), (1, .int (nI X.2)), (2, .int (nI k2)), (0, .ref (g 16 0))] dX1_reserveAll_53 rfl (by decide) rfl ?_
          refine g_iload_n 56 3 dX1_reserveAll_55 rfl rfl ?_
          refine g_iconst 57 (nI 0) dX1_reserveAll_56 rfl rfl ?_
          refine g_iload 59 0 dX1_reserveAll_57 rfl rfl ?_
          refine g_iload 61 1 dX1_reserveAll_59 rfl rfl ?_
          refine g_isub 62 (nI (res X.1 (Ag a gd k2) (Tu a gd k)) - nI (shp a gd k k2)) dX1_reserveAll_61 rfl rfl ?_
          refine g_mmax 65 (nI (res X.1 (Ag a gd k2) (Tu a gd k) - shp a gd k k2)) dX1_reserveAll_62 rfl ml_X1_61 (by decide) (Nat.le_of_ble_eq_true rfl) (nI_max0 (by have := hbN (Ag a gd k2) (Tu a gd k) (by omega); omega) (by have := shp_le hI (gd := gd) (i := k) (k := k2) (by omega); omega)) ?_
          refine g_iadd 66 (nI (X.2 + (res X.1 (Ag a gd k2) (Tu a gd k) - shp a gd k k2))) dX1_reserveAll_65 rfl (nI_add X.2 (res X.1 (Ag a gd k2) (Tu a gd k) - shp a gd k k2)) ?_
          refine g_istore_n 67 [(1, .int (nI (X.2 + (res X.1 (Ag a gd k2) (Tu a gd k) - shp a gd k k2)))), (5, .int (nI (res X.1 (Ag a gd k2) (Tu a gd k)))), (4, .int (nI (shp a gd k k2))), (3, .int (nI k)), (2, .int (nI k2)), (0, .ref (g 16 0))] dX1_reserveAll_66 rfl (by decide) rfl ?_
          refine g_aload_n 68 5 dX1_reserveAll_67 rfl rfl ?_
          refine g_gets 71 o dX1_reserveAll_68 rfl fX1_24 rfl (by decide) rfl ((hF.1 _ _ _ (by omega)).trans hp.1) (by omega) ?_
          refine g_aload_n 72 5 dX1_reserveAll_71 rfl rfl ?_
          refine g_geta 75 4 dX1_reserveAll_72 rfl fX1_9 rfl (by decide) rfl rfl ?_
          refine g_iload_n 76 4 dX1_reserveAll_75 rfl rfl ?_
          refine g_iald 77 (nI (Ag a gd k2)) dX1_reserveAll_76 rfl rfl (by decide) rfl (by decide) (by omega) ((hF.1 _ _ _ (by omega)).trans (hp.2.2.2.1 _ (by omega))) ?_
          refine g_aload_n 78 5 dX1_reserveAll_77 rfl rfl ?_
          refine g_geta 81 6 dX1_reserveAll_78 rfl fX1_18 rfl (by decide) rfl rfl ?_
          refine g_iload_n 82 3 dX1_reserveAll_81 rfl rfl ?_
          refine g_iald 83 (nI (Tu a gd k)) dX1_reserveAll_82 rfl rfl (by decide) rfl (by decide) (by omega) ((hF.1 _ _ _ (by omega)).trans (hp.2.2.2.2.1 _ (by omega))) ?_
          refine g_iload 85 2 dX1_reserveAll_83 rfl rfl ?_
          refine g_callVv 88 md_X2_setReserved [.int (nI (Ag a gd k2)), .int (nI (Tu a gd k)), .int (nI (shp a gd k k2))] [] dX1_reserveAll_85 rfl e_X1_reserveAll_66 hko (by decide) rfl rfl (Nat.le_of_ble_eq_true rfl) (c_X2_setReserved hko (hF.rp (a := a) (fun _ _ _ => rfl) hS) hI (Ag a gd k2) (Tu a gd k) (by omega) (by omega) (shp a gd k k2)) (fun M85 h85 => ?_)
          subst h85
          refine g_iinc 91 (nI (k + 1)) [(3, .int (nI (k + 1))), (1, .int (nI (X.2 + (res X.1 (Ag a gd k2) (Tu a gd k) - shp a gd k k2)))), (5, .int (nI (res X.1 (Ag a gd k2) (Tu a gd k)))), (4, .int (nI (shp a gd k k2))), (2, .int (nI k2)), (0, .ref (g 16 0))] dX1_reserveAll_88 rfl 3 rfl (nI_add k 1) (by decide) rfl ?_
          refine g_goto 14 dX1_reserveAll_91 rfl ?_
          refine g_lv [0, 1, 4, 5] rfl ?_
          exact ih14 (by omega) _ (ua X.1 21 (64 * Ag a gd k2 + Tu a gd k) (shp a gd k k2), X.2 + (res X.1 (Ag a gd k2) (Tu a gd k) - shp a gd k k2)) (by rw [hX]; rfl) (hF.tr F20.wr) (by have h9 := RR_set (Iv_of eX hI) hrN (p := Ag a gd k2) (q := Tu a gd k) (v := shp a gd k k2) (B := N.1 o) (B' := (wr N o 20 (Ag a gd k2 * 6 + a 14 (Tu a gd k)) (nI (shp a gd k k2))).1 o) (by omega) (by rw [eX 0 4 (by omega)]; omega) (by rw [eX 18 _ (by omega)]; exact hta.2.2) (by rw [eX 15 _ (by omega), eX 10 _ (by omega), hta.2.1, hla.2]) (fun i hi hne => wr_ne (by rw [eX 14 _ (by omega)] at hne; omega)) (by rw [eX 14 _ (by omega)]; exact wr_eq) hRN; exact h9) (fun j i hj => (ua_nj (by omega)).trans (eX j i hj)) (rs_Ir hrN (by omega) (by omega) (by rw [eX 0 3 (by omega), eX 0 4 (by omega), eX 18 _ (by omega), eX 15 _ (by omega), eX 10 _ (by omega), hta.2.1, hla.2]; exact ⟨hla.1, hta.1, hta.2.2, rfl⟩)) (rs_Ib hbN (by omega) (shp_le hI (by omega)))
      exact L14 0 (Nat.zero_le _) N Y hY hF hRN eX hrN hbN
  exact L4 0 (Nat.zero_le _) M (a, 0) rfl F20.rf hR (fun _ _ _ => rfl) hr hb
