set_option maxHeartbeats 4000000 in
set_option maxRecDepth 100000 in
theorem c_X7_plan {l : Launch} {D : va_G} {g : Nat → Nat → Nat} {ca : Nat → ClassId} {M : Mm} {a : Sa} (hN : RM (M.1 18 12) a) (hI : Iv a) (x y : Int32) : Ct l D g ca md_X7_plan [.ref (g 18 0), .int x, .int y] M (Ri (fun r M1 => r = A_plan a x y ∧ FPn (wr M 18 0 0 (nI 0)) M1)) := by
  refine Ct.of (by decide) rfl (Nat.le_of_ble_eq_true rfl) ?_
  have b0 := hI.today
  have b1 := hI.g4
  have b1' := hI.g1
  have b2 := hN.c6
  have b3 := hN.l24
  have b4 := hN.o40
  show G l D g ca md_X7_plan 0 [(0, .ref (g 18 0)), (1, .int x), (2, .int y)] [] M _
  refine g_aload_n 1 0 dX7_plan_0 rfl rfl ?_
  refine g_iconst 2 (nI 0) dX7_plan_1 rfl rfl ?_
  refine g_put 5 dX7_plan_2 rfl fX7_1 pX7_0 rfl (by decide) rfl ?_
  refine g_iload_n 6 1 dX7_plan_5 rfl rfl ?_
  refine g_iconst 7 ((-1)) dX7_plan_6 rfl rfl ?_
  refine g_icmp_eq 18 10 dX7_plan_7 rfl rfl (fun c7 => ?_) (fun c7 => ?_)
  · refine g_aload_n 19 0 dX7_plan_18 rfl rfl ?_
    refine g_iload_n 20 2 dX7_plan_19 rfl rfl ?_
    refine g_callVi 23 md_X7_isOpen [.int y] [] dX7_plan_20 rfl e_X7_plan_189 rfl (by decide) rfl rfl (Nat.le_of_ble_eq_true rfl) (c_X7_isOpen (RM_w (by decide) hN) hI y) (fun r20 M20 h20 => ?_)
    obtain ⟨rfl, h20⟩ := h20
    have h20 := h20.symm
    subst h20
    refine g_ifB_ne 28 26 dX7_plan_23 rfl rfl (fun c23 => ?_) (fun c23 => ?_)
    · obtain ⟨q, hq, rfl, h18⟩ := opn_of c23 (by omega)
      have htp := tpos_lt hq rfl h18
      skip
      refine g_aload_n 29 0 dX7_plan_28 rfl rfl ?_
      refine g_aload_n 30 0 dX7_plan_29 rfl rfl ?_
      refine g_iload_n 31 2 dX7_plan_30 rfl rfl ?_
      refine g_iconst 32 (nI 1) dX7_plan_31 rfl rfl ?_
      refine g_callVi 35 md_X7_ordered [.int (nI q), .int (nI 1)] [.ref (g 18 0)] dX7_plan_32 rfl e_X7_plan_169 rfl (by decide) rfl rfl (Nat.le_of_ble_eq_true rfl) (c_X7_ordered (RM_w (by decide) hN) hI q 1 15 (by omega) (by decide) rfl) (fun r32 M32 h32 => ?_)
      obtain ⟨rfl, h32⟩ := h32
      have h32 := h32.symm
      subst h32
      refine g_callVv 38 md_X7_plansNow [.int (nI (a 15 q))] [] dX7_plan_35 rfl e_X7_plan_283 rfl (by decide) rfl rfl (Nat.le_of_ble_eq_true rfl) (c_X7_plansNow (RM_w (by decide) hN) hI (a 15 q) (by first | omega | exact (hI.ord hq).2.1)) (fun N h35 => ?_)
      obtain ⟨⟨hP, hT⟩, hF⟩ := h35
      have hN_N := hF.rm (RM_w (by decide) hN)
      have htn := TuN_le hI (gd := (a 15 q))
      have hag := AgN_le (a := a) (gd := (a 15 q))
      refine g_iload_n 39 1 dX7_plan_38 rfl rfl ?_
      refine g_iconst 40 ((-1)) dX7_plan_39 rfl rfl ?_
      refine g_icmp_ne 53 43 dX7_plan_40 rfl rfl (fun c40 => ?_) (fun c40 => ?_)
      · exact absurd c7 c40
      · refine g_aload_n 44 0 dX7_plan_43 rfl rfl ?_
        refine g_aload_n 45 0 dX7_plan_44 rfl rfl ?_
        refine g_iload_n 46 2 dX7_plan_45 rfl rfl ?_
        refine g_callVi 49 md_X7_turnOf [.int (nI q)] [.ref (g 18 0)] dX7_plan_46 rfl e_X7_plan_286 rfl (by decide) rfl rfl (Nat.le_of_ble_eq_true rfl) (c_X7_turnOf hP.tn_ (f := Tu a (a 15 q)) (fun i hi => ⟨(hT i hi).trans (congrArg nI (nm_in (Tu_in hi).1)), by have := (Tu_in hi).1; omega⟩) (by omega) q (by omega)) (fun r46 M46 h46 => ?_)
        obtain ⟨rfl, h46⟩ := h46
        have h46 := h46.symm
        subst h46
        rw [show fa_first (fun i => decide (Tu a (a 15 q) i = q)) (TuN a (a 15 q)) = tpos a (a 15 q) q from rfl]
        refine g_callVi 52 md_X7_hasGot [.int (nI (tpos a (a 15 q) q))] [] dX7_plan_49 rfl e_X7_plan_268 rfl (by decide) rfl rfl (Nat.le_of_ble_eq_true rfl) (c_X7_hasGot hP (tpos a (a 15 q) q) htp.1) (fun r49 M49 h49 => ?_)
        obtain ⟨rfl, h49⟩ := h49
        have h49 := h49.symm
        subst h49
        exact g_iret rfl dX7_plan_52 ⟨(A_plan_all c7 (by omega) c23).symm, hF⟩
    · refine g_iconst 27 ((-1)) dX7_plan_26 rfl rfl ?_
      exact g_iret rfl dX7_plan_27 ⟨(A_plan_no (by first | exact Or.inr c23 | exact Or.inl ⟨c7, c15⟩)).symm, FPn.rf⟩
  · refine g_aload_n 11 0 dX7_plan_10 rfl rfl ?_
    refine g_iload_n 12 1 dX7_plan_11 rfl rfl ?_
    refine g_callVi 15 md_X7_isLot [.int x] [] dX7_plan_12 rfl e_X7_plan_202 rfl (by decide) rfl rfl (Nat.le_of_ble_eq_true rfl) (c_X7_isLot (RM_w (by decide) hN) hI x) (fun r12 M12 h12 => ?_)
    obtain ⟨rfl, h12⟩ := h12
    have h12 := h12.symm
    subst h12
    refine g_ifB_eq 26 18 dX7_plan_15 rfl rfl (fun c15 => ?_) (fun c15 => ?_)
    · refine g_iconst 27 ((-1)) dX7_plan_26 rfl rfl ?_
      exact g_iret rfl dX7_plan_27 ⟨(A_plan_no (by first | exact Or.inr c23 | exact Or.inl ⟨c7, c15⟩)).symm, FPn.rf⟩
    · refine g_aload_n 19 0 dX7_plan_18 rfl rfl ?_
      refine g_iload_n 20 2 dX7_plan_19 rfl rfl ?_
      refine g_callVi 23 md_X7_isOpen [.int y] [] dX7_plan_20 rfl e_X7_plan_189 rfl (by decide) rfl rfl (Nat.le_of_ble_eq_true rfl) (c_X7_isOpen (RM_w (by decide) hN) hI y) (fun r20 M20 h20 => ?_)
      obtain ⟨rfl, h20⟩ := h20
      have h20 := h20.symm
      subst h20
      refine g_ifB_ne 28 26 dX7_plan_23 rfl rfl (fun c23 => ?_) (fun c23 => ?_)
      · obtain ⟨p, hp, rfl⟩ := inr_of c15
        obtain ⟨q, hq, rfl, h18⟩ := opn_of c23 (by omega)
        have htp := tpos_lt hq rfl h18
        skip
        refine g_aload_n 29 0 dX7_plan_28 rfl rfl ?_
        refine g_aload_n 30 0 dX7_plan_29 rfl rfl ?_
        refine g_iload_n 31 2 dX7_plan_30 rfl rfl ?_
        refine g_iconst 32 (nI 1) dX7_plan_31 rfl rfl ?_
        refine g_callVi 35 md_X7_ordered [.int (nI q), .int (nI 1)] [.ref (g 18 0)] dX7_plan_32 rfl e_X7_plan_169 rfl (by decide) rfl rfl (Nat.le_of_ble_eq_true rfl) (c_X7_ordered (RM_w (by decide) hN) hI q 1 15 (by omega) (by decide) rfl) (fun r32 M32 h32 => ?_)
        obtain ⟨rfl, h32⟩ := h32
        have h32 := h32.symm
        subst h32
        refine g_callVv 38 md_X7_plansNow [.int (nI (a 15 q))] [] dX7_plan_35 rfl e_X7_plan_283 rfl (by decide) rfl rfl (Nat.le_of_ble_eq_true rfl) (c_X7_plansNow (RM_w (by decide) hN) hI (a 15 q) (by first | omega | exact (hI.ord hq).2.1)) (fun N h35 => ?_)
        obtain ⟨⟨hP, hT⟩, hF⟩ := h35
        have hN_N := hF.rm (RM_w (by decide) hN)
        have htn := TuN_le hI (gd := (a 15 q))
        have hag := AgN_le (a := a) (gd := (a 15 q))
        refine g_iload_n 39 1 dX7_plan_38 rfl rfl ?_
        refine g_iconst 40 ((-1)) dX7_plan_39 rfl rfl ?_
        refine g_icmp_ne 53 43 dX7_plan_40 rfl rfl (fun c40 => ?_) (fun c40 => ?_)
        · refine g_aload_n 54 0 dX7_plan_53 rfl rfl ?_
          refine g_iload_n 55 1 dX7_plan_54 rfl rfl ?_
          refine g_callVi 58 md_X7_ageOf [.int (nI p)] [] dX7_plan_55 rfl e_X7_plan_289 rfl (by decide) rfl rfl (Nat.le_of_ble_eq_true rfl) (c_X7_ageOf hP.am_ (f := Ag a (a 15 q)) (fun i hi => ⟨hP.age hi, by have := (Ag_in hi).1; omega⟩) (by omega) p (by omega)) (fun r55 M55 h55 => ?_)
          obtain ⟨rfl, h55⟩ := h55
          have h55 := h55.symm
          subst h55
          rw [show fa_first (fun i => decide (Ag a (a 15 q) i = p)) (AgN a (a 15 q)) = apos a (a 15 q) p from rfl]
          have hap : apos a (a 15 q) p ≤ AgN a (a 15 q) := fa_first_le _ _
          refine g_aload_n 59 0 dX7_plan_58 rfl rfl ?_
          refine g_get 62 (nI (AgN a (a 15 q))) dX7_plan_59 rfl fX7_224 rfl (by decide) rfl hP.am_ ?_
          refine g_icmpN_ge 87 65 dX7_plan_62 rfl rfl (by omega) (by omega) (fun c62 => ?_) (fun c62 => ?_)
          · refine g_iconst 88 (nI 0) dX7_plan_87 rfl rfl ?_
            exact g_iret rfl dX7_plan_88 ⟨by rw [A_plan_one hp b3 (by omega) c23]; first | rw [if_pos c62] | rw [if_neg (by omega)], hF⟩
          · refine g_aload_n 66 0 dX7_plan_65 rfl rfl ?_
            refine g_geta 69 20 dX7_plan_66 rfl fX7_82 rfl (by decide) rfl rfl ?_
            refine g_bipush 71 (nI 8) dX7_plan_69 rfl rfl ?_
            refine g_aload_n 72 0 dX7_plan_71 rfl rfl ?_
            refine g_iload_n 73 1 dX7_plan_72 rfl rfl ?_
            refine g_callVi 76 md_X7_ageOf [.int (nI p)] [.int (nI 8), .ref (g 18 20)] dX7_plan_73 rfl e_X7_plan_289 rfl (by decide) rfl rfl (Nat.le_of_ble_eq_true rfl) (c_X7_ageOf hP.am_ (f := Ag a (a 15 q)) (fun i hi => ⟨hP.age hi, by have := (Ag_in hi).1; omega⟩) (by omega) p (by omega)) (fun r73 M73 h73 => ?_)
            obtain ⟨rfl, h73⟩ := h73
            have h73 := h73.symm
            subst h73
            rw [show fa_first (fun i => decide (Ag a (a 15 q) i = p)) (AgN a (a 15 q)) = apos a (a 15 q) p from rfl]
            have hap : apos a (a 15 q) p ≤ AgN a (a 15 q) := fa_first_le _ _
            refine g_imul 77 (nI (8 * (apos a (a 15 q) p))) dX7_plan_76 rfl (pk_mul 8 (apos a (a 15 q) p)) ?_
            refine g_aload_n 78 0 dX7_plan_77 rfl rfl ?_
            refine g_iload_n 79 2 dX7_plan_78 rfl rfl ?_
            refine g_callVi 82 md_X7_turnOf [.int (nI q)] [.int (nI (8 * (apos a (a 15 q) p))), .ref (g 18 20)] dX7_plan_79 rfl e_X7_plan_286 rfl (by decide) rfl rfl (Nat.le_of_ble_eq_true rfl) (c_X7_turnOf hP.tn_ (f := Tu a (a 15 q)) (fun i hi => ⟨(hT i hi).trans (congrArg nI (nm_in (Tu_in hi).1)), by have := (Tu_in hi).1; omega⟩) (by omega) q (by omega)) (fun r79 M79 h79 => ?_)
            obtain ⟨rfl, h79⟩ := h79
            have h79 := h79.symm
            subst h79
            rw [show fa_first (fun i => decide (Tu a (a 15 q) i = q)) (TuN a (a 15 q)) = tpos a (a 15 q) q from rfl]
            refine g_iadd 83 (nI ((8 * (apos a (a 15 q) p)) + (tpos a (a 15 q) q))) dX7_plan_82 rfl (nI_add (8 * (apos a (a 15 q) p)) (tpos a (a 15 q) q)) ?_
            refine g_iald 84 (nI (shp a (a 15 q) (tpos a (a 15 q) q) (apos a (a 15 q) p))) dX7_plan_83 rfl rfl (by decide) rfl (by decide) (by have := htp.1; omega) (hP.much c62 htp.1) ?_
            refine g_goto 88 dX7_plan_84 rfl ?_
            exact g_iret rfl dX7_plan_88 ⟨by rw [A_plan_one hp b3 (by omega) c23]; first | rw [if_pos c62] | rw [if_neg (by omega)], hF⟩
        · exact absurd c40 (nI_nm1 (by omega))
      · refine g_iconst 27 ((-1)) dX7_plan_26 rfl rfl ?_
        exact g_iret rfl dX7_plan_27 ⟨(A_plan_no (by first | exact Or.inr c23 | exact Or.inl ⟨c7, c15⟩)).symm, FPn.rf⟩

set_option maxHeartbeats 4000000 in
set_option maxRecDepth 100000 in
theorem c_X7_would {l : Launch} {D : va_G} {g : Nat → Nat → Nat} {ca : Nat → ClassId} {M : Mm} {a : Sa} (hN : RM (M.1 18 12) a) (hI : Iv a) (x y s d : Int32) : Ct l D g ca md_X7_would [.ref (g 18 0), .int x, .int y, .int s, .int d] M (Ri (fun r M1 => r = A_would a x y s d ∧ FPn (wr M 18 0 0 (nI 0)) M1)) := by
  refine Ct.of (by decide) rfl (Nat.le_of_ble_eq_true rfl) ?_
  have b0 := hI.today
  have b1 := hI.g4
  have b1' := hI.g1
  have b2 := hN.c6
  have b3 := hN.l24
  have b4 := hN.o40
  show G l D g ca md_X7_would 0 [(0, .ref (g 18 0)), (1, .int x), (2, .int y), (3, .int s), (4, .int d)] [] M _
  refine g_aload_n 1 0 dX7_would_0 rfl rfl ?_
  refine g_iconst 2 (nI 0) dX7_would_1 rfl rfl ?_
  refine g_put 5 dX7_would_2 rfl fX7_1 pX7_0 rfl (by decide) rfl ?_
  refine g_aload_n 6 0 dX7_would_5 rfl rfl ?_
  refine g_iload_n 7 1 dX7_would_6 rfl rfl ?_
  refine g_iload_n 8 2 dX7_would_7 rfl rfl ?_
  refine g_iload_n 9 3 dX7_would_8 rfl rfl ?_
  refine g_iload 11 4 dX7_would_9 rfl rfl ?_
  refine g_callVi 14 md_X7_canAsk [.int x, .int y, .int s, .int d] [] dX7_would_11 rfl e_X7_would_295 rfl (by decide) rfl rfl (Nat.le_of_ble_eq_true rfl) (c_X7_canAsk (RM_w (by decide) hN) hI x y s d) (fun r11 M11 h11 => ?_)
  obtain ⟨rfl, h11⟩ := h11
  have h11 := h11.symm
  subst h11
  refine g_ifB_ne 19 17 dX7_would_14 rfl rfl (fun c14 => ?_) (fun c14 => ?_)
  · obtain ⟨c, gd, n, j, rfl, rfl, rfl, rfl, hc, hg, hn1, hn2, hj1, hj2⟩ := cask_of c14
    refine g_aload_n 20 0 dX7_would_19 rfl rfl ?_
    refine g_aload_n 21 0 dX7_would_20 rfl rfl ?_
    refine g_geta 24 12 dX7_would_21 rfl fX7_64 rfl (by decide) rfl rfl ?_
    refine g_iload_n 25 1 dX7_would_24 rfl rfl ?_
    refine g_iload_n 26 2 dX7_would_25 rfl rfl ?_
    refine g_callVi 29 md_X7_isAskedFor [.ref (g 18 12), .int (nI c), .int (nI gd)] [] dX7_would_26 rfl e_X7_would_129 rfl (by decide) rfl rfl (Nat.le_of_ble_eq_true rfl) (c_X7_isAskedFor12 (RM_w (by decide) hN) (fun q hq => by have := hI.ord hq; omega) c gd (by omega) (by omega)) (fun r26 M26 h26 => ?_)
    obtain ⟨rfl, h26⟩ := h26
    have h26 := h26.symm
    subst h26
    refine g_ifB_eq 35 32 dX7_would_29 rfl rfl (fun c29 => ?_) (fun c29 => ?_)
    · refine g_aload_n 36 0 dX7_would_35 rfl rfl ?_
      refine g_iload_n 37 2 dX7_would_36 rfl rfl ?_
      refine g_iconst 38 ((-1)) dX7_would_37 rfl rfl ?_
      refine g_iconst 39 (nI 0) dX7_would_38 rfl rfl ?_
      refine g_iconst 40 (nI 1) dX7_would_39 rfl rfl ?_
      refine g_iload_n 41 1 dX7_would_40 rfl rfl ?_
      refine g_iload_n 42 3 dX7_would_41 rfl rfl ?_
      refine g_iload 44 4 dX7_would_42 rfl rfl ?_
      refine g_callVv 47 md_X7_laysGots [.int (nI gd), .int (-1), .int (nI 0), .int (bi true), .int (nI c), .int (nI n), .int (nI j)] [] dX7_would_44 rfl e_X7_would_274 rfl (by decide) rfl rfl (Nat.le_of_ble_eq_true rfl) (c_X7_laysGots (RM_w (by decide) hN) hI gd (-1) 0 true c n j (EfB_addO hI b4 hc hg hn1 hn2 (by omega) c29) hg (by decide) (by omega) (by omega)) (fun N h44 => ?_)
      obtain ⟨⟨hP, hT⟩, hF⟩ := h44
      have hIb := Iv_addO (d := j) hI b4 hc hg hn1 hn2 (by omega) c29
      have hb6 := hIb.c6
      have htn := TuN_le hIb (gd := gd)
      have htp := tpos_lt (a := (addO a c gd n j)) (gd := gd) (x := a 0 4) (by rw [addO_04]; omega) addO_15 addO_18
      refine g_aload_n 48 0 dX7_would_47 rfl rfl ?_
      refine g_aload_n 49 0 dX7_would_48 rfl rfl ?_
      refine g_bipush 51 (nI 40) dX7_would_49 rfl rfl ?_
      refine g_callVi 54 md_X7_turnOf [.int (nI 40)] [.ref (g 18 0)] dX7_would_51 rfl e_X7_would_286 rfl (by decide) rfl rfl (Nat.le_of_ble_eq_true rfl) ((tpos_addO (c := c) (gd := gd) (s := n) (d := j) b4 ▸ c_X7_turnOf hP.tn_ (f := fun i => nm a (Tu (addO a c gd n j) gd i)) (fun i hi => ⟨hT i hi, nm_lt (by omega)⟩) (by omega) 40 (by omega))) (fun r51 M51 h51 => ?_)
      obtain ⟨rfl, h51⟩ := h51
      have h51 := h51.symm
      subst h51
      refine g_callVi 57 md_X7_hasGot [.int (nI (tpos (addO a c gd n j) gd (a 0 4)))] [] dX7_would_54 rfl e_X7_would_268 rfl (by decide) rfl rfl (Nat.le_of_ble_eq_true rfl) (c_X7_hasGot hP (tpos (addO a c gd n j) gd (a 0 4)) htp.1) (fun r54 M54 h54 => ?_)
      obtain ⟨rfl, h54⟩ := h54
      have h54 := h54.symm
      subst h54
      exact g_iret rfl dX7_would_57 ⟨(A_would_at c14 (by omega) (by omega) (by omega) (by omega) c29).symm, hF⟩
    · refine g_bipush 34 ((-2)) dX7_would_32 rfl rfl ?_
      exact g_iret rfl dX7_would_34 ⟨(A_would_a c14 (by omega) (by omega) c29).symm, FPn.rf⟩
  · refine g_iconst 18 ((-1)) dX7_would_17 rfl rfl ?_
    exact g_iret rfl dX7_would_18 ⟨(A_would_no c14).symm, FPn.rf⟩

set_option maxHeartbeats 4000000 in
set_option maxRecDepth 100000 in
theorem c_X7_slack {l : Launch} {D : va_G} {g : Nat → Nat → Nat} {ca : Nat → ClassId} {M : Mm} {a : Sa} (hN : RM (M.1 18 12) a) (hI : Iv a) (y : Int32) : Ct l D g ca md_X7_slack [.ref (g 18 0), .int y] M (Ri (fun r M1 => r = A_slack a y ∧ FPn (wr M 18 0 0 (nI 0)) M1)) := by
  refine Ct.of (by decide) rfl (Nat.le_of_ble_eq_true rfl) ?_
  have b0 := hI.today
  have b1 := hI.g4
  have b1' := hI.g1
  have b2 := hN.c6
  have b3 := hN.l24
  have b4 := hN.o40
  show G l D g ca md_X7_slack 0 [(0, .ref (g 18 0)), (1, .int y)] [] M _
  refine g_aload_n 1 0 dX7_slack_0 rfl rfl ?_
  refine g_iconst 2 (nI 0) dX7_slack_1 rfl rfl ?_
  refine g_put 5 dX7_slack_2 rfl fX7_1 pX7_0 rfl (by decide) rfl ?_
  refine g_aload_n 6 0 dX7_slack_5 rfl rfl ?_
  refine g_iload_n 7 1 dX7_slack_6 rfl rfl ?_
  refine g_callVi 10 md_X7_isOpen [.int y] [] dX7_slack_7 rfl e_X7_slack_189 rfl (by decide) rfl rfl (Nat.le_of_ble_eq_true rfl) (c_X7_isOpen (RM_w (by decide) hN) hI y) (fun r7 M7 h7 => ?_)
  obtain ⟨rfl, h7⟩ := h7
  have h7 := h7.symm
  subst h7
  refine g_ifB_ne 15 13 dX7_slack_10 rfl rfl (fun c10 => ?_) (fun c10 => ?_)
  · obtain ⟨q, hq, rfl, h18⟩ := opn_of c10 (by omega)
    have hlf := hI.life (hI.ord hq).1
    refine g_aload_n 16 0 dX7_slack_15 rfl rfl ?_
    refine g_aload_n 17 0 dX7_slack_16 rfl rfl ?_
    refine g_iload_n 18 1 dX7_slack_17 rfl rfl ?_
    refine g_iconst 19 (nI 0) dX7_slack_18 rfl rfl ?_
    refine g_callVi 22 md_X7_ordered [.int (nI q), .int (nI 0)] [.ref (g 18 0)] dX7_slack_19 rfl e_X7_slack_169 rfl (by decide) rfl rfl (Nat.le_of_ble_eq_true rfl) (c_X7_ordered (RM_w (by decide) hN) hI q 0 14 (by omega) (by decide) rfl) (fun r19 M19 h19 => ?_)
    obtain ⟨rfl, h19⟩ := h19
    have h19 := h19.symm
    subst h19
    refine g_callVi 25 md_X7_lifeOf [.int (nI (a 14 q))] [] dX7_slack_22 rfl e_X7_slack_179 rfl (by decide) rfl rfl (Nat.le_of_ble_eq_true rfl) (c_X7_lifeOf (RM_w (by decide) hN) hI (a 14 q) (by have := hI.ord (o := q) (by omega); omega)) (fun r22 M22 h22 => ?_)
    obtain ⟨rfl, h22⟩ := h22
    have h22 := h22.symm
    subst h22
    refine g_istore_n 26 [(2, .int (nI (a 8 (a 14 q)))), (0, .ref (g 18 0)), (1, .int (nI q))] dX7_slack_25 rfl (by decide) rfl ?_
    refine g_iconst 27 (nI 0) dX7_slack_26 rfl rfl ?_
    refine g_istore_n 28 [(3, .int (nI 0)), (2, .int (nI (a 8 (a 14 q)))), (0, .ref (g 18 0)), (1, .int (nI q))] dX7_slack_27 rfl (by decide) rfl ?_
    have L28 : ∀ k, k ≤ a 8 (a 14 q) + 1 → ∀ (N : Mm), FPn (wr M 18 0 0 (nI 0)) N → (∀ i, i < k → ¬ fil a q i = true) → G l D g ca md_X7_slack 28 [(3, .int (nI k)), (2, .int (nI (a 8 (a 14 q)))), (0, .ref (g 18 0)), (1, .int (nI q))] [] N (Ri (fun r M1 => r = A_slack a (nI q) ∧ FPn (wr M 18 0 0 (nI 0)) M1)) := by
      refine upto ?_
      intro k hk ih28 N hF hv
      have hN_N := hF.rm (RM_w (by decide) hN)
      refine g_iload_n 29 0 dX7_slack_28 rfl rfl ?_
      refine g_iload_n 30 1 dX7_slack_29 rfl rfl ?_
      refine g_icmpN_gt 77 33 dX7_slack_30 rfl rfl (by have := hI.ord hq; omega) (by have := hI.ord hq; omega) (fun c30 => ?_) (fun c30 => ?_)
      · refine g_bipush 79 ((-2)) dX7_slack_77 rfl rfl ?_
        exact g_iret rfl dX7_slack_79 ⟨(A_slack_none c10 (by omega) (fun i hi => hv i (by omega))).symm, hF⟩
      · refine g_aload_n 34 2 dX7_slack_33 rfl rfl ?_
        refine g_aload_n 35 2 dX7_slack_34 rfl rfl ?_
        refine g_iload_n 36 3 dX7_slack_35 rfl rfl ?_
        refine g_iconst 37 (nI 1) dX7_slack_36 rfl rfl ?_
        refine g_callVi 40 md_X7_ordered [.int (nI q), .int (nI 1)] [.ref (g 18 0)] dX7_slack_37 rfl e_X7_slack_169 rfl (by decide) rfl rfl (Nat.le_of_ble_eq_true rfl) (c_X7_ordered hN_N hI q 1 15 (by omega) (by decide) rfl) (fun r37 M37 h37 => ?_)
        obtain ⟨rfl, h37⟩ := h37
        have h37 := h37.symm
        subst h37
        refine g_iload_n 41 3 dX7_slack_40 rfl rfl ?_
        refine g_iload_n 42 1 dX7_slack_41 rfl rfl ?_
        refine g_iload_n 43 0 dX7_slack_42 rfl rfl ?_
        refine g_isub 44 (nI (a 8 (a 14 q) - k)) dX7_slack_43 rfl (pk_sub (by omega)) ?_
        refine g_iconst 45 (nI 0) dX7_slack_44 rfl rfl ?_
        refine g_iconst 46 (nI 0) dX7_slack_45 rfl rfl ?_
        refine g_iconst 47 (nI 0) dX7_slack_46 rfl rfl ?_
        refine g_iconst 48 (nI 0) dX7_slack_47 rfl rfl ?_
        refine g_callVv 51 md_X7_laysGots [.int (nI (a 15 q)), .int (nI q), .int (nI (a 8 (a 14 q) - k)), .int (bi false), .int (nI 0), .int (nI 0), .int (nI 0)] [] dX7_slack_48 rfl e_X7_slack_274 rfl (by decide) rfl rfl (Nat.le_of_ble_eq_true rfl) (c_X7_laysGots hN_N hI (a 15 q) (nI q) (a 8 (a 14 q) - k) false 0 0 0 (EfB_life hI hq h18) (hI.ord hq).2.1 (by omega) (by decide) (by decide)) (fun N2 h48 => ?_)
        obtain ⟨⟨hP, hT⟩, hF2⟩ := h48
        have hN_N2 := hF2.rm hN_N
        have hIb := Iv_life (c := a 14 q) (v := a 8 (a 14 q) - k) hI (by omega)
        have hb6 := hIb.c6
        have htn := TuN_le hIb (gd := a 15 q)
        have e4 : (ua a 8 (a 14 q) (a 8 (a 14 q) - k)) 0 4 = a 0 4 := ua_ne (by omega)
        have htp := tpos_lt (a := (ua a 8 (a 14 q) (a 8 (a 14 q) - k))) (gd := a 15 q) (x := q) (by rw [e4]; exact hq) (ua_ne (by omega)) ((ua_ne (by omega)).trans h18)
        refine g_aload_n 52 2 dX7_slack_51 rfl rfl ?_
        refine g_aload_n 53 2 dX7_slack_52 rfl rfl ?_
        refine g_iload_n 54 3 dX7_slack_53 rfl rfl ?_
        refine g_callVi 57 md_X7_turnOf [.int (nI q)] [.ref (g 18 0)] dX7_slack_54 rfl e_X7_slack_286 rfl (by decide) rfl rfl (Nat.le_of_ble_eq_true rfl) (c_X7_turnOf hP.tn_ (f := Tu (ua a 8 (a 14 q) (a 8 (a 14 q) - k)) (a 15 q)) (fun i hi => ⟨(hT i hi).trans (congrArg nI (nm_in (by have h9 := (Tu_in hi).1; rw [e4] at h9; exact h9))), by have h9 := (Tu_in hi).1; rw [e4] at h9; omega⟩) (by omega) q (by omega)) (fun r54 M54 h54 => ?_)
        obtain ⟨rfl, h54⟩ := h54
        have h54 := h54.symm
        subst h54
        rw [show fa_first (fun i => decide (Tu (ua a 8 (a 14 q) (a 8 (a 14 q) - k)) (a 15 q) i = q)) (TuN (ua a 8 (a 14 q) (a 8 (a 14 q) - k)) (a 15 q)) = tpos (ua a 8 (a 14 q) (a 8 (a 14 q) - k)) (a 15 q) q from rfl]
        refine g_callVi 60 md_X7_hasGot [.int (nI (tpos (ua a 8 (a 14 q) (a 8 (a 14 q) - k)) (a 15 q) q))] [] dX7_slack_57 rfl e_X7_slack_268 rfl (by decide) rfl rfl (Nat.le_of_ble_eq_true rfl) (c_X7_hasGot hP (tpos (ua a 8 (a 14 q) (a 8 (a 14 q) - k)) (a 15 q) q) htp.1) (fun r57 M57 h57 => ?_)
        obtain ⟨rfl, h57⟩ := h57
        have h57 := h57.symm
        subst h57
        refine g_aload_n 61 2 dX7_slack_60 rfl rfl ?_
        refine g_iload_n 62 3 dX7_slack_61 rfl rfl ?_
        refine g_iconst 63 (nI 2) dX7_slack_62 rfl rfl ?_
        refine g_callVi 66 md_X7_ordered [.int (nI q), .int (nI 2)] [.int (nI (fb_sm (shp (ua a 8 (a 14 q) (a 8 (a 14 q) - k)) (a 15 q) (tpos (ua a 8 (a 14 q) (a 8 (a 14 q) - k)) (a 15 q) q)) (AgN (ua a 8 (a 14 q) (a 8 (a 14 q) - k)) (a 15 q))))] dX7_slack_63 rfl e_X7_slack_169 rfl (by decide) rfl rfl (Nat.le_of_ble_eq_true rfl) (c_X7_ordered hN_N2 hI q 2 16 (by omega) (by decide) rfl) (fun r63 M63 h63 => ?_)
        obtain ⟨rfl, h63⟩ := h63
        have h63 := h63.symm
        subst h63
        refine g_icmpN_ne 71 69 dX7_slack_66 rfl rfl (by have h9 := shp_sum (n := AgN (ua a 8 (a 14 q) (a 8 (a 14 q) - k)) (a 15 q)) (gd := a 15 q) (i := tpos (ua a 8 (a 14 q) (a 8 (a 14 q) - k)) (a 15 q) q) hIb; rw [htp.2, ua_ne (by omega)] at h9; have := hI.ord hq; omega) (by have := hI.ord hq; omega) (fun c66 => ?_) (fun c66 => ?_)
        · refine g_iinc 74 (nI (k + 1)) [(3, .int (nI (k + 1))), (2, .int (nI (a 8 (a 14 q)))), (0, .ref (g 18 0)), (1, .int (nI q))] dX7_slack_71 rfl 0 rfl (nI_add k 1) (by decide) rfl ?_
          refine g_goto 28 dX7_slack_74 rfl ?_
          exact ih28 (by omega) _ (hF.tr hF2) (lt_s hv (fun z => c66 (of_decide_eq_true z)))
        · refine g_iload_n 70 0 dX7_slack_69 rfl rfl ?_
          exact g_iret rfl dX7_slack_70 ⟨(A_slack_at c10 (by omega) (by omega) (decide_eq_true c66) hv).symm, hF.tr hF2⟩
    exact L28 0 (Nat.zero_le _) _ FPn.rf (fun i h => absurd h (Nat.not_lt_zero i))
  · refine g_iconst 14 ((-1)) dX7_slack_13 rfl rfl ?_
    exact g_iret rfl dX7_slack_14 ⟨(A_slack_no c10).symm, FPn.rf⟩
