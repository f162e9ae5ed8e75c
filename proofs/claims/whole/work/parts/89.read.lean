def FN (M M1 : Mm) : Prop := (∀ o' c' i', o' ≠ 14 → ¬ (o' = 15 ∧ c' = 0 ∧ (i' = 3 ∨ i' = 4)) → M1.1 o' c' i' = M.1 o' c' i') ∧ M1.2 = M.2
theorem FN.rf {M : Mm} : FN M M := ⟨fun _ _ _ _ _ => rfl, rfl⟩
theorem FN.tr {M M1 M2 : Mm} (h : FN M M1) (h2 : FN M1 M2) : FN M M2 := ⟨fun o' c' i' z z2 => (h2.1 o' c' i' z z2).trans (h.1 o' c' i' z z2), h2.2.trans h.2⟩
theorem Fo.fn {M M1 : Mm} (h : Fo 14 M M1) : FN M M1 := ⟨fun o' c' i' z z2 => h.1 o' c' i' z, h.2⟩
theorem FN.w15 {M : Mm} {i : Nat} {x : Int32} (h : i = 3 ∨ i = 4) : FN M (wr M 15 0 i x) := ⟨fun o' c' i' z z2 => wr_ne (by omega), wr_lg _ _ _ _ _⟩
theorem FN.tc {M M1 : Mm} {t : Nat → Nat} {n : Nat} (h : FN M M1) (hT : TC M t n) : TC M1 t n := ⟨(h.1 _ _ _ (by omega) (by omega)).trans hT.1, fun i hi => (h.1 _ _ _ (by omega) (by omega)).trans (hT.2 i hi)⟩
theorem FN.o1 {M M1 : Mm} (h : FN M M1) : M1.1 1 = M.1 1 := funext (fun c => funext (fun i => h.1 1 c i (by omega) (by omega)))
theorem FN.sk {M M1 : Mm} {a : Sa} (h : FN M M1) (hS : SK (M.1 1) a) : SK (M1.1 1) a := by rw [h.o1]; exact hS
def FLn (M M1 : Mm) : Prop := (∀ o' c' i', o' ≠ 1 → o' ≠ 14 → ¬ (o' = 15 ∧ c' = 0 ∧ (i' = 3 ∨ i' = 4)) → M1.1 o' c' i' = M.1 o' c' i') ∧ M1.2 = M.2
theorem FLn.tr {M M1 M2 : Mm} (h : FLn M M1) (h2 : FLn M1 M2) : FLn M M2 := ⟨fun o' c' i' z0 z z2 => (h2.1 o' c' i' z0 z z2).trans (h.1 o' c' i' z0 z z2), h2.2.trans h.2⟩
theorem FN.fl {M M1 : Mm} (h : FN M M1) : FLn M M1 := ⟨fun o' c' i' z0 z z2 => h.1 o' c' i' z z2, h.2⟩
theorem FLn.w1 {M : Mm} {c i : Nat} {x : Int32} : FLn M (wr M 1 c i x) := ⟨fun o' c' i' z0 z z2 => wr_ne (by omega), wr_lg _ _ _ _ _⟩
theorem FLn.tc {M M1 : Mm} {t : Nat → Nat} {n : Nat} (h : FLn M M1) (hT : TC M t n) : TC M1 t n := ⟨(h.1 _ _ _ (by omega) (by omega) (by omega)).trans hT.1, fun i hi => (h.1 _ _ _ (by omega) (by omega) (by omega)).trans (hT.2 i hi)⟩

set_option maxHeartbeats 4000000 in
set_option maxRecDepth 100000 in
theorem c_X4_refuse {l : Launch} {D : va_G} {g : Nat → Nat → Nat} {ca : Nat → ClassId} {M : Mm} (x : Int32) : Ct l D g ca md_X4_refuse [.ref (g 15 0), .int x] M (Ri (fun r M1 => r = bi false ∧ M1 = wr (wr M 15 0 3 x) 15 0 4 (M.1 14 0 3))) := by
  refine Ct.of (by decide) rfl (Nat.le_of_ble_eq_true rfl) ?_
  show G l D g ca md_X4_refuse 0 [(0, .ref (g 15 0)), (1, .int x)] [] M _
  refine g_aload_n 1 0 dX4_refuse_0 rfl rfl ?_
  refine g_iload_n 2 1 dX4_refuse_1 rfl rfl ?_
  refine g_put 5 dX4_refuse_2 rfl fX4_36 pX4_3 rfl (by decide) rfl ?_
  refine g_aload_n 6 0 dX4_refuse_5 rfl rfl ?_
  refine g_aload_n 7 0 dX4_refuse_6 rfl rfl ?_
  refine g_geto 10 dX4_refuse_7 rfl fX4_14 rfl (by decide) rfl ?_
  refine g_get 13 (M.1 14 0 3) dX4_refuse_10 rfl fX4_107 rfl (by decide) rfl ((wr_ne (by omega)).trans rfl) ?_
  refine g_put 16 dX4_refuse_13 rfl fX4_39 pX4_4 rfl (by decide) rfl ?_
  refine g_iconst 17 (nI 0) dX4_refuse_16 rfl rfl ?_
  exact g_zret rfl dX4_refuse_17 rfl ⟨rfl, rfl⟩

set_option maxHeartbeats 4000000 in
set_option maxRecDepth 100000 in
theorem c_X4_readNumber {l : Launch} {D : va_G} {g : Nat → Nat → Nat} {ca : Nat → ClassId} {M : Mm} {t : Nat → Nat} {n p : Nat} (hT : TC M t n) (hB : Tb t n) (hat : M.1 14 0 1 = nI p) (hp : p ≤ n) (lo hx : Nat) (hlo : lo ≤ 100) (hhx : hx ≤ 100) : Ct l D g ca md_X4_readNumber [.ref (g 15 0), .int (nI lo), .int (nI hx - 1)] M (Ri (fun r M1 => (nmF t n p lo hx = 0 → r = nI (tvl t n p) ∧ M1.1 14 0 1 = nI (tnx t n p) ∧ M1.1 14 0 3 = nI (tpc t n p) ∧ M1.1 15 0 3 = M.1 15 0 3) ∧ (nmF t n p lo hx ≠ 0 → r = -1 ∧ M1.1 15 0 3 = nI (nmF t n p lo hx) ∧ M1.1 15 0 4 = nI (tpc t n p)) ∧ FN M M1)) := by
  refine Ct.of (by decide) rfl (Nat.le_of_ble_eq_true rfl) ?_
  have hkd := tkd_le (t := t) (n := n) (p := p)
  show G l D g ca md_X4_readNumber 0 [(0, .ref (g 15 0)), (1, .int (nI lo)), (2, .int (nI hx - 1))] [] M _
  refine g_aload_n 1 0 dX4_readNumber_0 rfl rfl ?_
  refine g_geto 4 dX4_readNumber_1 rfl fX4_14 rfl (by decide) rfl ?_
  refine g_callVv 7 md_X5_advance [] [] dX4_readNumber_4 rfl e_X4_readNumber_49 rfl (by decide) rfl rfl (Nat.le_of_ble_eq_true rfl) (c_X5_advance hT hB hat hp) (fun N h4 => ?_)
  obtain ⟨ak, ap, an, av, aF⟩ := h4
  refine g_aload_n 8 0 dX4_readNumber_7 rfl rfl ?_
  refine g_geto 11 dX4_readNumber_8 rfl fX4_14 rfl (by decide) rfl ?_
  refine g_get 14 (nI (tkd t n p)) dX4_readNumber_11 rfl fX4_52 rfl (by decide) rfl ak ?_
  refine g_iconst 15 (nI 2) dX4_readNumber_14 rfl rfl ?_
  refine g_icmpN_eq 26 18 dX4_readNumber_15 rfl rfl (by first | omega | (have := tvl_le c15; omega)) (by first | omega | (have := tvl_le c15; omega)) (fun c15 => ?_) (fun c15 => ?_)
  · have hv9 := tvl_le c15
    refine g_aload_n 27 0 dX4_readNumber_26 rfl rfl ?_
    refine g_geto 30 dX4_readNumber_27 rfl fX4_14 rfl (by decide) rfl ?_
    refine g_get 33 (nI (tvl t n p)) dX4_readNumber_30 rfl fX4_104 rfl (by decide) rfl (av c15) ?_
    refine g_iload_n 34 1 dX4_readNumber_33 rfl rfl ?_
    refine g_icmpN_lt 48 37 dX4_readNumber_34 rfl rfl (by first | omega | (have := tvl_le c15; omega)) (by first | omega | (have := tvl_le c15; omega)) (fun c34 => ?_) (fun c34 => ?_)
    · refine g_aload_n 49 0 dX4_readNumber_48 rfl rfl ?_
      refine g_iconst 50 (nI 2) dX4_readNumber_49 rfl rfl ?_
      refine g_callVi 53 md_X4_refuse [.int (nI 2)] [] dX4_readNumber_50 rfl e_X4_readNumber_55 rfl (by decide) rfl rfl (Nat.le_of_ble_eq_true rfl) (c_X4_refuse (nI 2)) (fun r50 M50 h50 => ?_)
      obtain ⟨rfl, h50⟩ := h50
      subst h50
      refine g_pop 54 dX4_readNumber_53 rfl rfl ?_
      refine g_iconst 55 ((-1)) dX4_readNumber_54 rfl rfl ?_
      exact g_iret rfl dX4_readNumber_55 (by rw [nmF_2 c15 (fun z => by first | omega | exact c45 ((nI_le_m1 (by omega) (by omega)).mpr z.2))]; exact ⟨fun z => absurd z (by decide), fun _ => ⟨rfl, ((wr_ne (by omega)).trans wr_eq), wr_eq.trans ap⟩, (aF.fn.tr (FN.w15 (by omega))).tr (FN.w15 (by omega))⟩)
    · refine g_aload_n 38 0 dX4_readNumber_37 rfl rfl ?_
      refine g_geto 41 dX4_readNumber_38 rfl fX4_14 rfl (by decide) rfl ?_
      refine g_get 44 (nI (tvl t n p)) dX4_readNumber_41 rfl fX4_104 rfl (by decide) rfl (av c15) ?_
      refine g_iload_n 45 2 dX4_readNumber_44 rfl rfl ?_
      refine g_icmp_le 56 48 dX4_readNumber_45 rfl rfl (fun c45 => ?_) (fun c45 => ?_)
      · refine g_aload_n 57 0 dX4_readNumber_56 rfl rfl ?_
        refine g_geto 60 dX4_readNumber_57 rfl fX4_14 rfl (by decide) rfl ?_
        refine g_get 63 (nI (tvl t n p)) dX4_readNumber_60 rfl fX4_104 rfl (by decide) rfl (av c15) ?_
        exact g_iret rfl dX4_readNumber_63 (by rw [nmF_0 c15 ⟨by omega, (nI_le_m1 (by omega) (by omega)).mp c45⟩]; exact ⟨fun _ => ⟨rfl, an (by omega), ap, aF.1 _ _ _ (by omega)⟩, fun z => absurd rfl z, aF.fn⟩)
      · refine g_aload_n 49 0 dX4_readNumber_48 rfl rfl ?_
        refine g_iconst 50 (nI 2) dX4_readNumber_49 rfl rfl ?_
        refine g_callVi 53 md_X4_refuse [.int (nI 2)] [] dX4_readNumber_50 rfl e_X4_readNumber_55 rfl (by decide) rfl rfl (Nat.le_of_ble_eq_true rfl) (c_X4_refuse (nI 2)) (fun r50 M50 h50 => ?_)
        obtain ⟨rfl, h50⟩ := h50
        subst h50
        refine g_pop 54 dX4_readNumber_53 rfl rfl ?_
        refine g_iconst 55 ((-1)) dX4_readNumber_54 rfl rfl ?_
        exact g_iret rfl dX4_readNumber_55 (by rw [nmF_2 c15 (fun z => by first | omega | exact c45 ((nI_le_m1 (by omega) (by omega)).mpr z.2))]; exact ⟨fun z => absurd z (by decide), fun _ => ⟨rfl, ((wr_ne (by omega)).trans wr_eq), wr_eq.trans ap⟩, (aF.fn.tr (FN.w15 (by omega))).tr (FN.w15 (by omega))⟩)
  · refine g_aload_n 19 0 dX4_readNumber_18 rfl rfl ?_
    refine g_iconst 20 (nI 1) dX4_readNumber_19 rfl rfl ?_
    refine g_callVi 23 md_X4_refuse [.int (nI 1)] [] dX4_readNumber_20 rfl e_X4_readNumber_55 rfl (by decide) rfl rfl (Nat.le_of_ble_eq_true rfl) (c_X4_refuse (nI 1)) (fun r20 M20 h20 => ?_)
    obtain ⟨rfl, h20⟩ := h20
    subst h20
    refine g_pop 24 dX4_readNumber_23 rfl rfl ?_
    refine g_iconst 25 ((-1)) dX4_readNumber_24 rfl rfl ?_
    exact g_iret rfl dX4_readNumber_25 (by rw [nmF_1 c15]; exact ⟨fun z => absurd z (by decide), fun _ => ⟨rfl, ((wr_ne (by omega)).trans wr_eq), wr_eq.trans ap⟩, (aF.fn.tr (FN.w15 (by omega))).tr (FN.w15 (by omega))⟩)

set_option maxHeartbeats 4000000 in
set_option maxRecDepth 100000 in
theorem c_X4_readStop {l : Launch} {D : va_G} {g : Nat → Nat → Nat} {ca : Nat → ClassId} {M : Mm} {t : Nat → Nat} {n p : Nat} (hT : TC M t n) (hB : Tb t n) (hat : M.1 14 0 1 = nI p) (hp : p ≤ n) : Ct l D g ca md_X4_readStop [.ref (g 15 0)] M (Ri (fun r M1 => r = bi (decide (spF t n p = 0)) ∧ (spF t n p = 0 → M1.1 14 0 1 = nI (tnx t n p) ∧ M1.1 15 0 3 = M.1 15 0 3) ∧ (spF t n p ≠ 0 → M1.1 15 0 3 = nI (spF t n p) ∧ M1.1 15 0 4 = nI (tpc t n p)) ∧ FN M M1)) := by
  refine Ct.of (by decide) rfl (Nat.le_of_ble_eq_true rfl) ?_
  have hkd := tkd_le (t := t) (n := n) (p := p)
  show G l D g ca md_X4_readStop 0 [(0, .ref (g 15 0))] [] M _
  refine g_aload_n 1 0 dX4_readStop_0 rfl rfl ?_
  refine g_geto 4 dX4_readStop_1 rfl fX4_14 rfl (by decide) rfl ?_
  refine g_callVv 7 md_X5_advance [] [] dX4_readStop_4 rfl e_X4_readStop_49 rfl (by decide) rfl rfl (Nat.le_of_ble_eq_true rfl) (c_X5_advance hT hB hat hp) (fun N h4 => ?_)
  obtain ⟨ak, ap, an, av, aF⟩ := h4
  refine g_aload_n 8 0 dX4_readStop_7 rfl rfl ?_
  refine g_geto 11 dX4_readStop_8 rfl fX4_14 rfl (by decide) rfl ?_
  refine g_get 14 (nI (tkd t n p)) dX4_readStop_11 rfl fX4_52 rfl (by decide) rfl ak ?_
  refine g_iconst 15 (nI 3) dX4_readStop_14 rfl rfl ?_
  refine g_icmpN_eq 26 18 dX4_readStop_15 rfl rfl (by omega) (by omega) (fun c15 => ?_) (fun c15 => ?_)
  · refine g_iconst 27 (nI 1) dX4_readStop_26 rfl rfl ?_
    refine g_goto 31 dX4_readStop_27 rfl ?_
    exact g_zret rfl dX4_readStop_31 rfl (by rw [spF_0 c15]; exact ⟨rfl, fun _ => ⟨an (by omega), aF.1 _ _ _ (by omega)⟩, fun z => absurd rfl z, aF.fn⟩)
  · refine g_aload_n 19 0 dX4_readStop_18 rfl rfl ?_
    refine g_iconst 20 (nI 1) dX4_readStop_19 rfl rfl ?_
    refine g_callVi 23 md_X4_refuse [.int (nI 1)] [] dX4_readStop_20 rfl e_X4_readStop_55 rfl (by decide) rfl rfl (Nat.le_of_ble_eq_true rfl) (c_X4_refuse (nI 1)) (fun r20 M20 h20 => ?_)
    obtain ⟨rfl, h20⟩ := h20
    subst h20
    refine g_ifB_eq 30 26 dX4_readStop_23 rfl rfl (fun c23 => ?_) (fun c23 => ?_)
    · refine g_iconst 31 (nI 0) dX4_readStop_30 rfl rfl ?_
      exact g_zret rfl dX4_readStop_31 rfl (by rw [spF_1 c15]; exact ⟨rfl, fun z => absurd z (by decide), fun _ => ⟨(wr_ne (by omega)).trans wr_eq, wr_eq.trans ap⟩, (aF.fn.tr (FN.w15 (by omega))).tr (FN.w15 (by omega))⟩)
    · exact absurd c23 (by decide)

theorem c_X4_readNum {l : Launch} {D : va_G} {g : Nat → Nat → Nat} {ca : Nat → ClassId} {M : Mm} {t : Nat → Nat} {n p : Nat} {x : Int32} (hT : TC M t n) (hB : Tb t n) (hat : M.1 14 0 1 = nI p) (hp : p ≤ n) (lo hx : Nat) (hlo : lo ≤ 100) (hhx : hx ≤ 100) (ex : nI hx - 1 = x) : Ct l D g ca md_X4_readNumber [.ref (g 15 0), .int (nI lo), .int x] M (Ri (fun r M1 => (nmF t n p lo hx = 0 → r = nI (tvl t n p) ∧ M1.1 14 0 1 = nI (tnx t n p) ∧ M1.1 14 0 3 = nI (tpc t n p) ∧ M1.1 15 0 3 = M.1 15 0 3) ∧ (nmF t n p lo hx ≠ 0 → r = -1 ∧ M1.1 15 0 3 = nI (nmF t n p lo hx) ∧ M1.1 15 0 4 = nI (tpc t n p)) ∧ FN M M1)) := by
  subst ex
  exact c_X4_readNumber hT hB hat hp lo hx hlo hhx
def LnP (M : Mm) (n : Nat) (R : Rd) (r : Int32) (M1 : Mm) : Prop := r = bi (decide (R.1 = 0)) ∧ (R.1 = 0 → SK (M1.1 1) R.2.2.2 ∧ M1.1 14 0 1 = nI R.2.2.1 ∧ R.2.2.1 ≤ n ∧ M1.1 15 0 3 = M.1 15 0 3) ∧ (R.1 ≠ 0 → M1.1 15 0 3 = nI R.1 ∧ M1.1 15 0 4 = nI R.2.1) ∧ FLn M M1
theorem LnP_no {M : Mm} {n f pl x : Nat} {a : Sa} {r : Int32} {M1 : Mm} (hf : f ≠ 0) (hr : r = nI 0) (h3 : M1.1 15 0 3 = nI f) (h4 : M1.1 15 0 4 = nI pl) (hF : FLn M M1) : LnP M n (f, pl, x, a) r M1 :=
  ⟨by rw [hr, show decide ((f, pl, x, a).1 = 0) = false from decide_eq_false hf]; rfl, fun z => absurd z hf, fun _ => ⟨h3, h4⟩, hF⟩
theorem LnP_ok {M : Mm} {n pl x : Nat} {a : Sa} {r : Int32} {M1 : Mm} (hr : r = nI 1) (h1 : SK (M1.1 1) a) (h2 : M1.1 14 0 1 = nI x) (h3 : x ≤ n) (h4 : M1.1 15 0 3 = M.1 15 0 3) (hF : FLn M M1) : LnP M n (0, pl, x, a) r M1 :=
  ⟨hr, fun _ => ⟨h1, h2, h3, h4⟩, fun z => absurd rfl z, hF⟩
theorem spF_le {t : Nat → Nat} {n p : Nat} (h : p ≤ n) (h2 : spF t n p = 0) : tnx t n p ≤ n := tnx_le h (by rw [spF_of h2]; decide)
theorem nmF_le {t : Nat → Nat} {n p lo hx : Nat} (h : p ≤ n) (h2 : nmF t n p lo hx = 0) : tnx t n p ≤ n := tnx_le h (by rw [(nmF_of h2).1]; exact Nat.le_refl 2)

set_option maxHeartbeats 4000000 in
set_option maxRecDepth 100000 in
theorem c_X4_readCustomer {l : Launch} {D : va_G} {g : Nat → Nat → Nat} {ca : Nat → ClassId} {M : Mm} {t : Nat → Nat} {n p : Nat} (hT : TC M t n) (hB : Tb t n) (hat : M.1 14 0 1 = nI p) (hp : p ≤ n) {a : Sa} (hS : SK (M.1 1) a) (hc : a 0 2 < 6) : Ct l D g ca md_X4_readCustomer [.ref (g 15 0)] M (Ri (fun r M1 => LnP M n (rC t n p a) r M1)) := by
  refine Ct.of (by decide) rfl (Nat.le_of_ble_eq_true rfl) ?_
  have hn := hB.1
  have hT_M := hT
  have hat_M := hat
  have hp_M : tx t n p 0 ≤ n := hp
  have hS_M := hS
  have hF_M : FN M M := FN.rf
  have hq_M : M.1 15 0 3 = M.1 15 0 3 := rfl
  have b1 := hS.2.2.1.g4
  have b2 := hS.2.2.1.c6
  have b3 := hS.2.2.1.l24
  have b4 := hS.2.2.1.o41
  show G l D g ca md_X4_readCustomer 0 [(0, .ref (g 15 0))] [] M _
  refine g_aload_n 1 0 dX4_readCustomer_0 rfl rfl ?_
  refine g_iconst 2 (nI 0) dX4_readCustomer_1 rfl rfl ?_
  refine g_bipush 4 (nI 99) dX4_readCustomer_2 rfl rfl ?_
  refine g_callVi 7 md_X4_readNumber [.int (nI 0), .int (nI 99)] [] dX4_readCustomer_4 rfl e_X4_readCustomer_59 rfl (by decide) rfl rfl (Nat.le_of_ble_eq_true rfl) (c_X4_readNum (p := tx t n p 0) hT_M hB hat_M hp_M 0 100 (by omega) (by omega) (by decide)) (fun r4 N4 h4 => ?_)
  obtain ⟨y4, w4, g4⟩ := h4
  have hF_N4 := hF_M.tr g4
  by_cases z4 : nmF t n (tx t n p 0) 0 100 = 0
  · obtain ⟨rfl, hat_N4, pl4, hq4⟩ := y4 z4
    have hq_N4 := hq4.trans hq_M
    have hT_N4 := g4.tc hT_M
    have hS_N4 := g4.sk hS_M
    have hp_N4 : tx t n p 1 ≤ n := nmF_le hp_M z4
    have v4 := nmF_of z4
    refine g_istore_n 8 [(1, .int (nI (tvl t n (tx t n p 0)))), (0, .ref (g 15 0))] dX4_readCustomer_7 rfl (by decide) rfl ?_
    refine g_iload_n 9 0 dX4_readCustomer_8 rfl rfl ?_
    refine g_iconst 10 ((-1)) dX4_readCustomer_9 rfl rfl ?_
    refine g_icmp_eq 20 13 dX4_readCustomer_10 rfl rfl (fun c10 => ?_) (fun c10 => ?_)
    · exact absurd c10 (nI_nm1 (by omega))
    · refine g_aload_n 14 1 dX4_readCustomer_13 rfl rfl ?_
      refine g_callVi 17 md_X4_readStop [] [] dX4_readCustomer_14 rfl e_X4_readCustomer_63 rfl (by decide) rfl rfl (Nat.le_of_ble_eq_true rfl) (c_X4_readStop (p := tx t n p 1) hT_N4 hB hat_N4 hp_N4) (fun r14 N14 h14 => ?_)
      obtain ⟨rfl, y14, w14, g14⟩ := h14
      have hF_N14 := hF_N4.tr g14
      by_cases z14 : spF t n (tx t n p 1) = 0
      · rw [decide_eq_true z14]
        obtain ⟨hat_N14, hq14⟩ := y14 z14
        have hq_N14 := hq14.trans hq_N4
        have hS_N14 := g14.sk hS_N4
        have hp_N14 : tx t n p 2 ≤ n := spF_le hp_N4 z14
        refine g_ifB_ne 22 20 dX4_readCustomer_17 rfl rfl (fun c17 => ?_) (fun c17 => ?_)
        · refine g_aload_n 23 1 dX4_readCustomer_22 rfl rfl ?_
          refine g_geto 26 dX4_readCustomer_23 rfl fX4_20 rfl (by decide) rfl ?_
          refine g_iload_n 27 0 dX4_readCustomer_26 rfl rfl ?_
          refine g_callVv 30 md_X2_addCustomer [.int (nI (tvl t n (tx t n p 0)))] [] dX4_readCustomer_27 rfl e_X4_readCustomer_90 rfl (by decide) rfl rfl (Nat.le_of_ble_eq_true rfl) (c_X2_addCustomer (o := 1) rfl hS_N14.1 (tvl t n (tx t n p 0)) (by omega)) (fun M27 h27 => ?_)
          subst h27
          refine g_iconst 31 (nI 1) dX4_readCustomer_30 rfl rfl ?_
          exact g_zret rfl dX4_readCustomer_31 rfl (by unfold rC; rw [orB_ok z4, orB_ok z14]; exact LnP_ok rfl (SK_mk (RP_addC hS_N14.1 hc (fun j i h0 h1 h2 => by rw [wr_ne (by omega), wr_ne (by omega)]) wr_eq (by rw [wr_ne (by omega), wr_eq])) (RR_addC hS_N14.2.1 (fun i => by rw [wr_ne (by omega), wr_ne (by omega)])) (Ok_addC (SK_ok hS_N14) hc (by omega))) (by rw [wr_ne (by omega), wr_ne (by omega)]; exact hat_N14) hp_N14 (by rw [wr_ne (by omega), wr_ne (by omega)]; exact hq_N14) (hF_N14.fl.tr ((FLn.w1).tr FLn.w1)))
        · exact absurd c17 (by decide)
      · rw [decide_eq_false z14]
        obtain ⟨hk_N14, hl_N14⟩ := w14 z14
        refine g_ifB_ne 22 20 dX4_readCustomer_17 rfl rfl (fun c17 => ?_) (fun c17 => ?_)
        · exact absurd c17 (by decide)
        · refine g_iconst 21 (nI 0) dX4_readCustomer_20 rfl rfl ?_
          exact g_zret rfl dX4_readCustomer_21 rfl (by unfold rC; rw [orB_ok z4, orB_no z14]; exact LnP_no z14 rfl hk_N14 hl_N14 hF_N14.fl)
  · obtain ⟨rfl, hk_N4, hl_N4⟩ := w4 z4
    refine g_istore_n 8 [(1, .int (-1)), (0, .ref (g 15 0))] dX4_readCustomer_7 rfl (by decide) rfl ?_
    refine g_iload_n 9 0 dX4_readCustomer_8 rfl rfl ?_
    refine g_iconst 10 ((-1)) dX4_readCustomer_9 rfl rfl ?_
    refine g_icmp_eq 20 13 dX4_readCustomer_10 rfl rfl (fun c10 => ?_) (fun c10 => ?_)
    · refine g_iconst 21 (nI 0) dX4_readCustomer_20 rfl rfl ?_
      exact g_zret rfl dX4_readCustomer_21 rfl (by unfold rC; rw [orB_no z4]; exact LnP_no z4 rfl hk_N4 hl_N4 hF_N4.fl)
    · exact absurd rfl c10

set_option maxHeartbeats 4000000 in
set_option maxRecDepth 100000 in
theorem c_X4_readLot {l : Launch} {D : va_G} {g : Nat → Nat → Nat} {ca : Nat → ClassId} {M : Mm} {t : Nat → Nat} {n p : Nat} (hT : TC M t n) (hB : Tb t n) (hat : M.1 14 0 1 = nI p) (hp : p ≤ n) {a : Sa} (hS : SK (M.1 1) a) (hc : a 0 3 < 12) : Ct l D g ca md_X4_readLot [.ref (g 15 0)] M (Ri (fun r M1 => LnP M n (rL t n p a) r M1)) := by
  refine Ct.of (by decide) rfl (Nat.le_of_ble_eq_true rfl) ?_
  have hn := hB.1
  have hT_M := hT
  have hat_M := hat
  have hp_M : tx t n p 0 ≤ n := hp
  have hS_M := hS
  have hF_M : FN M M := FN.rf
  have hq_M : M.1 15 0 3 = M.1 15 0 3 := rfl
  have b1 := hS.2.2.1.g4
  have b2 := hS.2.2.1.c6
  have b3 := hS.2.2.1.l24
  have b4 := hS.2.2.1.o41
  show G l D g ca md_X4_readLot 0 [(0, .ref (g 15 0))] [] M _
  refine g_aload_n 1 0 dX4_readLot_0 rfl rfl ?_
  refine g_iconst 2 (nI 0) dX4_readLot_1 rfl rfl ?_
  refine g_aload_n 3 0 dX4_readLot_2 rfl rfl ?_
  refine g_geto 6 dX4_readLot_3 rfl fX4_20 rfl (by decide) rfl ?_
  refine g_get 9 (nI (a 0 1)) dX4_readLot_6 rfl fX4_66 rfl (by decide) rfl (hS_M.1.sc (by decide)) ?_
  refine g_iconst 10 (nI 1) dX4_readLot_9 rfl rfl ?_
  refine g_isub 11 ((nI (a 0 1)) - (nI 1)) dX4_readLot_10 rfl rfl ?_
  refine g_callVi 14 md_X4_readNumber [.int (nI 0), .int ((nI (a 0 1)) - (nI 1))] [] dX4_readLot_11 rfl e_X4_readLot_59 rfl (by decide) rfl rfl (Nat.le_of_ble_eq_true rfl) (c_X4_readNum (p := tx t n p 0) hT_M hB hat_M hp_M 0 (a 0 1) (by omega) (by omega) rfl) (fun r11 N11 h11 => ?_)
  obtain ⟨y11, w11, g11⟩ := h11
  have hF_N11 := hF_M.tr g11
  by_cases z11 : nmF t n (tx t n p 0) 0 (a 0 1) = 0
  · obtain ⟨rfl, hat_N11, pl11, hq11⟩ := y11 z11
    have hq_N11 := hq11.trans hq_M
    have hT_N11 := g11.tc hT_M
    have hS_N11 := g11.sk hS_M
    have hp_N11 : tx t n p 1 ≤ n := nmF_le hp_M z11
    have v11 := nmF_of z11
    refine g_istore_n 15 [(1, .int (nI (tvl t n (tx t n p 0)))), (0, .ref (g 15 0))] dX4_readLot_14 rfl (by decide) rfl ?_
    refine g_iload_n 16 0 dX4_readLot_15 rfl rfl ?_
    refine g_iconst 17 ((-1)) dX4_readLot_16 rfl rfl ?_
    refine g_icmp_ne 22 20 dX4_readLot_17 rfl rfl (fun c17 => ?_) (fun c17 => ?_)
    · refine g_aload_n 23 1 dX4_readLot_22 rfl rfl ?_
      refine g_iconst 24 (nI 0) dX4_readLot_23 rfl rfl ?_
      refine g_bipush 26 (nI 99) dX4_readLot_24 rfl rfl ?_
      refine g_callVi 29 md_X4_readNumber [.int (nI 0), .int (nI 99)] [] dX4_readLot_26 rfl e_X4_readLot_59 rfl (by decide) rfl rfl (Nat.le_of_ble_eq_true rfl) (c_X4_readNum (p := tx t n p 1) hT_N11 hB hat_N11 hp_N11 0 100 (by omega) (by omega) (by decide)) (fun r26 N26 h26 => ?_)
      obtain ⟨y26, w26, g26⟩ := h26
      have hF_N26 := hF_N11.tr g26
      by_cases z26 : nmF t n (tx t n p 1) 0 100 = 0
      · obtain ⟨rfl, hat_N26, pl26, hq26⟩ := y26 z26
        have hq_N26 := hq26.trans hq_N11
        have hT_N26 := g26.tc hT_N11
        have hS_N26 := g26.sk hS_N11
        have hp_N26 : tx t n p 2 ≤ n := nmF_le hp_N11 z26
        have v26 := nmF_of z26
        refine g_istore_n 30 [(2, .int (nI (tvl t n (tx t n p 1)))), (1, .int (nI (tvl t n (tx t n p 0)))), (0, .ref (g 15 0))] dX4_readLot_29 rfl (by decide) rfl ?_
        refine g_iload_n 31 0 dX4_readLot_30 rfl rfl ?_
        refine g_iconst 32 ((-1)) dX4_readLot_31 rfl rfl ?_
        refine g_icmp_ne 37 35 dX4_readLot_32 rfl rfl (fun c32 => ?_) (fun c32 => ?_)
        · refine g_aload_n 38 2 dX4_readLot_37 rfl rfl ?_
          refine g_iconst 39 (nI 1) dX4_readLot_38 rfl rfl ?_
          refine g_bipush 41 (nI 99) dX4_readLot_39 rfl rfl ?_
          refine g_callVi 44 md_X4_readNumber [.int (nI 1), .int (nI 99)] [] dX4_readLot_41 rfl e_X4_readLot_59 rfl (by decide) rfl rfl (Nat.le_of_ble_eq_true rfl) (c_X4_readNum (p := tx t n p 2) hT_N26 hB hat_N26 hp_N26 1 100 (by omega) (by omega) (by decide)) (fun r41 N41 h41 => ?_)
          obtain ⟨y41, w41, g41⟩ := h41
          have hF_N41 := hF_N26.tr g41
          by_cases z41 : nmF t n (tx t n p 2) 1 100 = 0
          · obtain ⟨rfl, hat_N41, pl41, hq41⟩ := y41 z41
            have hq_N41 := hq41.trans hq_N26
            have hT_N41 := g41.tc hT_N26
            have hS_N41 := g41.sk hS_N26
            have hp_N41 : tx t n p 3 ≤ n := nmF_le hp_N26 z41
            have v41 := nmF_of z41
            refine g_istore_n 45 [(3, .int (nI (tvl t n (tx t n p 2)))), (2, .int (nI (tvl t n (tx t n p 1)))), (1, .int (nI (tvl t n (tx t n p 0)))), (0, .ref (g 15 0))] dX4_readLot_44 rfl (by decide) rfl ?_
            refine g_iload_n 46 0 dX4_readLot_45 rfl rfl ?_
            refine g_iconst 47 ((-1)) dX4_readLot_46 rfl rfl ?_
            refine g_icmp_ne 52 50 dX4_readLot_47 rfl rfl (fun c47 => ?_) (fun c47 => ?_)
            · refine g_aload_n 53 3 dX4_readLot_52 rfl rfl ?_
              refine g_iconst 54 (nI 0) dX4_readLot_53 rfl rfl ?_
              refine g_bipush 56 (nI 99) dX4_readLot_54 rfl rfl ?_
              refine g_callVi 59 md_X4_readNumber [.int (nI 0), .int (nI 99)] [] dX4_readLot_56 rfl e_X4_readLot_59 rfl (by decide) rfl rfl (Nat.le_of_ble_eq_true rfl) (c_X4_readNum (p := tx t n p 3) hT_N41 hB hat_N41 hp_N41 0 100 (by omega) (by omega) (by decide)) (fun r56 N56 h56 => ?_)
              obtain ⟨y56, w56, g56⟩ := h56
              have hF_N56 := hF_N41.tr g56
              by_cases z56 : nmF t n (tx t n p 3) 0 100 = 0
              · obtain ⟨rfl, hat_N56, pl56, hq56⟩ := y56 z56
                have hq_N56 := hq56.trans hq_N41
                have hT_N56 := g56.tc hT_N41
                have hS_N56 := g56.sk hS_N41
                have hp_N56 : tx t n p 4 ≤ n := nmF_le hp_N41 z56
                have v56 := nmF_of z56
                refine g_istore 61 [(4, .int (nI (tvl t n (tx t n p 3)))), (3, .int (nI (tvl t n (tx t n p 2)))), (2, .int (nI (tvl t n (tx t n p 1)))), (1, .int (nI (tvl t n (tx t n p 0)))), (0, .ref (g 15 0))] dX4_readLot_59 rfl (by decide) rfl ?_
                refine g_iload 63 0 dX4_readLot_61 rfl rfl ?_
                refine g_iconst 64 ((-1)) dX4_readLot_63 rfl rfl ?_
                refine g_icmp_eq 74 67 dX4_readLot_64 rfl rfl (fun c64 => ?_) (fun c64 => ?_)
                · exact absurd c64 (nI_nm1 (by omega))
                · refine g_aload_n 68 4 dX4_readLot_67 rfl rfl ?_
                  refine g_callVi 71 md_X4_readStop [] [] dX4_readLot_68 rfl e_X4_readLot_63 rfl (by decide) rfl rfl (Nat.le_of_ble_eq_true rfl) (c_X4_readStop (p := tx t n p 4) hT_N56 hB hat_N56 hp_N56) (fun r68 N68 h68 => ?_)
                  obtain ⟨rfl, y68, w68, g68⟩ := h68
                  have hF_N68 := hF_N56.tr g68
                  by_cases z68 : spF t n (tx t n p 4) = 0
                  · rw [decide_eq_true z68]
                    obtain ⟨hat_N68, hq68⟩ := y68 z68
                    have hq_N68 := hq68.trans hq_N56
                    have hS_N68 := g68.sk hS_N56
                    have hp_N68 : tx t n p 5 ≤ n := spF_le hp_N56 z68
                    refine g_ifB_ne 76 74 dX4_readLot_71 rfl rfl (fun c71 => ?_) (fun c71 => ?_)
                    · refine g_aload_n 77 4 dX4_readLot_76 rfl rfl ?_
                      refine g_geto 80 dX4_readLot_77 rfl fX4_20 rfl (by decide) rfl ?_
                      refine g_iload_n 81 3 dX4_readLot_80 rfl rfl ?_
                      refine g_iload_n 82 2 dX4_readLot_81 rfl rfl ?_
                      refine g_iload_n 83 1 dX4_readLot_82 rfl rfl ?_
                      refine g_iload 85 0 dX4_readLot_83 rfl rfl ?_
                      refine g_callVi 88 md_X2_addLot [.int (nI (tvl t n (tx t n p 0))), .int (nI (tvl t n (tx t n p 1))), .int (nI (tvl t n (tx t n p 2))), .int (nI (tvl t n (tx t n p 3)))] [] dX4_readLot_85 rfl e_X4_readLot_94 rfl (by decide) rfl rfl (Nat.le_of_ble_eq_true rfl) (c_X2_addLot (o := 1) rfl hS_N68.1 (tvl t n (tx t n p 0)) (tvl t n (tx t n p 1)) (tvl t n (tx t n p 2)) (tvl t n (tx t n p 3)) (by omega)) (fun r85 M85 h85 => ?_)
                      obtain ⟨rfl, h85⟩ := h85
                      subst h85
                      refine g_pop 89 dX4_readLot_88 rfl rfl ?_
                      refine g_iconst 90 (nI 1) dX4_readLot_89 rfl rfl ?_
                      exact g_zret rfl dX4_readLot_90 rfl (by unfold rL; rw [orB_ok z11, orB_ok z26, orB_ok z41, orB_ok z56, orB_ok z68]; exact LnP_ok rfl (SK_mk (RP_addL hS_N68.1 (by omega) (fun j i h0 h1 h2 => by rw [wr_ne (by omega), wr_ne (by omega), wr_ne (by omega), wr_ne (by omega), wr_ne (by omega)]) wr_eq (by rw [wr_ne (by omega), wr_ne (by omega), wr_ne (by omega), wr_ne (by omega), wr_eq]) (by rw [wr_ne (by omega), wr_ne (by omega), wr_ne (by omega), wr_eq]) (by rw [wr_ne (by omega), wr_ne (by omega), wr_eq]) (by rw [wr_ne (by omega), wr_eq])) (RR_addL hS_N68.2.1 hS_N68.2.2.2.1 (fun i => by rw [wr_ne (by omega), wr_ne (by omega), wr_ne (by omega), wr_ne (by omega), wr_ne (by omega)])) (Ok_addL (SK_ok hS_N68) (by omega) v11.2.2 (by omega) (by omega) (by omega))) (by rw [wr_ne (by omega), wr_ne (by omega), wr_ne (by omega), wr_ne (by omega), wr_ne (by omega)]; exact hat_N68) hp_N68 (by rw [wr_ne (by omega), wr_ne (by omega), wr_ne (by omega), wr_ne (by omega), wr_ne (by omega)]; exact hq_N68) (hF_N68.fl.tr (((((FLn.w1).tr FLn.w1).tr FLn.w1).tr FLn.w1).tr FLn.w1)))
                    · exact absurd c71 (by decide)
                  · rw [decide_eq_false z68]
                    obtain ⟨hk_N68, hl_N68⟩ := w68 z68
                    refine g_ifB_ne 76 74 dX4_readLot_71 rfl rfl (fun c71 => ?_) (fun c71 => ?_)
                    · exact absurd c71 (by decide)
                    · refine g_iconst 75 (nI 0) dX4_readLot_74 rfl rfl ?_
                      exact g_zret rfl dX4_readLot_75 rfl (by unfold rL; rw [orB_ok z11, orB_ok z26, orB_ok z41, orB_ok z56, orB_no z68]; exact LnP_no z68 rfl hk_N68 hl_N68 hF_N68.fl)
              · obtain ⟨rfl, hk_N56, hl_N56⟩ := w56 z56
                refine g_istore 61 [(4, .int (-1)), (3, .int (nI (tvl t n (tx t n p 2)))), (2, .int (nI (tvl t n (tx t n p 1)))), (1, .int (nI (tvl t n (tx t n p 0)))), (0, .ref (g 15 0))] dX4_readLot_59 rfl (by decide) rfl ?_
                refine g_iload 63 0 dX4_readLot_61 rfl rfl ?_
                refine g_iconst 64 ((-1)) dX4_readLot_63 rfl rfl ?_
                refine g_icmp_eq 74 67 dX4_readLot_64 rfl rfl (fun c64 => ?_) (fun c64 => ?_)
                · refine g_iconst 75 (nI 0) dX4_readLot_74 rfl rfl ?_
                  exact g_zret rfl dX4_readLot_75 rfl (by unfold rL; rw [orB_ok z11, orB_ok z26, orB_ok z41, orB_no z56]; exact LnP_no z56 rfl hk_N56 hl_N56 hF_N56.fl)
                · exact absurd rfl c64
            · exact absurd c47 (nI_nm1 (by omega))
          · obtain ⟨rfl, hk_N41, hl_N41⟩ := w41 z41
            refine g_istore_n 45 [(3, .int (-1)), (2, .int (nI (tvl t n (tx t n p 1)))), (1, .int (nI (tvl t n (tx t n p 0)))), (0, .ref (g 15 0))] dX4_readLot_44 rfl (by decide) rfl ?_
            refine g_iload_n 46 0 dX4_readLot_45 rfl rfl ?_
            refine g_iconst 47 ((-1)) dX4_readLot_46 rfl rfl ?_
            refine g_icmp_ne 52 50 dX4_readLot_47 rfl rfl (fun c47 => ?_) (fun c47 => ?_)
            · exact absurd rfl c47
            · refine g_iconst 51 (nI 0) dX4_readLot_50 rfl rfl ?_
              exact g_zret rfl dX4_readLot_51 rfl (by unfold rL; rw [orB_ok z11, orB_ok z26, orB_no z41]; exact LnP_no z41 rfl hk_N41 hl_N41 hF_N41.fl)
        · exact absurd c32 (nI_nm1 (by omega))
      · obtain ⟨rfl, hk_N26, hl_N26⟩ := w26 z26
        refine g_istore_n 30 [(2, .int (-1)), (1, .int (nI (tvl t n (tx t n p 0)))), (0, .ref (g 15 0))] dX4_readLot_29 rfl (by decide) rfl ?_
        refine g_iload_n 31 0 dX4_readLot_30 rfl rfl ?_
        refine g_iconst 32 ((-1)) dX4_readLot_31 rfl rfl ?_
        refine g_icmp_ne 37 35 dX4_readLot_32 rfl rfl (fun c32 => ?_) (fun c32 => ?_)
        · exact absurd rfl c32
        · refine g_iconst 36 (nI 0) dX4_readLot_35 rfl rfl ?_
          exact g_zret rfl dX4_readLot_36 rfl (by unfold rL; rw [orB_ok z11, orB_no z26]; exact LnP_no z26 rfl hk_N26 hl_N26 hF_N26.fl)
    · exact absurd c17 (nI_nm1 (by omega))
  · obtain ⟨rfl, hk_N11, hl_N11⟩ := w11 z11
    refine g_istore_n 15 [(1, .int (-1)), (0, .ref (g 15 0))] dX4_readLot_14 rfl (by decide) rfl ?_
    refine g_iload_n 16 0 dX4_readLot_15 rfl rfl ?_
    refine g_iconst 17 ((-1)) dX4_readLot_16 rfl rfl ?_
    refine g_icmp_ne 22 20 dX4_readLot_17 rfl rfl (fun c17 => ?_) (fun c17 => ?_)
    · exact absurd rfl c17
    · refine g_iconst 21 (nI 0) dX4_readLot_20 rfl rfl ?_
      exact g_zret rfl dX4_readLot_21 rfl (by unfold rL; rw [orB_no z11]; exact LnP_no z11 rfl hk_N11 hl_N11 hF_N11.fl)

set_option maxHeartbeats 4000000 in
set_option maxRecDepth 100000 in
theorem c_X4_readOrder {l : Launch} {D : va_G} {g : Nat → Nat → Nat} {ca : Nat → ClassId} {M : Mm} {t : Nat → Nat} {n p : Nat} (hT : TC M t n) (hB : Tb t n) (hat : M.1 14 0 1 = nI p) (hp : p ≤ n) {a : Sa} (hS : SK (M.1 1) a) (hc : a 0 4 < 12) : Ct l D g ca md_X4_readOrder [.ref (g 15 0)] M (Ri (fun r M1 => LnP M n (rO t n p a) r M1)) := by
  refine Ct.of (by decide) rfl (Nat.le_of_ble_eq_true rfl) ?_
  have hn := hB.1
  have hT_M := hT
  have hat_M := hat
  have hp_M : tx t n p 0 ≤ n := hp
  have hS_M := hS
  have hF_M : FN M M := FN.rf
  have hq_M : M.1 15 0 3 = M.1 15 0 3 := rfl
  have b1 := hS.2.2.1.g4
  have b2 := hS.2.2.1.c6
  have b3 := hS.2.2.1.l24
  have b4 := hS.2.2.1.o41
  show G l D g ca md_X4_readOrder 0 [(0, .ref (g 15 0))] [] M _
  refine g_aload_n 1 0 dX4_readOrder_0 rfl rfl ?_
  refine g_iconst 2 (nI 0) dX4_readOrder_1 rfl rfl ?_
  refine g_aload_n 3 0 dX4_readOrder_2 rfl rfl ?_
  refine g_geto 6 dX4_readOrder_3 rfl fX4_20 rfl (by decide) rfl ?_
  refine g_get 9 (nI (a 0 2)) dX4_readOrder_6 rfl fX4_72 rfl (by decide) rfl (hS_M.1.sc (by decide)) ?_
  refine g_iconst 10 (nI 1) dX4_readOrder_9 rfl rfl ?_
  refine g_isub 11 ((nI (a 0 2)) - (nI 1)) dX4_readOrder_10 rfl rfl ?_
  refine g_callVi 14 md_X4_readNumber [.int (nI 0), .int ((nI (a 0 2)) - (nI 1))] [] dX4_readOrder_11 rfl e_X4_readOrder_59 rfl (by decide) rfl rfl (Nat.le_of_ble_eq_true rfl) (c_X4_readNum (p := tx t n p 0) hT_M hB hat_M hp_M 0 (a 0 2) (by omega) (by omega) rfl) (fun r11 N11 h11 => ?_)
  obtain ⟨y11, w11, g11⟩ := h11
  have hF_N11 := hF_M.tr g11
  by_cases z11 : nmF t n (tx t n p 0) 0 (a 0 2) = 0
  · obtain ⟨rfl, hat_N11, pl11, hq11⟩ := y11 z11
    have hq_N11 := hq11.trans hq_M
    have hT_N11 := g11.tc hT_M
    have hS_N11 := g11.sk hS_M
    have hp_N11 : tx t n p 1 ≤ n := nmF_le hp_M z11
    have v11 := nmF_of z11
    refine g_istore_n 15 [(1, .int (nI (tvl t n (tx t n p 0)))), (0, .ref (g 15 0))] dX4_readOrder_14 rfl (by decide) rfl ?_
    refine g_iload_n 16 0 dX4_readOrder_15 rfl rfl ?_
    refine g_iconst 17 ((-1)) dX4_readOrder_16 rfl rfl ?_
    refine g_icmp_ne 22 20 dX4_readOrder_17 rfl rfl (fun c17 => ?_) (fun c17 => ?_)
    · refine g_aload_n 23 1 dX4_readOrder_22 rfl rfl ?_
      refine g_iconst 24 (nI 0) dX4_readOrder_23 rfl rfl ?_
      refine g_aload_n 25 1 dX4_readOrder_24 rfl rfl ?_
      refine g_geto 28 dX4_readOrder_25 rfl fX4_20 rfl (by decide) rfl ?_
      refine g_get 31 (nI (a 0 1)) dX4_readOrder_28 rfl fX4_66 rfl (by decide) rfl (hS_N11.1.sc (by decide)) ?_
      refine g_iconst 32 (nI 1) dX4_readOrder_31 rfl rfl ?_
      refine g_isub 33 ((nI (a 0 1)) - (nI 1)) dX4_readOrder_32 rfl rfl ?_
      refine g_callVi 36 md_X4_readNumber [.int (nI 0), .int ((nI (a 0 1)) - (nI 1))] [] dX4_readOrder_33 rfl e_X4_readOrder_59 rfl (by decide) rfl rfl (Nat.le_of_ble_eq_true rfl) (c_X4_readNum (p := tx t n p 1) hT_N11 hB hat_N11 hp_N11 0 (a 0 1) (by omega) (by omega) rfl) (fun r33 N33 h33 => ?_)
      obtain ⟨y33, w33, g33⟩ := h33
      have hF_N33 := hF_N11.tr g33
      by_cases z33 : nmF t n (tx t n p 1) 0 (a 0 1) = 0
      · obtain ⟨rfl, hat_N33, pl33, hq33⟩ := y33 z33
        have hq_N33 := hq33.trans hq_N11
        have hT_N33 := g33.tc hT_N11
        have hS_N33 := g33.sk hS_N11
        have hp_N33 : tx t n p 2 ≤ n := nmF_le hp_N11 z33
        have v33 := nmF_of z33
        refine g_istore_n 37 [(2, .int (nI (tvl t n (tx t n p 1)))), (1, .int (nI (tvl t n (tx t n p 0)))), (0, .ref (g 15 0))] dX4_readOrder_36 rfl (by decide) rfl ?_
        refine g_iload_n 38 0 dX4_readOrder_37 rfl rfl ?_
        refine g_iconst 39 ((-1)) dX4_readOrder_38 rfl rfl ?_
        refine g_icmp_ne 44 42 dX4_readOrder_39 rfl rfl (fun c39 => ?_) (fun c39 => ?_)
        · refine g_aload_n 45 2 dX4_readOrder_44 rfl rfl ?_
          refine g_geto 48 dX4_readOrder_45 rfl fX4_20 rfl (by decide) rfl ?_
          refine g_iload_n 49 1 dX4_readOrder_48 rfl rfl ?_
          refine g_iload_n 50 0 dX4_readOrder_49 rfl rfl ?_
          refine g_callVi 53 md_X2_openOrder [.int (nI (tvl t n (tx t n p 0))), .int (nI (tvl t n (tx t n p 1)))] [] dX4_readOrder_50 rfl e_X4_readOrder_98 rfl (by decide) rfl rfl (Nat.le_of_ble_eq_true rfl) (c_X2_openOrder (o := 1) rfl hS_N33.1 hS_N33.2.2.1 (tvl t n (tx t n p 0)) (tvl t n (tx t n p 1)) (by omega) (by omega)) (fun r50 M50 h50 => ?_)
          obtain ⟨rfl, h50⟩ := h50
          have h50 := h50.symm
          subst h50
          refine g_iconst 54 ((-1)) dX4_readOrder_53 rfl rfl ?_
          refine g_icmp_eq 63 57 dX4_readOrder_54 rfl rfl (fun c54 => ?_) (fun c54 => ?_)
          · have zk : akF a (tvl t n (tx t n p 0)) (tvl t n (tx t n p 1)) = 0 := akF_0 ((oop_asked (by omega)).mp c54)
            refine g_aload_n 64 2 dX4_readOrder_63 rfl rfl ?_
            refine g_iconst 65 (nI 1) dX4_readOrder_64 rfl rfl ?_
            refine g_bipush 67 (nI 99) dX4_readOrder_65 rfl rfl ?_
            refine g_callVi 70 md_X4_readNumber [.int (nI 1), .int (nI 99)] [] dX4_readOrder_67 rfl e_X4_readOrder_59 rfl (by decide) rfl rfl (Nat.le_of_ble_eq_true rfl) (c_X4_readNum (p := tx t n p 2) hT_N33 hB hat_N33 hp_N33 1 100 (by omega) (by omega) (by decide)) (fun r67 N67 h67 => ?_)
            obtain ⟨y67, w67, g67⟩ := h67
            have hF_N67 := hF_N33.tr g67
            by_cases z67 : nmF t n (tx t n p 2) 1 100 = 0
            · obtain ⟨rfl, hat_N67, pl67, hq67⟩ := y67 z67
              have hq_N67 := hq67.trans hq_N33
              have hT_N67 := g67.tc hT_N33
              have hS_N67 := g67.sk hS_N33
              have hp_N67 : tx t n p 3 ≤ n := nmF_le hp_N33 z67
              have v67 := nmF_of z67
              refine g_istore_n 71 [(3, .int (nI (tvl t n (tx t n p 2)))), (2, .int (nI (tvl t n (tx t n p 1)))), (1, .int (nI (tvl t n (tx t n p 0)))), (0, .ref (g 15 0))] dX4_readOrder_70 rfl (by decide) rfl ?_
              refine g_iload_n 72 0 dX4_readOrder_71 rfl rfl ?_
              refine g_iconst 73 ((-1)) dX4_readOrder_72 rfl rfl ?_
              refine g_icmp_ne 78 76 dX4_readOrder_73 rfl rfl (fun c73 => ?_) (fun c73 => ?_)
              · refine g_aload_n 79 3 dX4_readOrder_78 rfl rfl ?_
                refine g_iconst 80 (nI 0) dX4_readOrder_79 rfl rfl ?_
                refine g_bipush 82 (nI 99) dX4_readOrder_80 rfl rfl ?_
                refine g_callVi 85 md_X4_readNumber [.int (nI 0), .int (nI 99)] [] dX4_readOrder_82 rfl e_X4_readOrder_59 rfl (by decide) rfl rfl (Nat.le_of_ble_eq_true rfl) (c_X4_readNum (p := tx t n p 3) hT_N67 hB hat_N67 hp_N67 0 100 (by omega) (by omega) (by decide)) (fun r82 N82 h82 => ?_)
                obtain ⟨y82, w82, g82⟩ := h82
                have hF_N82 := hF_N67.tr g82
                by_cases z82 : nmF t n (tx t n p 3) 0 100 = 0
                · obtain ⟨rfl, hat_N82, pl82, hq82⟩ := y82 z82
                  have hq_N82 := hq82.trans hq_N67
                  have hT_N82 := g82.tc hT_N67
                  have hS_N82 := g82.sk hS_N67
                  have hp_N82 : tx t n p 4 ≤ n := nmF_le hp_N67 z82
                  have v82 := nmF_of z82
                  refine g_istore 87 [(4, .int (nI (tvl t n (tx t n p 3)))), (3, .int (nI (tvl t n (tx t n p 2)))), (2, .int (nI (tvl t n (tx t n p 1)))), (1, .int (nI (tvl t n (tx t n p 0)))), (0, .ref (g 15 0))] dX4_readOrder_85 rfl (by decide) rfl ?_
                  refine g_iload 89 0 dX4_readOrder_87 rfl rfl ?_
                  refine g_iconst 90 ((-1)) dX4_readOrder_89 rfl rfl ?_
                  refine g_icmp_eq 100 93 dX4_readOrder_90 rfl rfl (fun c90 => ?_) (fun c90 => ?_)
                  · exact absurd c90 (nI_nm1 (by omega))
                  · refine g_aload_n 94 4 dX4_readOrder_93 rfl rfl ?_
                    refine g_callVi 97 md_X4_readStop [] [] dX4_readOrder_94 rfl e_X4_readOrder_63 rfl (by decide) rfl rfl (Nat.le_of_ble_eq_true rfl) (c_X4_readStop (p := tx t n p 4) hT_N82 hB hat_N82 hp_N82) (fun r94 N94 h94 => ?_)
                    obtain ⟨rfl, y94, w94, g94⟩ := h94
                    have hF_N94 := hF_N82.tr g94
                    by_cases z94 : spF t n (tx t n p 4) = 0
                    · rw [decide_eq_true z94]
                      obtain ⟨hat_N94, hq94⟩ := y94 z94
                      have hq_N94 := hq94.trans hq_N82
                      have hS_N94 := g94.sk hS_N82
                      have hp_N94 : tx t n p 5 ≤ n := spF_le hp_N82 z94
                      refine g_ifB_ne 102 100 dX4_readOrder_97 rfl rfl (fun c97 => ?_) (fun c97 => ?_)
                      · refine g_aload_n 103 4 dX4_readOrder_102 rfl rfl ?_
                        refine g_geto 106 dX4_readOrder_103 rfl fX4_20 rfl (by decide) rfl ?_
                        refine g_iload_n 107 3 dX4_readOrder_106 rfl rfl ?_
                        refine g_iload_n 108 2 dX4_readOrder_107 rfl rfl ?_
                        refine g_iload_n 109 1 dX4_readOrder_108 rfl rfl ?_
                        refine g_iload 111 0 dX4_readOrder_109 rfl rfl ?_
                        refine g_callVi 114 md_X2_addOrder [.int (nI (tvl t n (tx t n p 0))), .int (nI (tvl t n (tx t n p 1))), .int (nI (tvl t n (tx t n p 2))), .int (nI (tvl t n (tx t n p 3)))] [] dX4_readOrder_111 rfl e_X4_readOrder_101 rfl (by decide) rfl rfl (Nat.le_of_ble_eq_true rfl) (c_X2_addOrder (o := 1) rfl hS_N94.1 (tvl t n (tx t n p 0)) (tvl t n (tx t n p 1)) (tvl t n (tx t n p 2)) (tvl t n (tx t n p 3)) (by omega)) (fun r111 M111 h111 => ?_)
                        obtain ⟨rfl, h111⟩ := h111
                        subst h111
                        refine g_pop 115 dX4_readOrder_114 rfl rfl ?_
                        refine g_iconst 116 (nI 1) dX4_readOrder_115 rfl rfl ?_
                        exact g_zret rfl dX4_readOrder_116 rfl (by unfold rO; rw [orB_ok z11, orB_ok z33, orB_ok zk, orB_ok z67, orB_ok z82, orB_ok z94]; exact LnP_ok rfl (SK_mk (RP_addO hS_N94.1 (by omega) (fun j i h0 h1 h2 => by rw [wr_ne (by omega), wr_ne (by omega), wr_ne (by omega), wr_ne (by omega), wr_ne (by omega), wr_ne (by omega), wr_ne (by omega)]) wr_eq (by rw [wr_ne (by omega), wr_ne (by omega), wr_ne (by omega), wr_ne (by omega), wr_ne (by omega), wr_ne (by omega), wr_eq]) (by rw [wr_ne (by omega), wr_ne (by omega), wr_ne (by omega), wr_ne (by omega), wr_ne (by omega), wr_eq]) (by rw [wr_ne (by omega), wr_ne (by omega), wr_ne (by omega), wr_ne (by omega), wr_eq]) (by rw [wr_ne (by omega), wr_ne (by omega), wr_ne (by omega), wr_eq]) (by rw [wr_ne (by omega), wr_ne (by omega), wr_eq]) (by rw [wr_ne (by omega), wr_eq])) (RR_addO hS_N94.2.1 hS_N94.2.2.2.1 (fun i => by rw [wr_ne (by omega), wr_ne (by omega), wr_ne (by omega), wr_ne (by omega), wr_ne (by omega), wr_ne (by omega), wr_ne (by omega)])) (Ok_addO (SK_ok hS_N94) (by omega) v11.2.2 v33.2.2 v67.2.1 (by omega) (by omega) ((oop_asked (by omega)).mp c54))) (by rw [wr_ne (by omega), wr_ne (by omega), wr_ne (by omega), wr_ne (by omega), wr_ne (by omega), wr_ne (by omega), wr_ne (by omega)]; exact hat_N94) hp_N94 (by rw [wr_ne (by omega), wr_ne (by omega), wr_ne (by omega), wr_ne (by omega), wr_ne (by omega), wr_ne (by omega), wr_ne (by omega)]; exact hq_N94) (hF_N94.fl.tr (((((((FLn.w1).tr FLn.w1).tr FLn.w1).tr FLn.w1).tr FLn.w1).tr FLn.w1).tr FLn.w1)))
                      · exact absurd c97 (by decide)
                    · rw [decide_eq_false z94]
                      obtain ⟨hk_N94, hl_N94⟩ := w94 z94
                      refine g_ifB_ne 102 100 dX4_readOrder_97 rfl rfl (fun c97 => ?_) (fun c97 => ?_)
                      · exact absurd c97 (by decide)
                      · refine g_iconst 101 (nI 0) dX4_readOrder_100 rfl rfl ?_
                        exact g_zret rfl dX4_readOrder_101 rfl (by unfold rO; rw [orB_ok z11, orB_ok z33, orB_ok zk, orB_ok z67, orB_ok z82, orB_no z94]; exact LnP_no z94 rfl hk_N94 hl_N94 hF_N94.fl)
                · obtain ⟨rfl, hk_N82, hl_N82⟩ := w82 z82
                  refine g_istore 87 [(4, .int (-1)), (3, .int (nI (tvl t n (tx t n p 2)))), (2, .int (nI (tvl t n (tx t n p 1)))), (1, .int (nI (tvl t n (tx t n p 0)))), (0, .ref (g 15 0))] dX4_readOrder_85 rfl (by decide) rfl ?_
                  refine g_iload 89 0 dX4_readOrder_87 rfl rfl ?_
                  refine g_iconst 90 ((-1)) dX4_readOrder_89 rfl rfl ?_
                  refine g_icmp_eq 100 93 dX4_readOrder_90 rfl rfl (fun c90 => ?_) (fun c90 => ?_)
                  · refine g_iconst 101 (nI 0) dX4_readOrder_100 rfl rfl ?_
                    exact g_zret rfl dX4_readOrder_101 rfl (by unfold rO; rw [orB_ok z11, orB_ok z33, orB_ok zk, orB_ok z67, orB_no z82]; exact LnP_no z82 rfl hk_N82 hl_N82 hF_N82.fl)
                  · exact absurd rfl c90
              · exact absurd c73 (nI_nm1 (by omega))
            · obtain ⟨rfl, hk_N67, hl_N67⟩ := w67 z67
              refine g_istore_n 71 [(3, .int (-1)), (2, .int (nI (tvl t n (tx t n p 1)))), (1, .int (nI (tvl t n (tx t n p 0)))), (0, .ref (g 15 0))] dX4_readOrder_70 rfl (by decide) rfl ?_
              refine g_iload_n 72 0 dX4_readOrder_71 rfl rfl ?_
              refine g_iconst 73 ((-1)) dX4_readOrder_72 rfl rfl ?_
              refine g_icmp_ne 78 76 dX4_readOrder_73 rfl rfl (fun c73 => ?_) (fun c73 => ?_)
              · exact absurd rfl c73
              · refine g_iconst 77 (nI 0) dX4_readOrder_76 rfl rfl ?_
                exact g_zret rfl dX4_readOrder_77 rfl (by unfold rO; rw [orB_ok z11, orB_ok z33, orB_ok zk, orB_no z67]; exact LnP_no z67 rfl hk_N67 hl_N67 hF_N67.fl)
          · have zk : akF a (tvl t n (tx t n p 0)) (tvl t n (tx t n p 1)) = 2 := akF_2 (by cases hq : asked a (tvl t n (tx t n p 0)) (tvl t n (tx t n p 1)) with
              | true => rfl
              | false => exact absurd ((oop_asked (by omega)).mpr hq) c54)
            refine g_aload_n 58 2 dX4_readOrder_57 rfl rfl ?_
            refine g_iconst 59 (nI 2) dX4_readOrder_58 rfl rfl ?_
            refine g_callVi 62 md_X4_refuse [.int (nI 2)] [] dX4_readOrder_59 rfl e_X4_readOrder_55 rfl (by decide) rfl rfl (Nat.le_of_ble_eq_true rfl) (c_X4_refuse (nI 2)) (fun r59 M59 h59 => ?_)
            obtain ⟨rfl, h59⟩ := h59
            subst h59
            exact g_zret rfl dX4_readOrder_62 (bi_nar _) (by unfold rO; rw [orB_ok z11, orB_ok z33, orB_no (by rw [zk]; decide), zk]; exact LnP_no (by decide) rfl ((wr_ne (by omega)).trans wr_eq) (wr_eq.trans pl33) ((hF_N33.tr ((FN.w15 (by omega)).tr (FN.w15 (by omega)))).fl))
        · exact absurd c39 (nI_nm1 (by omega))
      · obtain ⟨rfl, hk_N33, hl_N33⟩ := w33 z33
        refine g_istore_n 37 [(2, .int (-1)), (1, .int (nI (tvl t n (tx t n p 0)))), (0, .ref (g 15 0))] dX4_readOrder_36 rfl (by decide) rfl ?_
        refine g_iload_n 38 0 dX4_readOrder_37 rfl rfl ?_
        refine g_iconst 39 ((-1)) dX4_readOrder_38 rfl rfl ?_
        refine g_icmp_ne 44 42 dX4_readOrder_39 rfl rfl (fun c39 => ?_) (fun c39 => ?_)
        · exact absurd rfl c39
        · refine g_iconst 43 (nI 0) dX4_readOrder_42 rfl rfl ?_
          exact g_zret rfl dX4_readOrder_43 rfl (by unfold rO; rw [orB_ok z11, orB_no z33]; exact LnP_no z33 rfl hk_N33 hl_N33 hF_N33.fl)
    · exact absurd c17 (nI_nm1 (by omega))
  · obtain ⟨rfl, hk_N11, hl_N11⟩ := w11 z11
    refine g_istore_n 15 [(1, .int (-1)), (0, .ref (g 15 0))] dX4_readOrder_14 rfl (by decide) rfl ?_
    refine g_iload_n 16 0 dX4_readOrder_15 rfl rfl ?_
    refine g_iconst 17 ((-1)) dX4_readOrder_16 rfl rfl ?_
    refine g_icmp_ne 22 20 dX4_readOrder_17 rfl rfl (fun c17 => ?_) (fun c17 => ?_)
    · exact absurd rfl c17
    · refine g_iconst 21 (nI 0) dX4_readOrder_20 rfl rfl ?_
      exact g_zret rfl dX4_readOrder_21 rfl (by unfold rO; rw [orB_no z11]; exact LnP_no z11 rfl hk_N11 hl_N11 hF_N11.fl)
