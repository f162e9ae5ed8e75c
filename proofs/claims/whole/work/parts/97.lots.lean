set_option maxHeartbeats 4000000 in
set_option maxRecDepth 100000 in
theorem n_X6_lot {l : Launch} {D : va_G} {g : Nat → Nat → Nat} {ca : Nat → ClassId} {M : Mm} {a : Sa} (hK : SK (M.1 0) a) (p k : Nat) (hp : p < a 0 3) (hk : k < 5) : G l D g ca md_X6_lot 0 [(0, .ref (g 12 0)), (1, .int (nI p)), (2, .int (nI k))] [] M (Ri (fun r M1 => r = nI (V_lot a p k) ∧ M1 = M)) := by
  have hS := hK.1
  have hR := hK.2.1
  have hI := hK.2.2.1
  have hr := hK.2.2.2.1
  have hs := hK.2.2.2.2
  have b0 := hI.today
  have b1 := hI.g4
  have b2 := hI.c6
  have b3 := hI.l24
  have b4 := hr.2
  have hib := hK.ib
  have := hI.lot (l := p)
  refine g_aload_n 1 0 dX6_lot_0 rfl rfl ?_
  refine g_geto 4 dX6_lot_1 rfl fX6_19 rfl (by decide) rfl ?_
  refine g_iload_n 5 1 dX6_lot_4 rfl rfl ?_
  refine g_callVi 8 md_X2_hasLot [.int (nI p)] [] dX6_lot_5 rfl e_X6_lot_115 rfl (by decide) rfl rfl (Nat.le_of_ble_eq_true rfl) (c_X2_hasLot rfl hS hI (nI p)) (fun r5 M5 h5 => ?_)
  obtain ⟨rfl, h5⟩ := h5
  have h5 := h5.symm
  subst h5
  refine g_ifB_ne 21 11 dX6_lot_8 rfl rfl (fun c8 => ?_) (fun c8 => ?_)
  · refine g_iload_n 22 2 dX6_lot_21 rfl rfl ?_
    rcases (show k = 0 ∨ k = 1 ∨ k = 2 ∨ k = 3 ∨ k = 4 by omega) with rfl | rfl | rfl | rfl | rfl
    · refine g_tableIn 56 dX6_lot_22 (by decide) (by decide) rfl rfl ?_
      refine g_aload_n 57 0 dX6_lot_56 rfl rfl ?_
      refine g_geto 60 dX6_lot_57 rfl fX6_19 rfl (by decide) rfl ?_
      refine g_geta 63 10 dX6_lot_60 rfl fX6_126 rfl (by decide) rfl rfl ?_
      refine g_iload_n 64 1 dX6_lot_63 rfl rfl ?_
      refine g_iald 65 (nI (a 10 p)) dX6_lot_64 rfl rfl (by decide) rfl (by decide) (by omega) (hS.lot (by decide) (by decide) (by omega)) ?_
      exact g_iret rfl dX6_lot_65 ⟨by unfold V_lot; rw [if_pos (by decide)], rfl⟩
    · refine g_tableIn 66 dX6_lot_22 (by decide) (by decide) rfl rfl ?_
      refine g_aload_n 67 0 dX6_lot_66 rfl rfl ?_
      refine g_geto 70 dX6_lot_67 rfl fX6_19 rfl (by decide) rfl ?_
      refine g_geta 73 11 dX6_lot_70 rfl fX6_130 rfl (by decide) rfl rfl ?_
      refine g_iload_n 74 1 dX6_lot_73 rfl rfl ?_
      refine g_iald 75 (nI (a 11 p)) dX6_lot_74 rfl rfl (by decide) rfl (by decide) (by omega) (hS.lot (by decide) (by decide) (by omega)) ?_
      exact g_iret rfl dX6_lot_75 ⟨by unfold V_lot; rw [if_pos (by decide)], rfl⟩
    · refine g_tableIn 76 dX6_lot_22 (by decide) (by decide) rfl rfl ?_
      refine g_aload_n 77 0 dX6_lot_76 rfl rfl ?_
      refine g_geto 80 dX6_lot_77 rfl fX6_19 rfl (by decide) rfl ?_
      refine g_geta 83 12 dX6_lot_80 rfl fX6_133 rfl (by decide) rfl rfl ?_
      refine g_iload_n 84 1 dX6_lot_83 rfl rfl ?_
      refine g_iald 85 (nI (a 12 p)) dX6_lot_84 rfl rfl (by decide) rfl (by decide) (by omega) (hS.lot (by decide) (by decide) (by omega)) ?_
      exact g_iret rfl dX6_lot_85 ⟨by unfold V_lot; rw [if_pos (by decide)], rfl⟩
    · refine g_tableIn 86 dX6_lot_22 (by decide) (by decide) rfl rfl ?_
      refine g_aload_n 87 0 dX6_lot_86 rfl rfl ?_
      refine g_geto 90 dX6_lot_87 rfl fX6_19 rfl (by decide) rfl ?_
      refine g_geta 93 13 dX6_lot_90 rfl fX6_136 rfl (by decide) rfl rfl ?_
      refine g_iload_n 94 1 dX6_lot_93 rfl rfl ?_
      refine g_iald 95 (nI (a 13 p)) dX6_lot_94 rfl rfl (by decide) rfl (by decide) (by omega) (hS.lot (by decide) (by decide) (by omega)) ?_
      exact g_iret rfl dX6_lot_95 ⟨by unfold V_lot; rw [if_pos (by decide)], rfl⟩
    · refine g_tableIn 96 dX6_lot_22 (by decide) (by decide) rfl rfl ?_
      refine g_aload_n 97 0 dX6_lot_96 rfl rfl ?_
      refine g_geto 100 dX6_lot_97 rfl fX6_19 rfl (by decide) rfl ?_
      refine g_iload_n 101 1 dX6_lot_100 rfl rfl ?_
      refine g_callVi 104 md_X2_reservedOfLot [.int (nI p)] [] dX6_lot_101 rfl e_X6_lot_139 rfl (by decide) rfl rfl (Nat.le_of_ble_eq_true rfl) (c_X2_reservedOfLot rfl hS hI hR hr p hp) (fun r101 M101 h101 => ?_)
      obtain ⟨rfl, h101⟩ := h101
      have h101 := h101.symm
      subst h101
      exact g_iret rfl dX6_lot_104 ⟨by unfold V_lot; rw [if_neg (by decide)]; rfl, rfl⟩
  · rw [inr_nI hp (by omega)] at c8; exact absurd c8 (by decide)

set_option maxHeartbeats 4000000 in
set_option maxRecDepth 100000 in
theorem n_X6_order {l : Launch} {D : va_G} {g : Nat → Nat → Nat} {ca : Nat → ClassId} {M : Mm} {a : Sa} (hK : SK (M.1 0) a) (p k : Nat) (hp : p < a 0 4) (hk : k < 7) : G l D g ca md_X6_order 0 [(0, .ref (g 12 0)), (1, .int (nI p)), (2, .int (nI k))] [] M (Ri (fun r M1 => r = nI (V_ord a p k) ∧ M1 = M)) := by
  have hS := hK.1
  have hR := hK.2.1
  have hI := hK.2.2.1
  have hr := hK.2.2.2.1
  have hs := hK.2.2.2.2
  have b0 := hI.today
  have b1 := hI.g4
  have b2 := hI.c6
  have b3 := hI.l24
  have b4 := hr.2
  have hib := hK.ib
  have := hI.ord (o := p)
  refine g_aload_n 1 0 dX6_order_0 rfl rfl ?_
  refine g_geto 4 dX6_order_1 rfl fX6_19 rfl (by decide) rfl ?_
  refine g_iload_n 5 1 dX6_order_4 rfl rfl ?_
  refine g_callVi 8 md_X2_hasOrder [.int (nI p)] [] dX6_order_5 rfl e_X6_order_145 rfl (by decide) rfl rfl (Nat.le_of_ble_eq_true rfl) (c_X2_hasOrder rfl hS hI (nI p)) (fun r5 M5 h5 => ?_)
  obtain ⟨rfl, h5⟩ := h5
  have h5 := h5.symm
  subst h5
  refine g_ifB_ne 21 11 dX6_order_8 rfl rfl (fun c8 => ?_) (fun c8 => ?_)
  · refine g_iload_n 22 2 dX6_order_21 rfl rfl ?_
    rcases (show k = 0 ∨ k = 1 ∨ k = 2 ∨ k = 3 ∨ k = 4 ∨ k = 5 ∨ k = 6 by omega) with rfl | rfl | rfl | rfl | rfl | rfl | rfl
    · refine g_tableIn 64 dX6_order_22 (by decide) (by decide) rfl rfl ?_
      refine g_aload_n 65 0 dX6_order_64 rfl rfl ?_
      refine g_geto 68 dX6_order_65 rfl fX6_19 rfl (by decide) rfl ?_
      refine g_geta 71 14 dX6_order_68 rfl fX6_150 rfl (by decide) rfl rfl ?_
      refine g_iload_n 72 1 dX6_order_71 rfl rfl ?_
      refine g_iald 73 (nI (a 14 p)) dX6_order_72 rfl rfl (by decide) rfl (by decide) (by omega) (hS.ord (by decide) (by decide) (by omega)) ?_
      exact g_iret rfl dX6_order_73 ⟨by unfold V_ord; rw [if_pos (by decide)], rfl⟩
    · refine g_tableIn 74 dX6_order_22 (by decide) (by decide) rfl rfl ?_
      refine g_aload_n 75 0 dX6_order_74 rfl rfl ?_
      refine g_geto 78 dX6_order_75 rfl fX6_19 rfl (by decide) rfl ?_
      refine g_geta 81 15 dX6_order_78 rfl fX6_153 rfl (by decide) rfl rfl ?_
      refine g_iload_n 82 1 dX6_order_81 rfl rfl ?_
      refine g_iald 83 (nI (a 15 p)) dX6_order_82 rfl rfl (by decide) rfl (by decide) (by omega) (hS.ord (by decide) (by decide) (by omega)) ?_
      exact g_iret rfl dX6_order_83 ⟨by unfold V_ord; rw [if_pos (by decide)], rfl⟩
    · refine g_tableIn 84 dX6_order_22 (by decide) (by decide) rfl rfl ?_
      refine g_aload_n 85 0 dX6_order_84 rfl rfl ?_
      refine g_geto 88 dX6_order_85 rfl fX6_19 rfl (by decide) rfl ?_
      refine g_geta 91 16 dX6_order_88 rfl fX6_156 rfl (by decide) rfl rfl ?_
      refine g_iload_n 92 1 dX6_order_91 rfl rfl ?_
      refine g_iald 93 (nI (a 16 p)) dX6_order_92 rfl rfl (by decide) rfl (by decide) (by omega) (hS.ord (by decide) (by decide) (by omega)) ?_
      exact g_iret rfl dX6_order_93 ⟨by unfold V_ord; rw [if_pos (by decide)], rfl⟩
    · refine g_tableIn 94 dX6_order_22 (by decide) (by decide) rfl rfl ?_
      refine g_aload_n 95 0 dX6_order_94 rfl rfl ?_
      refine g_geto 98 dX6_order_95 rfl fX6_19 rfl (by decide) rfl ?_
      refine g_geta 101 17 dX6_order_98 rfl fX6_159 rfl (by decide) rfl rfl ?_
      refine g_iload_n 102 1 dX6_order_101 rfl rfl ?_
      refine g_iald 103 (nI (a 17 p)) dX6_order_102 rfl rfl (by decide) rfl (by decide) (by omega) (hS.ord (by decide) (by decide) (by omega)) ?_
      exact g_iret rfl dX6_order_103 ⟨by unfold V_ord; rw [if_pos (by decide)], rfl⟩
    · refine g_tableIn 104 dX6_order_22 (by decide) (by decide) rfl rfl ?_
      refine g_aload_n 105 0 dX6_order_104 rfl rfl ?_
      refine g_geto 108 dX6_order_105 rfl fX6_19 rfl (by decide) rfl ?_
      refine g_geta 111 18 dX6_order_108 rfl fX6_162 rfl (by decide) rfl rfl ?_
      refine g_iload_n 112 1 dX6_order_111 rfl rfl ?_
      refine g_iald 113 (nI (a 18 p)) dX6_order_112 rfl rfl (by decide) rfl (by decide) (by omega) (hS.ord (by decide) (by decide) (by omega)) ?_
      exact g_iret rfl dX6_order_113 ⟨by unfold V_ord; rw [if_pos (by decide)], rfl⟩
    · refine g_tableIn 114 dX6_order_22 (by decide) (by decide) rfl rfl ?_
      refine g_aload_n 115 0 dX6_order_114 rfl rfl ?_
      refine g_geto 118 dX6_order_115 rfl fX6_19 rfl (by decide) rfl ?_
      refine g_iload_n 119 1 dX6_order_118 rfl rfl ?_
      refine g_callVi 122 md_X2_reservedForOrder [.int (nI p)] [] dX6_order_119 rfl e_X6_order_165 rfl (by decide) rfl rfl (Nat.le_of_ble_eq_true rfl) (c_X2_reservedForOrder rfl hS hI hR hr p hp) (fun r119 M119 h119 => ?_)
      obtain ⟨rfl, h119⟩ := h119
      have h119 := h119.symm
      subst h119
      exact g_iret rfl dX6_order_122 ⟨by unfold V_ord; rw [if_neg (by decide), if_pos rfl]; rfl, rfl⟩
    · refine g_tableIn 123 dX6_order_22 (by decide) (by decide) rfl rfl ?_
      refine g_aload_n 124 0 dX6_order_123 rfl rfl ?_
      refine g_geto 127 dX6_order_124 rfl fX6_19 rfl (by decide) rfl ?_
      refine g_geta 130 19 dX6_order_127 rfl fX6_168 rfl (by decide) rfl rfl ?_
      refine g_iload_n 131 1 dX6_order_130 rfl rfl ?_
      refine g_iald 132 (nI (a 19 p)) dX6_order_131 rfl rfl (by decide) rfl (by decide) (by omega) (hS.ord (by decide) (by decide) (by omega)) ?_
      exact g_iret rfl dX6_order_132 ⟨by unfold V_ord; rw [if_neg (by decide), if_neg (by decide)], rfl⟩
  · rw [inr_nI hp (by omega)] at c8; exact absurd c8 (by decide)

set_option maxHeartbeats 4000000 in
theorem x_X6_lot {l : Launch} {D : va_G} {g : Nat → Nat → Nat} {ca : Nat → ClassId} {M : Mm} {a : Sa} (hK : SK (M.1 0) a) (x y : Int32) {Q : Option Value → Mm → Prop} (hT : T_lot a x y = true) : GX l D g ca md_X6_lot 0 [(0, .ref (g 12 0)), (1, .int x), (2, .int y)] [] M Q (T_lot a x y = true) := by
  refine gx_aload_n 1 0 dX6_lot_0 rfl rfl ?_
  refine gx_geto 4 dX6_lot_1 rfl fX6_19 rfl (by decide) rfl ?_
  refine gx_iload_n 5 1 dX6_lot_4 rfl rfl ?_
  refine gx_callP 8 md_X2_hasLot [.int x] [] dX6_lot_5 rfl e_X6_lot_115 rfl (by decide) rfl rfl (Nat.le_of_ble_eq_true rfl) (c_X2_hasLot rfl hK.1 hK.2.2.1 x) ?_
  refine gx_ifB_ne 21 11 dX6_lot_8 rfl rfl (fun c => ?_) (fun c => ?_)
  · have hy : inr y 5 = false := by
      unfold T_lot at hT
      rw [c] at hT
      cases h9 : inr y 5 with
      | false => rfl
      | true => rw [h9] at hT; exact absurd hT (by decide)
    refine gx_iload_n 22 2 dX6_lot_21 rfl rfl ?_
    refine gx_tableOut 105 dX6_lot_22 (by have h9 := inr_out hy; omega) rfl ?_
    exact gx_throw (i := 1) (by decide) rfl (by decide) (by decide) dX6_lot_105 dX6_lot_108 dX6_lot_109 dX6_lot_111 dX6_lot_114 hT
  · exact gx_throw (i := 0) (by decide) rfl (by decide) (by decide) dX6_lot_11 dX6_lot_14 dX6_lot_15 dX6_lot_17 dX6_lot_20 hT
theorem c_X6_lot {l : Launch} {D : va_G} {g : Nat → Nat → Nat} {ca : Nat → ClassId} {M : Mm} (htr : l.stackTraces = false) {a : Sa} (hK : SK (M.1 0) a) (x y : Int32) : CtX l D g ca md_X6_lot [.ref (g 12 0), .int x, .int y] M (Ri (fun r M1 => ∃ p k, x = nI p ∧ y = nI k ∧ r = nI (V_lot a p k) ∧ p < a 0 3 ∧ k < 5 ∧ T_lot a x y = false ∧ M1 = M)) (T_lot a x y = true) := by
  cases hT : T_lot a x y with
  | true =>
    have h9 := x_X6_lot (l := l) (D := D) (g := g) (ca := ca) hK x y (Q := Ri (fun r M1 => ∃ p k, x = nI p ∧ y = nI k ∧ r = nI (V_lot a p k) ∧ p < a 0 3 ∧ k < 5 ∧ T_lot a x y = false ∧ M1 = M)) hT
    rw [hT] at h9
    exact CtX.ofX (by decide) rfl (Nat.le_of_ble_eq_true rfl) htr h9
  | false =>
    have h1 : (inr x (a 0 3) && inr y 5) = true := by
      unfold T_lot at hT
      cases h9 : (inr x (a 0 3) && inr y 5) with
      | true => rfl
      | false => rw [h9] at hT; exact absurd hT (by decide)
    rw [Bool.and_eq_true] at h1
    obtain ⟨p, hp, rfl⟩ := inr_of h1.1
    obtain ⟨k, hk, rfl⟩ := inr_of h1.2
    refine CtX.ofG (by decide) rfl (Nat.le_of_ble_eq_true rfl) (Ct.mono (as := []) (fun v u z => ?_) (n_X6_lot hK p k hp hk))
    obtain ⟨r, rfl, rfl, rfl⟩ := z
    exact ⟨_, rfl, p, k, rfl, rfl, rfl, hp, hk, rfl, rfl⟩

set_option maxHeartbeats 4000000 in
theorem x_X6_order {l : Launch} {D : va_G} {g : Nat → Nat → Nat} {ca : Nat → ClassId} {M : Mm} {a : Sa} (hK : SK (M.1 0) a) (x y : Int32) {Q : Option Value → Mm → Prop} (hT : T_ord a x y = true) : GX l D g ca md_X6_order 0 [(0, .ref (g 12 0)), (1, .int x), (2, .int y)] [] M Q (T_ord a x y = true) := by
  refine gx_aload_n 1 0 dX6_order_0 rfl rfl ?_
  refine gx_geto 4 dX6_order_1 rfl fX6_19 rfl (by decide) rfl ?_
  refine gx_iload_n 5 1 dX6_order_4 rfl rfl ?_
  refine gx_callP 8 md_X2_hasOrder [.int x] [] dX6_order_5 rfl e_X6_order_145 rfl (by decide) rfl rfl (Nat.le_of_ble_eq_true rfl) (c_X2_hasOrder rfl hK.1 hK.2.2.1 x) ?_
  refine gx_ifB_ne 21 11 dX6_order_8 rfl rfl (fun c => ?_) (fun c => ?_)
  · have hy : inr y 7 = false := by
      unfold T_ord at hT
      rw [c] at hT
      cases h9 : inr y 7 with
      | false => rfl
      | true => rw [h9] at hT; exact absurd hT (by decide)
    refine gx_iload_n 22 2 dX6_order_21 rfl rfl ?_
    refine gx_tableOut 133 dX6_order_22 (by have h9 := inr_out hy; omega) rfl ?_
    exact gx_throw (i := 3) (by decide) rfl (by decide) (by decide) dX6_order_133 dX6_order_136 dX6_order_137 dX6_order_139 dX6_order_142 hT
  · exact gx_throw (i := 2) (by decide) rfl (by decide) (by decide) dX6_order_11 dX6_order_14 dX6_order_15 dX6_order_17 dX6_order_20 hT
theorem c_X6_order {l : Launch} {D : va_G} {g : Nat → Nat → Nat} {ca : Nat → ClassId} {M : Mm} (htr : l.stackTraces = false) {a : Sa} (hK : SK (M.1 0) a) (x y : Int32) : CtX l D g ca md_X6_order [.ref (g 12 0), .int x, .int y] M (Ri (fun r M1 => ∃ p k, x = nI p ∧ y = nI k ∧ r = nI (V_ord a p k) ∧ p < a 0 4 ∧ k < 7 ∧ T_ord a x y = false ∧ M1 = M)) (T_ord a x y = true) := by
  cases hT : T_ord a x y with
  | true =>
    have h9 := x_X6_order (l := l) (D := D) (g := g) (ca := ca) hK x y (Q := Ri (fun r M1 => ∃ p k, x = nI p ∧ y = nI k ∧ r = nI (V_ord a p k) ∧ p < a 0 4 ∧ k < 7 ∧ T_ord a x y = false ∧ M1 = M)) hT
    rw [hT] at h9
    exact CtX.ofX (by decide) rfl (Nat.le_of_ble_eq_true rfl) htr h9
  | false =>
    have h1 : (inr x (a 0 4) && inr y 7) = true := by
      unfold T_ord at hT
      cases h9 : (inr x (a 0 4) && inr y 7) with
      | true => rfl
      | false => rw [h9] at hT; exact absurd hT (by decide)
    rw [Bool.and_eq_true] at h1
    obtain ⟨p, hp, rfl⟩ := inr_of h1.1
    obtain ⟨k, hk, rfl⟩ := inr_of h1.2
    refine CtX.ofG (by decide) rfl (Nat.le_of_ble_eq_true rfl) (Ct.mono (as := []) (fun v u z => ?_) (n_X6_order hK p k hp hk))
    obtain ⟨r, rfl, rfl, rfl⟩ := z
    exact ⟨_, rfl, p, k, rfl, rfl, rfl, hp, hk, rfl, rfl⟩

theorem P_left {D : va_G} {cl : List vw_C} {w1 w2 : va_W} {H : Heap} (h : va_P D cl (w1 ++ w2) H) : va_P D cl w1 H := fun k q hk => h k q (by rw [List.getElem?_append_left (List.getElem?_eq_some_iff.mp hk).1]; exact hk)
theorem P_right {D : va_G} {cl : List vw_C} {w1 w2 : va_W} {H : Heap} (h : va_P D cl (w1 ++ w2) H) : va_P D cl w2 H := fun k q hk => h (w1.length + k) q (by rw [List.getElem?_append_right (by omega), Nat.add_sub_cancel_left]; exact hk)
theorem D_left {A : Nat → Prop} {w1 w2 : va_W} (h : va_D A (w1 ++ w2)) : va_D A w1 := ⟨fun i j p q hi hj e => h.1 i j p q (by rw [List.getElem?_append_left (List.getElem?_eq_some_iff.mp hi).1]; exact hi) (by rw [List.getElem?_append_left (List.getElem?_eq_some_iff.mp hj).1]; exact hj) e, fun k q hk => h.2 k q (by rw [List.getElem?_append_left (List.getElem?_eq_some_iff.mp hk).1]; exact hk)⟩
theorem D_apart {A : Nat → Prop} {w1 w2 : va_W} (h : va_D A (w1 ++ w2)) {i j : Nat} {p q : Nat × va_E} (hi : w1[i]? = some p) (hj : w2[j]? = some q) : p.1 ≠ q.1 := by
  intro e
  have hl := (List.getElem?_eq_some_iff.mp hi).1
  have h1 := h.1 i (w1.length + j) p q (by rw [List.getElem?_append_left hl]; exact hi) (by rw [List.getElem?_append_right (by omega), Nat.add_sub_cancel_left]; exact hj) e
  omega
abbrev oE (ca : Nat → ClassId) (f : Nat → Int64) : va_E := .inl (ca 4, 1, .inr (.inl f))
theorem preX_blind {D : va_G} {g : Nat → Nat → Nat} {ca : Nat → ClassId} {M : Mm} {as : List Value} {sz : Nat} : FrameBlind (va_Pc as (fun U => (U.heap.size = sz ∧ va_P D vwCl (Wd g ca M) U.heap ∧ va_K D vwCl (tyl ca) U ∧ va_D (fun _ => True) (Wd g ca M) ∧ Sx g (va_A (Wd g ca M) sz) U) ∧ Ew U)) := by
  intro a U gg mk q
  obtain ⟨q0, q1, q2⟩ := q
  exact ⟨q0, (pre_blind (as := as) a U gg mk ⟨q0, q1⟩).2, Ew.same (u := U) rfl q2⟩
def LPre_lot (D : va_G) (g : Nat → Nat → Nat) (ca : Nat → ClassId) (M : Mm) (qo : Nat) (f : Nat → Int64) (sz : Nat) (U : State) : Prop := (U.heap.size = sz ∧ va_P D vwCl (Wd g ca M ++ [(qo, oE ca f)]) U.heap ∧ va_K D vwCl (tyl ca) U ∧ va_K D vwCl [(ca 4, .long)] U ∧ va_D (fun _ => True) (Wd g ca M ++ [(qo, oE ca f)]) ∧ Sx g (va_A (Wd g ca M ++ [(qo, oE ca f)]) sz) U) ∧ Ew U
def LPost_lot (D : va_G) (g : Nat → Nat → Nat) (ca : Nat → ClassId) (M : Mm) (a : Sa) (x y : Int32) (qo : Nat) (f : Nat → Int64) (A : Nat → Prop) : Array Value → State → Outcome → State → Prop := fun _ st oc t =>
  (∃ (r : Int32) (f' : Nat → Int64), oc = .returned (some (.int r)) ∧ ((T_lot a x y = true ∧ r = nI 1 ∧ f' 0 = f 0) ∨ (T_lot a x y = false ∧ r = nI 0 ∧ ∃ p k, x = nI p ∧ y = nI k ∧ p < a 0 3 ∧ k < 5 ∧ f' 0 = (nI (V_lot a p k)).toInt64)) ∧ va_P D vwCl (Wd g ca M ++ [(qo, oE ca f')]) t.heap) ∧ va_F A st t
theorem ml_L_lot : Cond.methodLink RL 7 yX6_lot ∈ wsA := (wa_3 (List.mem_of_getElem? (i := 231) (by decide +kernel)) (by decide +kernel))
theorem im_X6_lot : Cond.instanceMethod yX6_lot ∈ wsA := (wa_3 (List.mem_of_getElem? (i := 232) (by decide +kernel)) (by decide +kernel))
theorem se_X6_lot : Cond.selects RX6 yX6_lot yX6_lot ∈ wsA := (wa_3 (List.mem_of_getElem? (i := 233) (by decide +kernel)) (by decide +kernel))
theorem co_X6_lot : Cond.code yX6_lot cX6_lot 3 (some .int) ∈ wsA := (wa_3 (List.mem_of_getElem? (i := 234) rfl) (by decide +kernel))
theorem cl_L_lot : Cond.classLink RL 13 nse ∈ wsA := (wa_3 (List.mem_of_getElem? (i := 230) (by decide +kernel)) (by decide +kernel))
theorem in_L_lot : Cond.initialized RX6 ∈ wsA := (wa_1 (List.mem_of_getElem? (i := 1) (by decide +kernel)) (by decide +kernel))
set_option maxHeartbeats 4000000 in
set_option maxRecDepth 100000 in
theorem c_L_lot {l : Launch} {D : va_G} {g : Nat → Nat → Nat} {ca : Nat → ClassId} {M : Mm} (htr : l.stackTraces = false) {a : Sa} (hK : SK (M.1 0) a) (x y : Int32) (qo : Nat) (f : Nat → Int64) (sz : Nat) : vx_Met l yL_lot (.codeWith yL_lot cL_lot 5 (some .int) [(0, 10, 13, 13)] :: wsA) { frames := 9, cells := 1, slots := 6, locals := 160 }
    (va_Pc [.ref (g 12 0), .int x, .int y, .ref qo] (LPre_lot D g ca M qo f sz)) (LPost_lot D g ca M a x y qo f (va_A (Wd g ca M ++ [(qo, oE ca f)]) sz)) (fun _ _ _ => False) 1 6 (va_A (Wd g ca M ++ [(qo, oE ca f)]) sz) := by
  refine vx_ofWH (cc := cL_lot) (maxL := 5) (ret := some .int) (hh := [(0, 10, 13, 13)]) (by decide) rfl ?_
  intro p e s m args below meth c s₁ B hml hv
  obtain ⟨rfl, ⟨hsz, hP, hK1, hK2, hD0, hX⟩, hE⟩ := hv
  have hts0 := atoms_spec (ws := .codeWith yL_lot cL_lot 5 (some .int) [(0, 10, 13, 13)] :: wsA) B.pre
  have hts : ∀ w ∈ wsA, w.before _ s = true := fun w hw => hts0 w (List.mem_cons_of_mem _ hw)
  have htab := vx_table (x := yL_lot) B (hts0 _ List.mem_cons_self)
  have hown : s.vm.findClass RL = some m.cls := findClass_of_methodNamed B.named
  have hx := B.exec
  have hb := B.bytes
  subst hsz
  have hD := hD0.self (sz := s.heap.size)
  have hS : va_S (va_A (Wd g ca M ++ [(qo, oE ca f)]) s.heap.size) s.heap s.heap [] := va_S.rf
  have hl := lv_entry ([.ref (g 12 0), .int x, .int y, .ref qo]) (n := 5) (Nat.le_of_ble_eq_true rfl)
  rw [lg_entry_eq]
  generalize (lg_sl ([.ref (g 12 0), .int x, .int y, .ref qo]) ++ List.replicate (5 - (lg_sl ([.ref (g 12 0), .int x, .int y, .ref qo])).length) Slot.unset).toArray = ls at hl ⊢
  have hl : lv_has ls 5 [(0, .ref (g 12 0)), (1, .int x), (2, .int y), (3, .ref qo)] := hl
  refine lv_aload_n hx hb dL_lot_0 rfl (lv_at hl 3 rfl) ?_
  refine lv_iconst (v := nI 0) hx hb dL_lot_1 rfl ?_
  refine lv_aload_n hx hb dL_lot_2 rfl (lv_at hl 0 rfl) ?_
  refine lv_iload_n hx hb dL_lot_3 rfl (lv_at hl 1 rfl) ?_
  refine lv_iload_n hx hb dL_lot_4 rfl (lv_at hl 2 rfl) ?_
  have hW : Wl D g ca (va_A (Wd g ca M ++ [(qo, oE ca f)]) s.heap.size) s M s.heap [] := ⟨P_left hP, D_left hD, hS, fun q hq => Or.inr hq, hX⟩
  obtain ⟨k0, hk0⟩ := PL_at (o := 12) (c := 0) rfl (by decide) (Or.inl rfl)
  have hr := vx_runV (R := { frames := 9, cells := 1, slots := 6, locals := 160 }) (l := l) (p := p) (e := e) (below := below) (meth := meth) (locs := []) (cells := 0) (slots := 0) (rest := [.int (nI 0), .ref qo]) (g := F0 m 5 ls [.int y, .int x, .ref (g 12 0), .int (nI 0), .ref qo]) (As := [.int x, .int y]) (C := RX6) (n := 2) ⟨hx, hb, hml, hown, hts⟩ (c_X6_lot (D := D) (g := g) (ca := ca) htr hK x y s.heap.size) ⟨callB_of 2 hts (w_in (md' := md_X6_lot) co_X6_lot) rfl rfl rfl (hts _ in_L_lot) (hts _ ml_L_lot) (by decide +kernel) ⟨by decide, by decide⟩, hts _ im_X6_lot, hts _ se_X6_lot⟩ ⟨preX_blind, va_recv hK1 (P_left hP) (ci := 6) rfl ((Wd_get hk0).trans (by rw [cellE_obj (o := 12) (ci := 6) rfl])), fun U hU hW9 => ⟨rfl, ⟨by rw [hU], by rw [hU]; exact P_left hP, va_K.moved hW9.alike hK1, (D_left hD0).weaken (fun _ _ _ _ => trivial), Sx_call hW hU hW9⟩, Ew.warm hW9 hE⟩⟩ rfl rfl hl.1 rfl (lv_room (Nat.le_of_ble_eq_true rfl)) dL_lot_5 ⟨Nat.le_refl _, Nat.le_refl _⟩
  have hF : ∀ q, va_A (Wd g ca M) s.heap.size q → va_A (Wd g ca M ++ [(qo, oE ca f)]) s.heap.size q := by
    intro q hq
    rcases hq with ⟨k, e, hk⟩ | hq
    · exact (D_left hD).2 k (q, e) hk
    · exact Or.inr hq
  have hqo : qo < s.heap.size := va_at.lt (P_right hP 0 _ rfl)
  have hqn : ¬ va_A (Wd g ca M) s.heap.size qo := by
    rintro (⟨k, e9, h9⟩ | h9)
    · exact D_apart hD h9 (j := 0) rfl rfl
    · omega
  have hkeep : ∀ (t T' : State) (Ls : List Loc), T'.heap = t.heap → va_P D vwCl (Wd g ca M) t.heap → s.heap.size ≤ t.heap.size → (∀ q : Nat, q < s.heap.size → ¬ va_A (Wd g ca M) s.heap.size q → t.heap[q]? = s.heap[q]?) → (∀ z ∈ Ls, va_A (Wd g ca M) s.heap.size z.base) → va_P D vwCl (Wd g ca M ++ [(qo, oE ca f)]) T'.heap ∧ va_S (va_A (Wd g ca M ++ [(qo, oE ca f)]) s.heap.size) s.heap T'.heap ([] ++ Ls) := by
    intro t T' Ls e1 hb hz hk9 hL
    refine ⟨va_P.app (by rw [e1]; exact hb) (fun k q hq => (P_right hP k q hq).kept ?_), by rw [e1]; exact hz, fun q h1 h2 => by rw [e1]; exact hk9 q h1 (fun z => h2 (hF q z)), fun z hz' => hF _ (hL z (by rw [List.nil_append] at hz'; exact hz'))⟩
    rw [e1]
    cases k with
    | zero => cases hq; exact hk9 qo hqo hqn
    | succ k => simp at hq
  have hlen : (Wd g ca M ++ [(qo, oE ca f)])[(Wd g ca M).length]? = some (qo, oE ca f) := by rw [List.getElem?_append_right (Nat.le_refl _), Nat.sub_self]; rfl
  intro T hT X
  rcases hr T hT X with ⟨v, st₀, t, T', Ls, h0, X', hL, e1, e2, ⟨⟨v2, u, hv, ⟨r, rfl, pp, kk, hx1, hy1, rfl, hp, hk, hTf, hu⟩, hb9⟩, hz, hk9⟩, stp⟩ | ⟨q, st₀, t, T', Ls, E, ce, h0, X', hL, e1, e2, ⟨u, hTt, ⟨rfl, hb9⟩, hz, hk9⟩, hce, hcv, hcl, stp⟩
  · cases hv
    rw [hu] at hb9
    rw [h0] at hz hk9
    obtain ⟨hP1, hS1⟩ := hkeep t T' Ls e1 hb9 hz hk9 hL
    have W8 : W p l e { frames := 9, cells := 1, slots := 6, locals := 160 } s m ([Value.ref (g 12 0), Value.int x, Value.int y, Value.ref qo] : List Value).toArray below meth c T'.heap ([] ++ Ls) 1 6 (vx_MQ below (LPost_lot D g ca M a x y qo f (va_A (Wd g ca M ++ [(qo, oE ca f)]) s.heap.size)) (fun _ _ _ => False) ([Value.ref (g 12 0), Value.int x, Value.int y, Value.ref qo] : List Value).toArray s 1 6 (va_A (Wd g ca M ++ [(qo, oE ca f)]) s.heap.size)) (F0 m 8 ls [.int (nI (V_lot a pp kk)), .int (nI 0), .ref qo]) := by
      refine lv_i2l (v := (nI (V_lot a pp kk)).toInt64) hx hb dL_lot_8 rfl ?_
      refine va_last hx hb hK2 hP1 hD hS1 (Wd g ca M).length 0 hlen rfl (vp_in_nI (by decide) (by decide)) dL_lot_9 (fun H2 locs2 hP2 hD2 hS2 => ?_)
      refine lv_goto (tgt := 17) hx hb dL_lot_10 (by decide) ?_
      refine lv_iconst (v := nI 0) hx hb dL_lot_17 rfl ?_
      rw [List.set_append_right _ _ (Nat.le_refl _), Nat.sub_self] at hP2
      refine vx_ret (W.iret hx hb B.returns (fun t9 ht9 hW9 => ⟨⟨nI 0, vp_updL f (nI 0).toNatClampNeg ((nI (V_lot a pp kk)).toInt64), rfl, Or.inr ⟨hTf, rfl, pp, kk, hx1, hy1, hp, hk, ?_⟩, by rw [ht9]; exact hP2⟩, hS2.F ht9⟩) hS2.2.2 dL_lot_18 B.notSynchronized)
      rw [nI_clamp (by decide)]
      exact if_pos rfl
    obtain ⟨t2, a1, b1⟩ := W8 T' rfl X'
    exact ⟨t2, stp t2 a1, b1⟩
  · rw [h0] at hz hk9
    obtain ⟨hP1, hS1⟩ := hkeep t T' Ls e1 hb9 hz hk9 hL
    have W13 : vx_W p l e { frames := 9, cells := 1, slots := 6, locals := 160 } s m ([Value.ref (g 12 0), Value.int x, Value.int y, Value.ref qo] : List Value).toArray below meth c T'.heap ([] ++ Ls) 1 6 (vx_MQ below (LPost_lot D g ca M a x y qo f (va_A (Wd g ca M ++ [(qo, oE ca f)]) s.heap.size)) (fun _ _ _ => False) ([Value.ref (g 12 0), Value.int x, Value.int y, Value.ref qo] : List Value).toArray s 1 6 (va_A (Wd g ca M ++ [(qo, oE ca f)]) s.heap.size)) (F0 m 5 ls [.int (nI 0), .ref qo]) q := by
      refine vx_catch (own := RL) (name := nse) (E := nse) hown [] _ [] htab (fun z hz => nomatch hz) rfl (by decide) (hts _ cl_L_lot) (va_Nw.use rfl hE.2.2.2) (by rw [e1]; exact hce) hcv hcl ?_
      refine lv_astore (lv' := [(4, .ref q), (0, .ref (g 12 0)), (1, .int x), (2, .int y), (3, .ref qo)]) hx hb dL_lot_13 hl (by decide) rfl (fun ls hl => ?_)
      refine lv_iconst (v := nI 1) hx hb dL_lot_15 rfl ?_
      exact vx_ret (W.iret hx hb B.returns (fun t9 ht9 hW9 => ⟨⟨nI 1, f, rfl, Or.inl ⟨hTt, rfl, rfl⟩, by rw [ht9]; exact hP1⟩, hS1.F ht9⟩) hS1.2.2 dL_lot_16 B.notSynchronized)
    obtain ⟨t2, a1, b1⟩ := W13 T' rfl X'
    exact ⟨t2, stp.trans a1, b1⟩

def LPre_order (D : va_G) (g : Nat → Nat → Nat) (ca : Nat → ClassId) (M : Mm) (qo : Nat) (f : Nat → Int64) (sz : Nat) (U : State) : Prop := (U.heap.size = sz ∧ va_P D vwCl (Wd g ca M ++ [(qo, oE ca f)]) U.heap ∧ va_K D vwCl (tyl ca) U ∧ va_K D vwCl [(ca 4, .long)] U ∧ va_D (fun _ => True) (Wd g ca M ++ [(qo, oE ca f)]) ∧ Sx g (va_A (Wd g ca M ++ [(qo, oE ca f)]) sz) U) ∧ Ew U
def LPost_order (D : va_G) (g : Nat → Nat → Nat) (ca : Nat → ClassId) (M : Mm) (a : Sa) (x y : Int32) (qo : Nat) (f : Nat → Int64) (A : Nat → Prop) : Array Value → State → Outcome → State → Prop := fun _ st oc t =>
  (∃ (r : Int32) (f' : Nat → Int64), oc = .returned (some (.int r)) ∧ ((T_ord a x y = true ∧ r = nI 1 ∧ f' 0 = f 0) ∨ (T_ord a x y = false ∧ r = nI 0 ∧ ∃ p k, x = nI p ∧ y = nI k ∧ p < a 0 4 ∧ k < 7 ∧ f' 0 = (nI (V_ord a p k)).toInt64)) ∧ va_P D vwCl (Wd g ca M ++ [(qo, oE ca f')]) t.heap) ∧ va_F A st t
theorem ml_L_order : Cond.methodLink RL 15 yX6_order ∈ wsA := (wa_4 (List.mem_of_getElem? (i := 64) (by decide +kernel)) (by decide +kernel))
theorem im_X6_order : Cond.instanceMethod yX6_order ∈ wsA := (wa_4 (List.mem_of_getElem? (i := 65) (by decide +kernel)) (by decide +kernel))
theorem se_X6_order : Cond.selects RX6 yX6_order yX6_order ∈ wsA := (wa_4 (List.mem_of_getElem? (i := 66) (by decide +kernel)) (by decide +kernel))
theorem co_X6_order : Cond.code yX6_order cX6_order 3 (some .int) ∈ wsA := (wa_4 (List.mem_of_getElem? (i := 67) rfl) (by decide +kernel))
theorem cl_L_order : Cond.classLink RL 13 nse ∈ wsA := (wa_3 (List.mem_of_getElem? (i := 230) (by decide +kernel)) (by decide +kernel))
theorem in_L_order : Cond.initialized RX6 ∈ wsA := (wa_1 (List.mem_of_getElem? (i := 1) (by decide +kernel)) (by decide +kernel))
set_option maxHeartbeats 4000000 in
set_option maxRecDepth 100000 in
theorem c_L_order {l : Launch} {D : va_G} {g : Nat → Nat → Nat} {ca : Nat → ClassId} {M : Mm} (htr : l.stackTraces = false) {a : Sa} (hK : SK (M.1 0) a) (x y : Int32) (qo : Nat) (f : Nat → Int64) (sz : Nat) : vx_Met l yL_order (.codeWith yL_order cL_order 5 (some .int) [(0, 10, 13, 13)] :: wsA) { frames := 9, cells := 1, slots := 6, locals := 160 }
    (va_Pc [.ref (g 12 0), .int x, .int y, .ref qo] (LPre_order D g ca M qo f sz)) (LPost_order D g ca M a x y qo f (va_A (Wd g ca M ++ [(qo, oE ca f)]) sz)) (fun _ _ _ => False) 1 6 (va_A (Wd g ca M ++ [(qo, oE ca f)]) sz) := by
  refine vx_ofWH (cc := cL_order) (maxL := 5) (ret := some .int) (hh := [(0, 10, 13, 13)]) (by decide) rfl ?_
  intro p e s m args below meth c s₁ B hml hv
  obtain ⟨rfl, ⟨hsz, hP, hK1, hK2, hD0, hX⟩, hE⟩ := hv
  have hts0 := atoms_spec (ws := .codeWith yL_order cL_order 5 (some .int) [(0, 10, 13, 13)] :: wsA) B.pre
  have hts : ∀ w ∈ wsA, w.before _ s = true := fun w hw => hts0 w (List.mem_cons_of_mem _ hw)
  have htab := vx_table (x := yL_order) B (hts0 _ List.mem_cons_self)
  have hown : s.vm.findClass RL = some m.cls := findClass_of_methodNamed B.named
  have hx := B.exec
  have hb := B.bytes
  subst hsz
  have hD := hD0.self (sz := s.heap.size)
  have hS : va_S (va_A (Wd g ca M ++ [(qo, oE ca f)]) s.heap.size) s.heap s.heap [] := va_S.rf
  have hl := lv_entry ([.ref (g 12 0), .int x, .int y, .ref qo]) (n := 5) (Nat.le_of_ble_eq_true rfl)
  rw [lg_entry_eq]
  generalize (lg_sl ([.ref (g 12 0), .int x, .int y, .ref qo]) ++ List.replicate (5 - (lg_sl ([.ref (g 12 0), .int x, .int y, .ref qo])).length) Slot.unset).toArray = ls at hl ⊢
  have hl : lv_has ls 5 [(0, .ref (g 12 0)), (1, .int x), (2, .int y), (3, .ref qo)] := hl
  refine lv_aload_n hx hb dL_order_0 rfl (lv_at hl 3 rfl) ?_
  refine lv_iconst (v := nI 0) hx hb dL_order_1 rfl ?_
  refine lv_aload_n hx hb dL_order_2 rfl (lv_at hl 0 rfl) ?_
  refine lv_iload_n hx hb dL_order_3 rfl (lv_at hl 1 rfl) ?_
  refine lv_iload_n hx hb dL_order_4 rfl (lv_at hl 2 rfl) ?_
  have hW : Wl D g ca (va_A (Wd g ca M ++ [(qo, oE ca f)]) s.heap.size) s M s.heap [] := ⟨P_left hP, D_left hD, hS, fun q hq => Or.inr hq, hX⟩
  obtain ⟨k0, hk0⟩ := PL_at (o := 12) (c := 0) rfl (by decide) (Or.inl rfl)
  have hr := vx_runV (R := { frames := 9, cells := 1, slots := 6, locals := 160 }) (l := l) (p := p) (e := e) (below := below) (meth := meth) (locs := []) (cells := 0) (slots := 0) (rest := [.int (nI 0), .ref qo]) (g := F0 m 5 ls [.int y, .int x, .ref (g 12 0), .int (nI 0), .ref qo]) (As := [.int x, .int y]) (C := RX6) (n := 2) ⟨hx, hb, hml, hown, hts⟩ (c_X6_order (D := D) (g := g) (ca := ca) htr hK x y s.heap.size) ⟨callB_of 2 hts (w_in (md' := md_X6_order) co_X6_order) rfl rfl rfl (hts _ in_L_order) (hts _ ml_L_order) (by decide +kernel) ⟨by decide, by decide⟩, hts _ im_X6_order, hts _ se_X6_order⟩ ⟨preX_blind, va_recv hK1 (P_left hP) (ci := 6) rfl ((Wd_get hk0).trans (by rw [cellE_obj (o := 12) (ci := 6) rfl])), fun U hU hW9 => ⟨rfl, ⟨by rw [hU], by rw [hU]; exact P_left hP, va_K.moved hW9.alike hK1, (D_left hD0).weaken (fun _ _ _ _ => trivial), Sx_call hW hU hW9⟩, Ew.warm hW9 hE⟩⟩ rfl rfl hl.1 rfl (lv_room (Nat.le_of_ble_eq_true rfl)) dL_order_5 ⟨Nat.le_refl _, Nat.le_refl _⟩
  have hF : ∀ q, va_A (Wd g ca M) s.heap.size q → va_A (Wd g ca M ++ [(qo, oE ca f)]) s.heap.size q := by
    intro q hq
    rcases hq with ⟨k, e, hk⟩ | hq
    · exact (D_left hD).2 k (q, e) hk
    · exact Or.inr hq
  have hqo : qo < s.heap.size := va_at.lt (P_right hP 0 _ rfl)
  have hqn : ¬ va_A (Wd g ca M) s.heap.size qo := by
    rintro (⟨k, e9, h9⟩ | h9)
    · exact D_apart hD h9 (j := 0) rfl rfl
    · omega
  have hkeep : ∀ (t T' : State) (Ls : List Loc), T'.heap = t.heap → va_P D vwCl (Wd g ca M) t.heap → s.heap.size ≤ t.heap.size → (∀ q : Nat, q < s.heap.size → ¬ va_A (Wd g ca M) s.heap.size q → t.heap[q]? = s.heap[q]?) → (∀ z ∈ Ls, va_A (Wd g ca M) s.heap.size z.base) → va_P D vwCl (Wd g ca M ++ [(qo, oE ca f)]) T'.heap ∧ va_S (va_A (Wd g ca M ++ [(qo, oE ca f)]) s.heap.size) s.heap T'.heap ([] ++ Ls) := by
    intro t T' Ls e1 hb hz hk9 hL
    refine ⟨va_P.app (by rw [e1]; exact hb) (fun k q hq => (P_right hP k q hq).kept ?_), by rw [e1]; exact hz, fun q h1 h2 => by rw [e1]; exact hk9 q h1 (fun z => h2 (hF q z)), fun z hz' => hF _ (hL z (by rw [List.nil_append] at hz'; exact hz'))⟩
    rw [e1]
    cases k with
    | zero => cases hq; exact hk9 qo hqo hqn
    | succ k => simp at hq
  have hlen : (Wd g ca M ++ [(qo, oE ca f)])[(Wd g ca M).length]? = some (qo, oE ca f) := by rw [List.getElem?_append_right (Nat.le_refl _), Nat.sub_self]; rfl
  intro T hT X
  rcases hr T hT X with ⟨v, st₀, t, T', Ls, h0, X', hL, e1, e2, ⟨⟨v2, u, hv, ⟨r, rfl, pp, kk, hx1, hy1, rfl, hp, hk, hTf, hu⟩, hb9⟩, hz, hk9⟩, stp⟩ | ⟨q, st₀, t, T', Ls, E, ce, h0, X', hL, e1, e2, ⟨u, hTt, ⟨rfl, hb9⟩, hz, hk9⟩, hce, hcv, hcl, stp⟩
  · cases hv
    rw [hu] at hb9
    rw [h0] at hz hk9
    obtain ⟨hP1, hS1⟩ := hkeep t T' Ls e1 hb9 hz hk9 hL
    have W8 : W p l e { frames := 9, cells := 1, slots := 6, locals := 160 } s m ([Value.ref (g 12 0), Value.int x, Value.int y, Value.ref qo] : List Value).toArray below meth c T'.heap ([] ++ Ls) 1 6 (vx_MQ below (LPost_order D g ca M a x y qo f (va_A (Wd g ca M ++ [(qo, oE ca f)]) s.heap.size)) (fun _ _ _ => False) ([Value.ref (g 12 0), Value.int x, Value.int y, Value.ref qo] : List Value).toArray s 1 6 (va_A (Wd g ca M ++ [(qo, oE ca f)]) s.heap.size)) (F0 m 8 ls [.int (nI (V_ord a pp kk)), .int (nI 0), .ref qo]) := by
      refine lv_i2l (v := (nI (V_ord a pp kk)).toInt64) hx hb dL_order_8 rfl ?_
      refine va_last hx hb hK2 hP1 hD hS1 (Wd g ca M).length 0 hlen rfl (vp_in_nI (by decide) (by decide)) dL_order_9 (fun H2 locs2 hP2 hD2 hS2 => ?_)
      refine lv_goto (tgt := 17) hx hb dL_order_10 (by decide) ?_
      refine lv_iconst (v := nI 0) hx hb dL_order_17 rfl ?_
      rw [List.set_append_right _ _ (Nat.le_refl _), Nat.sub_self] at hP2
      refine vx_ret (W.iret hx hb B.returns (fun t9 ht9 hW9 => ⟨⟨nI 0, vp_updL f (nI 0).toNatClampNeg ((nI (V_ord a pp kk)).toInt64), rfl, Or.inr ⟨hTf, rfl, pp, kk, hx1, hy1, hp, hk, ?_⟩, by rw [ht9]; exact hP2⟩, hS2.F ht9⟩) hS2.2.2 dL_order_18 B.notSynchronized)
      rw [nI_clamp (by decide)]
      exact if_pos rfl
    obtain ⟨t2, a1, b1⟩ := W8 T' rfl X'
    exact ⟨t2, stp t2 a1, b1⟩
  · rw [h0] at hz hk9
    obtain ⟨hP1, hS1⟩ := hkeep t T' Ls e1 hb9 hz hk9 hL
    have W13 : vx_W p l e { frames := 9, cells := 1, slots := 6, locals := 160 } s m ([Value.ref (g 12 0), Value.int x, Value.int y, Value.ref qo] : List Value).toArray below meth c T'.heap ([] ++ Ls) 1 6 (vx_MQ below (LPost_order D g ca M a x y qo f (va_A (Wd g ca M ++ [(qo, oE ca f)]) s.heap.size)) (fun _ _ _ => False) ([Value.ref (g 12 0), Value.int x, Value.int y, Value.ref qo] : List Value).toArray s 1 6 (va_A (Wd g ca M ++ [(qo, oE ca f)]) s.heap.size)) (F0 m 5 ls [.int (nI 0), .ref qo]) q := by
      refine vx_catch (own := RL) (name := nse) (E := nse) hown [] _ [] htab (fun z hz => nomatch hz) rfl (by decide) (hts _ cl_L_order) (va_Nw.use rfl hE.2.2.2) (by rw [e1]; exact hce) hcv hcl ?_
      refine lv_astore (lv' := [(4, .ref q), (0, .ref (g 12 0)), (1, .int x), (2, .int y), (3, .ref qo)]) hx hb dL_order_13 hl (by decide) rfl (fun ls hl => ?_)
      refine lv_iconst (v := nI 1) hx hb dL_order_15 rfl ?_
      exact vx_ret (W.iret hx hb B.returns (fun t9 ht9 hW9 => ⟨⟨nI 1, f, rfl, Or.inl ⟨hTt, rfl, rfl⟩, by rw [ht9]; exact hP1⟩, hS1.F ht9⟩) hS1.2.2 dL_order_16 B.notSynchronized)
    obtain ⟨t2, a1, b1⟩ := W13 T' rfl X'
    exact ⟨t2, stp.trans a1, b1⟩

