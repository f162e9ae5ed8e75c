theorem st_min : Cond.static Lib.Math.min.name ∈ wsA := (wa_2 (List.mem_of_getElem? (i := 217) (by decide +kernel)) (by decide +kernel))
theorem co_min : Cond.code Lib.Math.min.name Lib.Math.min.code 2 (some .int) ∈ wsA := (wa_2 (List.mem_of_getElem? (i := 218) (by decide +kernel)) (by decide +kernel))
theorem st_max : Cond.static Lib.Math.max.name ∈ wsA := (wa_3 (List.mem_of_getElem? (i := 164) (by decide +kernel)) (by decide +kernel))
theorem co_max : Cond.code Lib.Math.max.name Lib.Math.max.code 2 (some .int) ∈ wsA := (wa_3 (List.mem_of_getElem? (i := 165) (by decide +kernel)) (by decide +kernel))
theorem in_math : Cond.initialized "java/lang/Math" ∈ wsA := (wa_1 (List.mem_of_getElem? (i := 13) (by decide +kernel)) (by decide +kernel))
theorem in_sys : Cond.initialized "java/lang/System" ∈ wsA := (wa_1 (List.mem_of_getElem? (i := 14) (by decide +kernel)) (by decide +kernel))
theorem st_ac : Cond.static arraycopyName ∈ wsA := (wa_2 (List.mem_of_getElem? (i := 220) (by decide +kernel)) (by decide +kernel))
theorem na_ac : Cond.native arraycopyName ∈ wsA := (wa_2 (List.mem_of_getElem? (i := 221) (by decide +kernel)) (by decide +kernel))
theorem ml_X2_77 : Cond.methodLink RX2 77 Lib.Math.min.name ∈ wsA := (wa_2 (List.mem_of_getElem? (i := 216) (by decide +kernel)) (by decide +kernel))
theorem ml_X2_83 : Cond.methodLink RX2 83 arraycopyName ∈ wsA := (wa_2 (List.mem_of_getElem? (i := 219) (by decide +kernel)) (by decide +kernel))
theorem ml_X1_101 : Cond.methodLink RX1 101 Lib.Math.min.name ∈ wsA := (wa_3 (List.mem_of_getElem? (i := 84) (by decide +kernel)) (by decide +kernel))
theorem ml_X0_29 : Cond.methodLink RX0 29 Lib.Math.min.name ∈ wsA := (wa_3 (List.mem_of_getElem? (i := 148) (by decide +kernel)) (by decide +kernel))
theorem ml_X1_61 : Cond.methodLink RX1 61 Lib.Math.max.name ∈ wsA := (wa_3 (List.mem_of_getElem? (i := 163) (by decide +kernel)) (by decide +kernel))
theorem ml_X2_117 : Cond.methodLink RX2 117 Lib.Math.max.name ∈ wsA := (wa_3 (List.mem_of_getElem? (i := 205) (by decide +kernel)) (by decide +kernel))
section JD
variable {l : Launch} {D : va_G} {g : Nat → Nat → Nat} {ca : Nat → ClassId} {md : Md} {pc : Nat} {lv : List (Nat × Value)} {st : List Value} {M : Mm} {Q : Option Value → Mm → Prop}
theorem g_mmin (pc' : Nat) {idx : Nat} {x y : Int32} (v : Int32) (hd : decode md.2.2.1 pc = .ok (.invokestatic idx, 3)) (hp : pc + 3 = pc') (hlk : Cond.methodLink md.1 idx Lib.Math.min.name ∈ wsA) (hf : 1 ≤ md.2.2.2.2.2.1) (hlo : (st.map fun v => v.category).sum + 13 ≤ md.2.2.2.2.2.2) (hv : (if y < x then y else x) = v) (h : G l D g ca md pc' lv (.int v :: st) M Q) : G l D g ca md pc lv (.int y :: .int x :: st) M Q := by
  subst hp; subst hv
  intro p e R s m args below meth c H locs cells slots A ls C0 hc1 hs1 hw hl
  have hts := C0.2.2.2.2.2.1
  exact va_mmin C0.1 C0.2.1 (C0.2.2.2.1.trans hl.1.symm) C0.2.2.2.2.1 (hts _ hlk) (hts _ st_min) (hts _ in_math) (hts _ co_min) (Nat.le_trans hf C0.2.2.2.2.2.2.2.1) (Nat.le_trans hlo C0.2.2.2.2.2.2.2.2.1) hc1 hs1 hd (h p e R s m args below meth c H locs cells slots A ls C0 hc1 hs1 hw hl)
theorem g_mmax (pc' : Nat) {idx : Nat} {x y : Int32} (v : Int32) (hd : decode md.2.2.1 pc = .ok (.invokestatic idx, 3)) (hp : pc + 3 = pc') (hlk : Cond.methodLink md.1 idx Lib.Math.max.name ∈ wsA) (hf : 1 ≤ md.2.2.2.2.2.1) (hlo : (st.map fun v => v.category).sum + 13 ≤ md.2.2.2.2.2.2) (hv : (if x < y then y else x) = v) (h : G l D g ca md pc' lv (.int v :: st) M Q) : G l D g ca md pc lv (.int y :: .int x :: st) M Q := by
  subst hp; subst hv
  intro p e R s m args below meth c H locs cells slots A ls C0 hc1 hs1 hw hl
  have hts := C0.2.2.2.2.2.1
  exact va_mmax C0.1 C0.2.1 (C0.2.2.2.1.trans hl.1.symm) C0.2.2.2.2.1 (hts _ hlk) (hts _ st_max) (hts _ in_math) (hts _ co_max) (Nat.le_trans hf C0.2.2.2.2.2.2.2.1) (Nat.le_trans hlo C0.2.2.2.2.2.2.2.2.1) hc1 hs1 hd (h p e R s m args below meth c H locs cells slots A ls C0 hc1 hs1 hw hl)
theorem g_copy (pc' : Nat) {idx ci ci2 o c o2 c2 n n2 k : Nat} (hd : decode md.2.2.1 pc = .ok (.invokestatic idx, 3)) (hp : pc + 3 = pc') (hlk : Cond.methodLink md.1 idx arraycopyName ∈ wsA) (hf : 1 ≤ md.2.2.2.2.2.1) (hlo : (st.map fun v => v.category).sum + 18 ≤ md.2.2.2.2.2.2) (hk : kd o = ci) (hci : ci < 8) (ha : atab ci c = some (0, n)) (hk2 : kd o2 = ci2) (hci2 : ci2 < 8) (ha2 : atab ci2 c2 = some (0, n2)) (h1 : k ≤ n) (h2 : k ≤ n2) (hb : k < 2147483648) (h : G l D g ca md pc' lv st (cpr M o c o2 c2 k) Q) : G l D g ca md pc lv (.int (nI k) :: .int (nI 0) :: .ref (g o c) :: .int (nI 0) :: .ref (g o2 c2) :: st) M Q := by
  subst hp
  obtain ⟨k0, hk0⟩ := PL_at (c := c) hk hci (Or.inr (by rw [ha]; rfl))
  obtain ⟨k2, hk2'⟩ := PL_at (c := c2) hk2 hci2 (Or.inr (by rw [ha2]; rfl))
  intro p e R s m args below meth cd H locs cells slots A ls C0 hc1 hs1 hw hl
  have hts := C0.2.2.2.2.2.1
  have ek : (nI k).toNatClampNeg = k := nI_clamp hb
  have e0 : (nI 0).toNatClampNeg = 0 := rfl
  refine va_copyi C0.1 C0.2.1 (C0.2.2.2.1.trans hl.1.symm) C0.2.2.2.2.1 (hts _ hlk) (hts _ na_ac) (hts _ st_ac) (hts _ in_sys) C0.2.2.2.2.2.2.2.2.2 hw.1 hw.2.1 hw.2.2.1 k2 k0 0 0 ((Wd_get hk2').trans (by rw [cellE_arr hk2 ha2 (by decide)])) ((Wd_get hk0).trans (by rw [cellE_arr hk ha (by decide)])) rfl rfl rfl (nI_pos (by decide)) (nI_pos (by decide)) (nI_pos hb) (by rw [ek, e0]; omega) (by rw [ek, e0]; omega) (fun i hi => rfl) (Nat.le_trans hf C0.2.2.2.2.2.2.2.1) (Nat.le_trans hlo C0.2.2.2.2.2.2.2.2.1) hd (fun H1 locs1 hP1 hD1 hS1 => ?_)
  have eE : (Sum.inl (ca 0, n, Sum.inl (va_cpy (M.1 o2 c2) (M.1 o c) (nI 0).toNatClampNeg (nI 0).toNatClampNeg (nI k).toNatClampNeg)) : va_E) = cellE g ca (cpr M o c o2 c2 k) o c := by
    rw [cellE_arr hk ha (by decide), ek, e0]
    congr 4
    funext j
    rw [cpr_at]
    unfold va_cpy
    by_cases hj : j < k
    · rw [if_pos ⟨Nat.zero_le j, by omega⟩, if_pos ⟨rfl, rfl, hj⟩, show 0 + (j - 0) = j by omega]
    · rw [if_neg (by omega), if_neg (by omega)]
  rw [eE, Wd_set hk0 (fun o' c' => cellE_cpr)] at hP1
  exact h p e R s m args below meth cd H1 locs1 cells slots A ls C0 hc1 hs1 ⟨hP1, Wd_D hw.2.1, hS1, hw.2.2.2⟩ hl
end JD
