/-! THE METHODS THAT THROW -/
abbrev iS (C : String) : MethodName := ⟨C, "<init>", "(Ljava/lang/String;)V"⟩
def Ew (U : State) : Prop := va_Nw (.declares (iS "java/lang/RuntimeException")) U ∧ va_Nw (.declares (iS "java/lang/Exception")) U ∧ va_Nw (.declares (iS "java/lang/Throwable")) U ∧ va_Nw (.castable nse nse) U
theorem Ew.same {u U : State} (h : u.vm = U.vm) (hE : Ew u) : Ew U := ⟨va_Nw.same rfl h hE.1, va_Nw.same rfl h hE.2.1, va_Nw.same rfl h hE.2.2.1, va_Nw.same rfl h hE.2.2.2⟩
theorem Ew.warm {s U : State} (h : s.WarmedH U.vm) (hE : Ew s) : Ew U := ⟨va_Nw.warmD h hE.1, va_Nw.warmD h hE.2.1, va_Nw.warmD h hE.2.2.1, va_Nw.warmC h hE.2.2.2⟩
theorem nse_x0 : ∀ w ∈ (nAt.filter vx_no).filter goodWord, w ∈ lw_tbl := by decide +kernel
theorem nse_x1 : ∀ w ∈ (nAt.filter vx_no).filter (fun w => !goodWord w), w ∈ [Cond.declares (iS "java/lang/RuntimeException"), Cond.declares (iS "java/lang/Exception"), Cond.declares (iS "java/lang/Throwable"), Cond.castable nse nse] := by decide +kernel
theorem nse_x2 : ∀ w ∈ Cond.classLink RX6 119 nse :: Cond.initialized nse :: nAt.filter vx_no, vx_ot w = true := by decide +kernel
theorem nse_at {args : Array Value} {s : State} (hts : ∀ w ∈ wsA, w.before args s = true) (hE : Ew s) : ∀ w ∈ nAt.filter vx_no, w.before args s = true :=
  vx_hat (fun w hw => hts w (List.mem_filter.mpr ⟨nse_x0 w hw, (List.mem_filter.mp hw).2⟩)) nse_x1 (vx_c (va_Nw.use rfl hE.1) (vx_c (va_Nw.use rfl hE.2.1) (vx_c (va_Nw.use rfl hE.2.2.1) (vx_c (va_Nw.use rfl hE.2.2.2) vx_n))))
theorem nse_k : Cond.classLink RX6 119 nse ∈ wsA := (wa_3 (List.mem_of_getElem? (i := 235) (by decide +kernel)) (by decide +kernel))
theorem nse_i : Cond.initialized nse ∈ wsA := (wa_1 (List.mem_of_getElem? (i := 18) (by decide +kernel)) (by decide +kernel))
def BXn (D : va_G) (g : Nat → Nat → Nat) (ca : Nat → ClassId) (M : Mm) : String → Unit → State → Prop := fun E _ t => E = nse ∧ va_P D vwCl (Wd g ca M) t.heap
def GX (l : Launch) (D : va_G) (g : Nat → Nat → Nat) (ca : Nat → ClassId) (md : Md) (pc : Nat) (lv : List (Nat × Value)) (st : List Value) (M : Mm) (Q : Option Value → Mm → Prop) (px : Prop) : Prop :=
  ∀ (p : Program) (e : Env) (R : Room) (s : State) (m : MethodId) (args : Array Value) (below : List Frame) (meth : Method) (c : Code) (H : Heap) (locs : List Loc) (A : Nat → Prop) (ls : Array Slot),
    Cx D ca md p R s m args meth c → 1 ≤ R.cells → 6 ≤ R.slots → Wl D g ca A s M H locs → ((∀ x ∈ c.exceptionTable.toList, False) ∧ l.stackTraces = false ∧ Ew s) → lv_has ls md.2.2.2.1 lv →
    W p l e R s m args below meth c H locs 0 0 (vx_MQ below (Qm D g ca Q A) (vx_X (fun _ : Unit => px) (BXn D g ca M) A) args s 1 6 A) (F0 m pc ls st)
section GXS
variable {l : Launch} {D : va_G} {g : Nat → Nat → Nat} {ca : Nat → ClassId} {md : Md} {pc : Nat} {lv : List (Nat × Value)} {st : List Value} {M : Mm} {Q : Option Value → Mm → Prop} {px : Prop}
theorem gx_aload_n (pc' : Nat) {k : Fin 4} {x : Nat} (j : Nat) (hd : decode md.2.2.1 pc = .ok (.aload_n k, 1)) (hp : pc + 1 = pc') (hj : lv[j]? = some ((k : Nat), .ref x)) (h : GX l D g ca md pc' lv (.ref x :: st) M Q px) : GX l D g ca md pc lv (st) M Q px := by
  subst hp
  intro p e R s m args below meth c H locs A ls C0 hc1 hs1 hw hY hl
  exact lv_aload_n C0.1 C0.2.1 hd rfl (lv_at hl j hj) (h p e R s m args below meth c H locs A ls C0 hc1 hs1 hw hY hl)
theorem gx_iload_n (pc' : Nat) {k : Fin 4} {x : Int32} (j : Nat) (hd : decode md.2.2.1 pc = .ok (.iload_n k, 1)) (hp : pc + 1 = pc') (hj : lv[j]? = some ((k : Nat), .int x)) (h : GX l D g ca md pc' lv (.int x :: st) M Q px) : GX l D g ca md pc lv (st) M Q px := by
  subst hp
  intro p e R s m args below meth c H locs A ls C0 hc1 hs1 hw hY hl
  exact lv_iload_n C0.1 C0.2.1 hd rfl (lv_at hl j hj) (h p e R s m args below meth c H locs A ls C0 hc1 hs1 hw hY hl)
theorem gx_getf (pc' : Nat) {idx ci k o : Nat} {d : Nat × Nat} (hd : decode md.2.2.1 pc = .ok (.getfield idx, 3)) (hp : pc + 3 = pc') (hf : FK md.1 idx ci k) (hk : kd o = ci) (hci : ci < 8) (ht : (ftab ci)[k]? = some d) (h : GX l D g ca md pc' lv (fval g M o k d :: st) M Q px) : GX l D g ca md pc lv (.ref (g o 0) :: st) M Q px := by
  subst hp
  obtain ⟨C, T, N, ty0, f1, f2, f3, f4, f5, f6⟩ := hf
  obtain ⟨k0, hk0⟩ := PL_at (c := 0) hk hci (Or.inl rfl)
  intro p e R s m args below meth c H locs A ls C0 hc1 hs1 hw hY hl
  exact va_get (D := D) (ci := ci) C0.1 C0.2.1 C0.2.2.2.2.2.1 f3 C0.2.2.2.2.1 C0.2.2.2.2.2.2.2.2.2 hw.1 k0 ((Wd_get hk0).trans (by rw [cellE_obj hk])) f1 k f2 (C0.2.2.2.2.2.1 _ f4) (fun _ z => z) (flds_get ht) hd (h p e R s m args below meth c H locs A ls C0 hc1 hs1 hw hY hl)
theorem gx_geto (pc' : Nat) {idx ci k o z : Nat} (hd : decode md.2.2.1 pc = .ok (.getfield idx, 3)) (hp : pc + 3 = pc') (hf : FK md.1 idx ci k) (hk : kd o = ci) (hci : ci < 8) (ht : (ftab ci)[k]? = some (2, z)) (h : GX l D g ca md pc' lv (.ref (g z 0) :: st) M Q px) : GX l D g ca md pc lv (.ref (g o 0) :: st) M Q px :=
  gx_getf pc' hd hp hf hk hci ht h
theorem gx_if_ne (tgt pc' : Nat) {x : Int32} {off : Int} (hd : decode md.2.2.1 pc = .ok (.ifCond .ne off, 3)) (ht : (pc : Int) + off = (tgt : Int)) (hp : pc + 3 = pc') (kt : ¬ x = 0 → GX l D g ca md tgt lv st M Q px) (kf : x = 0 → GX l D g ca md pc' lv st M Q px) : GX l D g ca md pc lv (.int x :: st) M Q px := by
  subst hp
  intro p e R s m args below meth c H locs A ls C0 hc1 hs1 hw hY hl
  exact lv_if_ne C0.1 C0.2.1 hd ht (fun c1 => kt (by first | exact c1 | exact c1.symm | exact fun z => c1 z.symm) p e R s m args below meth c H locs A ls C0 hc1 hs1 hw hY hl) (fun c1 => kf (by first | exact c1 | exact c1.symm | exact fun z => c1 z.symm) p e R s m args below meth c H locs A ls C0 hc1 hs1 hw hY hl)
theorem gx_ifB_ne (tgt pc' : Nat) {b : Bool} {off : Int} (hd : decode md.2.2.1 pc = .ok (.ifCond .ne off, 3)) (ht : (pc : Int) + off = (tgt : Int)) (hp : pc + 3 = pc') (kt : b = true → GX l D g ca md tgt lv st M Q px) (kf : b = false → GX l D g ca md pc' lv st M Q px) : GX l D g ca md pc lv (.int (bi b) :: st) M Q px := by
  refine gx_if_ne tgt pc' hd ht hp (fun c1 => kt ?_) (fun c1 => kf ?_)
  · cases b
    · first | rfl | exact absurd rfl c1
    · first | rfl | exact absurd c1 (by decide)
  · cases b
    · first | rfl | exact absurd rfl c1 | exact absurd c1 (by decide) | exact absurd (by decide) c1
    · first | rfl | exact absurd rfl c1 | exact absurd c1 (by decide) | exact absurd (by decide) c1
theorem gx_tableOut {dflt lo hi : Int} {offs : Array Int} {len : Nat} {x : Int32} (tgt : Nat) (hd : decode md.2.2.1 pc = .ok (.tableswitch dflt lo hi offs, len)) (h1 : x.toInt < lo ∨ hi < x.toInt) (ht : (pc : Int) + dflt = (tgt : Int)) (h : GX l D g ca md tgt lv st M Q px) : GX l D g ca md pc lv (.int x :: st) M Q px := by
  intro p e R s m args below meth c H locs A ls C0 hc1 hs1 hw hY hl
  exact lv_tableOut C0.1 C0.2.1 hd h1 ht (h p e R s m args below meth c H locs A ls C0 hc1 hs1 hw hY hl)
theorem gx_callP (pc' : Nat) (md' : Md) {idx ci n o : Nat} {st0 : List Value} (as : List Value) (st : List Value) {v : Int32} (hd : decode md.2.2.1 pc = .ok (.invokevirtual idx, 3)) (hp : pc + 3 = pc') (he : EV md md' idx ci n) (hk : kd o = ci) (hci : ci < 8) (hn : as.length = n) (hst : st0 = as.reverse ++ .ref (g o 0) :: st) (hst2 : (st.map fun v => v.category).sum ≤ 8) (hc : Ct l D g ca md' (.ref (g o 0) :: as) M (Ri (fun r M1 => r = v ∧ M1 = M))) (h : GX l D g ca md pc' lv (.int v :: st) M Q px) : GX l D g ca md pc lv st0 M Q px := by
  subst hp
  obtain ⟨e1, e2, e3, e4, e5, e6, e7, q, e8, e9⟩ := he
  obtain ⟨k0, hk0⟩ := PL_at (c := 0) hk hci (Or.inl rfl)
  intro p e R s m args below meth c H locs A ls C0 hc1 hs1 hw hY hl
  have hts := C0.2.2.2.2.2.1
  have hr := va_runV (R := R) (l := l) (e := e) (below := below) (meth := meth) (locs := locs) (cells := 0) (slots := 0) (rest := st) (g := F0 m pc ls st0) (C := md'.1) (n := n) ⟨C0.1, C0.2.1, C0.2.2.2.1, C0.2.2.2.2.1, hts⟩ (hc H.size) ⟨callB_of n hts (w_in e5) rfl rfl rfl (by rw [e6.1]; exact hts _ e4) (hts _ e1) e6.2 ⟨Nat.le_trans e7.1 C0.2.2.2.2.2.2.2.1, Nat.le_trans e7.2 C0.2.2.2.2.2.2.2.2.1⟩, hts _ e2, hts _ e3⟩ ⟨pre_blind, by rw [← e9]; exact va_recv C0.2.2.2.2.2.2.2.2.2 hw.1 e8 ((Wd_get hk0).trans (by rw [cellE_obj hk])), fun U hU hW => ⟨rfl, by rw [hU], by rw [hU]; exact hw.1, va_K.moved hW.alike C0.2.2.2.2.2.2.2.2.2, hw.2.1.weaken (fun _ _ _ _ => trivial), Sx_call hw hU hW⟩⟩ rfl hn (hl.1) hst (lv_room hst2) hd ⟨Nat.zero_le _, Nat.zero_le _⟩
  obtain ⟨hP, hD, hS, hA, hX⟩ := hw
  have hF : ∀ q, va_A (Wd g ca M) H.size q → A q := by
    intro q hq
    rcases hq with ⟨k, e, hk⟩ | hq
    · exact hD.2 k (q, e) hk
    · exact hA q (Nat.le_trans hS.1 hq)
  intro T hT X
  obtain ⟨v1, st₀, t, T', L, h0, X', hL, e1', e2', ⟨⟨v2, u, hv, ⟨r, rfl, rfl, hu⟩, hb⟩, hz, hk9⟩, stp⟩ := hr T hT X
  cases hv
  subst hu
  rw [h0] at hz hk9
  obtain ⟨t2, a1, b1⟩ := h p e R s m args below meth c T'.heap (locs ++ L) A ls C0 hc1 hs1 ⟨by rw [e1']; exact hb, Wd_D hD, ⟨Nat.le_trans hS.1 (by rw [e1']; exact hz), fun q h1 h2 => by rw [e1', hk9 q (Nat.lt_of_lt_of_le h1 hS.1) (fun z => h2 (hF q z))]; exact hS.2.1 q h1 h2, fun q hq => by
      rcases List.mem_append.mp hq with h | h
      · exact hS.2.2 q h
      · exact hF _ (hL q h)⟩, hA, hX⟩ hY hl T' rfl X'
  exact ⟨t2, stp t2 a1, b1⟩
theorem gx_throw {i : Nat} (hi : i < 4) (hmd : md.1 = RX6) (h6 : 6 ≤ md.2.2.2.2.2.1) (h82 : 82 ≤ md.2.2.2.2.2.2) (d0 : decode md.2.2.1 pc = .ok (.new 119, 3)) (d3 : decode md.2.2.1 (pc + 3) = .ok (.dup, 1)) (d4 : decode md.2.2.1 (pc + 4) = .ok (.ldc (eIdx i), 2)) (d6 : decode md.2.2.1 (pc + 6) = .ok (.invokespecial 123, 3)) (d9 : decode md.2.2.1 (pc + 9) = .ok (.athrow, 1)) (hpx : px) : GX l D g ca md pc lv [] M Q px := by
  intro p e R s m args below meth c H locs A ls C0 hc1 hs1 hw hY hl
  have hts := C0.2.2.2.2.2.1
  obtain ⟨hP, hD, hS, hA, hX⟩ := hw
  refine nx_makeS (text := eTxt i) (is := eIdx i) (sa := g 23 i) (A := A) C0.1 C0.2.1 hY.2.1 (by rw [← hmd]; exact C0.2.2.2.2.1) (hts _ nse_k) (hts _ nse_i) (hX.2.2.2.2.2.2.1 i hi) (nse_at hts hY.2.2) nse_x2 hX.2.2.2.2.1 hX.2.2.2.2.2.1 hS (hl.1.trans C0.2.2.2.1.symm) d0 d3 d4 d6 (Nat.lt_of_lt_of_le (by decide : (2 + 3 : Nat) < 6) (Nat.le_trans h6 C0.2.2.2.2.2.2.2.1)) (Nat.le_trans (by decide) (Nat.le_trans h82 C0.2.2.2.2.2.2.2.2.1)) hc1 hs1 ?_
  intro q9 H1 ce k1 k2 k3 k4 k5
  refine nx_athrow C0.1 C0.2.1 d9 ?_
  refine vx_out (fun x hx => (hY.1 x hx).elim) C0.2.2.2.2.2.2.1 k1 k2 k3 (fun t ht _ => ?_) hS.2.2 (Nat.le_refl 1) (Nat.le_refl 6)
  exact ⟨(), hpx, ⟨rfl, by rw [ht]; exact hP.kept (fun k x hx => k5 x.1 ((hP k x hx).lt))⟩, ⟨by rw [ht]; exact Nat.le_trans hS.1 k4, fun q hq hA' => by rw [ht]; exact (k5 q (Nat.lt_of_lt_of_le hq hS.1)).trans (hS.2.1 q hq hA')⟩⟩
end GXS
def CtX (l : Launch) (D : va_G) (g : Nat → Nat → Nat) (ca : Nat → ClassId) (md : Md) (as : List Value) (M : Mm) (Q : Option Value → Mm → Prop) (px : Prop) : Prop :=
  ∀ sz : Nat, vx_Met l md.2.1 (.code md.2.1 md.2.2.1 md.2.2.2.1 md.2.2.2.2.1 :: wsA) { frames := md.2.2.2.2.2.1, cells := 1, slots := 6, locals := md.2.2.2.2.2.2 }
    (va_Pc as (fun U => (U.heap.size = sz ∧ va_P D vwCl (Wd g ca M) U.heap ∧ va_K D vwCl (tyl ca) U ∧ va_D (fun _ => True) (Wd g ca M) ∧ Sx g (va_A (Wd g ca M) sz) U) ∧ Ew U)) (Qm D g ca Q (va_A (Wd g ca M) sz)) (vx_X (fun _ : Unit => px) (BXn D g ca M) (va_A (Wd g ca M) sz)) 1 6 (va_A (Wd g ca M) sz)
section CTX
variable {l : Launch} {D : va_G} {g : Nat → Nat → Nat} {ca : Nat → ClassId} {md : Md} {M : Mm} {Q : Option Value → Mm → Prop} {px : Prop}
theorem CtX.ofX {as : List Value} (hy : plainName md.2.1.cls = true) (ho : md.2.1.cls = md.1) (hn : (lg_sl as).length ≤ md.2.2.2.1) (htr : l.stackTraces = false) (h : GX l D g ca md 0 (lv_args 0 as) [] M Q px) : CtX l D g ca md as M Q px := by
  intro sz
  refine vx_ofW hy rfl ?_
  intro p e s m args below meth c s₁ B hml hout hv
  obtain ⟨rfl, ⟨hsz, hP, hK, hD0, hX⟩, hE⟩ := hv
  have hts := atoms_spec (ws := .code md.2.1 md.2.2.1 md.2.2.2.1 md.2.2.2.2.1 :: wsA) B.pre
  have hown : s.vm.findClass md.1 = some m.cls := by rw [← ho]; exact findClass_of_methodNamed B.named
  subst hsz
  have hl := lv_entry as (n := md.2.2.2.1) hn
  rw [lg_entry_eq]
  exact h p e _ s m _ below meth c s.heap [] (va_A (Wd g ca M) s.heap.size) _ ⟨B.exec, B.bytes, B.returns, hml, hown, fun w hw => hts w (List.mem_cons_of_mem _ hw), B.notSynchronized, Nat.le_refl _, Nat.le_refl _, hK⟩ (Nat.le_refl _) (Nat.le_refl _) ⟨hP, hD0.self, va_S.rf, fun q hq => Or.inr hq, hX⟩ ⟨hout, htr, hE⟩ hl
theorem CtX.ofG {as : List Value} (hy : plainName md.2.1.cls = true) (ho : md.2.1.cls = md.1) (hn : (lg_sl as).length ≤ md.2.2.2.1) (h : G l D g ca md 0 (lv_args 0 as) [] M Q) : CtX l D g ca md as M Q px := by
  intro sz
  refine vx_ofW hy rfl ?_
  intro p e s m args below meth c s₁ B hml hout hv
  obtain ⟨rfl, ⟨hsz, hP, hK, hD0, hX⟩, hE⟩ := hv
  have hts := atoms_spec (ws := .code md.2.1 md.2.2.1 md.2.2.2.1 md.2.2.2.2.1 :: wsA) B.pre
  have hown : s.vm.findClass md.1 = some m.cls := by rw [← ho]; exact findClass_of_methodNamed B.named
  subst hsz
  have hl := lv_entry as (n := md.2.2.2.1) hn
  rw [lg_entry_eq]
  refine vx_ret ?_
  refine W.widen (k := 1) (n := 6) (Nat.zero_le _) (Nat.zero_le _) ?_
  exact h p e _ s m _ below meth c s.heap [] 1 6 (va_A (Wd g ca M) s.heap.size) _ ⟨B.exec, B.bytes, B.returns, hml, hown, fun w hw => hts w (List.mem_cons_of_mem _ hw), B.notSynchronized, Nat.le_refl _, Nat.le_refl _, hK⟩ (Nat.le_refl _) (Nat.le_refl _) ⟨hP, hD0.self, va_S.rf, fun q hq => Or.inr hq, hX⟩ hl
end CTX
abbrev md_X6_lot : Md := (RX6, yX6_lot, cX6_lot, 3, some .int, 8, 120)
abbrev md_X6_order : Md := (RX6, yX6_order, cX6_order, 3, some .int, 8, 120)
theorem e_X6_lot_115 : EV md_X6_lot md_X2_hasLot 115 2 1 := ⟨(wa_3 (List.mem_of_getElem? (i := 14) (by decide +kernel)) (by decide +kernel)), im_X2_hasLot, se_X2_hasLot, (wa_1 (List.mem_of_getElem? (i := 3) (by decide +kernel)) (by decide +kernel)), co_X2_hasLot, yy_X2_hasLot, ⟨by decide, by decide⟩, _, rfl, rfl⟩
theorem e_X6_lot_139 : EV md_X6_lot md_X2_reservedOfLot 139 2 1 := ⟨(wa_3 (List.mem_of_getElem? (i := 108) (by decide +kernel)) (by decide +kernel)), im_X2_reservedOfLot, se_X2_reservedOfLot, (wa_1 (List.mem_of_getElem? (i := 3) (by decide +kernel)) (by decide +kernel)), co_X2_reservedOfLot, yy_X2_reservedOfLot, ⟨by decide, by decide⟩, _, rfl, rfl⟩
theorem e_X6_order_145 : EV md_X6_order md_X2_hasOrder 145 2 1 := ⟨(wa_3 (List.mem_of_getElem? (i := 18) (by decide +kernel)) (by decide +kernel)), im_X2_hasOrder, se_X2_hasOrder, (wa_1 (List.mem_of_getElem? (i := 3) (by decide +kernel)) (by decide +kernel)), co_X2_hasOrder, yy_X2_hasOrder, ⟨by decide, by decide⟩, _, rfl, rfl⟩
theorem e_X6_order_165 : EV md_X6_order md_X2_reservedForOrder 165 2 1 := ⟨(wa_3 (List.mem_of_getElem? (i := 197) (by decide +kernel)) (by decide +kernel)), im_X2_reservedForOrder, se_X2_reservedForOrder, (wa_1 (List.mem_of_getElem? (i := 3) (by decide +kernel)) (by decide +kernel)), co_X2_reservedForOrder, yy_X2_reservedForOrder, ⟨by decide, by decide⟩, _, rfl, rfl⟩
