/-! THE MAKING: a constructor's frame over the cells that it has made so far -/
theorem P_perm {D : va_G} {w w' : va_W} {H : Heap} (hp : w'.Perm w) (h : va_P D vwCl w H) : va_P D vwCl w' H := fun k q hk => by
  obtain ⟨i, hi⟩ := List.getElem?_of_mem (hp.subset (List.mem_of_getElem? hk))
  exact h i q hi
theorem D_nodup {A : Nat → Prop} {w : va_W} : va_D A w ↔ (w.map Prod.fst).Nodup ∧ ∀ q ∈ w, A q.1 := by
  constructor
  · intro h
    refine ⟨?_, fun q hq => by obtain ⟨i, hi⟩ := List.getElem?_of_mem hq; exact h.2 i q hi⟩
    unfold List.Nodup
    rw [List.pairwise_iff_getElem]
    intro i j hi hj hij e
    rw [List.length_map] at hi hj
    rw [List.getElem_map, List.getElem_map] at e
    have := h.1 i j _ _ (List.getElem?_eq_getElem hi) (List.getElem?_eq_getElem hj) e
    omega
  · intro h
    refine ⟨fun i j p q hi hj e => ?_, fun k q hk => h.2 q (List.mem_of_getElem? hk)⟩
    have h1 := h.1
    unfold List.Nodup at h1
    rw [List.pairwise_iff_getElem] at h1
    obtain ⟨li, ei⟩ := List.getElem?_eq_some_iff.mp hi
    obtain ⟨lj, ej⟩ := List.getElem?_eq_some_iff.mp hj
    rcases Nat.lt_trichotomy i j with z | z | z
    · exact absurd (by rw [List.getElem_map, List.getElem_map, ei, ej]; exact e) (h1 i j (by rw [List.length_map]; exact li) (by rw [List.length_map]; exact lj) z)
    · exact z
    · exact absurd (by rw [List.getElem_map, List.getElem_map, ei, ej]; exact e.symm) (h1 j i (by rw [List.length_map]; exact lj) (by rw [List.length_map]; exact li) z)
theorem D_perm {A : Nat → Prop} {w w' : va_W} (hp : w'.Perm w) (h : va_D A w) : va_D A w' := by
  rw [D_nodup] at h ⊢
  exact ⟨(hp.map _).nodup_iff.mpr h.1, fun q hq => h.2 q (hp.subset hq)⟩
def QN (D : va_G) (post : va_W → Prop) (A : Nat → Prop) : Array Value → State → Outcome → State → Prop := fun _ st oc t => (oc = .returned none ∧ ∃ w1, post w1 ∧ va_P D vwCl w1 t.heap ∧ va_D A w1) ∧ va_F A st t
def Nz (U : State) : Prop := va_Nw (.methodLinkNest RX6 9 yX3_init RX6) U ∧ va_Nw (.methodLinkNest RX6 18 yX2_init RX6) U ∧ va_Nw (.methodLinkNest RX0 17 yX2_init RX6) U ∧ va_AO RX2 U
theorem Nz.same {u U : State} (h : u.vm = U.vm) (hE : Nz u) : Nz U := ⟨va_Nw.same rfl h hE.1, va_Nw.same rfl h hE.2.1, va_Nw.same rfl h hE.2.2.1, va_AO.moved (by rw [h]; exact Vm.Alike.refl _) hE.2.2.2⟩
theorem Nz.warm {s U : State} (h : s.WarmedH U.vm) (hE : Nz s) : Nz U := ⟨va_Nw.warmM h hE.1, va_Nw.warmM h hE.2.1, va_Nw.warmM h hE.2.2.1, va_AO.moved h.alike hE.2.2.2⟩
def NW (D : va_G) (wW : va_W) (A : Nat → Prop) (s : State) (H : Heap) (locs : List Loc) : Prop := va_P D vwCl wW H ∧ va_D A wW ∧ va_S A s.heap H locs ∧ (∀ q, s.heap.size ≤ q → A q) ∧ Nz s
def GN (l : Launch) (D : va_G) (ca : Nat → ClassId) (md : Md) (mc ms pc : Nat) (lv : List (Nat × Value)) (st : List Value) (wW : va_W) (kc nc : Nat) (ps : va_W → Prop) : Prop :=
  ∀ (p : Program) (e : Env) (R : Room) (s : State) (m : MethodId) (args : Array Value) (below : List Frame) (meth : Method) (c : Code) (H : Heap) (locs : List Loc) (A : Nat → Prop) (ls : Array Slot),
    Cx D ca md p R s m args meth c → meth.name = md.2.1.name → mc ≤ R.cells → ms ≤ R.slots → NW D wW A s H locs → lv_has ls md.2.2.2.1 lv →
    W p l e R s m args below meth c H locs kc nc (MQ below (QN D ps A) args s mc ms A) (F0 m pc ls st)
def CtN (l : Launch) (D : va_G) (ca : Nat → ClassId) (md : Md) (as : List Value) (wc : va_W) (mc ms : Nat) (ps : va_W → Prop) : Prop :=
  ∀ sz : Nat, Met l md.2.1 (.code md.2.1 md.2.2.1 md.2.2.2.1 md.2.2.2.2.1 :: wsA) { frames := md.2.2.2.2.2.1, cells := mc, slots := ms, locals := md.2.2.2.2.2.2 }
    (va_Pc as (fun U => U.heap.size = sz ∧ va_P D vwCl wc U.heap ∧ va_K D vwCl (tyl ca) U ∧ va_D (fun _ => True) wc ∧ Nz U)) (QN D ps (va_A wc sz)) mc ms (va_A wc sz)
section GNS
variable {l : Launch} {D : va_G} {ca : Nat → ClassId} {md : Md} {mc ms pc : Nat} {lv : List (Nat × Value)} {st : List Value} {wW : va_W} {kc nc : Nat} {ps : va_W → Prop}
theorem CtN.of {as : List Value} {wc : va_W} (hy : plainName md.2.1.cls = true) (ho : md.2.1.cls = md.1) (hn : (lg_sl as).length ≤ md.2.2.2.1) (h : GN l D ca md mc ms 0 (lv_args 0 as) [] wc 0 0 ps) : CtN l D ca md as wc mc ms ps := by
  intro sz
  refine Met.ofW hy rfl ?_
  intro p e s m args below meth c s₁ B hml hv
  obtain ⟨rfl, hsz, hP, hK, hD0, hZ⟩ := hv
  have hts := atoms_spec (ws := .code md.2.1 md.2.2.1 md.2.2.2.1 md.2.2.2.2.1 :: wsA) B.pre
  have hown : s.vm.findClass md.1 = some m.cls := by rw [← ho]; exact findClass_of_methodNamed B.named
  subst hsz
  have hl := lv_entry as (n := md.2.2.2.1) hn
  rw [lg_entry_eq]
  exact h p e _ s m _ below meth c s.heap [] (va_A wc s.heap.size) _ ⟨B.exec, B.bytes, B.returns, hml, hown, fun w hw => hts w (List.mem_cons_of_mem _ hw), B.notSynchronized, Nat.le_refl _, Nat.le_refl _, hK⟩ (name_of_methodNamed B.named B.method).1 (Nat.le_refl _) (Nat.le_refl _) ⟨hP, hD0.self, va_S.rf, fun q hq => Or.inr hq, hZ⟩ hl
theorem n_lv (ks : List Nat) {lv' : List (Nat × Value)} (e9 : lv_pick lv ks = lv') (h : GN l D ca md mc ms pc lv' st wW kc nc ps) : GN l D ca md mc ms pc lv st wW kc nc ps := by
  intro p e R s m args below meth c H locs A ls C0 hnm hc1 hs1 hw hl
  exact h p e R s m args below meth c H locs A ls C0 hnm hc1 hs1 hw (lv_sub hl ks e9)
theorem n_aload_n (pc' : Nat) {k : Fin 4} {x : Nat} (j : Nat) (hd : decode md.2.2.1 pc = .ok (.aload_n k, 1)) (hp : pc + 1 = pc') (hj : lv[j]? = some ((k : Nat), .ref x)) (h : GN l D ca md mc ms pc' lv (.ref x :: st) wW kc nc ps) : GN l D ca md mc ms pc lv (st) wW kc nc ps := by
  subst hp
  intro p e R s m args below meth c H locs A ls C0 hnm hc1 hs1 hw hl
  exact lv_aload_n C0.1 C0.2.1 hd rfl (lv_at hl j hj) (h p e R s m args below meth c H locs A ls C0 hnm hc1 hs1 hw hl)
theorem n_iconst (pc' : Nat) {n : Int} (v : Int32) (hd : decode md.2.2.1 pc = .ok (.iconst n, 1)) (hp : pc + 1 = pc') (hv : Int32.ofInt n = v) (h : GN l D ca md mc ms pc' lv (.int v :: st) wW kc nc ps) : GN l D ca md mc ms pc lv (st) wW kc nc ps := by
  subst hp
  intro p e R s m args below meth c H locs A ls C0 hnm hc1 hs1 hw hl
  exact lv_iconst C0.1 C0.2.1 hd hv (h p e R s m args below meth c H locs A ls C0 hnm hc1 hs1 hw hl)
theorem n_bipush (pc' : Nat) {n : Int} (v : Int32) (hd : decode md.2.2.1 pc = .ok (.bipush n, 2)) (hp : pc + 2 = pc') (hv : (Int8.ofInt n).toInt32 = v) (h : GN l D ca md mc ms pc' lv (.int v :: st) wW kc nc ps) : GN l D ca md mc ms pc lv (st) wW kc nc ps := by
  subst hp
  intro p e R s m args below meth c H locs A ls C0 hnm hc1 hs1 hw hl
  exact lv_bipush C0.1 C0.2.1 hd hv (h p e R s m args below meth c H locs A ls C0 hnm hc1 hs1 hw hl)
theorem n_sipush (pc' : Nat) {n : Int} (v : Int32) (hd : decode md.2.2.1 pc = .ok (.sipush n, 3)) (hp : pc + 3 = pc') (hv : (Int16.ofInt n).toInt32 = v) (h : GN l D ca md mc ms pc' lv (.int v :: st) wW kc nc ps) : GN l D ca md mc ms pc lv (st) wW kc nc ps := by
  subst hp
  intro p e R s m args below meth c H locs A ls C0 hnm hc1 hs1 hw hl
  exact lv_sipush C0.1 C0.2.1 hd hv (h p e R s m args below meth c H locs A ls C0 hnm hc1 hs1 hw hl)
theorem n_dup (pc' : Nat) {v : Value} (hd : decode md.2.2.1 pc = .ok (.dup, 1)) (hp : pc + 1 = pc') (hv : v.category = 1) (h : GN l D ca md mc ms pc' lv (v :: v :: st) wW kc nc ps) : GN l D ca md mc ms pc lv (v :: st) wW kc nc ps := by
  subst hp
  intro p e R s m args below meth c H locs A ls C0 hnm hc1 hs1 hw hl
  exact lv_dup C0.1 C0.2.1 hd hv (h p e R s m args below meth c H locs A ls C0 hnm hc1 hs1 hw hl)
theorem n_iload_n (pc' : Nat) {k : Fin 4} {x : Int32} (j : Nat) (hd : decode md.2.2.1 pc = .ok (.iload_n k, 1)) (hp : pc + 1 = pc') (hj : lv[j]? = some ((k : Nat), .int x)) (h : GN l D ca md mc ms pc' lv (.int x :: st) wW kc nc ps) : GN l D ca md mc ms pc lv (st) wW kc nc ps := by
  subst hp
  intro p e R s m args below meth c H locs A ls C0 hnm hc1 hs1 hw hl
  exact lv_iload_n C0.1 C0.2.1 hd rfl (lv_at hl j hj) (h p e R s m args below meth c H locs A ls C0 hnm hc1 hs1 hw hl)
theorem n_istore_n (pc' : Nat) {k : Fin 4} {x : Int32} (lv' : List (Nat × Value)) (hd : decode md.2.2.1 pc = .ok (.istore_n k, 1)) (hp : pc + 1 = pc') (hn : (k : Nat) < md.2.2.2.1) (hl' : ((k : Nat), Value.int x) :: lv.filter (fun q => !(q.1 == (k : Nat)) && !(q.1 + 1 == (k : Nat) && q.2.category == 2)) = lv') (h : GN l D ca md mc ms pc' lv' st wW kc nc ps) : GN l D ca md mc ms pc lv (.int x :: st) wW kc nc ps := by
  subst hp
  intro p e R s m args below meth c H locs A ls C0 hnm hc1 hs1 hw hl
  exact lv_istore_n C0.1 C0.2.1 hd rfl hl hn hl' (fun ls hl => (h p e R s m args below meth c H locs A ls C0 hnm hc1 hs1 hw hl))
theorem n_iinc (pc' : Nat) {i : Nat} {n : Int} {x : Int32} (v : Int32) (lv' : List (Nat × Value)) (hd : decode md.2.2.1 pc = .ok (.iinc i n, 3)) (hp : pc + 3 = pc') (k : Nat) (hk : lv[k]? = some (i, .int x)) (hv : x + Int32.ofInt n = v) (hn : i < md.2.2.2.1) (hl' : (i, Value.int v) :: lv.filter (fun q => !(q.1 == i) && !(q.1 + 1 == i && q.2.category == 2)) = lv') (h : GN l D ca md mc ms pc' lv' st wW kc nc ps) : GN l D ca md mc ms pc lv st wW kc nc ps := by
  subst hp
  intro p e R s m args below meth c H locs A ls C0 hnm hc1 hs1 hw hl
  exact lv_iinc C0.1 C0.2.1 hd hl hk hv hn hl' (fun ls hl => (h p e R s m args below meth c H locs A ls C0 hnm hc1 hs1 hw hl))
theorem n_goto (tgt : Nat) {off : Int} (hd : decode md.2.2.1 pc = .ok (.goto off, 3)) (ht : (pc : Int) + off = (tgt : Int)) (h : GN l D ca md mc ms tgt lv st wW kc nc ps) : GN l D ca md mc ms pc lv st wW kc nc ps := by
  intro p e R s m args below meth c H locs A ls C0 hnm hc1 hs1 hw hl
  exact lv_goto C0.1 C0.2.1 hd ht (h p e R s m args below meth c H locs A ls C0 hnm hc1 hs1 hw hl)
theorem n_icmp_ge (tgt pc' : Nat) {x y : Int32} {off : Int} (hd : decode md.2.2.1 pc = .ok (.if_icmp .ge off, 3)) (ht : (pc : Int) + off = (tgt : Int)) (hp : pc + 3 = pc') (kt : y ≤ x → GN l D ca md mc ms tgt lv st wW kc nc ps) (kf : ¬ y ≤ x → GN l D ca md mc ms pc' lv st wW kc nc ps) : GN l D ca md mc ms pc lv (.int y :: .int x :: st) wW kc nc ps := by
  subst hp
  intro p e R s m args below meth c H locs A ls C0 hnm hc1 hs1 hw hl
  exact lv_icmp_ge C0.1 C0.2.1 hd ht (fun c1 => kt (by first | exact c1 | exact c1.symm | exact fun z => c1 z.symm) p e R s m args below meth c H locs A ls C0 hnm hc1 hs1 hw hl) (fun c1 => kf (by first | exact c1 | exact c1.symm | exact fun z => c1 z.symm) p e R s m args below meth c H locs A ls C0 hnm hc1 hs1 hw hl)
theorem n_icmpN_ge (tgt pc' : Nat) {a b : Nat} {off : Int} (hd : decode md.2.2.1 pc = .ok (.if_icmp .ge off, 3)) (ht : (pc : Int) + off = (tgt : Int)) (hp : pc + 3 = pc') (ha : a < 2147483648) (hb : b < 2147483648) (kt : b ≤ a → GN l D ca md mc ms tgt lv st wW kc nc ps) (kf : a < b → GN l D ca md mc ms pc' lv st wW kc nc ps) : GN l D ca md mc ms pc lv (.int (nI b) :: .int (nI a) :: st) wW kc nc ps := by
  have e1 := nI_eq ha hb
  have e2 := nI_leI ha hb
  have e3 := nI_leI hb ha
  have e4 := nI_ltI ha hb
  have e5 := nI_ltI hb ha
  exact n_icmp_ge tgt pc' hd ht hp (fun c1 => kt (by first | exact e1.mp c1 | exact fun z => c1 (e1.mpr z) | exact e2.mp c1 | exact e3.mp c1 | exact e4.mp c1 | exact e5.mp c1)) (fun c1 => kf (by first | exact e1.mp c1 | exact fun z => c1 (e1.mpr z) | exact Nat.not_lt.mp (fun z => c1 (e4.mpr z)) | exact Nat.not_lt.mp (fun z => c1 (e5.mpr z)) | exact Nat.not_le.mp (fun z => c1 (e2.mpr z)) | exact Nat.not_le.mp (fun z => c1 (e3.mpr z))))
theorem oi_1 : Cond.instanceMethod Lib.objectInit ∈ wsA := (wa_1 (List.mem_of_getElem? (i := 25) (by decide +kernel)) (by decide +kernel))
theorem oi_2 : Cond.code Lib.objectInit ⟨#[0xb1]⟩ 1 none ∈ wsA := (wa_1 (List.mem_of_getElem? (i := 26) rfl) (by decide +kernel))
theorem n_objInit (pc' : Nat) {idx a : Nat} (hd : decode md.2.2.1 pc = .ok (.invokespecial idx, 3)) (hp : pc + 3 = pc') (hlk : Cond.methodLink md.1 idx Lib.objectInit ∈ wsA) (hf : 1 ≤ md.2.2.2.2.2.1) (hlo : 12 ≤ md.2.2.2.2.2.2) (h : GN l D ca md mc ms pc' lv [] wW kc nc ps) : GN l D ca md mc ms pc lv [.ref a] wW kc nc ps := by
  subst hp
  intro p e R s m args below meth c H locs A ls C0 hnm hc1 hs1 hw hl
  have hts := C0.2.2.2.2.2.1
  refine W.objInit C0.1 C0.2.1 C0.2.2.2.2.1 (hts _ hlk) (hts _ oi_1) (hts _ oi_2) rfl (hl.1.trans C0.2.2.2.1.symm) rfl hd (Nat.le_trans hf C0.2.2.2.2.2.2.2.1) (Nat.le_trans hlo C0.2.2.2.2.2.2.2.2.1) ?_
  exact W.eq (g2 := F0 m (pc + 3) ls []) rfl (h p e R s m args below meth c H locs A ls C0 hnm hc1 hs1 hw hl)
/-- a row of numbers is made -/
def ty3 (t : Nat) : FieldType := match t with | 0 => .int | 1 => .byte | _ => .boolean
theorem n_newa (pc' N t : Nat) {atype : ArrayType} (ht : t < 3) (hty : newarray.typeOf atype = ty3 t) (hd : decode md.2.2.1 pc = .ok (.newarray atype, 2)) (hp : pc + 2 = pc') (harr : Cond.arrayClass (newarray.typeOf atype) ∈ wsA) (hN : N ≤ 20000) (hk : kc + 1 ≤ mc) (hs : nc + N ≤ ms) (h : ∀ q, GN l D ca md mc ms pc' lv (.ref q :: st) (wW ++ [(q, .inl (ca t, N, .inl (fun _ => 0)))]) (kc + 1) (nc + N) ps) : GN l D ca md mc ms pc lv (.int (nI N) :: st) wW kc nc ps := by
  subst hp
  intro p e R s m args below meth c H locs A ls C0 hnm hc1 hs1 hw hl
  have hts := C0.2.2.2.2.2.1
  have hK := C0.2.2.2.2.2.2.2.2.2
  have hb : componentBytes (ty3 t) ≤ 8 := by rcases (show t = 0 ∨ t = 1 ∨ t = 2 by omega) with rfl | rfl | rfl <;> decide
  refine va_newa (a0 := (N, .inl (fun _ => 0))) C0.1 C0.2.1 (hts _ harr) hty hK hw.1 hw.2.1 hw.2.2.1 hw.2.2.2.1 (fun cA => by rcases (show t = 0 ∨ t = 1 ∨ t = 2 by omega) with rfl | rfl | rfl <;> rfl) (nI_pos (by omega)) (nI_clamp (by omega)) (Nat.le_trans (Nat.mul_le_mul_left N hb) (by omega)) (Nat.le_trans hk hc1) (Nat.le_trans hs hs1) hd (fun q cA H1 hK1 hP1 hD1 hS1 => ?_)
  have e1 := (hK1.2 4 (cA, ty3 t) (by rcases (show t = 0 ∨ t = 1 ∨ t = 2 by omega) with rfl | rfl | rfl <;> rfl)).2
  have e2 : va_RA s (ca t) (ty3 t) := by
    rcases (show t = 0 ∨ t = 1 ∨ t = 2 by omega) with rfl | rfl | rfl
    · exact (hK.2 0 _ rfl).2
    · exact (hK.2 1 _ rfl).2
    · exact (hK.2 2 _ rfl).2
  have e3 : cA = ca t := by
    rcases (show t = 0 ∨ t = 1 ∨ t = 2 by omega) with rfl | rfl | rfl
    · exact Option.some.inj ((show s.vm.findClass _ = some cA from e1).symm.trans e2)
    · exact Option.some.inj ((show s.vm.findClass _ = some cA from e1).symm.trans e2)
    · exact Option.some.inj ((show s.vm.findClass _ = some cA from e1).symm.trans e2)
  subst e3
  exact h q p e R s m args below meth c H1 locs A ls C0 hnm hc1 hs1 ⟨hP1, hD1, hS1, hw.2.2.2⟩ hl
/-- a field of an object at a place of the list -/
theorem n_put (pc' q0 : Nat) {idx ci k a : Nat} {fs : List Value} {v : Value} (ty : FieldType) (fin : Bool) (hd : decode md.2.2.1 pc = .ok (.putfield idx, 3)) (hp : pc + 3 = pc') (hf : FK md.1 idx ci k) (he : wW[q0]? = some (a, .inr (ci, fs))) (hk2 : ∀ C T N, vwCl[ci]? = some (C, T, N) → (T k).2.2.2 = fin ∧ parseFieldDescriptor (T k).2.2.1 = some ty ∧ (fin = true → (T k).1 = md.1)) (hi : fin = true → md.2.1.name = "<init>") (hn : narrow ty v = v) (hfit : fits ty v = true) (hl0 : k < fs.length) (h : GN l D ca md mc ms pc' lv st (wW.set q0 (a, .inr (ci, fs.set k v))) kc nc ps) : GN l D ca md mc ms pc lv (v :: .ref a :: st) wW kc nc ps := by
  subst hp
  obtain ⟨C, T, N, ty0, f1, f2, f3, f4, f5, f6⟩ := hf
  obtain ⟨g1, g2, g3⟩ := hk2 C T N f1
  intro p e R s m args below meth c H locs A ls C0 hnm hc1 hs1 hw hl
  have hts := C0.2.2.2.2.2.1
  cases fin with
  | false => exact va_put (D := D) (ci := ci) C0.1 C0.2.1 hts f3 ty0 f5 f6 C0.2.2.2.2.1 C0.2.2.2.2.2.2.2.2.2 hw.1 hw.2.1 hw.2.2.1 q0 he f1 k f2 (hts _ f4) (fun _ z => z) g1 g2 hn hfit hl0 hd (fun H1 locs1 hP1 hD1 hS1 => h p e R s m args below meth c H1 locs1 A ls C0 hnm hc1 hs1 ⟨hP1, hD1, hS1, hw.2.2.2⟩ hl)
  | true => exact va_putF (D := D) (ci := ci) C0.1 C0.2.1 hts f3 ty0 f5 f6 C0.2.2.2.2.1 C0.2.2.2.2.2.2.2.2.2 hw.1 hw.2.1 hw.2.2.1 q0 he f1 k f2 (hts _ f4) (fun _ z => z) g1 (hnm.trans (hi rfl)) (g3 rfl) g2 hn hfit hl0 hd (fun H1 locs1 hP1 hD1 hS1 => h p e R s m args below meth c H1 locs1 A ls C0 hnm hc1 hs1 ⟨hP1, hD1, hS1, hw.2.2.2⟩ hl)
theorem n_get (pc' q0 : Nat) {idx ci k a : Nat} {fs : List Value} (v : Value) (hd : decode md.2.2.1 pc = .ok (.getfield idx, 3)) (hp : pc + 3 = pc') (hf : FK md.1 idx ci k) (he : wW[q0]? = some (a, .inr (ci, fs))) (hv : fs[k]? = some v) (h : GN l D ca md mc ms pc' lv (v :: st) wW kc nc ps) : GN l D ca md mc ms pc lv (.ref a :: st) wW kc nc ps := by
  subst hp
  obtain ⟨C, T, N, ty0, f1, f2, f3, f4, f5, f6⟩ := hf
  intro p e R s m args below meth c H locs A ls C0 hnm hc1 hs1 hw hl
  exact va_get (D := D) (ci := ci) C0.1 C0.2.1 C0.2.2.2.2.2.1 f3 C0.2.2.2.2.1 C0.2.2.2.2.2.2.2.2.2 hw.1 q0 he f1 k f2 (C0.2.2.2.2.2.1 _ f4) (fun _ z => z) hv hd (h p e R s m args below meth c H locs A ls C0 hnm hc1 hs1 hw hl)
theorem n_iast (pc' q0 N i : Nat) {a : Nat} {f : Nat → Int32} {x : Int32} (hd : decode md.2.2.1 pc = .ok (.iastore, 1)) (hp : pc + 1 = pc') (he : wW[q0]? = some (a, .inl (ca 0, N, .inl f))) (hi : i < N) (hN : N ≤ 20000) (h : GN l D ca md mc ms pc' lv st (wW.set q0 (a, .inl (ca 0, N, .inl (upd f i x)))) kc nc ps) : GN l D ca md mc ms pc lv (.int x :: .int (nI i) :: .ref a :: st) wW kc nc ps := by
  subst hp
  intro p e R s m args below meth c H locs A ls C0 hnm hc1 hs1 hw hl
  refine va_iast C0.1 C0.2.1 C0.2.2.2.2.2.2.2.2.2 hw.1 hw.2.1 hw.2.2.1 q0 0 he rfl (vp_in_nI hi (by omega)) hd (fun H1 locs1 hP1 hD1 hS1 => ?_)
  rw [nI_clamp (by omega)] at hP1 hD1
  exact h p e R s m args below meth c H1 locs1 A ls C0 hnm hc1 hs1 ⟨hP1, hD1, hS1, hw.2.2.2⟩ hl
theorem n_alen (pc' q0 N : Nat) {a : Nat} {f : Nat → Int32} (hd : decode md.2.2.1 pc = .ok (.arraylength, 1)) (hp : pc + 1 = pc') (he : wW[q0]? = some (a, .inl (ca 0, N, .inl f))) (h : GN l D ca md mc ms pc' lv (.int (nI N) :: st) wW kc nc ps) : GN l D ca md mc ms pc lv (.ref a :: st) wW kc nc ps := by
  subst hp
  intro p e R s m args below meth c H locs A ls C0 hnm hc1 hs1 hw hl
  exact va_alen (x := (N, .inl f)) C0.1 C0.2.1 C0.2.2.2.2.2.2.2.2.2 hw.1 q0 0 he rfl rfl hd (h p e R s m args below meth c H locs A ls C0 hnm hc1 hs1 hw hl)
theorem n_new (pc' ci : Nat) {idx : Nat} (fs : List Value) {C : String} {T : u_T} {N : Nat} (ty : Nat → FieldType) (hc : vwCl[ci]? = some (C, T, N)) (hu : ∀ w ∈ u_ws C T N, w ∈ wsA) (hty : ∀ k, k < N → parseFieldDescriptor (T k).2.2.1 = some (ty k)) (hcl : Cond.classLink md.1 idx C ∈ wsA) (hin : Cond.instantiable C N ∈ wsA) (hini : Cond.initialized C ∈ wsA) (hfs : ∀ j, j < N → defaultValue (ty j) = vp_V fs j) (hd : decode md.2.2.1 pc = .ok (.new idx, 3)) (hp : pc + 3 = pc') (hk : kc + 1 ≤ mc) (hs : nc + N ≤ ms) (h : ∀ q, GN l D ca md mc ms pc' lv (.ref q :: st) (wW ++ [(q, .inr (ci, fs))]) (kc + 1) (nc + N) ps) : GN l D ca md mc ms pc lv st wW kc nc ps := by
  subst hp
  intro p e R s m args below meth c H locs A ls C0 hnm hc1 hs1 hw hl
  have hts := C0.2.2.2.2.2.1
  exact va_new C0.1 C0.2.1 hts hu ty hty C0.2.2.2.2.1 (hts _ hcl) (hts _ hin) (hts _ hini) C0.2.2.2.2.2.2.2.2.2 hw.1 hw.2.1 hw.2.2.1 hw.2.2.2.1 hc hfs (Nat.le_trans hk hc1) (Nat.le_trans hs hs1) hd (fun q H1 hP1 hD1 hS1 => h q p e R s m args below meth c H1 locs A ls C0 hnm hc1 hs1 ⟨hP1, hD1, hS1, hw.2.2.2⟩ hl)
theorem n_ret (hr : md.2.2.2.2.1 = none) (hd : decode md.2.2.1 pc = .ok (.return_, 1)) (hk : kc ≤ mc) (hs : nc ≤ ms) (h : ps wW) : GN l D ca md mc ms pc lv [] wW kc nc ps := by
  intro p e R s m args below meth c H locs A ls C0 hnm hc1 hs1 hw hl
  refine W.widen hk hs ?_
  exact W.vret C0.1 C0.2.1 (C0.2.2.1.trans hr) (fun t ht hW => ⟨⟨rfl, wW, h, by rw [ht]; exact hw.1, hw.2.1⟩, hw.2.2.1.F ht⟩) hw.2.2.1.2.2 hd C0.2.2.2.2.2.2.1
theorem n_perm {w' : va_W} (hp : w'.Perm wW) (h : GN l D ca md mc ms pc lv st w' kc nc ps) : GN l D ca md mc ms pc lv st wW kc nc ps := by
  intro p e R s m args below meth c H locs A ls C0 hnm hc1 hs1 hw hl
  refine h p e R s m args below meth c H locs A ls C0 hnm hc1 hs1 ⟨P_perm hp hw.1, D_perm hp hw.2.1, hw.2.2.1, hw.2.2.2⟩ hl
theorem n_cell {w' : va_W} (h1 : ∀ H, va_P D vwCl wW H → va_P D vwCl w' H) (h2 : ∀ A, va_D A wW → va_D A w') (h : GN l D ca md mc ms pc lv st w' kc nc ps) : GN l D ca md mc ms pc lv st wW kc nc ps := by
  intro p e R s m args below meth c H locs A ls C0 hnm hc1 hs1 hw hl
  exact h p e R s m args below meth c H locs A ls C0 hnm hc1 hs1 ⟨h1 H hw.1, h2 A hw.2.1, hw.2.2.1, hw.2.2.2⟩ hl
def EI (md md' : Md) (idx n : Nat) : Prop := Cond.methodLink md.1 idx md'.2.1 ∈ wsA ∧ Cond.instanceMethod md'.2.1 ∈ wsA ∧ Cond.initialized md'.1 ∈ wsA ∧ Cond.code md'.2.1 md'.2.2.1 md'.2.2.2.1 none ∈ wsA ∧ md'.2.2.2.2.1 = none ∧
  (md'.2.1.cls = md'.1 ∧ md'.2.1.cls ≠ "java/lang/invoke/MethodHandle" ∧ md'.2.1.cls ≠ "java/lang/invoke/VarHandle" ∧ (parseMethodDescriptor md'.2.1.desc).map (fun d => d.parameters.length) = some n) ∧ md'.2.1.name = "<init>" ∧ (md'.2.2.2.2.2.1 + 1 ≤ md.2.2.2.2.2.1 ∧ 8 + (md'.2.2.2.1 + 11) + md'.2.2.2.2.2.2 ≤ md.2.2.2.2.2.2)
theorem preN_blind {as : List Value} {sz : Nat} {wc : va_W} : FrameBlind (va_Pc as (fun U => U.heap.size = sz ∧ va_P D vwCl wc U.heap ∧ va_K D vwCl (tyl ca) U ∧ va_D (fun _ => True) wc ∧ Nz U)) := by
  intro a U gg mk q
  obtain ⟨q0, q1, qP, qK, qD, qZ⟩ := q
  exact ⟨q0, q1, qP, va_K.moved (u := U) (U := U.calling gg mk a) (Vm.Alike.refl U.vm) qK, qD, Nz.same (u := U) rfl qZ⟩
/-- behind a call that was given the cells wc -/
theorem n_behind {p : Program} {e : Env} {R : Room} {s : State} {m : MethodId} {args : Array Value} {below : List Frame} {meth : Method} {c : Code} {H : Heap} {locs : List Loc} {A : Nat → Prop} {ls : Array Slot} {st0 : List Value} {a : Array Value} {post' : va_W → Prop} {wr wc : va_W} {mc' ms' : Nat}
    (hr : va_Run p l e R s m args below meth c H locs kc nc mc' ms' (F0 m pc ls st0) st (QN D post' (va_A wc H.size) a) (va_A wc H.size)) (C0 : Cx D ca md p R s m args meth c) (hnm : meth.name = md.2.1.name) (hc1 : mc ≤ R.cells) (hs1 : ms ≤ R.slots) (hw : NW D (wr ++ wc) A s H locs) (hl : lv_has ls md.2.2.2.1 lv)
    (h : ∀ w1, post' w1 → GN l D ca md mc ms (pc + 3) lv st (wr ++ w1) (kc + mc') (nc + ms') ps) : W p l e R s m args below meth c H locs kc nc (MQ below (QN D ps A) args s mc ms A) (F0 m pc ls st0) := by
  obtain ⟨hP, hD, hS, hA, hZ⟩ := hw
  have hF : ∀ q, va_A wc H.size q → A q := by
    intro q hq
    rcases hq with ⟨k, e, hk⟩ | hq
    · exact hD.2 (wr.length + k) (q, e) (by rw [List.getElem?_append_right (by omega), Nat.add_sub_cancel_left]; exact hk)
    · exact hA q (Nat.le_trans hS.1 hq)
  have hap : ∀ (k : Nat) (q : Nat × va_E), wr[k]? = some q → q.1 < H.size ∧ ¬ va_A wc H.size q.1 := by
    intro k q hk
    have hlt := va_at.lt (P_left hP k q hk)
    refine ⟨hlt, ?_⟩
    rintro (⟨j, e9, h9⟩ | h9)
    · exact D_apart hD hk h9 rfl
    · omega
  intro T hT X
  obtain ⟨v, st₀, t, T', L, h0, X', hL, e1, e2, ⟨⟨hv, w1, hp, hb, hD1⟩, hz, hk9⟩, stp⟩ := hr T hT X
  cases hv
  rw [h0] at hz hk9
  obtain ⟨t2, a1, b1⟩ := h w1 hp p e R s m args below meth c T'.heap (locs ++ L) A ls C0 hnm hc1 hs1 ⟨va_P.app ((P_left hP).kept (fun k q hk => by rw [e1]; exact hk9 q.1 (hap k q hk).1 (hap k q hk).2)) (by rw [e1]; exact hb), va_D.app (D_left hD) (hD1.weaken (fun k q _ z => hF q.1 z)) (fun i j x y hx hy hxy => (hap i x hx).2 (by rw [hxy]; exact hD1.2 j y hy)), ⟨Nat.le_trans hS.1 (by rw [e1]; exact hz), fun q h1 h2 => by rw [e1, hk9 q (Nat.lt_of_lt_of_le h1 hS.1) (fun z => h2 (hF q z))]; exact hS.2.1 q h1 h2, fun q hq => by
      rcases List.mem_append.mp hq with h | h
      · exact hS.2.2 q h
      · exact hF _ (hL q h)⟩, hA, hZ⟩ hl T' rfl X'
  exact ⟨t2, stp t2 a1, b1⟩
theorem n_callI (pc' : Nat) (md' : Md) {idx n b : Nat} {st0 : List Value} (as : List Value) (st : List Value) {wr wc : va_W} {mc' ms' : Nat} {post' : va_W → Prop} (hd : decode md.2.2.1 pc = .ok (.invokespecial idx, 3)) (hp : pc + 3 = pc') (he : EI md md' idx n) (hn : as.length = n) (hst : st0 = as.reverse ++ .ref b :: st) (hst2 : (st.map fun v => v.category).sum ≤ 8) (hw0 : wW = wr ++ wc) (hk : kc + mc' ≤ mc) (hs : nc + ms' ≤ ms) (hc : CtN l D ca md' (.ref b :: as) wc mc' ms' post') (h : ∀ w1, post' w1 → GN l D ca md mc ms pc' lv st (wr ++ w1) (kc + mc') (nc + ms') ps) : GN l D ca md mc ms pc lv st0 wW kc nc ps := by
  subst hp
  subst hw0
  obtain ⟨e1, e2, e4, e5, e0, e6, e8, e7⟩ := he
  intro p e R s m args below meth c H locs A ls C0 hnm hc1 hs1 hw hl
  have hts := C0.2.2.2.2.2.1
  have hc' := hc H.size
  have hcode : Cond.code md'.2.1 md'.2.2.1 md'.2.2.2.1 md'.2.2.2.2.1 ∈ wsA := by rw [e0]; exact e5
  have hcb := callB_of (own := md.1) (index := idx) (y := md'.2.1) (bytes := md'.2.2.1) (maxL := md'.2.2.2.1) (ret := md'.2.2.2.2.1) (R := R) (mc := mc') (ms := ms') (rm := { frames := md'.2.2.2.2.2.1, cells := mc', slots := ms', locals := md'.2.2.2.2.2.2 }) n hts (w_in hcode) rfl rfl rfl (by rw [e6.1]; exact hts _ e4) (hts _ e1) e6.2 ⟨Nat.le_trans e7.1 C0.2.2.2.2.2.2.2.1, Nat.le_trans e7.2 C0.2.2.2.2.2.2.2.2.1⟩
  rw [e0] at hc' hcb
  refine n_behind (wr := wr) (wc := wc) (a := (Value.ref b :: as).toArray) (va_runI (As := as) (b := b) (n := n) ⟨C0.1, C0.2.1, C0.2.2.2.1, C0.2.2.2.2.1, hts⟩ hc' ⟨hcb, e8, hts _ e2⟩ ⟨preN_blind, fun U hU hW => ⟨rfl, by rw [hU], by rw [hU]; exact P_right hw.1, va_K.moved hW.alike C0.2.2.2.2.2.2.2.2.2, ?_, Nz.warm hW hw.2.2.2.2⟩⟩ rfl hn hl.1 hst (lv_room hst2) hd ⟨Nat.le_trans hk hc1, Nat.le_trans hs hs1⟩) C0 hnm hc1 hs1 hw hl h
  exact ⟨fun i j x y hx hy hxy => by
    have h1 := hw.2.1.1 (wr.length + i) (wr.length + j) x y (by rw [List.getElem?_append_right (by omega), Nat.add_sub_cancel_left]; exact hx) (by rw [List.getElem?_append_right (by omega), Nat.add_sub_cancel_left]; exact hy) hxy
    omega, fun _ _ _ => trivial⟩
def EIN (md md' : Md) (n : Nat) : Prop := Cond.instanceMethod md'.2.1 ∈ wsA ∧ Cond.initialized md'.1 ∈ wsA ∧ Cond.code md'.2.1 md'.2.2.1 md'.2.2.2.1 none ∈ wsA ∧ md'.2.2.2.2.1 = none ∧
  (md'.2.1.cls = md'.1 ∧ md'.2.1.cls ≠ "java/lang/invoke/MethodHandle" ∧ md'.2.1.cls ≠ "java/lang/invoke/VarHandle" ∧ (parseMethodDescriptor md'.2.1.desc).map (fun d => d.parameters.length) = some n) ∧ md'.2.1.name = "<init>" ∧ (md'.2.2.2.2.2.1 + 1 ≤ md.2.2.2.2.2.1 ∧ 8 + (md'.2.2.2.1 + 11) + md'.2.2.2.2.2.2 ≤ md.2.2.2.2.2.2)
theorem n_callIN (pc' : Nat) (md' : Md) {idx n b : Nat} {st0 : List Value} (as : List Value) (st : List Value) {wr wc : va_W} {mc' ms' : Nat} {post' : va_W → Prop} (hd : decode md.2.2.1 pc = .ok (.invokespecial idx, 3)) (hp : pc + 3 = pc') (hz : ∀ s, Nz s → va_Nw (.methodLinkNest md.1 idx md'.2.1 RX6) s) (he : EIN md md' n) (hn : as.length = n) (hst : st0 = as.reverse ++ .ref b :: st) (hst2 : (st.map fun v => v.category).sum ≤ 8) (hw0 : wW = wr ++ wc) (hk : kc + mc' ≤ mc) (hs : nc + ms' ≤ ms) (hc : CtN l D ca md' (.ref b :: as) wc mc' ms' post') (h : ∀ w1, post' w1 → GN l D ca md mc ms pc' lv st (wr ++ w1) (kc + mc') (nc + ms') ps) : GN l D ca md mc ms pc lv st0 wW kc nc ps := by
  subst hp
  subst hw0
  obtain ⟨e2, e4, e5, e0, e6, e8, e7⟩ := he
  intro p e R s m args below meth c H locs A ls C0 hnm hc1 hs1 hw hl
  have hts := C0.2.2.2.2.2.1
  have hc' := hc H.size
  have hcode : Cond.code md'.2.1 md'.2.2.1 md'.2.2.2.1 md'.2.2.2.2.1 ∈ wsA := by rw [e0]; exact e5
  have hcb := va_cnB (own := md.1) (host := RX6) (index := idx) (y := md'.2.1) (bytes := md'.2.2.1) (maxL := md'.2.2.2.1) (ret := md'.2.2.2.2.1) (R := R) (mc := mc') (ms := ms') (rm := { frames := md'.2.2.2.2.2.1, cells := mc', slots := ms', locals := md'.2.2.2.2.2.2 }) n hts (w_in hcode) rfl rfl rfl (hz s hw.2.2.2.2) (by rw [e6.1]; exact hts _ e4) e6.2 ⟨Nat.le_trans e7.1 C0.2.2.2.2.2.2.2.1, Nat.le_trans e7.2 C0.2.2.2.2.2.2.2.2.1⟩
  rw [e0] at hc' hcb
  refine n_behind (wr := wr) (wc := wc) (a := (Value.ref b :: as).toArray) (va_runIN (As := as) (b := b) (n := n) ⟨C0.1, C0.2.1, C0.2.2.2.1, C0.2.2.2.2.1, hts⟩ hc' ⟨hcb, e8, hts _ e2⟩ ⟨preN_blind, fun U hU hW => ⟨rfl, by rw [hU], by rw [hU]; exact P_right hw.1, va_K.moved hW.alike C0.2.2.2.2.2.2.2.2.2, ?_, Nz.warm hW hw.2.2.2.2⟩⟩ rfl hn hl.1 hst (lv_room hst2) hd ⟨Nat.le_trans hk hc1, Nat.le_trans hs hs1⟩) C0 hnm hc1 hs1 hw hl h
  exact ⟨fun i j x y hx hy hxy => by
    have h1 := hw.2.1.1 (wr.length + i) (wr.length + j) x y (by rw [List.getElem?_append_right (by omega), Nat.add_sub_cancel_left]; exact hx) (by rw [List.getElem?_append_right (by omega), Nat.add_sub_cancel_left]; exact hy) hxy
    omega, fun _ _ _ => trivial⟩
theorem n_callV (pc' : Nat) (md' : Md) {idx ci b : Nat} {fs : List Value} (st : List Value) {wr wc : va_W} {post' : va_W → Prop} (hd : decode md.2.2.1 pc = .ok (.invokevirtual idx, 3)) (hp : pc + 3 = pc') (he : EV md md' idx ci 0) (hret : md'.2.2.2.2.1 = none) (hb : wc[0]? = some (b, .inr (ci, fs))) (hst2 : (st.map fun v => v.category).sum ≤ 8) (hw0 : wW = wr ++ wc) (hk : kc ≤ mc) (hs : nc ≤ ms) (hc : CtN l D ca md' [.ref b] wc 0 0 post') (h : ∀ w1, post' w1 → GN l D ca md mc ms pc' lv st (wr ++ w1) kc nc ps) : GN l D ca md mc ms pc lv (.ref b :: st) wW kc nc ps := by
  subst hp
  subst hw0
  obtain ⟨e1, e2, e3, e4, e5, e6, e7, q9, e8, e9⟩ := he
  intro p e R s m args below meth c H locs A ls C0 hnm hc1 hs1 hw hl
  have hts := C0.2.2.2.2.2.1
  refine n_behind (wr := wr) (wc := wc) (mc' := 0) (ms' := 0) (a := ([Value.ref b] : List Value).toArray) (va_runV (As := []) (b := b) (C := md'.1) (n := 0) ⟨C0.1, C0.2.1, C0.2.2.2.1, C0.2.2.2.2.1, hts⟩ (hc H.size) ⟨callB_of 0 hts (w_in e5) rfl rfl rfl (by rw [e6.1]; exact hts _ e4) (hts _ e1) e6.2 ⟨Nat.le_trans e7.1 C0.2.2.2.2.2.2.2.1, Nat.le_trans e7.2 C0.2.2.2.2.2.2.2.2.1⟩, hts _ e2, hts _ e3⟩ ⟨preN_blind, by rw [← e9]; exact va_recv C0.2.2.2.2.2.2.2.2.2 (P_right hw.1) e8 hb, fun U hU hW => ⟨rfl, by rw [hU], by rw [hU]; exact P_right hw.1, va_K.moved hW.alike C0.2.2.2.2.2.2.2.2.2, ?_, Nz.warm hW hw.2.2.2.2⟩⟩ rfl rfl hl.1 rfl (lv_room hst2) hd ⟨Nat.le_trans hk hc1, Nat.le_trans hs hs1⟩) C0 hnm hc1 hs1 hw hl h
  exact ⟨fun i j x y hx hy hxy => by
    have h1 := hw.2.1.1 (wr.length + i) (wr.length + j) x y (by rw [List.getElem?_append_right (by omega), Nat.add_sub_cancel_left]; exact hx) (by rw [List.getElem?_append_right (by omega), Nat.add_sub_cancel_left]; exact hy) hxy
    omega, fun _ _ _ => trivial⟩
end GNS
