/-! THE JUDGEMENT: 'G l D g ca md pc lv st M Q': a frame of the method md at pc, with locals lv, stack st and the memory M, comes to the method's end with Q of its answer and its memory. A contract: Ct -/
abbrev Md : Type := String × MethodName × ByteArray × Nat × Option FieldType × Nat × Nat
def Cx (D : va_G) (ca : Nat → ClassId) (md : Md) (p : Program) (R : Room) (s : State) (m : MethodId) (args : Array Value) (meth : Method) (c : Code) : Prop :=
  p.tables.exec = Jvm.exec ∧ c.code = md.2.2.1 ∧ meth.sig.returnType = md.2.2.2.2.1 ∧ c.maxLocals = md.2.2.2.1 ∧ s.vm.findClass md.1 = some m.cls ∧ (∀ w ∈ wsA, w.before args s = true) ∧ meth.locks = false ∧ md.2.2.2.2.2.1 ≤ R.frames ∧ md.2.2.2.2.2.2 ≤ R.locals ∧ va_K D vwCl (tyl ca) s
/-- the four words that a text's lines begin with, as the machine holds them: String i at g 20 i, its bytes at g 21 i -/
def sLen : List Nat := [5, 8, 3, 5]
def sByt : List (List Int32) := [[103, 111, 111, 100, 115], [99, 117, 115, 116, 111, 109, 101, 114], [108, 111, 116], [111, 114, 100, 101, 114]]
def sIdx (i : Nat) : Nat := [54, 60, 62, 64].getD i 0
def sTxt (i : Nat) : String := ["goods", "customer", "lot", "order"].getD i ""
def eIdx (i : Nat) : Nat := [121, 143, 148, 171].getD i 0
def eTxt (i : Nat) : String := ["no such lot", "a lot has no such number", "no such order", "an order has no such number"].getD i ""
/-- a static of the JDK that is only handed on: null, or some object -/
def sio (g : Nat → Nat → Nat) : Value := if g 22 1 = 0 then .null else .ref (g 22 0)
theorem sio_or (g : Nat → Nat → Nat) : sio g = .null ∨ sio g = .ref (g 22 0) := by
  unfold sio; split
  · exact Or.inl rfl
  · exact Or.inr rfl
/-- a call of a private method of the outer class: its link, no word of wsA -/
abbrev nmIs : Cond := .methodLinkNest RX4 113 yX6_isSum RX6
def Sx (g : Nat → Nat → Nat) (A : Nat → Prop) (U : State) : Prop := vk_S 4 sLen sByt (g 20) (g 21) A U U.heap ∧ (∀ i, i < 4 → vk_R RX5 (sIdx i) (sTxt i) (g 20 i) U) ∧ va_Z "java/lang/String" "COMPACT_STRINGS" "Z" (.int 1) A U U.heap ∧ va_Z "jdk/internal/util/Preconditions" "SIOOBE_FORMATTER" "Ljava/util/function/BiFunction;" (sio g) A U U.heap ∧ vx_Zq Bundle.tN "UNASSIGNED_STACK" Bundle.steD A U U.heap ∧ vx_Zq Bundle.tN "SUPPRESSED_SENTINEL" Bundle.listD A U U.heap ∧ (∀ i, i < 4 → vk_R RX6 (eIdx i) (eTxt i) (g 23 i) U) ∧ va_Nw nmIs U
def Wl (D : va_G) (g : Nat → Nat → Nat) (ca : Nat → ClassId) (A : Nat → Prop) (s : State) (M : Mm) (H : Heap) (locs : List Loc) : Prop :=
  va_P D vwCl (Wd g ca M) H ∧ va_D A (Wd g ca M) ∧ va_S A s.heap H locs ∧ (∀ q, s.heap.size ≤ q → A q) ∧ Sx g A s
def Qm (D : va_G) (g : Nat → Nat → Nat) (ca : Nat → ClassId) (Q : Option Value → Mm → Prop) (A : Nat → Prop) : Array Value → State → Outcome → State → Prop := fun _ st oc t =>
  (∃ (v : Option Value) (u : Mm), oc = .returned v ∧ Q v u ∧ va_P D vwCl (Wd g ca u) t.heap) ∧ va_F A st t
def G (l : Launch) (D : va_G) (g : Nat → Nat → Nat) (ca : Nat → ClassId) (md : Md) (pc : Nat) (lv : List (Nat × Value)) (st : List Value) (M : Mm) (Q : Option Value → Mm → Prop) : Prop :=
  ∀ (p : Program) (e : Env) (R : Room) (s : State) (m : MethodId) (args : Array Value) (below : List Frame) (meth : Method) (c : Code) (H : Heap) (locs : List Loc) (cells slots : Nat) (A : Nat → Prop) (ls : Array Slot),
    Cx D ca md p R s m args meth c → cells ≤ R.cells → slots ≤ R.slots → Wl D g ca A s M H locs → lv_has ls md.2.2.2.1 lv →
    W p l e R s m args below meth c H locs cells slots (MQ below (Qm D g ca Q A) args s cells slots A) (F0 m pc ls st)
def Ct (l : Launch) (D : va_G) (g : Nat → Nat → Nat) (ca : Nat → ClassId) (md : Md) (as : List Value) (M : Mm) (Q : Option Value → Mm → Prop) : Prop :=
  ∀ sz : Nat, Met l md.2.1 (.code md.2.1 md.2.2.1 md.2.2.2.1 md.2.2.2.2.1 :: wsA) { frames := md.2.2.2.2.2.1, cells := 0, slots := 0, locals := md.2.2.2.2.2.2 }
    (va_Pc as (fun U => U.heap.size = sz ∧ va_P D vwCl (Wd g ca M) U.heap ∧ va_K D vwCl (tyl ca) U ∧ va_D (fun _ => True) (Wd g ca M) ∧ Sx g (va_A (Wd g ca M) sz) U)) (Qm D g ca Q (va_A (Wd g ca M) sz)) 0 0 (va_A (Wd g ca M) sz)
/-- an int answer, none, a long one -/
def Ri (q : Int32 → Mm → Prop) : Option Value → Mm → Prop := fun v u => ∃ r, v = some (.int r) ∧ q r u
def Rv (q : Mm → Prop) : Option Value → Mm → Prop := fun v u => v = none ∧ q u
def Rl (q : Int64 → Mm → Prop) : Option Value → Mm → Prop := fun v u => ∃ r, v = some (.long r) ∧ q r u
theorem Wd_D {A : Nat → Prop} {g : Nat → Nat → Nat} {ca : Nat → ClassId} {M M' : Mm} (h : va_D A (Wd g ca M)) : va_D A (Wd g ca M') := by
  have key : ∀ (k : Nat) (q : Nat × va_E), (Wd g ca M')[k]? = some q → ∃ q0, (Wd g ca M)[k]? = some q0 ∧ q0.1 = q.1 := by
    intro k q hq
    unfold Wd at hq ⊢
    rw [List.getElem?_map] at hq ⊢
    cases hk : PL[k]? with
    | none => rw [hk] at hq; cases hq
    | some z => rw [hk] at hq; cases hq; exact ⟨_, rfl, rfl⟩
  refine ⟨fun i j x y hi hj hxy => ?_, fun k q hk => ?_⟩
  · obtain ⟨x0, h1, h2⟩ := key i x hi
    obtain ⟨y0, h3, h4⟩ := key j y hj
    exact h.1 i j x0 y0 h1 h3 (h2.trans (hxy.trans h4.symm))
  · obtain ⟨q0, h1, h2⟩ := key k q hk
    rw [← h2]
    exact h.2 k q0 h1
theorem Wd_A {g : Nat → Nat → Nat} {ca : Nat → ClassId} {M M' : Mm} {sz q : Nat} (h : va_A (Wd g ca M) sz q) : va_A (Wd g ca M') sz q := by
  rcases h with ⟨k, e, h⟩ | h
  · left
    unfold Wd at h ⊢
    rw [List.getElem?_map] at h
    cases hk : PL[k]? with
    | none => rw [hk] at h; cases h
    | some z =>
      rw [hk] at h
      refine ⟨k, cellE g ca M' z.1 z.2, ?_⟩
      rw [List.getElem?_map, hk]
      have h1 := (Prod.mk.inj (Option.some.inj h)).1
      rw [← h1]
      rfl
  · exact Or.inr h

theorem ws_good : wsA.all goodWord = true := List.all_eq_true.mpr wa_good
section GL
variable {l : Launch} {D : va_G} {g : Nat → Nat → Nat} {ca : Nat → ClassId} {md : Md} {pc : Nat} {lv : List (Nat × Value)} {st : List Value} {M : Mm} {Q : Option Value → Mm → Prop}
theorem Ct.of {as : List Value} (hy : plainName md.2.1.cls = true) (ho : md.2.1.cls = md.1) (hn : (lg_sl as).length ≤ md.2.2.2.1) (h : G l D g ca md 0 (lv_args 0 as) [] M Q) : Ct l D g ca md as M Q := by
  intro sz
  refine Met.ofW hy rfl ?_
  intro p e s m args below meth c s₁ B hml hv
  obtain ⟨rfl, hsz, hP, hK, hD0, hX⟩ := hv
  have hts := atoms_spec (ws := .code md.2.1 md.2.2.1 md.2.2.2.1 md.2.2.2.2.1 :: wsA) B.pre
  have hown : s.vm.findClass md.1 = some m.cls := by rw [← ho]; exact findClass_of_methodNamed B.named
  subst hsz
  have hl := lv_entry as (n := md.2.2.2.1) hn
  rw [lg_entry_eq]
  exact h p e _ s m _ below meth c s.heap [] 0 0 (va_A (Wd g ca M) s.heap.size) _ ⟨B.exec, B.bytes, B.returns, hml, hown, fun w hw => hts w (List.mem_cons_of_mem _ hw), B.notSynchronized, Nat.le_refl _, Nat.le_refl _, hK⟩ (Nat.zero_le _) (Nat.zero_le _) ⟨hP, hD0.self, va_S.rf, fun q hq => Or.inr hq, hX⟩ hl
theorem Ct.mono {as : List Value} {Q' : Option Value → Mm → Prop} (h : ∀ v u, Q v u → Q' v u) (hc : G l D g ca md pc lv st M Q) : G l D g ca md pc lv st M Q' := by
  intro p e R s m args below meth c H locs cells slots A ls C0 hc1 hs1 hw hl T hT X
  obtain ⟨t, a1, o, b1, b2, ⟨⟨v, u, e1, e2, e3⟩, b4⟩, b5⟩ := hc p e R s m args below meth c H locs cells slots A ls C0 hc1 hs1 hw hl T hT X
  exact ⟨t, a1, o, b1, b2, ⟨⟨v, u, e1, h v u e2, e3⟩, b4⟩, b5⟩
theorem g_st {st' : List Value} (e : st = st') (h : G l D g ca md pc lv st' M Q) : G l D g ca md pc lv st M Q := e ▸ h
theorem g_lv (ks : List Nat) {lv' : List (Nat × Value)} (e : lv_pick lv ks = lv') (h : G l D g ca md pc lv' st M Q) : G l D g ca md pc lv st M Q := by
  intro p e R s m args below meth c H locs cells slots A ls C0 hc1 hs1 hw hl
  exact h p _ R s m args below meth c H locs cells slots A ls C0 hc1 hs1 hw (lv_sub hl ks (by assumption))
theorem g_top {x : Int32} (y : Int32) (e : x = y) (h : G l D g ca md pc lv (.int y :: st) M Q) : G l D g ca md pc lv (.int x :: st) M Q := e ▸ h
theorem g_iconst (pc' : Nat) {n : Int} (v : Int32) (hd : decode md.2.2.1 pc = .ok (.iconst n, 1)) (hp : pc + 1 = pc') (hv : Int32.ofInt n = v) (h : G l D g ca md pc' lv (.int v :: st) M Q) : G l D g ca md pc lv (st) M Q := by
  subst hp
  intro p e R s m args below meth c H locs cells slots A ls C0 hc1 hs1 hw hl
  exact lv_iconst C0.1 C0.2.1 hd hv (h p e R s m args below meth c H locs cells slots A ls C0 hc1 hs1 hw hl)
theorem g_bipush (pc' : Nat) {n : Int} (v : Int32) (hd : decode md.2.2.1 pc = .ok (.bipush n, 2)) (hp : pc + 2 = pc') (hv : (Int8.ofInt n).toInt32 = v) (h : G l D g ca md pc' lv (.int v :: st) M Q) : G l D g ca md pc lv (st) M Q := by
  subst hp
  intro p e R s m args below meth c H locs cells slots A ls C0 hc1 hs1 hw hl
  exact lv_bipush C0.1 C0.2.1 hd hv (h p e R s m args below meth c H locs cells slots A ls C0 hc1 hs1 hw hl)
theorem g_sipush (pc' : Nat) {n : Int} (v : Int32) (hd : decode md.2.2.1 pc = .ok (.sipush n, 3)) (hp : pc + 3 = pc') (hv : (Int16.ofInt n).toInt32 = v) (h : G l D g ca md pc' lv (.int v :: st) M Q) : G l D g ca md pc lv (st) M Q := by
  subst hp
  intro p e R s m args below meth c H locs cells slots A ls C0 hc1 hs1 hw hl
  exact lv_sipush C0.1 C0.2.1 hd hv (h p e R s m args below meth c H locs cells slots A ls C0 hc1 hs1 hw hl)
theorem g_lconst (pc' : Nat) {n : Fin 2} (v : Int64) (hd : decode md.2.2.1 pc = .ok (.lconst n, 1)) (hp : pc + 1 = pc') (hv : Int64.ofNat (n : Nat) = v) (h : G l D g ca md pc' lv (.long v :: st) M Q) : G l D g ca md pc lv (st) M Q := by
  subst hp
  intro p e R s m args below meth c H locs cells slots A ls C0 hc1 hs1 hw hl
  exact lv_lconst C0.1 C0.2.1 hd hv (h p e R s m args below meth c H locs cells slots A ls C0 hc1 hs1 hw hl)
theorem g_ldc2 (pc' : Nat) {n : Nat} (v : Int64) (hd : decode md.2.2.1 pc = .ok (.ldc2_w n, 3)) (hp : pc + 3 = pc') (hv : Jvm.Cond.constantLong md.1 n v ∈ wsA) (h : G l D g ca md pc' lv (.long v :: st) M Q) : G l D g ca md pc lv (st) M Q := by
  subst hp
  intro p e R s m args below meth c H locs cells slots A ls C0 hc1 hs1 hw hl
  exact lv_ldc2 C0.1 C0.2.1 C0.2.2.2.2.1 (C0.2.2.2.2.2.1 _ hv) hd (h p e R s m args below meth c H locs cells slots A ls C0 hc1 hs1 hw hl)
theorem g_iload_n (pc' : Nat) {k : Fin 4} {x : Int32} (j : Nat) (hd : decode md.2.2.1 pc = .ok (.iload_n k, 1)) (hp : pc + 1 = pc') (hj : lv[j]? = some ((k : Nat), .int x)) (h : G l D g ca md pc' lv (.int x :: st) M Q) : G l D g ca md pc lv (st) M Q := by
  subst hp
  intro p e R s m args below meth c H locs cells slots A ls C0 hc1 hs1 hw hl
  exact lv_iload_n C0.1 C0.2.1 hd rfl (lv_at hl j hj) (h p e R s m args below meth c H locs cells slots A ls C0 hc1 hs1 hw hl)
theorem g_iload (pc' : Nat) {k : Nat} {x : Int32} (j : Nat) (hd : decode md.2.2.1 pc = .ok (.iload k, 2)) (hp : pc + 2 = pc') (hj : lv[j]? = some (k, .int x)) (h : G l D g ca md pc' lv (.int x :: st) M Q) : G l D g ca md pc lv (st) M Q := by
  subst hp
  intro p e R s m args below meth c H locs cells slots A ls C0 hc1 hs1 hw hl
  exact lv_iload C0.1 C0.2.1 hd (lv_at hl j hj) (h p e R s m args below meth c H locs cells slots A ls C0 hc1 hs1 hw hl)
theorem g_lload_n (pc' : Nat) {k : Fin 4} {x : Int64} (j : Nat) (hd : decode md.2.2.1 pc = .ok (.lload_n k, 1)) (hp : pc + 1 = pc') (hj : lv[j]? = some ((k : Nat), .long x)) (h : G l D g ca md pc' lv (.long x :: st) M Q) : G l D g ca md pc lv (st) M Q := by
  subst hp
  intro p e R s m args below meth c H locs cells slots A ls C0 hc1 hs1 hw hl
  exact lv_lload_n C0.1 C0.2.1 hd rfl (lv_at hl j hj) (h p e R s m args below meth c H locs cells slots A ls C0 hc1 hs1 hw hl)
theorem g_aload_n (pc' : Nat) {k : Fin 4} {x : Nat} (j : Nat) (hd : decode md.2.2.1 pc = .ok (.aload_n k, 1)) (hp : pc + 1 = pc') (hj : lv[j]? = some ((k : Nat), .ref x)) (h : G l D g ca md pc' lv (.ref x :: st) M Q) : G l D g ca md pc lv (st) M Q := by
  subst hp
  intro p e R s m args below meth c H locs cells slots A ls C0 hc1 hs1 hw hl
  exact lv_aload_n C0.1 C0.2.1 hd rfl (lv_at hl j hj) (h p e R s m args below meth c H locs cells slots A ls C0 hc1 hs1 hw hl)
theorem g_aload (pc' : Nat) {k : Nat} {x : Nat} (j : Nat) (hd : decode md.2.2.1 pc = .ok (.aload k, 2)) (hp : pc + 2 = pc') (hj : lv[j]? = some (k, .ref x)) (h : G l D g ca md pc' lv (.ref x :: st) M Q) : G l D g ca md pc lv (st) M Q := by
  subst hp
  intro p e R s m args below meth c H locs cells slots A ls C0 hc1 hs1 hw hl
  exact lv_aload C0.1 C0.2.1 hd (lv_at hl j hj) (h p e R s m args below meth c H locs cells slots A ls C0 hc1 hs1 hw hl)
theorem g_iadd (pc' : Nat) {x y : Int32} (v : Int32) (hd : decode md.2.2.1 pc = .ok (.iadd, 1)) (hp : pc + 1 = pc') (hv : x + y = v) (h : G l D g ca md pc' lv (.int v :: st) M Q) : G l D g ca md pc lv (.int y :: .int x :: st) M Q := by
  subst hp
  intro p e R s m args below meth c H locs cells slots A ls C0 hc1 hs1 hw hl
  subst hv
  exact lv_iadd C0.1 C0.2.1 hd (h p e R s m args below meth c H locs cells slots A ls C0 hc1 hs1 hw hl)
theorem g_isub (pc' : Nat) {x y : Int32} (v : Int32) (hd : decode md.2.2.1 pc = .ok (.isub, 1)) (hp : pc + 1 = pc') (hv : x - y = v) (h : G l D g ca md pc' lv (.int v :: st) M Q) : G l D g ca md pc lv (.int y :: .int x :: st) M Q := by
  subst hp
  intro p e R s m args below meth c H locs cells slots A ls C0 hc1 hs1 hw hl
  subst hv
  exact lv_isub C0.1 C0.2.1 hd (h p e R s m args below meth c H locs cells slots A ls C0 hc1 hs1 hw hl)
theorem g_imul (pc' : Nat) {x y : Int32} (v : Int32) (hd : decode md.2.2.1 pc = .ok (.imul, 1)) (hp : pc + 1 = pc') (hv : x * y = v) (h : G l D g ca md pc' lv (.int v :: st) M Q) : G l D g ca md pc lv (.int y :: .int x :: st) M Q := by
  subst hp
  intro p e R s m args below meth c H locs cells slots A ls C0 hc1 hs1 hw hl
  subst hv
  exact lv_imul C0.1 C0.2.1 hd (h p e R s m args below meth c H locs cells slots A ls C0 hc1 hs1 hw hl)
theorem g_iand (pc' : Nat) {x y : Int32} (v : Int32) (hd : decode md.2.2.1 pc = .ok (.iand, 1)) (hp : pc + 1 = pc') (hv : x &&& y = v) (h : G l D g ca md pc' lv (.int v :: st) M Q) : G l D g ca md pc lv (.int y :: .int x :: st) M Q := by
  subst hp
  intro p e R s m args below meth c H locs cells slots A ls C0 hc1 hs1 hw hl
  subst hv
  exact lv_iand C0.1 C0.2.1 hd (h p e R s m args below meth c H locs cells slots A ls C0 hc1 hs1 hw hl)
theorem g_idiv (pc' : Nat) {x y : Int32} (v : Int32) (hd : decode md.2.2.1 pc = .ok (.idiv, 1)) (hp : pc + 1 = pc') (hne : ¬ y = 0) (hv : x / y = v) (h : G l D g ca md pc' lv (.int v :: st) M Q) : G l D g ca md pc lv (.int y :: .int x :: st) M Q := by
  subst hp
  intro p e R s m args below meth c H locs cells slots A ls C0 hc1 hs1 hw hl
  subst hv
  exact lv_idiv C0.1 C0.2.1 hd hne (h p e R s m args below meth c H locs cells slots A ls C0 hc1 hs1 hw hl)
theorem g_ishr (pc' : Nat) {x y : Int32} (v : Int32) (hd : decode md.2.2.1 pc = .ok (.ishr, 1)) (hp : pc + 1 = pc') (hv : x >>> (y &&& 31) = v) (h : G l D g ca md pc' lv (.int v :: st) M Q) : G l D g ca md pc lv (.int y :: .int x :: st) M Q := by
  subst hp
  intro p e R s m args below meth c H locs cells slots A ls C0 hc1 hs1 hw hl
  subst hv
  exact lv_ishr C0.1 C0.2.1 hd (h p e R s m args below meth c H locs cells slots A ls C0 hc1 hs1 hw hl)
theorem g_iushr (pc' : Nat) {x y : Int32} (v : Int32) (hd : decode md.2.2.1 pc = .ok (.iushr, 1)) (hp : pc + 1 = pc') (hv : (x.toUInt32 >>> (y.toUInt32 &&& Int32.toUInt32 31)).toInt32 = v) (h : G l D g ca md pc' lv (.int v :: st) M Q) : G l D g ca md pc lv (.int y :: .int x :: st) M Q := by
  subst hp
  intro p e R s m args below meth c H locs cells slots A ls C0 hc1 hs1 hw hl
  exact lv_iushr C0.1 C0.2.1 hd hv (h p e R s m args below meth c H locs cells slots A ls C0 hc1 hs1 hw hl)
theorem g_i2b (pc' : Nat) {x : Int32} (v : Int32) (hd : decode md.2.2.1 pc = .ok (.i2b, 1)) (hp : pc + 1 = pc') (hv : x.toInt8.toInt32 = v) (h : G l D g ca md pc' lv (.int v :: st) M Q) : G l D g ca md pc lv (.int x :: st) M Q := by
  subst hp
  intro p e R s m args below meth c H locs cells slots A ls C0 hc1 hs1 hw hl
  exact lv_i2b C0.1 C0.2.1 hd hv (h p e R s m args below meth c H locs cells slots A ls C0 hc1 hs1 hw hl)
theorem g_i2l (pc' : Nat) {x : Int32} (v : Int64) (hd : decode md.2.2.1 pc = .ok (.i2l, 1)) (hp : pc + 1 = pc') (hv : x.toInt64 = v) (h : G l D g ca md pc' lv (.long v :: st) M Q) : G l D g ca md pc lv (.int x :: st) M Q := by
  subst hp
  intro p e R s m args below meth c H locs cells slots A ls C0 hc1 hs1 hw hl
  exact lv_i2l C0.1 C0.2.1 hd hv (h p e R s m args below meth c H locs cells slots A ls C0 hc1 hs1 hw hl)
theorem g_ladd (pc' : Nat) {x y : Int64} (v : Int64) (hd : decode md.2.2.1 pc = .ok (.ladd, 1)) (hp : pc + 1 = pc') (hv : x + y = v) (h : G l D g ca md pc' lv (.long v :: st) M Q) : G l D g ca md pc lv (.long y :: .long x :: st) M Q := by
  subst hp
  intro p e R s m args below meth c H locs cells slots A ls C0 hc1 hs1 hw hl
  subst hv
  exact lv_ladd C0.1 C0.2.1 hd (h p e R s m args below meth c H locs cells slots A ls C0 hc1 hs1 hw hl)
theorem g_lsub (pc' : Nat) {x y : Int64} (v : Int64) (hd : decode md.2.2.1 pc = .ok (.lsub, 1)) (hp : pc + 1 = pc') (hv : x - y = v) (h : G l D g ca md pc' lv (.long v :: st) M Q) : G l D g ca md pc lv (.long y :: .long x :: st) M Q := by
  subst hp
  intro p e R s m args below meth c H locs cells slots A ls C0 hc1 hs1 hw hl
  subst hv
  exact lv_lsub C0.1 C0.2.1 hd (h p e R s m args below meth c H locs cells slots A ls C0 hc1 hs1 hw hl)
theorem g_lmul (pc' : Nat) {x y : Int64} (v : Int64) (hd : decode md.2.2.1 pc = .ok (.lmul, 1)) (hp : pc + 1 = pc') (hv : x * y = v) (h : G l D g ca md pc' lv (.long v :: st) M Q) : G l D g ca md pc lv (.long y :: .long x :: st) M Q := by
  subst hp
  intro p e R s m args below meth c H locs cells slots A ls C0 hc1 hs1 hw hl
  subst hv
  exact lv_lmul C0.1 C0.2.1 hd (h p e R s m args below meth c H locs cells slots A ls C0 hc1 hs1 hw hl)
theorem g_dup (pc' : Nat) {v : Value} (hd : decode md.2.2.1 pc = .ok (.dup, 1)) (hp : pc + 1 = pc') (hv : v.category = 1) (h : G l D g ca md pc' lv (v :: v :: st) M Q) : G l D g ca md pc lv (v :: st) M Q := by
  subst hp
  intro p e R s m args below meth c H locs cells slots A ls C0 hc1 hs1 hw hl
  exact lv_dup C0.1 C0.2.1 hd hv (h p e R s m args below meth c H locs cells slots A ls C0 hc1 hs1 hw hl)
theorem g_pop (pc' : Nat) {v : Value} (hd : decode md.2.2.1 pc = .ok (.pop, 1)) (hp : pc + 1 = pc') (hv : v.category = 1) (h : G l D g ca md pc' lv (st) M Q) : G l D g ca md pc lv (v :: st) M Q := by
  subst hp
  intro p e R s m args below meth c H locs cells slots A ls C0 hc1 hs1 hw hl
  exact lv_pop C0.1 C0.2.1 hd hv (h p e R s m args below meth c H locs cells slots A ls C0 hc1 hs1 hw hl)
theorem g_dup_x1 (pc' : Nat) {v u : Value} (hd : decode md.2.2.1 pc = .ok (.dup_x1, 1)) (hp : pc + 1 = pc') (hv : v.category = 1) (hu : u.category = 1) (h : G l D g ca md pc' lv (v :: u :: v :: st) M Q) : G l D g ca md pc lv (v :: u :: st) M Q := by
  subst hp
  intro p e R s m args below meth c H locs cells slots A ls C0 hc1 hs1 hw hl
  exact lv_dup_x1 C0.1 C0.2.1 hd hv hu (h p e R s m args below meth c H locs cells slots A ls C0 hc1 hs1 hw hl)
theorem g_dup2 (pc' : Nat) {v u : Value} (hd : decode md.2.2.1 pc = .ok (.dup2, 1)) (hp : pc + 1 = pc') (hv : v.category = 1) (hu : u.category = 1) (h : G l D g ca md pc' lv (v :: u :: v :: u :: st) M Q) : G l D g ca md pc lv (v :: u :: st) M Q := by
  subst hp
  intro p e R s m args below meth c H locs cells slots A ls C0 hc1 hs1 hw hl
  exact lv_dup2_11 C0.1 C0.2.1 hd hv hu (h p e R s m args below meth c H locs cells slots A ls C0 hc1 hs1 hw hl)
theorem g_istore_n (pc' : Nat) {k : Fin 4} {x : Int32} (lv' : List (Nat × Value)) (hd : decode md.2.2.1 pc = .ok (.istore_n k, 1)) (hp : pc + 1 = pc') (hn : (k : Nat) < md.2.2.2.1) (hl' : ((k : Nat), Value.int x) :: lv.filter (fun q => !(q.1 == (k : Nat)) && !(q.1 + 1 == (k : Nat) && q.2.category == 2)) = lv') (h : G l D g ca md pc' lv' st M Q) : G l D g ca md pc lv (.int x :: st) M Q := by
  subst hp
  intro p e R s m args below meth c H locs cells slots A ls C0 hc1 hs1 hw hl
  exact lv_istore_n C0.1 C0.2.1 hd rfl hl hn hl' (fun ls hl => (h p e R s m args below meth c H locs cells slots A ls C0 hc1 hs1 hw hl))
theorem g_istore (pc' : Nat) {k : Nat} {x : Int32} (lv' : List (Nat × Value)) (hd : decode md.2.2.1 pc = .ok (.istore k, 2)) (hp : pc + 2 = pc') (hn : k < md.2.2.2.1) (hl' : (k, Value.int x) :: lv.filter (fun q => !(q.1 == k) && !(q.1 + 1 == k && q.2.category == 2)) = lv') (h : G l D g ca md pc' lv' st M Q) : G l D g ca md pc lv (.int x :: st) M Q := by
  subst hp
  intro p e R s m args below meth c H locs cells slots A ls C0 hc1 hs1 hw hl
  exact lv_istore C0.1 C0.2.1 hd hl hn hl' (fun ls hl => (h p e R s m args below meth c H locs cells slots A ls C0 hc1 hs1 hw hl))
theorem g_astore_n (pc' : Nat) {k : Fin 4} {x : Nat} (lv' : List (Nat × Value)) (hd : decode md.2.2.1 pc = .ok (.astore_n k, 1)) (hp : pc + 1 = pc') (hn : (k : Nat) < md.2.2.2.1) (hl' : ((k : Nat), Value.ref x) :: lv.filter (fun q => !(q.1 == (k : Nat)) && !(q.1 + 1 == (k : Nat) && q.2.category == 2)) = lv') (h : G l D g ca md pc' lv' st M Q) : G l D g ca md pc lv (.ref x :: st) M Q := by
  subst hp
  intro p e R s m args below meth c H locs cells slots A ls C0 hc1 hs1 hw hl
  exact lv_astore_n C0.1 C0.2.1 hd rfl hl hn hl' (fun ls hl => (h p e R s m args below meth c H locs cells slots A ls C0 hc1 hs1 hw hl))
theorem g_astore (pc' : Nat) {k : Nat} {x : Nat} (lv' : List (Nat × Value)) (hd : decode md.2.2.1 pc = .ok (.astore k, 2)) (hp : pc + 2 = pc') (hn : k < md.2.2.2.1) (hl' : (k, Value.ref x) :: lv.filter (fun q => !(q.1 == k) && !(q.1 + 1 == k && q.2.category == 2)) = lv') (h : G l D g ca md pc' lv' st M Q) : G l D g ca md pc lv (.ref x :: st) M Q := by
  subst hp
  intro p e R s m args below meth c H locs cells slots A ls C0 hc1 hs1 hw hl
  exact lv_astore C0.1 C0.2.1 hd hl hn hl' (fun ls hl => (h p e R s m args below meth c H locs cells slots A ls C0 hc1 hs1 hw hl))
theorem g_iinc (pc' : Nat) {i : Nat} {n : Int} {x : Int32} (v : Int32) (lv' : List (Nat × Value)) (hd : decode md.2.2.1 pc = .ok (.iinc i n, 3)) (hp : pc + 3 = pc') (k : Nat) (hk : lv[k]? = some (i, .int x)) (hv : x + Int32.ofInt n = v) (hn : i < md.2.2.2.1) (hl' : (i, Value.int v) :: lv.filter (fun q => !(q.1 == i) && !(q.1 + 1 == i && q.2.category == 2)) = lv') (h : G l D g ca md pc' lv' st M Q) : G l D g ca md pc lv st M Q := by
  subst hp
  intro p e R s m args below meth c H locs cells slots A ls C0 hc1 hs1 hw hl
  exact lv_iinc C0.1 C0.2.1 hd hl hk hv hn hl' (fun ls hl => (h p e R s m args below meth c H locs cells slots A ls C0 hc1 hs1 hw hl))
theorem g_goto (tgt : Nat) {off : Int} (hd : decode md.2.2.1 pc = .ok (.goto off, 3)) (ht : (pc : Int) + off = (tgt : Int)) (h : G l D g ca md tgt lv st M Q) : G l D g ca md pc lv st M Q := by
  intro p e R s m args below meth c H locs cells slots A ls C0 hc1 hs1 hw hl
  exact lv_goto C0.1 C0.2.1 hd ht (h p e R s m args below meth c H locs cells slots A ls C0 hc1 hs1 hw hl)
-- branches: over ints, over naturals, over a truth value
theorem g_icmp_eq (tgt pc' : Nat) {x y : Int32} {off : Int} (hd : decode md.2.2.1 pc = .ok (.if_icmp .eq off, 3)) (ht : (pc : Int) + off = (tgt : Int)) (hp : pc + 3 = pc') (kt : x = y → G l D g ca md tgt lv st M Q) (kf : ¬ x = y → G l D g ca md pc' lv st M Q) : G l D g ca md pc lv (.int y :: .int x :: st) M Q := by
  subst hp
  intro p e R s m args below meth c H locs cells slots A ls C0 hc1 hs1 hw hl
  exact lv_icmp_eq C0.1 C0.2.1 hd ht (fun c1 => kt (by first | exact c1 | exact c1.symm | exact fun z => c1 z.symm) p e R s m args below meth c H locs cells slots A ls C0 hc1 hs1 hw hl) (fun c1 => kf (by first | exact c1 | exact c1.symm | exact fun z => c1 z.symm) p e R s m args below meth c H locs cells slots A ls C0 hc1 hs1 hw hl)
theorem g_icmpN_eq (tgt pc' : Nat) {a b : Nat} {off : Int} (hd : decode md.2.2.1 pc = .ok (.if_icmp .eq off, 3)) (ht : (pc : Int) + off = (tgt : Int)) (hp : pc + 3 = pc') (ha : a < 2147483648) (hb : b < 2147483648) (kt : a = b → G l D g ca md tgt lv st M Q) (kf : a ≠ b → G l D g ca md pc' lv st M Q) : G l D g ca md pc lv (.int (nI b) :: .int (nI a) :: st) M Q := by
  have e1 := nI_eq ha hb
  have e2 := nI_leI ha hb
  have e3 := nI_leI hb ha
  have e4 := nI_ltI ha hb
  have e5 := nI_ltI hb ha
  exact g_icmp_eq tgt pc' hd ht hp (fun c1 => kt (by first | exact e1.mp c1 | exact fun z => c1 (e1.mpr z) | exact e2.mp c1 | exact e3.mp c1 | exact e4.mp c1 | exact e5.mp c1)) (fun c1 => kf (by first | exact e1.mp c1 | exact fun z => c1 (e1.mpr z) | exact Nat.not_lt.mp (fun z => c1 (e4.mpr z)) | exact Nat.not_lt.mp (fun z => c1 (e5.mpr z)) | exact Nat.not_le.mp (fun z => c1 (e2.mpr z)) | exact Nat.not_le.mp (fun z => c1 (e3.mpr z))))
theorem g_icmp_ne (tgt pc' : Nat) {x y : Int32} {off : Int} (hd : decode md.2.2.1 pc = .ok (.if_icmp .ne off, 3)) (ht : (pc : Int) + off = (tgt : Int)) (hp : pc + 3 = pc') (kt : ¬ x = y → G l D g ca md tgt lv st M Q) (kf : x = y → G l D g ca md pc' lv st M Q) : G l D g ca md pc lv (.int y :: .int x :: st) M Q := by
  subst hp
  intro p e R s m args below meth c H locs cells slots A ls C0 hc1 hs1 hw hl
  exact lv_icmp_ne C0.1 C0.2.1 hd ht (fun c1 => kt (by first | exact c1 | exact c1.symm | exact fun z => c1 z.symm) p e R s m args below meth c H locs cells slots A ls C0 hc1 hs1 hw hl) (fun c1 => kf (by first | exact c1 | exact c1.symm | exact fun z => c1 z.symm) p e R s m args below meth c H locs cells slots A ls C0 hc1 hs1 hw hl)
theorem g_icmpN_ne (tgt pc' : Nat) {a b : Nat} {off : Int} (hd : decode md.2.2.1 pc = .ok (.if_icmp .ne off, 3)) (ht : (pc : Int) + off = (tgt : Int)) (hp : pc + 3 = pc') (ha : a < 2147483648) (hb : b < 2147483648) (kt : a ≠ b → G l D g ca md tgt lv st M Q) (kf : a = b → G l D g ca md pc' lv st M Q) : G l D g ca md pc lv (.int (nI b) :: .int (nI a) :: st) M Q := by
  have e1 := nI_eq ha hb
  have e2 := nI_leI ha hb
  have e3 := nI_leI hb ha
  have e4 := nI_ltI ha hb
  have e5 := nI_ltI hb ha
  exact g_icmp_ne tgt pc' hd ht hp (fun c1 => kt (by first | exact e1.mp c1 | exact fun z => c1 (e1.mpr z) | exact e2.mp c1 | exact e3.mp c1 | exact e4.mp c1 | exact e5.mp c1)) (fun c1 => kf (by first | exact e1.mp c1 | exact fun z => c1 (e1.mpr z) | exact Nat.not_lt.mp (fun z => c1 (e4.mpr z)) | exact Nat.not_lt.mp (fun z => c1 (e5.mpr z)) | exact Nat.not_le.mp (fun z => c1 (e2.mpr z)) | exact Nat.not_le.mp (fun z => c1 (e3.mpr z))))
theorem g_icmp_lt (tgt pc' : Nat) {x y : Int32} {off : Int} (hd : decode md.2.2.1 pc = .ok (.if_icmp .lt off, 3)) (ht : (pc : Int) + off = (tgt : Int)) (hp : pc + 3 = pc') (kt : x < y → G l D g ca md tgt lv st M Q) (kf : ¬ x < y → G l D g ca md pc' lv st M Q) : G l D g ca md pc lv (.int y :: .int x :: st) M Q := by
  subst hp
  intro p e R s m args below meth c H locs cells slots A ls C0 hc1 hs1 hw hl
  exact lv_icmp_lt C0.1 C0.2.1 hd ht (fun c1 => kt (by first | exact c1 | exact c1.symm | exact fun z => c1 z.symm) p e R s m args below meth c H locs cells slots A ls C0 hc1 hs1 hw hl) (fun c1 => kf (by first | exact c1 | exact c1.symm | exact fun z => c1 z.symm) p e R s m args below meth c H locs cells slots A ls C0 hc1 hs1 hw hl)
theorem g_icmpN_lt (tgt pc' : Nat) {a b : Nat} {off : Int} (hd : decode md.2.2.1 pc = .ok (.if_icmp .lt off, 3)) (ht : (pc : Int) + off = (tgt : Int)) (hp : pc + 3 = pc') (ha : a < 2147483648) (hb : b < 2147483648) (kt : a < b → G l D g ca md tgt lv st M Q) (kf : b ≤ a → G l D g ca md pc' lv st M Q) : G l D g ca md pc lv (.int (nI b) :: .int (nI a) :: st) M Q := by
  have e1 := nI_eq ha hb
  have e2 := nI_leI ha hb
  have e3 := nI_leI hb ha
  have e4 := nI_ltI ha hb
  have e5 := nI_ltI hb ha
  exact g_icmp_lt tgt pc' hd ht hp (fun c1 => kt (by first | exact e1.mp c1 | exact fun z => c1 (e1.mpr z) | exact e2.mp c1 | exact e3.mp c1 | exact e4.mp c1 | exact e5.mp c1)) (fun c1 => kf (by first | exact e1.mp c1 | exact fun z => c1 (e1.mpr z) | exact Nat.not_lt.mp (fun z => c1 (e4.mpr z)) | exact Nat.not_lt.mp (fun z => c1 (e5.mpr z)) | exact Nat.not_le.mp (fun z => c1 (e2.mpr z)) | exact Nat.not_le.mp (fun z => c1 (e3.mpr z))))
theorem g_icmp_ge (tgt pc' : Nat) {x y : Int32} {off : Int} (hd : decode md.2.2.1 pc = .ok (.if_icmp .ge off, 3)) (ht : (pc : Int) + off = (tgt : Int)) (hp : pc + 3 = pc') (kt : y ≤ x → G l D g ca md tgt lv st M Q) (kf : ¬ y ≤ x → G l D g ca md pc' lv st M Q) : G l D g ca md pc lv (.int y :: .int x :: st) M Q := by
  subst hp
  intro p e R s m args below meth c H locs cells slots A ls C0 hc1 hs1 hw hl
  exact lv_icmp_ge C0.1 C0.2.1 hd ht (fun c1 => kt (by first | exact c1 | exact c1.symm | exact fun z => c1 z.symm) p e R s m args below meth c H locs cells slots A ls C0 hc1 hs1 hw hl) (fun c1 => kf (by first | exact c1 | exact c1.symm | exact fun z => c1 z.symm) p e R s m args below meth c H locs cells slots A ls C0 hc1 hs1 hw hl)
theorem g_icmpN_ge (tgt pc' : Nat) {a b : Nat} {off : Int} (hd : decode md.2.2.1 pc = .ok (.if_icmp .ge off, 3)) (ht : (pc : Int) + off = (tgt : Int)) (hp : pc + 3 = pc') (ha : a < 2147483648) (hb : b < 2147483648) (kt : b ≤ a → G l D g ca md tgt lv st M Q) (kf : a < b → G l D g ca md pc' lv st M Q) : G l D g ca md pc lv (.int (nI b) :: .int (nI a) :: st) M Q := by
  have e1 := nI_eq ha hb
  have e2 := nI_leI ha hb
  have e3 := nI_leI hb ha
  have e4 := nI_ltI ha hb
  have e5 := nI_ltI hb ha
  exact g_icmp_ge tgt pc' hd ht hp (fun c1 => kt (by first | exact e1.mp c1 | exact fun z => c1 (e1.mpr z) | exact e2.mp c1 | exact e3.mp c1 | exact e4.mp c1 | exact e5.mp c1)) (fun c1 => kf (by first | exact e1.mp c1 | exact fun z => c1 (e1.mpr z) | exact Nat.not_lt.mp (fun z => c1 (e4.mpr z)) | exact Nat.not_lt.mp (fun z => c1 (e5.mpr z)) | exact Nat.not_le.mp (fun z => c1 (e2.mpr z)) | exact Nat.not_le.mp (fun z => c1 (e3.mpr z))))
theorem g_icmp_gt (tgt pc' : Nat) {x y : Int32} {off : Int} (hd : decode md.2.2.1 pc = .ok (.if_icmp .gt off, 3)) (ht : (pc : Int) + off = (tgt : Int)) (hp : pc + 3 = pc') (kt : y < x → G l D g ca md tgt lv st M Q) (kf : ¬ y < x → G l D g ca md pc' lv st M Q) : G l D g ca md pc lv (.int y :: .int x :: st) M Q := by
  subst hp
  intro p e R s m args below meth c H locs cells slots A ls C0 hc1 hs1 hw hl
  exact lv_icmp_gt C0.1 C0.2.1 hd ht (fun c1 => kt (by first | exact c1 | exact c1.symm | exact fun z => c1 z.symm) p e R s m args below meth c H locs cells slots A ls C0 hc1 hs1 hw hl) (fun c1 => kf (by first | exact c1 | exact c1.symm | exact fun z => c1 z.symm) p e R s m args below meth c H locs cells slots A ls C0 hc1 hs1 hw hl)
theorem g_icmpN_gt (tgt pc' : Nat) {a b : Nat} {off : Int} (hd : decode md.2.2.1 pc = .ok (.if_icmp .gt off, 3)) (ht : (pc : Int) + off = (tgt : Int)) (hp : pc + 3 = pc') (ha : a < 2147483648) (hb : b < 2147483648) (kt : b < a → G l D g ca md tgt lv st M Q) (kf : a ≤ b → G l D g ca md pc' lv st M Q) : G l D g ca md pc lv (.int (nI b) :: .int (nI a) :: st) M Q := by
  have e1 := nI_eq ha hb
  have e2 := nI_leI ha hb
  have e3 := nI_leI hb ha
  have e4 := nI_ltI ha hb
  have e5 := nI_ltI hb ha
  exact g_icmp_gt tgt pc' hd ht hp (fun c1 => kt (by first | exact e1.mp c1 | exact fun z => c1 (e1.mpr z) | exact e2.mp c1 | exact e3.mp c1 | exact e4.mp c1 | exact e5.mp c1)) (fun c1 => kf (by first | exact e1.mp c1 | exact fun z => c1 (e1.mpr z) | exact Nat.not_lt.mp (fun z => c1 (e4.mpr z)) | exact Nat.not_lt.mp (fun z => c1 (e5.mpr z)) | exact Nat.not_le.mp (fun z => c1 (e2.mpr z)) | exact Nat.not_le.mp (fun z => c1 (e3.mpr z))))
theorem g_icmp_le (tgt pc' : Nat) {x y : Int32} {off : Int} (hd : decode md.2.2.1 pc = .ok (.if_icmp .le off, 3)) (ht : (pc : Int) + off = (tgt : Int)) (hp : pc + 3 = pc') (kt : x ≤ y → G l D g ca md tgt lv st M Q) (kf : ¬ x ≤ y → G l D g ca md pc' lv st M Q) : G l D g ca md pc lv (.int y :: .int x :: st) M Q := by
  subst hp
  intro p e R s m args below meth c H locs cells slots A ls C0 hc1 hs1 hw hl
  exact lv_icmp_le C0.1 C0.2.1 hd ht (fun c1 => kt (by first | exact c1 | exact c1.symm | exact fun z => c1 z.symm) p e R s m args below meth c H locs cells slots A ls C0 hc1 hs1 hw hl) (fun c1 => kf (by first | exact c1 | exact c1.symm | exact fun z => c1 z.symm) p e R s m args below meth c H locs cells slots A ls C0 hc1 hs1 hw hl)
theorem g_icmpN_le (tgt pc' : Nat) {a b : Nat} {off : Int} (hd : decode md.2.2.1 pc = .ok (.if_icmp .le off, 3)) (ht : (pc : Int) + off = (tgt : Int)) (hp : pc + 3 = pc') (ha : a < 2147483648) (hb : b < 2147483648) (kt : a ≤ b → G l D g ca md tgt lv st M Q) (kf : b < a → G l D g ca md pc' lv st M Q) : G l D g ca md pc lv (.int (nI b) :: .int (nI a) :: st) M Q := by
  have e1 := nI_eq ha hb
  have e2 := nI_leI ha hb
  have e3 := nI_leI hb ha
  have e4 := nI_ltI ha hb
  have e5 := nI_ltI hb ha
  exact g_icmp_le tgt pc' hd ht hp (fun c1 => kt (by first | exact e1.mp c1 | exact fun z => c1 (e1.mpr z) | exact e2.mp c1 | exact e3.mp c1 | exact e4.mp c1 | exact e5.mp c1)) (fun c1 => kf (by first | exact e1.mp c1 | exact fun z => c1 (e1.mpr z) | exact Nat.not_lt.mp (fun z => c1 (e4.mpr z)) | exact Nat.not_lt.mp (fun z => c1 (e5.mpr z)) | exact Nat.not_le.mp (fun z => c1 (e2.mpr z)) | exact Nat.not_le.mp (fun z => c1 (e3.mpr z))))
theorem g_if_eq (tgt pc' : Nat) {x : Int32} {off : Int} (hd : decode md.2.2.1 pc = .ok (.ifCond .eq off, 3)) (ht : (pc : Int) + off = (tgt : Int)) (hp : pc + 3 = pc') (kt : x = 0 → G l D g ca md tgt lv st M Q) (kf : ¬ x = 0 → G l D g ca md pc' lv st M Q) : G l D g ca md pc lv (.int x :: st) M Q := by
  subst hp
  intro p e R s m args below meth c H locs cells slots A ls C0 hc1 hs1 hw hl
  exact lv_if_eq C0.1 C0.2.1 hd ht (fun c1 => kt (by first | exact c1 | exact c1.symm | exact fun z => c1 z.symm) p e R s m args below meth c H locs cells slots A ls C0 hc1 hs1 hw hl) (fun c1 => kf (by first | exact c1 | exact c1.symm | exact fun z => c1 z.symm) p e R s m args below meth c H locs cells slots A ls C0 hc1 hs1 hw hl)
theorem g_if_ne (tgt pc' : Nat) {x : Int32} {off : Int} (hd : decode md.2.2.1 pc = .ok (.ifCond .ne off, 3)) (ht : (pc : Int) + off = (tgt : Int)) (hp : pc + 3 = pc') (kt : ¬ x = 0 → G l D g ca md tgt lv st M Q) (kf : x = 0 → G l D g ca md pc' lv st M Q) : G l D g ca md pc lv (.int x :: st) M Q := by
  subst hp
  intro p e R s m args below meth c H locs cells slots A ls C0 hc1 hs1 hw hl
  exact lv_if_ne C0.1 C0.2.1 hd ht (fun c1 => kt (by first | exact c1 | exact c1.symm | exact fun z => c1 z.symm) p e R s m args below meth c H locs cells slots A ls C0 hc1 hs1 hw hl) (fun c1 => kf (by first | exact c1 | exact c1.symm | exact fun z => c1 z.symm) p e R s m args below meth c H locs cells slots A ls C0 hc1 hs1 hw hl)
theorem g_if_lt (tgt pc' : Nat) {x : Int32} {off : Int} (hd : decode md.2.2.1 pc = .ok (.ifCond .lt off, 3)) (ht : (pc : Int) + off = (tgt : Int)) (hp : pc + 3 = pc') (kt : x < 0 → G l D g ca md tgt lv st M Q) (kf : ¬ x < 0 → G l D g ca md pc' lv st M Q) : G l D g ca md pc lv (.int x :: st) M Q := by
  subst hp
  intro p e R s m args below meth c H locs cells slots A ls C0 hc1 hs1 hw hl
  exact lv_if_lt C0.1 C0.2.1 hd ht (fun c1 => kt (by first | exact c1 | exact c1.symm | exact fun z => c1 z.symm) p e R s m args below meth c H locs cells slots A ls C0 hc1 hs1 hw hl) (fun c1 => kf (by first | exact c1 | exact c1.symm | exact fun z => c1 z.symm) p e R s m args below meth c H locs cells slots A ls C0 hc1 hs1 hw hl)
theorem g_if_ge (tgt pc' : Nat) {x : Int32} {off : Int} (hd : decode md.2.2.1 pc = .ok (.ifCond .ge off, 3)) (ht : (pc : Int) + off = (tgt : Int)) (hp : pc + 3 = pc') (kt : 0 ≤ x → G l D g ca md tgt lv st M Q) (kf : ¬ 0 ≤ x → G l D g ca md pc' lv st M Q) : G l D g ca md pc lv (.int x :: st) M Q := by
  subst hp
  intro p e R s m args below meth c H locs cells slots A ls C0 hc1 hs1 hw hl
  exact lv_if_ge C0.1 C0.2.1 hd ht (fun c1 => kt (by first | exact c1 | exact c1.symm | exact fun z => c1 z.symm) p e R s m args below meth c H locs cells slots A ls C0 hc1 hs1 hw hl) (fun c1 => kf (by first | exact c1 | exact c1.symm | exact fun z => c1 z.symm) p e R s m args below meth c H locs cells slots A ls C0 hc1 hs1 hw hl)
theorem g_if_gt (tgt pc' : Nat) {x : Int32} {off : Int} (hd : decode md.2.2.1 pc = .ok (.ifCond .gt off, 3)) (ht : (pc : Int) + off = (tgt : Int)) (hp : pc + 3 = pc') (kt : 0 < x → G l D g ca md tgt lv st M Q) (kf : ¬ 0 < x → G l D g ca md pc' lv st M Q) : G l D g ca md pc lv (.int x :: st) M Q := by
  subst hp
  intro p e R s m args below meth c H locs cells slots A ls C0 hc1 hs1 hw hl
  exact lv_if_gt C0.1 C0.2.1 hd ht (fun c1 => kt (by first | exact c1 | exact c1.symm | exact fun z => c1 z.symm) p e R s m args below meth c H locs cells slots A ls C0 hc1 hs1 hw hl) (fun c1 => kf (by first | exact c1 | exact c1.symm | exact fun z => c1 z.symm) p e R s m args below meth c H locs cells slots A ls C0 hc1 hs1 hw hl)
theorem g_if_le (tgt pc' : Nat) {x : Int32} {off : Int} (hd : decode md.2.2.1 pc = .ok (.ifCond .le off, 3)) (ht : (pc : Int) + off = (tgt : Int)) (hp : pc + 3 = pc') (kt : x ≤ 0 → G l D g ca md tgt lv st M Q) (kf : ¬ x ≤ 0 → G l D g ca md pc' lv st M Q) : G l D g ca md pc lv (.int x :: st) M Q := by
  subst hp
  intro p e R s m args below meth c H locs cells slots A ls C0 hc1 hs1 hw hl
  exact lv_if_le C0.1 C0.2.1 hd ht (fun c1 => kt (by first | exact c1 | exact c1.symm | exact fun z => c1 z.symm) p e R s m args below meth c H locs cells slots A ls C0 hc1 hs1 hw hl) (fun c1 => kf (by first | exact c1 | exact c1.symm | exact fun z => c1 z.symm) p e R s m args below meth c H locs cells slots A ls C0 hc1 hs1 hw hl)
def bi (b : Bool) : Int32 := if b then 1 else 0
theorem bi_t : bi true = 1 := rfl
theorem bi_f : bi false = 0 := rfl
theorem bi_nar (b : Bool) : narrow .boolean (.int (bi b)) = .int (bi b) := by cases b <;> rfl
theorem g_ifB_eq (tgt pc' : Nat) {b : Bool} {off : Int} (hd : decode md.2.2.1 pc = .ok (.ifCond .eq off, 3)) (ht : (pc : Int) + off = (tgt : Int)) (hp : pc + 3 = pc') (kt : b = false → G l D g ca md tgt lv st M Q) (kf : b = true → G l D g ca md pc' lv st M Q) : G l D g ca md pc lv (.int (bi b) :: st) M Q := by
  refine g_if_eq tgt pc' hd ht hp (fun c1 => kt ?_) (fun c1 => kf ?_)
  · cases b
    · first | rfl | exact absurd rfl c1
    · first | rfl | exact absurd c1 (by decide)
  · cases b
    · first | rfl | exact absurd rfl c1 | exact absurd c1 (by decide) | exact absurd (by decide) c1
    · first | rfl | exact absurd rfl c1 | exact absurd c1 (by decide) | exact absurd (by decide) c1
theorem g_ifB_ne (tgt pc' : Nat) {b : Bool} {off : Int} (hd : decode md.2.2.1 pc = .ok (.ifCond .ne off, 3)) (ht : (pc : Int) + off = (tgt : Int)) (hp : pc + 3 = pc') (kt : b = true → G l D g ca md tgt lv st M Q) (kf : b = false → G l D g ca md pc' lv st M Q) : G l D g ca md pc lv (.int (bi b) :: st) M Q := by
  refine g_if_ne tgt pc' hd ht hp (fun c1 => kt ?_) (fun c1 => kf ?_)
  · cases b
    · first | rfl | exact absurd rfl c1
    · first | rfl | exact absurd c1 (by decide)
  · cases b
    · first | rfl | exact absurd rfl c1 | exact absurd c1 (by decide) | exact absurd (by decide) c1
    · first | rfl | exact absurd rfl c1 | exact absurd c1 (by decide) | exact absurd (by decide) c1
theorem g_ifN_eq (tgt pc' : Nat) {a : Nat} {off : Int} (hd : decode md.2.2.1 pc = .ok (.ifCond .eq off, 3)) (ht : (pc : Int) + off = (tgt : Int)) (hp : pc + 3 = pc') (ha : a < 2147483648) (kt : a = 0 → G l D g ca md tgt lv st M Q) (kf : 0 < a → G l D g ca md pc' lv st M Q) : G l D g ca md pc lv (.int (nI a) :: st) M Q := by
  have e1 : nI a = 0 ↔ a = 0 := nI_eq ha (b := 0) (by decide)
  have e2 : nI a ≤ 0 ↔ a ≤ 0 := nI_leI ha (b := 0) (by decide)
  have e3 : 0 < nI a ↔ 0 < a := nI_ltI (a := 0) (by decide) ha
  refine g_if_eq tgt pc' hd ht hp (fun c1 => kt ?_) (fun c1 => kf ?_)
  · first | exact e1.mp c1 | exact Nat.pos_of_ne_zero (fun z => c1 (e1.mpr z)) | exact Nat.le_zero.mp (e2.mp c1) | exact e3.mp c1
  · first | exact e1.mp c1 | exact Nat.pos_of_ne_zero (fun z => c1 (e1.mpr z)) | exact Nat.pos_of_ne_zero (fun z => c1 (e2.mpr (Nat.le_of_eq z))) | exact Nat.le_zero.mp (Nat.not_lt.mp (fun z => c1 (e3.mpr z)))
theorem g_ifN_ne (tgt pc' : Nat) {a : Nat} {off : Int} (hd : decode md.2.2.1 pc = .ok (.ifCond .ne off, 3)) (ht : (pc : Int) + off = (tgt : Int)) (hp : pc + 3 = pc') (ha : a < 2147483648) (kt : 0 < a → G l D g ca md tgt lv st M Q) (kf : a = 0 → G l D g ca md pc' lv st M Q) : G l D g ca md pc lv (.int (nI a) :: st) M Q := by
  have e1 : nI a = 0 ↔ a = 0 := nI_eq ha (b := 0) (by decide)
  have e2 : nI a ≤ 0 ↔ a ≤ 0 := nI_leI ha (b := 0) (by decide)
  have e3 : 0 < nI a ↔ 0 < a := nI_ltI (a := 0) (by decide) ha
  refine g_if_ne tgt pc' hd ht hp (fun c1 => kt ?_) (fun c1 => kf ?_)
  · first | exact e1.mp c1 | exact Nat.pos_of_ne_zero (fun z => c1 (e1.mpr z)) | exact Nat.le_zero.mp (e2.mp c1) | exact e3.mp c1
  · first | exact e1.mp c1 | exact Nat.pos_of_ne_zero (fun z => c1 (e1.mpr z)) | exact Nat.pos_of_ne_zero (fun z => c1 (e2.mpr (Nat.le_of_eq z))) | exact Nat.le_zero.mp (Nat.not_lt.mp (fun z => c1 (e3.mpr z)))
theorem g_ifN_le (tgt pc' : Nat) {a : Nat} {off : Int} (hd : decode md.2.2.1 pc = .ok (.ifCond .le off, 3)) (ht : (pc : Int) + off = (tgt : Int)) (hp : pc + 3 = pc') (ha : a < 2147483648) (kt : a = 0 → G l D g ca md tgt lv st M Q) (kf : 0 < a → G l D g ca md pc' lv st M Q) : G l D g ca md pc lv (.int (nI a) :: st) M Q := by
  have e1 : nI a = 0 ↔ a = 0 := nI_eq ha (b := 0) (by decide)
  have e2 : nI a ≤ 0 ↔ a ≤ 0 := nI_leI ha (b := 0) (by decide)
  have e3 : 0 < nI a ↔ 0 < a := nI_ltI (a := 0) (by decide) ha
  refine g_if_le tgt pc' hd ht hp (fun c1 => kt ?_) (fun c1 => kf ?_)
  · first | exact e1.mp c1 | exact Nat.pos_of_ne_zero (fun z => c1 (e1.mpr z)) | exact Nat.le_zero.mp (e2.mp c1) | exact e3.mp c1
  · first | exact e1.mp c1 | exact Nat.pos_of_ne_zero (fun z => c1 (e1.mpr z)) | exact Nat.pos_of_ne_zero (fun z => c1 (e2.mpr (Nat.le_of_eq z))) | exact Nat.le_zero.mp (Nat.not_lt.mp (fun z => c1 (e3.mpr z)))
theorem g_ifN_gt (tgt pc' : Nat) {a : Nat} {off : Int} (hd : decode md.2.2.1 pc = .ok (.ifCond .gt off, 3)) (ht : (pc : Int) + off = (tgt : Int)) (hp : pc + 3 = pc') (ha : a < 2147483648) (kt : 0 < a → G l D g ca md tgt lv st M Q) (kf : a = 0 → G l D g ca md pc' lv st M Q) : G l D g ca md pc lv (.int (nI a) :: st) M Q := by
  have e1 : nI a = 0 ↔ a = 0 := nI_eq ha (b := 0) (by decide)
  have e2 : nI a ≤ 0 ↔ a ≤ 0 := nI_leI ha (b := 0) (by decide)
  have e3 : 0 < nI a ↔ 0 < a := nI_ltI (a := 0) (by decide) ha
  refine g_if_gt tgt pc' hd ht hp (fun c1 => kt ?_) (fun c1 => kf ?_)
  · first | exact e1.mp c1 | exact Nat.pos_of_ne_zero (fun z => c1 (e1.mpr z)) | exact Nat.le_zero.mp (e2.mp c1) | exact e3.mp c1
  · first | exact e1.mp c1 | exact Nat.pos_of_ne_zero (fun z => c1 (e1.mpr z)) | exact Nat.pos_of_ne_zero (fun z => c1 (e2.mpr (Nat.le_of_eq z))) | exact Nat.le_zero.mp (Nat.not_lt.mp (fun z => c1 (e3.mpr z)))
theorem g_tableIn {dflt lo hi : Int} {offs : Array Int} {len : Nat} {x : Int32} {off : Int} (tgt : Nat) (hd : decode md.2.2.1 pc = .ok (.tableswitch dflt lo hi offs, len)) (h1 : ¬ x.toInt < lo) (h2 : ¬ hi < x.toInt) (ho : offs[(x.toInt - lo).toNat]? = some off) (ht : (pc : Int) + off = (tgt : Int)) (h : G l D g ca md tgt lv st M Q) : G l D g ca md pc lv (.int x :: st) M Q := by
  intro p e R s m args below meth c H locs cells slots A ls C0 hc1 hs1 hw hl
  exact lv_tableIn C0.1 C0.2.1 hd h1 h2 ho ht (h p e R s m args below meth c H locs cells slots A ls C0 hc1 hs1 hw hl)
theorem g_tableOut {dflt lo hi : Int} {offs : Array Int} {len : Nat} {x : Int32} (tgt : Nat) (hd : decode md.2.2.1 pc = .ok (.tableswitch dflt lo hi offs, len)) (h1 : x.toInt < lo ∨ hi < x.toInt) (ht : (pc : Int) + dflt = (tgt : Int)) (h : G l D g ca md tgt lv st M Q) : G l D g ca md pc lv (.int x :: st) M Q := by
  intro p e R s m args below meth c H locs cells slots A ls C0 hc1 hs1 hw hl
  exact lv_tableOut C0.1 C0.2.1 hd h1 ht (h p e R s m args below meth c H locs cells slots A ls C0 hc1 hs1 hw hl)
theorem g_iret {q : Int32 → Mm → Prop} {x : Int32} (hr : md.2.2.2.2.1 = some .int) (hd : decode md.2.2.1 pc = .ok (.ireturn, 1)) (h : q x M) : G l D g ca md pc lv [.int x] M (Ri q) := by
  intro p e R s m args below meth c H locs cells slots A ls C0 hc1 hs1 hw hl
  exact W.iret C0.1 C0.2.1 (C0.2.2.1.trans hr) (fun t ht hW => ⟨⟨_, M, rfl, ⟨x, rfl, h⟩, by rw [ht]; exact hw.1⟩, hw.2.2.1.F ht⟩) hw.2.2.1.2.2 hd C0.2.2.2.2.2.2.1
theorem g_zret {q : Int32 → Mm → Prop} {x : Int32} (hr : md.2.2.2.2.1 = some .boolean) (hd : decode md.2.2.1 pc = .ok (.ireturn, 1)) (hx : narrow .boolean (.int x) = .int x) (h : q x M) : G l D g ca md pc lv [.int x] M (Ri q) := by
  intro p e R s m args below meth c H locs cells slots A ls C0 hc1 hs1 hw hl
  exact W.zret C0.1 C0.2.1 (C0.2.2.1.trans hr) hx (fun t ht hW => ⟨⟨_, M, rfl, ⟨x, rfl, h⟩, by rw [ht]; exact hw.1⟩, hw.2.2.1.F ht⟩) hw.2.2.1.2.2 hd C0.2.2.2.2.2.2.1
theorem g_vret {q : Mm → Prop} (hr : md.2.2.2.2.1 = none) (hd : decode md.2.2.1 pc = .ok (.return_, 1)) (h : q M) : G l D g ca md pc lv [] M (Rv q) := by
  intro p e R s m args below meth c H locs cells slots A ls C0 hc1 hs1 hw hl
  exact W.vret C0.1 C0.2.1 (C0.2.2.1.trans hr) (fun t ht hW => ⟨⟨_, M, rfl, ⟨rfl, h⟩, by rw [ht]; exact hw.1⟩, hw.2.2.1.F ht⟩) hw.2.2.1.2.2 hd C0.2.2.2.2.2.2.1
theorem g_lret {q : Int64 → Mm → Prop} {x : Int64} (hr : md.2.2.2.2.1 = some .long) (hd : decode md.2.2.1 pc = .ok (.lreturn, 1)) (h : q x M) : G l D g ca md pc lv [.long x] M (Rl q) := by
  intro p e R s m args below meth c H locs cells slots A ls C0 hc1 hs1 hw hl
  exact W.lret C0.1 C0.2.1 (C0.2.2.1.trans hr) (fun t ht hW => ⟨⟨_, M, rfl, ⟨x, rfl, h⟩, by rw [ht]; exact hw.1⟩, hw.2.2.1.F ht⟩) hw.2.2.1.2.2 hd C0.2.2.2.2.2.2.1
/-- a field of the tables: entry idx of the class own's pool is slot k of class ci -/
def FK (own : String) (idx ci k : Nat) : Prop := ∃ (C : String) (T : u_T) (N : Nat) (ty0 : Nat → FieldType), vwCl[ci]? = some (C, T, N) ∧ k < N ∧ (∀ w ∈ u_ws C T N, w ∈ wsA) ∧ Cond.fieldLink own idx (T k).1 (T k).2.1 (T k).2.2.1 ∈ wsA ∧ (∀ k, k < N → parseFieldDescriptor (T k).2.2.1 = some (ty0 k)) ∧ (∀ a, a < N → ∀ b, b < N → a ≠ b → (T a).2.1 ≠ (T b).2.1)
/-- a field that may be put, of that type -/
def PK (ci k : Nat) (ty : FieldType) : Prop := ∀ (C : String) (T : u_T) (N : Nat), vwCl[ci]? = some (C, T, N) → (T k).2.2.2 = false ∧ parseFieldDescriptor (T k).2.2.1 = some ty
theorem g_getf (pc' : Nat) {idx ci k o : Nat} {d : Nat × Nat} (hd : decode md.2.2.1 pc = .ok (.getfield idx, 3)) (hp : pc + 3 = pc') (hf : FK md.1 idx ci k) (hk : kd o = ci) (hci : ci < 8) (ht : (ftab ci)[k]? = some d) (h : G l D g ca md pc' lv (fval g M o k d :: st) M Q) : G l D g ca md pc lv (.ref (g o 0) :: st) M Q := by
  subst hp
  obtain ⟨C, T, N, ty0, f1, f2, f3, f4, f5, f6⟩ := hf
  obtain ⟨k0, hk0⟩ := PL_at (c := 0) hk hci (Or.inl rfl)
  intro p e R s m args below meth c H locs cells slots A ls C0 hc1 hs1 hw hl
  exact va_get (D := D) (ci := ci) C0.1 C0.2.1 C0.2.2.2.2.2.1 f3 C0.2.2.2.2.1 C0.2.2.2.2.2.2.2.2.2 hw.1 k0 ((Wd_get hk0).trans (by rw [cellE_obj hk])) f1 k f2 (C0.2.2.2.2.2.1 _ f4) (fun _ z => z) (flds_get ht) hd (h p e R s m args below meth c H locs cells slots A ls C0 hc1 hs1 hw hl)
theorem g_get (pc' : Nat) {idx ci k o z : Nat} (v : Int32) (hd : decode md.2.2.1 pc = .ok (.getfield idx, 3)) (hp : pc + 3 = pc') (hf : FK md.1 idx ci k) (hk : kd o = ci) (hci : ci < 8) (ht : (ftab ci)[k]? = some (0, z)) (hv : M.1 o 0 k = v) (h : G l D g ca md pc' lv (.int v :: st) M Q) : G l D g ca md pc lv (.ref (g o 0) :: st) M Q :=
  g_getf pc' hd hp hf hk hci ht (by subst hv; exact h)
theorem g_geta (pc' c : Nat) {idx ci k o z : Nat} (hd : decode md.2.2.1 pc = .ok (.getfield idx, 3)) (hp : pc + 3 = pc') (hf : FK md.1 idx ci k) (hk : kd o = ci) (hci : ci < 8) (ht : (ftab ci)[k]? = some (1, z)) (hc : k + 1 = c) (h : G l D g ca md pc' lv (.ref (g o c) :: st) M Q) : G l D g ca md pc lv (.ref (g o 0) :: st) M Q :=
  g_getf pc' hd hp hf hk hci ht (by subst hc; exact h)
theorem g_geto (pc' : Nat) {idx ci k o z : Nat} (hd : decode md.2.2.1 pc = .ok (.getfield idx, 3)) (hp : pc + 3 = pc') (hf : FK md.1 idx ci k) (hk : kd o = ci) (hci : ci < 8) (ht : (ftab ci)[k]? = some (2, z)) (h : G l D g ca md pc' lv (.ref (g z 0) :: st) M Q) : G l D g ca md pc lv (.ref (g o 0) :: st) M Q :=
  g_getf pc' hd hp hf hk hci ht h
theorem g_gets (pc' : Nat) {idx ci k o z : Nat} (o2 : Nat) (hd : decode md.2.2.1 pc = .ok (.getfield idx, 3)) (hp : pc + 3 = pc') (hf : FK md.1 idx ci k) (hk : kd o = ci) (hci : ci < 8) (ht : (ftab ci)[k]? = some (3, z)) (hv : M.1 o 0 k = nI o2) (h2 : o2 < 2147483648) (h : G l D g ca md pc' lv (.ref (g o2 0) :: st) M Q) : G l D g ca md pc lv (.ref (g o 0) :: st) M Q :=
  g_getf pc' hd hp hf hk hci ht (by
    have e : fval g M o k (3, z) = .ref (g o2 0) := by show Value.ref (g (M.1 o 0 k).toNatClampNeg 0) = _; rw [hv, nI_clamp h2]
    rw [e]; exact h)
theorem g_getl (pc' : Nat) {idx ci k o z : Nat} (v : Int64) (hd : decode md.2.2.1 pc = .ok (.getfield idx, 3)) (hp : pc + 3 = pc') (hf : FK md.1 idx ci k) (hk : kd o = ci) (hci : ci < 8) (ht : (ftab ci)[k]? = some (4, z)) (hv : M.2 = v) (h : G l D g ca md pc' lv (.long v :: st) M Q) : G l D g ca md pc lv (.ref (g o 0) :: st) M Q :=
  g_getf pc' hd hp hf hk hci ht (by subst hv; exact h)
theorem g_putG (pc' : Nat) {idx ci k o : Nat} {v : Value} {ty : FieldType} (M' : Mm) (hd : decode md.2.2.1 pc = .ok (.putfield idx, 3)) (hp : pc + 3 = pc') (hf : FK md.1 idx ci k) (hpk : PK ci k ty) (hk : kd o = ci) (hci : ci < 8) (hl0 : k < (ftab ci).length) (hn : narrow ty v = v) (hfit : fits ty v = true)
    (hE : ∀ o' c', (c' = 0 ∨ (atab (kd o') c').isSome = true) → ¬ (o' = o ∧ c' = 0) → cellE g ca M' o' c' = cellE g ca M o' c') (hF : flds g M' o ci = (flds g M o ci).set k v) (h : G l D g ca md pc' lv st M' Q) : G l D g ca md pc lv (v :: .ref (g o 0) :: st) M Q := by
  subst hp
  obtain ⟨C, T, N, ty0, f1, f2, f3, f4, f5, f6⟩ := hf
  obtain ⟨p1, p2⟩ := hpk C T N f1
  obtain ⟨k0, hk0⟩ := PL_at (c := 0) hk hci (Or.inl rfl)
  intro p e R s m args below meth c H locs cells slots A ls C0 hc1 hs1 hw hl
  refine va_put (D := D) (ci := ci) C0.1 C0.2.1 C0.2.2.2.2.2.1 f3 ty0 f5 f6 C0.2.2.2.2.1 C0.2.2.2.2.2.2.2.2.2 hw.1 hw.2.1 hw.2.2.1 k0 ((Wd_get hk0).trans (by rw [cellE_obj hk])) f1 k f2 (C0.2.2.2.2.2.1 _ f4) (fun _ z => z) p1 p2 hn hfit (by unfold flds; rw [List.length_mapIdx]; exact hl0) hd (fun H1 locs1 hP1 hD1 hS1 => ?_)
  rw [← hF, ← cellE_obj (g := g) (ca := ca) (M := M') hk, Wd_set hk0 hE] at hP1
  exact h p e R s m args below meth c H1 locs1 cells slots A ls C0 hc1 hs1 ⟨hP1, Wd_D hw.2.1, hS1, hw.2.2.2⟩ hl
theorem g_put (pc' : Nat) {idx ci k o z : Nat} {x : Int32} (hd : decode md.2.2.1 pc = .ok (.putfield idx, 3)) (hp : pc + 3 = pc') (hf : FK md.1 idx ci k) (hpk : PK ci k .int) (hk : kd o = ci) (hci : ci < 8) (ht : (ftab ci)[k]? = some (0, z)) (h : G l D g ca md pc' lv st (wr M o 0 k x) Q) : G l D g ca md pc lv (.int x :: .ref (g o 0) :: st) M Q :=
  g_putG pc' (wr M o 0 k x) hd hp hf hpk hk hci (List.getElem?_eq_some_iff.mp ht).1 rfl rfl (fun o' c' => cellE_wr) (flds_wr ht (congrArg Value.int wr_eq)) h
theorem g_puts (pc' : Nat) {idx ci k o z o2 : Nat} {C2 : String} (hd : decode md.2.2.1 pc = .ok (.putfield idx, 3)) (hp : pc + 3 = pc') (hf : FK md.1 idx ci k) (hpk : PK ci k (.object C2)) (hk : kd o = ci) (hci : ci < 8) (ht : (ftab ci)[k]? = some (3, z)) (h2 : o2 < 2147483648) (h : G l D g ca md pc' lv st (wr M o 0 k (nI o2)) Q) : G l D g ca md pc lv (.ref (g o2 0) :: .ref (g o 0) :: st) M Q :=
  g_putG pc' (wr M o 0 k (nI o2)) hd hp hf hpk hk hci (List.getElem?_eq_some_iff.mp ht).1 rfl rfl (fun o' c' => cellE_wr) (flds_wr ht (by show Value.ref (g ((wr M o 0 k (nI o2)).1 o 0 k).toNatClampNeg 0) = _; rw [wr_eq, nI_clamp h2])) h
theorem fval_lt {M' : Mm} {k o : Nat} {d : Nat × Nat} (h : M'.1 = M.1) (hd : d.1 < 4) : fval g M' o k d = fval g M o k d := by
  obtain ⟨d1, d2⟩ := d
  match d1, hd with
  | 0, _ => show Value.int (M'.1 o 0 k) = Value.int (M.1 o 0 k); rw [h]
  | 1, _ => rfl
  | 2, _ => rfl
  | 3, _ => show Value.ref (g (M'.1 o 0 k).toNatClampNeg 0) = Value.ref (g (M.1 o 0 k).toNatClampNeg 0); rw [h]
  | d1 + 4, hd => exact absurd hd (by show ¬ (d1 + 4 < 4); omega)
theorem ftab7 : ∀ i : Fin 28, ((ftab 7)[i.val]?).all (fun q => decide (q.1 < 4) || decide (i.val = 10)) = true := by decide
theorem flds_lg {o : Nat} {x : Int64} : flds g (M.1, x) o 7 = (flds g M o 7).set 10 (.long x) := by
  apply List.ext_getElem?
  intro i
  have hl : 10 < (flds g M o 7).length := by
    unfold flds; rw [List.length_mapIdx]; decide
  by_cases hi : i = 10
  · subst hi
    rw [List.getElem?_set_self hl]
    exact flds_get (d := (4, 0)) rfl
  · rw [List.getElem?_set_ne (Ne.symm hi)]
    unfold flds
    rw [List.getElem?_mapIdx, List.getElem?_mapIdx]
    cases hq : (ftab 7)[i]? with
    | none => rfl
    | some q =>
      have hlt : i < 28 := (List.getElem?_eq_some_iff.mp hq).1
      have h7 := ftab7 ⟨i, hlt⟩
      rw [hq] at h7
      have h8 : (decide (q.1 < 4) || decide (i = 10)) = true := h7
      rw [decide_eq_false hi, Bool.or_false] at h8
      exact congrArg some (fval_lt rfl (of_decide_eq_true h8))
theorem g_putl (pc' : Nat) {idx : Nat} {x : Int64} (hd : decode md.2.2.1 pc = .ok (.putfield idx, 3)) (hp : pc + 3 = pc') (hf : FK md.1 idx 7 10) (hpk : PK 7 10 .long) (h : G l D g ca md pc' lv st (M.1, x) Q) : G l D g ca md pc lv (.long x :: .ref (g 18 0) :: st) M Q :=
  g_putG pc' (M.1, x) hd hp hf hpk (by decide) (by decide) (by decide) rfl rfl (fun o' c' z1 z2 => cellE_lg z2 z1) flds_lg h
theorem g_ialdI (pc' : Nat) {ci o c n : Nat} {i : Int32} (v : Int32) (hd : decode md.2.2.1 pc = .ok (.iaload, 1)) (hp : pc + 1 = pc') (hk : kd o = ci) (hci : ci < 8) (ha : atab ci c = some (0, n)) (hin : vp_in i n) (hv : M.1 o c i.toNatClampNeg = v) (h : G l D g ca md pc' lv (.int v :: st) M Q) : G l D g ca md pc lv (.int i :: .ref (g o c) :: st) M Q := by
  subst hp; subst hv
  obtain ⟨k0, hk0⟩ := PL_at (c := c) hk hci (Or.inr (by rw [ha]; rfl))
  have c0 := hd
  intro p e R s m args below meth cd H locs cells slots A ls C0 hc1 hs1 hw hl
  exact va_iald C0.1 C0.2.1 C0.2.2.2.2.2.2.2.2.2 hw.1 k0 0 ((Wd_get hk0).trans (by rw [cellE_arr hk ha (by decide)])) rfl hin hd (h p e R s m args below meth cd H locs cells slots A ls C0 hc1 hs1 hw hl)
theorem g_iald (pc' : Nat) {ci o c n k : Nat} (v : Int32) (hd : decode md.2.2.1 pc = .ok (.iaload, 1)) (hp : pc + 1 = pc') (hk : kd o = ci) (hci : ci < 8) (ha : atab ci c = some (0, n)) (hn : n < 2147483648) (hin : k < n) (hv : M.1 o c k = v) (h : G l D g ca md pc' lv (.int v :: st) M Q) : G l D g ca md pc lv (.int (nI k) :: .ref (g o c) :: st) M Q :=
  g_ialdI pc' v hd hp hk hci ha (vp_in_nI hin hn) (by rw [nI_clamp (Nat.lt_trans hin hn)]; exact hv) h
theorem g_baldI (pc' : Nat) {ci o c n : Nat} {i : Int32} (v : Int32) (hd : decode md.2.2.1 pc = .ok (.baload, 1)) (hp : pc + 1 = pc') (hk : kd o = ci) (hci : ci < 8) (ha : atab ci c = some (1, n)) (hin : vp_in i n) (hv : M.1 o c i.toNatClampNeg = v) (h : G l D g ca md pc' lv (.int v :: st) M Q) : G l D g ca md pc lv (.int i :: .ref (g o c) :: st) M Q := by
  subst hp; subst hv
  obtain ⟨k0, hk0⟩ := PL_at (c := c) hk hci (Or.inr (by rw [ha]; rfl))
  have c0 := hd
  intro p e R s m args below meth cd H locs cells slots A ls C0 hc1 hs1 hw hl
  exact va_bald C0.1 C0.2.1 C0.2.2.2.2.2.2.2.2.2 hw.1 k0 1 ((Wd_get hk0).trans (by rw [cellE_arr hk ha (by decide)])) rfl hin hd (h p e R s m args below meth cd H locs cells slots A ls C0 hc1 hs1 hw hl)
theorem g_bald (pc' : Nat) {ci o c n k : Nat} (v : Int32) (hd : decode md.2.2.1 pc = .ok (.baload, 1)) (hp : pc + 1 = pc') (hk : kd o = ci) (hci : ci < 8) (ha : atab ci c = some (1, n)) (hn : n < 2147483648) (hin : k < n) (hv : M.1 o c k = v) (h : G l D g ca md pc' lv (.int v :: st) M Q) : G l D g ca md pc lv (.int (nI k) :: .ref (g o c) :: st) M Q :=
  g_baldI pc' v hd hp hk hci ha (vp_in_nI hin hn) (by rw [nI_clamp (Nat.lt_trans hin hn)]; exact hv) h
theorem g_zaldI (pc' : Nat) {ci o c n : Nat} {i : Int32} (v : Int32) (hd : decode md.2.2.1 pc = .ok (.baload, 1)) (hp : pc + 1 = pc') (hk : kd o = ci) (hci : ci < 8) (ha : atab ci c = some (2, n)) (hin : vp_in i n) (hv : M.1 o c i.toNatClampNeg = v) (h : G l D g ca md pc' lv (.int v :: st) M Q) : G l D g ca md pc lv (.int i :: .ref (g o c) :: st) M Q := by
  subst hp; subst hv
  obtain ⟨k0, hk0⟩ := PL_at (c := c) hk hci (Or.inr (by rw [ha]; rfl))
  have c0 := hd
  intro p e R s m args below meth cd H locs cells slots A ls C0 hc1 hs1 hw hl
  exact va_zald C0.1 C0.2.1 C0.2.2.2.2.2.2.2.2.2 hw.1 k0 2 ((Wd_get hk0).trans (by rw [cellE_arr hk ha (by decide)])) rfl hin hd (h p e R s m args below meth cd H locs cells slots A ls C0 hc1 hs1 hw hl)
theorem g_zald (pc' : Nat) {ci o c n k : Nat} (v : Int32) (hd : decode md.2.2.1 pc = .ok (.baload, 1)) (hp : pc + 1 = pc') (hk : kd o = ci) (hci : ci < 8) (ha : atab ci c = some (2, n)) (hn : n < 2147483648) (hin : k < n) (hv : M.1 o c k = v) (h : G l D g ca md pc' lv (.int v :: st) M Q) : G l D g ca md pc lv (.int (nI k) :: .ref (g o c) :: st) M Q :=
  g_zaldI pc' v hd hp hk hci ha (vp_in_nI hin hn) (by rw [nI_clamp (Nat.lt_trans hin hn)]; exact hv) h
theorem g_iastI (pc' : Nat) {ci o c n : Nat} {i x : Int32} (hd : decode md.2.2.1 pc = .ok (.iastore, 1)) (hp : pc + 1 = pc') (hk : kd o = ci) (hci : ci < 8) (ha : atab ci c = some (0, n)) (hin : vp_in i n) (h : G l D g ca md pc' lv st (wr M o c i.toNatClampNeg (x)) Q) : G l D g ca md pc lv (.int x :: .int i :: .ref (g o c) :: st) M Q := by
  subst hp
  obtain ⟨k0, hk0⟩ := PL_at (c := c) hk hci (Or.inr (by rw [ha]; rfl))
  intro p e R s m args below meth cd H locs cells slots A ls C0 hc1 hs1 hw hl
  refine va_iast C0.1 C0.2.1 C0.2.2.2.2.2.2.2.2.2 hw.1 hw.2.1 hw.2.2.1 k0 0 ((Wd_get hk0).trans (by rw [cellE_arr hk ha (by decide)])) rfl hin hd (fun H1 locs1 hP1 hD1 hS1 => ?_)
  have eE : (Sum.inl (ca 0, n, Sum.inl (upd (M.1 o c) i.toNatClampNeg (x))) : va_E) = cellE g ca (wr M o c i.toNatClampNeg (x)) o c := by
    rw [cellE_arr hk ha (by decide)]
    congr 4
    funext j
    rw [wr_at]
    unfold upd
    by_cases hj : j = i.toNatClampNeg
    · simp [hj]
    · simp [hj]
  rw [eE, Wd_set hk0 (fun o' c' => cellE_wr)] at hP1
  exact h p e R s m args below meth cd H1 locs1 cells slots A ls C0 hc1 hs1 ⟨hP1, Wd_D hw.2.1, hS1, hw.2.2.2⟩ hl
theorem g_iast (pc' : Nat) {ci o c n k : Nat} {x : Int32} (hd : decode md.2.2.1 pc = .ok (.iastore, 1)) (hp : pc + 1 = pc') (hk : kd o = ci) (hci : ci < 8) (ha : atab ci c = some (0, n)) (hn : n < 2147483648) (hin : k < n) (h : G l D g ca md pc' lv st (wr M o c k (x)) Q) : G l D g ca md pc lv (.int x :: .int (nI k) :: .ref (g o c) :: st) M Q :=
  g_iastI pc' hd hp hk hci ha (vp_in_nI hin hn) (by rw [nI_clamp (Nat.lt_trans hin hn)]; exact h)
theorem g_bastI (pc' : Nat) {ci o c n : Nat} {i x : Int32} (hd : decode md.2.2.1 pc = .ok (.bastore, 1)) (hp : pc + 1 = pc') (hk : kd o = ci) (hci : ci < 8) (ha : atab ci c = some (1, n)) (hin : vp_in i n) (h : G l D g ca md pc' lv st (wr M o c i.toNatClampNeg (vp_nar .byte x)) Q) : G l D g ca md pc lv (.int x :: .int i :: .ref (g o c) :: st) M Q := by
  subst hp
  obtain ⟨k0, hk0⟩ := PL_at (c := c) hk hci (Or.inr (by rw [ha]; rfl))
  intro p e R s m args below meth cd H locs cells slots A ls C0 hc1 hs1 hw hl
  refine va_bast C0.1 C0.2.1 C0.2.2.2.2.2.2.2.2.2 hw.1 hw.2.1 hw.2.2.1 k0 1 ((Wd_get hk0).trans (by rw [cellE_arr hk ha (by decide)])) rfl hin hd (fun H1 locs1 hP1 hD1 hS1 => ?_)
  have eE : (Sum.inl (ca 1, n, Sum.inl (upd (M.1 o c) i.toNatClampNeg (vp_nar .byte x))) : va_E) = cellE g ca (wr M o c i.toNatClampNeg (vp_nar .byte x)) o c := by
    rw [cellE_arr hk ha (by decide)]
    congr 4
    funext j
    rw [wr_at]
    unfold upd
    by_cases hj : j = i.toNatClampNeg
    · simp [hj]
    · simp [hj]
  rw [eE, Wd_set hk0 (fun o' c' => cellE_wr)] at hP1
  exact h p e R s m args below meth cd H1 locs1 cells slots A ls C0 hc1 hs1 ⟨hP1, Wd_D hw.2.1, hS1, hw.2.2.2⟩ hl
theorem g_bast (pc' : Nat) {ci o c n k : Nat} {x : Int32} (hd : decode md.2.2.1 pc = .ok (.bastore, 1)) (hp : pc + 1 = pc') (hk : kd o = ci) (hci : ci < 8) (ha : atab ci c = some (1, n)) (hn : n < 2147483648) (hin : k < n) (h : G l D g ca md pc' lv st (wr M o c k (vp_nar .byte x)) Q) : G l D g ca md pc lv (.int x :: .int (nI k) :: .ref (g o c) :: st) M Q :=
  g_bastI pc' hd hp hk hci ha (vp_in_nI hin hn) (by rw [nI_clamp (Nat.lt_trans hin hn)]; exact h)
theorem g_zastI (pc' : Nat) {ci o c n : Nat} {i x : Int32} (hd : decode md.2.2.1 pc = .ok (.bastore, 1)) (hp : pc + 1 = pc') (hk : kd o = ci) (hci : ci < 8) (ha : atab ci c = some (2, n)) (hin : vp_in i n) (hx : x = 0 ∨ x = 1) (h : G l D g ca md pc' lv st (wr M o c i.toNatClampNeg (x)) Q) : G l D g ca md pc lv (.int x :: .int i :: .ref (g o c) :: st) M Q := by
  subst hp
  obtain ⟨k0, hk0⟩ := PL_at (c := c) hk hci (Or.inr (by rw [ha]; rfl))
  intro p e R s m args below meth cd H locs cells slots A ls C0 hc1 hs1 hw hl
  refine va_zast C0.1 C0.2.1 C0.2.2.2.2.2.2.2.2.2 hw.1 hw.2.1 hw.2.2.1 k0 2 ((Wd_get hk0).trans (by rw [cellE_arr hk ha (by decide)])) rfl hin hd (fun H1 locs1 hP1 hD1 hS1 => ?_)
  have eE : (Sum.inl (ca 2, n, Sum.inl (upd (M.1 o c) i.toNatClampNeg (vp_nar .boolean x))) : va_E) = cellE g ca (wr M o c i.toNatClampNeg (x)) o c := by
    rw [cellE_arr hk ha (by decide)]
    congr 4
    funext j
    rw [wr_at]
    unfold upd
    by_cases hj : j = i.toNatClampNeg
    · rw [if_pos hj, if_pos ⟨rfl, rfl, hj⟩]; rcases hx with rfl | rfl <;> rfl
    · simp [hj]
  rw [eE, Wd_set hk0 (fun o' c' => cellE_wr)] at hP1
  exact h p e R s m args below meth cd H1 locs1 cells slots A ls C0 hc1 hs1 ⟨hP1, Wd_D hw.2.1, hS1, hw.2.2.2⟩ hl
theorem g_zast (pc' : Nat) {ci o c n k : Nat} {x : Int32} (hd : decode md.2.2.1 pc = .ok (.bastore, 1)) (hp : pc + 1 = pc') (hk : kd o = ci) (hci : ci < 8) (ha : atab ci c = some (2, n)) (hn : n < 2147483648) (hin : k < n) (hx : x = 0 ∨ x = 1) (h : G l D g ca md pc' lv st (wr M o c k (x)) Q) : G l D g ca md pc lv (.int x :: .int (nI k) :: .ref (g o c) :: st) M Q :=
  g_zastI pc' hd hp hk hci ha (vp_in_nI hin hn) hx (by rw [nI_clamp (Nat.lt_trans hin hn)]; exact h)
theorem g_alen (pc' : Nat) {ci o c t n : Nat} (hd : decode md.2.2.1 pc = .ok (.arraylength, 1)) (hp : pc + 1 = pc') (hk : kd o = ci) (hci : ci < 8) (ha : atab ci c = some (t, n)) (ht : t < 3) (h : G l D g ca md pc' lv (.int (nI n) :: st) M Q) : G l D g ca md pc lv (.ref (g o c) :: st) M Q := by
  subst hp
  obtain ⟨k0, hk0⟩ := PL_at (c := c) hk hci (Or.inr (by rw [ha]; rfl))
  intro p e R s m args below meth cd H locs cells slots A ls C0 hc1 hs1 hw hl
  have hty : ∃ ty, (tyl ca)[t]? = some (ca t, ty) := by
    match t, ht with
    | 0, _ => exact ⟨_, rfl⟩
    | 1, _ => exact ⟨_, rfl⟩
    | 2, _ => exact ⟨_, rfl⟩
  obtain ⟨ty, hty⟩ := hty
  exact va_alen (x := (n, .inl (M.1 o c))) C0.1 C0.2.1 C0.2.2.2.2.2.2.2.2.2 hw.1 k0 t ((Wd_get hk0).trans (by rw [cellE_arr hk ha (by omega)])) hty rfl hd (h p e R s m args below meth cd H locs cells slots A ls C0 hc1 hs1 hw hl)
theorem g_aald (pc' : Nat) {o k : Nat} (hd : decode md.2.2.1 pc = .ok (.aaload, 1)) (hp : pc + 1 = pc') (hk : kd o = 0) (hin : k < 10) (h : G l D g ca md pc' lv (.ref (g (2 + k) 0) :: st) M Q) : G l D g ca md pc lv (.int (nI k) :: .ref (g o 1) :: st) M Q := by
  subst hp
  obtain ⟨k0, hk0⟩ := PL_at (c := 1) hk (by decide) (Or.inr rfl)
  intro p e R s m args below meth c H locs cells slots A ls C0 hc1 hs1 hw hl
  refine va_aldq (f := fun i => some (g (2 + i) 0)) C0.1 C0.2.1 C0.2.2.2.2.2.2.2.2.2 hw.1 k0 3 (cA := ca 3) (n := 10) ((Wd_get hk0).trans (by unfold cellE; rw [hk]; rfl)) rfl (vp_in_nI hin (by decide)) hd ?_
  rw [nI_clamp (by omega)]
  exact (h p e R s m args below meth c H locs cells slots A ls C0 hc1 hs1 hw hl)
/-- a call's edge, by the tables' words: receiver's class ci, n parameters -/
def EV (md md' : Md) (idx ci n : Nat) : Prop := Cond.methodLink md.1 idx md'.2.1 ∈ wsA ∧ Cond.instanceMethod md'.2.1 ∈ wsA ∧ Cond.selects md'.1 md'.2.1 md'.2.1 ∈ wsA ∧ Cond.initialized md'.1 ∈ wsA ∧ Cond.code md'.2.1 md'.2.2.1 md'.2.2.2.1 md'.2.2.2.2.1 ∈ wsA ∧
  (md'.2.1.cls = md'.1 ∧ md'.2.1.cls ≠ "java/lang/invoke/MethodHandle" ∧ md'.2.1.cls ≠ "java/lang/invoke/VarHandle" ∧ (parseMethodDescriptor md'.2.1.desc).map (fun d => d.parameters.length) = some n) ∧ (md'.2.2.2.2.2.1 + 1 ≤ md.2.2.2.2.2.1 ∧ 8 + (md'.2.2.2.1 + 11) + md'.2.2.2.2.2.2 ≤ md.2.2.2.2.2.2) ∧ (∃ q : vw_C, vwCl[ci]? = some q ∧ q.1 = md'.1)
def ES (md md' : Md) (idx n : Nat) : Prop := Cond.methodLink md.1 idx md'.2.1 ∈ wsA ∧ Cond.static md'.2.1 ∈ wsA ∧ Cond.initialized md'.1 ∈ wsA ∧ Cond.code md'.2.1 md'.2.2.1 md'.2.2.2.1 md'.2.2.2.2.1 ∈ wsA ∧
  (md'.2.1.cls = md'.1 ∧ md'.2.1.cls ≠ "java/lang/invoke/MethodHandle" ∧ md'.2.1.cls ≠ "java/lang/invoke/VarHandle" ∧ (parseMethodDescriptor md'.2.1.desc).map (fun d => d.parameters.length) = some n) ∧ (md'.2.2.2.2.2.1 + 1 ≤ md.2.2.2.2.2.1 ∧ 8 + (md'.2.2.2.1 + 11) + md'.2.2.2.2.2.2 ≤ md.2.2.2.2.2.2)
theorem w_in {md' : Md} (hc : Cond.code md'.2.1 md'.2.2.1 md'.2.2.2.1 md'.2.2.2.2.1 ∈ wsA) : GoodIn wsA (.code md'.2.1 md'.2.2.1 md'.2.2.2.1 md'.2.2.2.2.1 :: wsA) := by
  intro w hw
  have h1 : w ∈ wsA := by
    rcases List.mem_cons.mp hw with rfl | h
    · exact hc
    · exact h
  exact ⟨h1, good_of_word (List.all_eq_true.mp ws_good w h1)⟩
theorem pre_blind {as : List Value} {sz : Nat} : FrameBlind (va_Pc as (fun U => U.heap.size = sz ∧ va_P D vwCl (Wd g ca M) U.heap ∧ va_K D vwCl (tyl ca) U ∧ va_D (fun _ => True) (Wd g ca M) ∧ Sx g (va_A (Wd g ca M) sz) U)) := by
  intro a U gg mk q
  obtain ⟨q0, q1, qP, qK, qD, qX⟩ := q
  exact ⟨q0, q1, qP, va_K.moved (u := U) (U := U.calling gg mk a) (Vm.Alike.refl U.vm) qK, qD, vk_S.moved (u := U) (U := U.calling gg mk a) (Vm.Alike.refl U.vm) qX.1, fun i hi => vk_R.same (u := U) rfl (qX.2.1 i hi), va_Z.moved (u := U) (U := U.calling gg mk a) (Vm.Alike.refl U.vm) qX.2.2.1, va_Z.moved (u := U) (U := U.calling gg mk a) (Vm.Alike.refl U.vm) qX.2.2.2.1, vx_Zq.moved (u := U) (U := U.calling gg mk a) (Vm.Alike.refl U.vm) qX.2.2.2.2.1, vx_Zq.moved (u := U) (U := U.calling gg mk a) (Vm.Alike.refl U.vm) qX.2.2.2.2.2.1, fun i hi => vk_R.same (u := U) rfl (qX.2.2.2.2.2.2.1 i hi), va_Nw.same (u := U) rfl rfl qX.2.2.2.2.2.2.2⟩
theorem Sx_call {s U : State} {H : Heap} {locs : List Loc} {A : Nat → Prop} (hw : Wl D g ca A s M H locs) (hU : U.heap = H) (hW : s.WarmedH U.vm) : Sx g (va_A (Wd g ca M) H.size) U := by
  obtain ⟨hP, hD, hS, hA, hX⟩ := hw
  have hF : ∀ q, va_A (Wd g ca M) H.size q → A q := by
    intro q hq
    rcases hq with ⟨k, e, hk⟩ | hq
    · exact hD.2 k (q, e) hk
    · exact hA q (Nat.le_trans hS.1 hq)
  exact ⟨by rw [hU]; exact ((hX.1.kept hS.2.1).moved hW.alike).narrow hF, fun i hi => vk_R.warm hW (hX.2.1 i hi), by rw [hU]; exact ((hX.2.2.1.kept hS.2.1).moved hW.alike).narrow hF, by rw [hU]; exact ((hX.2.2.2.1.kept hS.2.1).moved hW.alike).narrow hF, by rw [hU]; exact (vx_Zq.moved hW.alike (hX.2.2.2.2.1.kept hS.2.1)).narrow hF, by rw [hU]; exact (vx_Zq.moved hW.alike (hX.2.2.2.2.2.1.kept hS.2.1)).narrow hF, fun i hi => vk_R.warm hW (hX.2.2.2.2.2.2.1 i hi), va_Nw.warmM hW hX.2.2.2.2.2.2.2⟩
theorem run_G {p : Program} {e : Env} {R : Room} {s : State} {m : MethodId} {args : Array Value} {below : List Frame} {meth : Method} {c : Code} {H : Heap} {locs : List Loc} {cells slots : Nat} {A : Nat → Prop} {ls : Array Slot} {st0 : List Value} {a : Array Value} {Q1 : Option Value → Mm → Prop}
    (hr : va_Run p l e R s m args below meth c H locs cells slots 0 0 (F0 m pc ls st0) st (Qm D g ca Q1 (va_A (Wd g ca M) H.size) a) (va_A (Wd g ca M) H.size)) (C0 : Cx D ca md p R s m args meth c) (hc1 : cells ≤ R.cells) (hs1 : slots ≤ R.slots) (hw : Wl D g ca A s M H locs) (hl : lv_has ls md.2.2.2.1 lv)
    (h : ∀ v M1, Q1 v M1 → G l D g ca md (pc + 3) lv (v.toList ++ st) M1 Q) : W p l e R s m args below meth c H locs cells slots (MQ below (Qm D g ca Q A) args s cells slots A) (F0 m pc ls st0) := by
  obtain ⟨hP, hD, hS, hA, hX⟩ := hw
  have hF : ∀ q, va_A (Wd g ca M) H.size q → A q := by
    intro q hq
    rcases hq with ⟨k, e, hk⟩ | hq
    · exact hD.2 k (q, e) hk
    · exact hA q (Nat.le_trans hS.1 hq)
  intro T hT X
  obtain ⟨v, st₀, t, T', L, h0, X', hL, e1, e2, ⟨⟨v1, u, hv, hp, hb⟩, hz, hk⟩, stp⟩ := hr T hT X
  cases hv
  rw [h0] at hz hk
  obtain ⟨t2, a1, b1⟩ := h v u hp p e R s m args below meth c T'.heap (locs ++ L) cells slots A ls C0 hc1 hs1 ⟨by rw [e1]; exact hb, Wd_D hD, ⟨Nat.le_trans hS.1 (by rw [e1]; exact hz), fun q h1 h2 => by rw [e1, hk q (Nat.lt_of_lt_of_le h1 hS.1) (fun z => h2 (hF q z))]; exact hS.2.1 q h1 h2, fun q hq => by
      rcases List.mem_append.mp hq with h | h
      · exact hS.2.2 q h
      · exact hF _ (hL q h)⟩, hA, hX⟩ hl T' rfl X'
  exact ⟨t2, stp t2 a1, b1⟩
theorem g_callV (pc' : Nat) (md' : Md) {idx ci n o : Nat} {st0 : List Value} (as : List Value) (st : List Value) {Q1 : Option Value → Mm → Prop} (hd : decode md.2.2.1 pc = .ok (.invokevirtual idx, 3)) (hp : pc + 3 = pc') (he : EV md md' idx ci n) (hk : kd o = ci) (hci : ci < 8) (hn : as.length = n) (hst : st0 = as.reverse ++ .ref (g o 0) :: st) (hst2 : (st.map fun v => v.category).sum ≤ 8) (hc : Ct l D g ca md' (.ref (g o 0) :: as) M Q1) (h : ∀ v M1, Q1 v M1 → G l D g ca md pc' lv (v.toList ++ st) M1 Q) : G l D g ca md pc lv st0 M Q := by
  subst hp
  obtain ⟨e1, e2, e3, e4, e5, e6, e7, q, e8, e9⟩ := he
  obtain ⟨k0, hk0⟩ := PL_at (c := 0) hk hci (Or.inl rfl)
  intro p e R s m args below meth c H locs cells slots A ls C0 hc1 hs1 hw hl
  have hts := C0.2.2.2.2.2.1
  refine run_G (a := (Value.ref (g o 0) :: as).toArray) (va_runV (C := md'.1) (n := n) ⟨C0.1, C0.2.1, C0.2.2.2.1, C0.2.2.2.2.1, hts⟩ (hc H.size) ⟨callB_of n hts (w_in e5) rfl rfl rfl (by rw [e6.1]; exact hts _ e4) (hts _ e1) e6.2 ⟨Nat.le_trans e7.1 C0.2.2.2.2.2.2.2.1, Nat.le_trans e7.2 C0.2.2.2.2.2.2.2.2.1⟩, hts _ e2, hts _ e3⟩ ⟨pre_blind, ?_, ?_⟩ rfl hn (hl.1) hst (lv_room hst2) hd ⟨hc1, hs1⟩) C0 hc1 hs1 hw hl h
  · rw [← e9]
    exact va_recv C0.2.2.2.2.2.2.2.2.2 hw.1 e8 ((Wd_get hk0).trans (by rw [cellE_obj hk]))
  · intro U hU hW
    exact ⟨rfl, by rw [hU], by rw [hU]; exact hw.1, va_K.moved hW.alike C0.2.2.2.2.2.2.2.2.2, hw.2.1.weaken (fun _ _ _ _ => trivial), Sx_call hw hU hW⟩
theorem g_callS (pc' : Nat) (md' : Md) {idx n : Nat} {st0 : List Value} (as : List Value) (st : List Value) {Q1 : Option Value → Mm → Prop} (hd : decode md.2.2.1 pc = .ok (.invokestatic idx, 3)) (hp : pc + 3 = pc') (he : ES md md' idx n) (hn : as.length = n) (hst : st0 = as.reverse ++ st) (hst2 : (st.map fun v => v.category).sum ≤ 8) (hc : Ct l D g ca md' as M Q1) (h : ∀ v M1, Q1 v M1 → G l D g ca md pc' lv (v.toList ++ st) M1 Q) : G l D g ca md pc lv st0 M Q := by
  subst hp
  obtain ⟨e1, e2, e4, e5, e6, e7⟩ := he
  intro p e R s m args below meth c H locs cells slots A ls C0 hc1 hs1 hw hl
  have hts := C0.2.2.2.2.2.1
  refine run_G (a := as.toArray) (va_runS (n := n) ⟨C0.1, C0.2.1, C0.2.2.2.1, C0.2.2.2.2.1, hts⟩ (hc H.size) ⟨callB_of n hts (w_in e5) rfl rfl rfl (by rw [e6.1]; exact hts _ e4) (hts _ e1) e6.2 ⟨Nat.le_trans e7.1 C0.2.2.2.2.2.2.2.1, Nat.le_trans e7.2 C0.2.2.2.2.2.2.2.2.1⟩, hts _ e2⟩ ⟨pre_blind, ?_⟩ rfl hn (hl.1) hst (lv_room hst2) hd ⟨hc1, hs1⟩) C0 hc1 hs1 hw hl h
  intro U hU hW
  exact ⟨rfl, by rw [hU], by rw [hU]; exact hw.1, va_K.moved hW.alike C0.2.2.2.2.2.2.2.2.2, hw.2.1.weaken (fun _ _ _ _ => trivial), Sx_call hw hU hW⟩
theorem g_callVi (pc' : Nat) (md' : Md) {idx ci n o : Nat} {st0 : List Value} (as : List Value) (st : List Value) {q : Int32 → Mm → Prop} (hd : decode md.2.2.1 pc = .ok (.invokevirtual idx, 3)) (hp : pc + 3 = pc') (he : EV md md' idx ci n) (hk : kd o = ci) (hci : ci < 8) (hn : as.length = n) (hst : st0 = as.reverse ++ .ref (g o 0) :: st) (hst2 : (st.map fun v => v.category).sum ≤ 8) (hc : Ct l D g ca md' (.ref (g o 0) :: as) M (Ri q)) (h : ∀ r M1, q r M1 → G l D g ca md pc' lv (.int r :: st) M1 Q) : G l D g ca md pc lv st0 M Q :=
  g_callV pc' md' as st hd hp he hk hci hn hst hst2 hc (fun v M1 z => by obtain ⟨r, rfl, z⟩ := z; exact h r M1 z)
theorem g_callVv (pc' : Nat) (md' : Md) {idx ci n o : Nat} {st0 : List Value} (as : List Value) (st : List Value) {q : Mm → Prop} (hd : decode md.2.2.1 pc = .ok (.invokevirtual idx, 3)) (hp : pc + 3 = pc') (he : EV md md' idx ci n) (hk : kd o = ci) (hci : ci < 8) (hn : as.length = n) (hst : st0 = as.reverse ++ .ref (g o 0) :: st) (hst2 : (st.map fun v => v.category).sum ≤ 8) (hc : Ct l D g ca md' (.ref (g o 0) :: as) M (Rv q)) (h : ∀ M1, q M1 → G l D g ca md pc' lv st M1 Q) : G l D g ca md pc lv st0 M Q :=
  g_callV pc' md' as st hd hp he hk hci hn hst hst2 hc (fun v M1 z => by obtain ⟨rfl, z⟩ := z; exact h M1 z)
theorem g_callVl (pc' : Nat) (md' : Md) {idx ci n o : Nat} {st0 : List Value} (as : List Value) (st : List Value) {q : Int64 → Mm → Prop} (hd : decode md.2.2.1 pc = .ok (.invokevirtual idx, 3)) (hp : pc + 3 = pc') (he : EV md md' idx ci n) (hk : kd o = ci) (hci : ci < 8) (hn : as.length = n) (hst : st0 = as.reverse ++ .ref (g o 0) :: st) (hst2 : (st.map fun v => v.category).sum ≤ 8) (hc : Ct l D g ca md' (.ref (g o 0) :: as) M (Rl q)) (h : ∀ r M1, q r M1 → G l D g ca md pc' lv (.long r :: st) M1 Q) : G l D g ca md pc lv st0 M Q :=
  g_callV pc' md' as st hd hp he hk hci hn hst hst2 hc (fun v M1 z => by obtain ⟨r, rfl, z⟩ := z; exact h r M1 z)
theorem g_callSi (pc' : Nat) (md' : Md) {idx n : Nat} {st0 : List Value} (as : List Value) (st : List Value) {q : Int32 → Mm → Prop} (hd : decode md.2.2.1 pc = .ok (.invokestatic idx, 3)) (hp : pc + 3 = pc') (he : ES md md' idx n) (hn : as.length = n) (hst : st0 = as.reverse ++ st) (hst2 : (st.map fun v => v.category).sum ≤ 8) (hc : Ct l D g ca md' as M (Ri q)) (h : ∀ r M1, q r M1 → G l D g ca md pc' lv (.int r :: st) M1 Q) : G l D g ca md pc lv st0 M Q :=
  g_callS pc' md' as st hd hp he hn hst hst2 hc (fun v M1 z => by obtain ⟨r, rfl, z⟩ := z; exact h r M1 z)
theorem g_callSv (pc' : Nat) (md' : Md) {idx n : Nat} {st0 : List Value} (as : List Value) (st : List Value) {q : Mm → Prop} (hd : decode md.2.2.1 pc = .ok (.invokestatic idx, 3)) (hp : pc + 3 = pc') (he : ES md md' idx n) (hn : as.length = n) (hst : st0 = as.reverse ++ st) (hst2 : (st.map fun v => v.category).sum ≤ 8) (hc : Ct l D g ca md' as M (Rv q)) (h : ∀ M1, q M1 → G l D g ca md pc' lv st M1 Q) : G l D g ca md pc lv st0 M Q :=
  g_callS pc' md' as st hd hp he hn hst hst2 hc (fun v M1 z => by obtain ⟨rfl, z⟩ := z; exact h M1 z)
theorem g_callSl (pc' : Nat) (md' : Md) {idx n : Nat} {st0 : List Value} (as : List Value) (st : List Value) {q : Int64 → Mm → Prop} (hd : decode md.2.2.1 pc = .ok (.invokestatic idx, 3)) (hp : pc + 3 = pc') (he : ES md md' idx n) (hn : as.length = n) (hst : st0 = as.reverse ++ st) (hst2 : (st.map fun v => v.category).sum ≤ 8) (hc : Ct l D g ca md' as M (Rl q)) (h : ∀ r M1, q r M1 → G l D g ca md pc' lv (.long r :: st) M1 Q) : G l D g ca md pc lv st0 M Q :=
  g_callS pc' md' as st hd hp he hn hst hst2 hc (fun v M1 z => by obtain ⟨r, rfl, z⟩ := z; exact h r M1 z)
def ESN (md md' : Md) (idx n : Nat) : Prop := nmIs = .methodLinkNest md.1 idx md'.2.1 RX6 ∧ Cond.static md'.2.1 ∈ wsA ∧ Cond.initialized md'.1 ∈ wsA ∧ Cond.code md'.2.1 md'.2.2.1 md'.2.2.2.1 md'.2.2.2.2.1 ∈ wsA ∧
  (md'.2.1.cls = md'.1 ∧ md'.2.1.cls ≠ "java/lang/invoke/MethodHandle" ∧ md'.2.1.cls ≠ "java/lang/invoke/VarHandle" ∧ (parseMethodDescriptor md'.2.1.desc).map (fun d => d.parameters.length) = some n) ∧ (md'.2.2.2.2.2.1 + 1 ≤ md.2.2.2.2.2.1 ∧ 8 + (md'.2.2.2.1 + 11) + md'.2.2.2.2.2.2 ≤ md.2.2.2.2.2.2)
theorem g_callSNi (pc' : Nat) (md' : Md) {idx n : Nat} {st0 : List Value} (as : List Value) (st : List Value) {q : Int32 → Mm → Prop} (hd : decode md.2.2.1 pc = .ok (.invokestatic idx, 3)) (hp : pc + 3 = pc') (he : ESN md md' idx n) (hn : as.length = n) (hst : st0 = as.reverse ++ st) (hst2 : (st.map fun v => v.category).sum ≤ 8) (hc : Ct l D g ca md' as M (Ri q)) (h : ∀ r M1, q r M1 → G l D g ca md pc' lv (.int r :: st) M1 Q) : G l D g ca md pc lv st0 M Q := by
  subst hp
  obtain ⟨e1, e2, e4, e5, e6, e7⟩ := he
  intro p e R s m args below meth c H locs cells slots A ls C0 hc1 hs1 hw hl
  have hts := C0.2.2.2.2.2.1
  have hnw : va_Nw (.methodLinkNest md.1 idx md'.2.1 RX6) s := by rw [← e1]; exact hw.2.2.2.2.2.2.2.2.2.2.2
  have hcb := va_cnB (own := md.1) (host := RX6) (index := idx) (y := md'.2.1) (bytes := md'.2.2.1) (maxL := md'.2.2.2.1) (ret := md'.2.2.2.2.1) (R := R) (mc := 0) (ms := 0) (rm := { frames := md'.2.2.2.2.2.1, cells := 0, slots := 0, locals := md'.2.2.2.2.2.2 }) n hts (w_in e5) rfl rfl rfl hnw (by rw [e6.1]; exact hts _ e4) e6.2 ⟨Nat.le_trans e7.1 C0.2.2.2.2.2.2.2.1, Nat.le_trans e7.2 C0.2.2.2.2.2.2.2.2.1⟩
  refine run_G (a := as.toArray) (va_runSN (n := n) ⟨C0.1, C0.2.1, C0.2.2.2.1, C0.2.2.2.2.1, hts⟩ (hc H.size) ⟨hcb, hts _ e2, trivial⟩ ⟨pre_blind, ?_⟩ rfl hn (hl.1) hst (lv_room hst2) hd ⟨hc1, hs1⟩) C0 hc1 hs1 hw hl (fun v M1 z => by obtain ⟨r, rfl, z⟩ := z; exact h r M1 z)
  intro U hU hW
  exact ⟨rfl, by rw [hU], by rw [hU]; exact hw.1, va_K.moved hW.alike C0.2.2.2.2.2.2.2.2.2, hw.2.1.weaken (fun _ _ _ _ => trivial), Sx_call hw hU hW⟩
theorem g_lcmp (pc' : Nat) {x y : Int64} (v : Int32) (hd : decode md.2.2.1 pc = .ok (.lcmp, 1)) (hp : pc + 1 = pc') (hv : lg_cmp x y = v) (h : G l D g ca md pc' lv (.int v :: st) M Q) : G l D g ca md pc lv (.long y :: .long x :: st) M Q := by
  subst hp
  intro p e R s m args below meth c H locs cells slots A ls C0 hc1 hs1 hw hl
  subst hv
  exact W.lcmp C0.1 C0.2.1 hd (h p e R s m args below meth c H locs cells slots A ls C0 hc1 hs1 hw hl)
theorem g_putz (pc' : Nat) {idx ci k o z : Nat} {x : Int32} (hd : decode md.2.2.1 pc = .ok (.putfield idx, 3)) (hp : pc + 3 = pc') (hf : FK md.1 idx ci k) (hpk : PK ci k .boolean) (hk : kd o = ci) (hci : ci < 8) (ht : (ftab ci)[k]? = some (0, z)) (hx : x = 0 ∨ x = 1) (h : G l D g ca md pc' lv st (wr M o 0 k x) Q) : G l D g ca md pc lv (.int x :: .ref (g o 0) :: st) M Q :=
  g_putG pc' (wr M o 0 k x) hd hp hf hpk hk hci (List.getElem?_eq_some_iff.mp ht).1 (by rcases hx with rfl | rfl <;> rfl) (by rcases hx with rfl | rfl <;> rfl) (fun o' c' => cellE_wr) (flds_wr ht (congrArg Value.int wr_eq)) h
theorem g_lookup {dflt : Int} {ps : Array (Int × Int)} {len : Nat} {x : Int32} {off : Int} (tgt : Nat) (hd : decode md.2.2.1 pc = .ok (.lookupswitch dflt ps, len)) (h1 : (ps.toList.zip (ps.toList.drop 1)).all (fun (a, next) => a.1 < next.1) = true) (ho : Op.lookupswitch.offset ps.toList dflt x.toInt = off) (ht : (pc : Int) + off = (tgt : Int)) (h : G l D g ca md tgt lv st M Q) : G l D g ca md pc lv (.int x :: st) M Q := by
  intro p e R s m args below meth c H locs cells slots A ls C0 hc1 hs1 hw hl
  exact lv_lookup C0.1 C0.2.1 hd h1 ho ht (h p e R s m args below meth c H locs cells slots A ls C0 hc1 hs1 hw hl)
end GL
