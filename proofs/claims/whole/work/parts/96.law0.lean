/-! THE LAW'S OWN FRAME: the system's memory M, the law's long v, K cells of N slots made so far -/
abbrev A0 (s : State) : Nat → Prop := fun q => s.heap.size ≤ q
def LK (p : Program) (l : Launch) (s : State) (m : MethodId) (meth : Method) (c : Code) (b L : Nat) (xs : Nat → Int32) (D : va_G) (g : Nat → Nat → Nat) (ca : Nat → ClassId) : Prop := lw_At p s m meth c b L xs ∧ va_K D vwCl (tyl ca) s ∧ va_K D vwCl [(ca 4, .long)] s ∧ Sx g (A0 s) s ∧ l.stackTraces = false ∧ L ≤ 3072
def LW (s : State) (D : va_G) (g : Nat → Nat → Nat) (ca : Nat → ClassId) (qo : Nat) (M : Mm) (v : Int64) (H : Heap) (locs : List Loc) : Prop :=
  va_P D vwCl (Wd g ca M) H ∧ va_D (A0 s) (Wd g ca M) ∧ va_S (A0 s) s.heap H locs ∧ (∃ f : Nat → Int64, f 0 = v ∧ va_P D vwCl [(qo, .inl (ca 4, 1, .inr (.inl f)))] H) ∧ s.heap.size ≤ qo ∧ (∀ o c, (o, c) ∈ PL → g o c ≠ qo)
def GL (p : Program) (l : Launch) (e : Env) (s : State) (m : MethodId) (below : List Frame) (meth : Method) (c : Code) (b L : Nat) (xs : Nat → Int32) (D : va_G) (g : Nat → Nat → Nat) (ca : Nat → ClassId) (qo K N pc : Nat) (lv : List (Nat × Value)) (st : List Value) (M : Mm) (v : Int64) : Prop :=
  LK p l s m meth c b L xs D g ca → ∀ (H : Heap) (locs : List Loc) (ls : Array Slot), LW s D g ca qo M v H locs → lv_has ls 7 lv → W p l e room_1 s m #[Value.ref b] below meth c H locs K N (lw_Z below #[Value.ref b] s) (F0 m pc ls st)
section GLS
variable {p : Program} {l : Launch} {e : Env} {s : State} {m : MethodId} {below : List Frame} {meth : Method} {c : Code} {b L : Nat} {xs : Nat → Int32} {D : va_G} {g : Nat → Nat → Nat} {ca : Nat → ClassId} {qo K N pc : Nat} {lv : List (Nat × Value)} {st : List Value} {M : Mm} {v : Int64}
theorem gl_iconst (pc' : Nat) {n : Int} (v' : Int32) (hd : decode code pc = .ok (.iconst n, 1)) (hp : pc + 1 = pc') (hv : Int32.ofInt n = v') (h : GL p l e s m below meth c b L xs D g ca qo K N pc' lv (.int v' :: st) M v) : GL p l e s m below meth c b L xs D g ca qo K N pc lv (st) M v := by
  subst hp
  intro C0 H locs ls hw hl
  exact lv_iconst C0.1.1 C0.1.2.1 hd hv (h C0 H locs ls hw hl)
theorem gl_bipush (pc' : Nat) {n : Int} (v' : Int32) (hd : decode code pc = .ok (.bipush n, 2)) (hp : pc + 2 = pc') (hv : (Int8.ofInt n).toInt32 = v') (h : GL p l e s m below meth c b L xs D g ca qo K N pc' lv (.int v' :: st) M v) : GL p l e s m below meth c b L xs D g ca qo K N pc lv (st) M v := by
  subst hp
  intro C0 H locs ls hw hl
  exact lv_bipush C0.1.1 C0.1.2.1 hd hv (h C0 H locs ls hw hl)
theorem gl_iload (pc' : Nat) {k : Nat} {x : Int32} (j : Nat) (hd : decode code pc = .ok (.iload k, 2)) (hp : pc + 2 = pc') (hj : lv[j]? = some (k, .int x)) (h : GL p l e s m below meth c b L xs D g ca qo K N pc' lv (.int x :: st) M v) : GL p l e s m below meth c b L xs D g ca qo K N pc lv (st) M v := by
  subst hp
  intro C0 H locs ls hw hl
  exact lv_iload C0.1.1 C0.1.2.1 hd (lv_at hl j hj) (h C0 H locs ls hw hl)
theorem gl_aload_n (pc' : Nat) {k : Fin 4} {x : Nat} (j : Nat) (hd : decode code pc = .ok (.aload_n k, 1)) (hp : pc + 1 = pc') (hj : lv[j]? = some ((k : Nat), .ref x)) (h : GL p l e s m below meth c b L xs D g ca qo K N pc' lv (.ref x :: st) M v) : GL p l e s m below meth c b L xs D g ca qo K N pc lv (st) M v := by
  subst hp
  intro C0 H locs ls hw hl
  exact lv_aload_n C0.1.1 C0.1.2.1 hd rfl (lv_at hl j hj) (h C0 H locs ls hw hl)
theorem gl_istore (pc' : Nat) {k : Nat} {x : Int32} (lv' : List (Nat × Value)) (hd : decode code pc = .ok (.istore k, 2)) (hp : pc + 2 = pc') (hn : k < 7) (hl' : (k, Value.int x) :: lv.filter (fun q => !(q.1 == k) && !(q.1 + 1 == k && q.2.category == 2)) = lv') (h : GL p l e s m below meth c b L xs D g ca qo K N pc' lv' st M v) : GL p l e s m below meth c b L xs D g ca qo K N pc lv (.int x :: st) M v := by
  subst hp
  intro C0 H locs ls hw hl
  exact lv_istore C0.1.1 C0.1.2.1 hd hl hn hl' (fun ls hl => (h C0 H locs ls hw hl))
theorem gl_iinc (pc' : Nat) {i : Nat} {n : Int} {x : Int32} (v' : Int32) (lv' : List (Nat × Value)) (hd : decode code pc = .ok (.iinc i n, 3)) (hp : pc + 3 = pc') (k : Nat) (hk : lv[k]? = some (i, .int x)) (hv : x + Int32.ofInt n = v') (hn : i < 7) (hl' : (i, Value.int v') :: lv.filter (fun q => !(q.1 == i) && !(q.1 + 1 == i && q.2.category == 2)) = lv') (h : GL p l e s m below meth c b L xs D g ca qo K N pc' lv' st M v) : GL p l e s m below meth c b L xs D g ca qo K N pc lv st M v := by
  subst hp
  intro C0 H locs ls hw hl
  exact lv_iinc C0.1.1 C0.1.2.1 hd hl hk hv hn hl' (fun ls hl => (h C0 H locs ls hw hl))
theorem gl_iadd (pc' : Nat) {x y : Int32} (v' : Int32) (hd : decode code pc = .ok (.iadd, 1)) (hp : pc + 1 = pc') (hv : x + y = v') (h : GL p l e s m below meth c b L xs D g ca qo K N pc' lv (.int v' :: st) M v) : GL p l e s m below meth c b L xs D g ca qo K N pc lv (.int y :: .int x :: st) M v := by
  subst hp
  intro C0 H locs ls hw hl
  subst hv
  exact lv_iadd C0.1.1 C0.1.2.1 hd (h C0 H locs ls hw hl)
theorem gl_isub (pc' : Nat) {x y : Int32} (v' : Int32) (hd : decode code pc = .ok (.isub, 1)) (hp : pc + 1 = pc') (hv : x - y = v') (h : GL p l e s m below meth c b L xs D g ca qo K N pc' lv (.int v' :: st) M v) : GL p l e s m below meth c b L xs D g ca qo K N pc lv (.int y :: .int x :: st) M v := by
  subst hp
  intro C0 H locs ls hw hl
  subst hv
  exact lv_isub C0.1.1 C0.1.2.1 hd (h C0 H locs ls hw hl)
theorem gl_iand (pc' : Nat) {x y : Int32} (v' : Int32) (hd : decode code pc = .ok (.iand, 1)) (hp : pc + 1 = pc') (hv : x &&& y = v') (h : GL p l e s m below meth c b L xs D g ca qo K N pc' lv (.int v' :: st) M v) : GL p l e s m below meth c b L xs D g ca qo K N pc lv (.int y :: .int x :: st) M v := by
  subst hp
  intro C0 H locs ls hw hl
  subst hv
  exact lv_iand C0.1.1 C0.1.2.1 hd (h C0 H locs ls hw hl)
theorem gl_goto (tgt : Nat) {off : Int} (hd : decode code pc = .ok (.goto off, 3)) (ht : (pc : Int) + off = (tgt : Int)) (h : GL p l e s m below meth c b L xs D g ca qo K N tgt lv st M v) : GL p l e s m below meth c b L xs D g ca qo K N pc lv st M v := by
  intro C0 H locs ls hw hl
  exact lv_goto C0.1.1 C0.1.2.1 hd ht (h C0 H locs ls hw hl)
theorem gl_icmp_eq (tgt pc' : Nat) {x y : Int32} {off : Int} (hd : decode code pc = .ok (.if_icmp .eq off, 3)) (ht : (pc : Int) + off = (tgt : Int)) (hp : pc + 3 = pc') (kt : x = y → GL p l e s m below meth c b L xs D g ca qo K N tgt lv st M v) (kf : ¬ x = y → GL p l e s m below meth c b L xs D g ca qo K N pc' lv st M v) : GL p l e s m below meth c b L xs D g ca qo K N pc lv (.int y :: .int x :: st) M v := by
  subst hp
  intro C0 H locs ls hw hl
  exact lv_icmp_eq C0.1.1 C0.1.2.1 hd ht (fun c1 => kt (by first | exact c1 | exact c1.symm | exact fun z => c1 z.symm) C0 H locs ls hw hl) (fun c1 => kf (by first | exact c1 | exact c1.symm | exact fun z => c1 z.symm) C0 H locs ls hw hl)
theorem gl_icmp_gt (tgt pc' : Nat) {x y : Int32} {off : Int} (hd : decode code pc = .ok (.if_icmp .gt off, 3)) (ht : (pc : Int) + off = (tgt : Int)) (hp : pc + 3 = pc') (kt : y < x → GL p l e s m below meth c b L xs D g ca qo K N tgt lv st M v) (kf : ¬ y < x → GL p l e s m below meth c b L xs D g ca qo K N pc' lv st M v) : GL p l e s m below meth c b L xs D g ca qo K N pc lv (.int y :: .int x :: st) M v := by
  subst hp
  intro C0 H locs ls hw hl
  exact lv_icmp_gt C0.1.1 C0.1.2.1 hd ht (fun c1 => kt (by first | exact c1 | exact c1.symm | exact fun z => c1 z.symm) C0 H locs ls hw hl) (fun c1 => kf (by first | exact c1 | exact c1.symm | exact fun z => c1 z.symm) C0 H locs ls hw hl)
theorem gl_if_ne (tgt pc' : Nat) {x : Int32} {off : Int} (hd : decode code pc = .ok (.ifCond .ne off, 3)) (ht : (pc : Int) + off = (tgt : Int)) (hp : pc + 3 = pc') (kt : ¬ x = 0 → GL p l e s m below meth c b L xs D g ca qo K N tgt lv st M v) (kf : x = 0 → GL p l e s m below meth c b L xs D g ca qo K N pc' lv st M v) : GL p l e s m below meth c b L xs D g ca qo K N pc lv (.int x :: st) M v := by
  subst hp
  intro C0 H locs ls hw hl
  exact lv_if_ne C0.1.1 C0.1.2.1 hd ht (fun c1 => kt (by first | exact c1 | exact c1.symm | exact fun z => c1 z.symm) C0 H locs ls hw hl) (fun c1 => kf (by first | exact c1 | exact c1.symm | exact fun z => c1 z.symm) C0 H locs ls hw hl)
theorem gl_if_eq (tgt pc' : Nat) {x : Int32} {off : Int} (hd : decode code pc = .ok (.ifCond .eq off, 3)) (ht : (pc : Int) + off = (tgt : Int)) (hp : pc + 3 = pc') (kt : x = 0 → GL p l e s m below meth c b L xs D g ca qo K N tgt lv st M v) (kf : ¬ x = 0 → GL p l e s m below meth c b L xs D g ca qo K N pc' lv st M v) : GL p l e s m below meth c b L xs D g ca qo K N pc lv (.int x :: st) M v := by
  subst hp
  intro C0 H locs ls hw hl
  exact lv_if_eq C0.1.1 C0.1.2.1 hd ht (fun c1 => kt (by first | exact c1 | exact c1.symm | exact fun z => c1 z.symm) C0 H locs ls hw hl) (fun c1 => kf (by first | exact c1 | exact c1.symm | exact fun z => c1 z.symm) C0 H locs ls hw hl)
theorem gl_i2l (pc' : Nat) {x : Int32} (v' : Int64) (hd : decode code pc = .ok (.i2l, 1)) (hp : pc + 1 = pc') (hv : x.toInt64 = v') (h : GL p l e s m below meth c b L xs D g ca qo K N pc' lv (.long v' :: st) M v) : GL p l e s m below meth c b L xs D g ca qo K N pc lv (.int x :: st) M v := by
  subst hp
  intro C0 H locs ls hw hl
  exact lv_i2l C0.1.1 C0.1.2.1 hd hv (h C0 H locs ls hw hl)
theorem gl_lcmp (pc' : Nat) {x y : Int64} (v' : Int32) (hd : decode code pc = .ok (.lcmp, 1)) (hp : pc + 1 = pc') (hv : lg_cmp x y = v') (h : GL p l e s m below meth c b L xs D g ca qo K N pc' lv (.int v' :: st) M v) : GL p l e s m below meth c b L xs D g ca qo K N pc lv (.long y :: .long x :: st) M v := by
  subst hp
  intro C0 H locs ls hw hl
  subst hv
  exact W.lcmp C0.1.1 C0.1.2.1 hd (h C0 H locs ls hw hl)
theorem gl_tableIn {dflt lo hi : Int} {offs : Array Int} {len : Nat} {x : Int32} {off : Int} (tgt : Nat) (hd : decode code pc = .ok (.tableswitch dflt lo hi offs, len)) (h1 : ¬ x.toInt < lo) (h2 : ¬ hi < x.toInt) (ho : offs[(x.toInt - lo).toNat]? = some off) (ht : (pc : Int) + off = (tgt : Int)) (h : GL p l e s m below meth c b L xs D g ca qo K N tgt lv st M v) : GL p l e s m below meth c b L xs D g ca qo K N pc lv (.int x :: st) M v := by
  intro C0 H locs ls hw hl
  exact lv_tableIn C0.1.1 C0.1.2.1 hd h1 h2 ho ht (h C0 H locs ls hw hl)
theorem gl_tableOut {dflt lo hi : Int} {offs : Array Int} {len : Nat} {x : Int32} (tgt : Nat) (hd : decode code pc = .ok (.tableswitch dflt lo hi offs, len)) (h1 : x.toInt < lo ∨ hi < x.toInt) (ht : (pc : Int) + dflt = (tgt : Int)) (h : GL p l e s m below meth c b L xs D g ca qo K N tgt lv st M v) : GL p l e s m below meth c b L xs D g ca qo K N pc lv (.int x :: st) M v := by
  intro C0 H locs ls hw hl
  exact lv_tableOut C0.1.1 C0.1.2.1 hd h1 ht (h C0 H locs ls hw hl)
theorem gl_lv (ks : List Nat) {lv' : List (Nat × Value)} (e9 : lv_pick lv ks = lv') (h : GL p l e s m below meth c b L xs D g ca qo K N pc lv' st M v) : GL p l e s m below meth c b L xs D g ca qo K N pc lv st M v := by
  intro C0 H locs ls hw hl
  exact h C0 H locs ls hw (lv_sub hl ks e9)
theorem gl_widen {K' N' : Nat} (h1 : K ≤ K') (h2 : N ≤ N') (h : GL p l e s m below meth c b L xs D g ca qo K' N' pc lv st M v) : GL p l e s m below meth c b L xs D g ca qo K N pc lv st M v := by
  intro C0 H locs ls hw hl
  exact W.widen h1 h2 (h C0 H locs ls hw hl)
theorem gl_sld (pc' i : Nat) (hd : decode code pc = .ok (.iaload, 1)) (hp : pc + 1 = pc') (hi : i < L) (h : GL p l e s m below meth c b L xs D g ca qo K N pc' lv (.int (xs i) :: st) M v) : GL p l e s m below meth c b L xs D g ca qo K N pc lv (.int (nI i) :: .ref b :: st) M v := by
  subst hp
  intro C0 H locs ls hw hl
  have hL : L ≤ 3072 := C0.2.2.2.2.2
  refine va_sld (A := A0 s) C0.1.1 C0.1.2.1 C0.1.2.2.2.2.2.2.1 C0.1.2.2.2.2.2.2.2.1 (Nat.not_le.mpr C0.1.2.2.2.2.2.2.2.1) hw.2.2.1 (vp_in_nI hi (by omega)) hd ?_
  rw [nI_clamp (by omega)]
  exact h C0 H locs ls hw hl
theorem gl_slen (pc' : Nat) (hd : decode code pc = .ok (.arraylength, 1)) (hp : pc + 1 = pc') (h : GL p l e s m below meth c b L xs D g ca qo K N pc' lv (.int (nI L) :: st) M v) : GL p l e s m below meth c b L xs D g ca qo K N pc lv (.ref b :: st) M v := by
  subst hp
  intro C0 H locs ls hw hl
  exact va_slen (A := A0 s) C0.1.1 C0.1.2.1 C0.1.2.2.2.2.2.2.1 C0.1.2.2.2.2.2.2.2.1 (Nat.not_le.mpr C0.1.2.2.2.2.2.2.2.1) hw.2.2.1 hd (h C0 H locs ls hw hl)
theorem gl_lald (pc' : Nat) (hd : decode code pc = .ok (.laload, 1)) (hp : pc + 1 = pc') (h : GL p l e s m below meth c b L xs D g ca qo K N pc' lv (.long v :: st) M v) : GL p l e s m below meth c b L xs D g ca qo K N pc lv (.int (nI 0) :: .ref qo :: st) M v := by
  subst hp
  intro C0 H locs ls hw hl
  obtain ⟨f, hf, hO⟩ := hw.2.2.2.1
  refine va_lald C0.1.1 C0.1.2.1 C0.2.2.1 hO 0 0 rfl rfl (vp_in_nI (by decide) (by decide)) hd ?_
  rw [nI_clamp (by decide), hf]
  exact h C0 H locs ls hw hl
theorem gl_ret (hd : decode code pc = .ok (.iconst 1, 1)) (hd2 : decode code (pc + 1) = .ok (.ireturn, 1)) (hK : K ≤ 601024) (hN : N ≤ 7293034) : GL p l e s m below meth c b L xs D g ca qo K N pc lv [] M v := by
  intro C0 H locs ls hw hl
  refine lv_iconst (v := 1) C0.1.1 C0.1.2.1 hd (by decide) ?_
  refine va_forget (fun q hq => hw.2.2.1.2.2 q hq) ?_
  refine W.widen hK hN ?_
  exact lw_ret C0.1.1 C0.1.2.1 C0.1.2.2.1 C0.1.2.2.2.2.2.2.2.2.1 hd2
abbrev mdL : Md := (RL, yL_law, code, 7, ret, 13, 466)
theorem gl_hts (C0 : LK p l s m meth c b L xs D g ca) : ∀ w ∈ wsA, w.before #[Value.ref b] s = true := fun w hw => C0.1.2.2.2.2.2.1 w (wa_in w hw)
theorem gl_Wl {H : Heap} {locs : List Loc} (C0 : LK p l s m meth c b L xs D g ca) (hw : LW s D g ca qo M v H locs) : Wl D g ca (A0 s) s M H locs := ⟨hw.1, hw.2.1, hw.2.2.1, fun _ h => h, C0.2.2.2.1⟩
theorem gl_callV (pc' : Nat) (md' : Md) {idx ci n o : Nat} {st0 : List Value} (as : List Value) (st : List Value) {q : Int32 → Mm → Prop} (hd : decode code pc = .ok (.invokevirtual idx, 3)) (hp : pc + 3 = pc') (he : EV mdL md' idx ci n) (hk : kd o = ci) (hci : ci < 8) (hn : as.length = n) (hst : st0 = as.reverse ++ .ref (g o 0) :: st) (hst2 : (st.map fun v => v.category).sum ≤ 8) (hK : K ≤ 601024) (hN : N ≤ 7293034) (hc : Ct l D g ca md' (.ref (g o 0) :: as) M (Ri q)) (h : ∀ r M1, q r M1 → GL p l e s m below meth c b L xs D g ca qo K N pc' lv (.int r :: st) M1 v) : GL p l e s m below meth c b L xs D g ca qo K N pc lv st0 M v := by
  subst hp
  obtain ⟨e1, e2, e3, e4, e5, e6, e7, q9, e8, e9⟩ := he
  obtain ⟨k0, hk0⟩ := PL_at (c := 0) hk hci (Or.inl rfl)
  intro C0 H locs ls hw hl
  have hts := gl_hts C0
  have hW := gl_Wl C0 hw
  have hr := va_runV (R := room_1) (below := below) (meth := meth) (locs := locs) (cells := K) (slots := N) (rest := st) (g := F0 m pc ls st0) (C := md'.1) (n := n) (l := l) (e := e) ⟨C0.1.1, C0.1.2.1, C0.1.2.2.2.1, C0.1.2.2.2.2.1, hts⟩ (hc H.size) ⟨callB_of n hts (w_in e5) rfl rfl rfl (by rw [e6.1]; exact hts _ e4) (hts _ e1) e6.2 e7, hts _ e2, hts _ e3⟩ ⟨pre_blind, by rw [← e9]; exact va_recv C0.2.1 hw.1 e8 ((Wd_get hk0).trans (by rw [cellE_obj hk])), fun U hU hW9 => ⟨rfl, by rw [hU], by rw [hU]; exact hw.1, va_K.moved hW9.alike C0.2.1, hw.2.1.weaken (fun _ _ _ _ => trivial), Sx_call hW hU hW9⟩⟩ rfl hn hl.1 hst (lv_room hst2) hd ⟨hK, hN⟩
  obtain ⟨hP, hD, hS, ⟨f, hf, hO⟩, hq1, hq2⟩ := hw
  have hF : ∀ q, va_A (Wd g ca M) H.size q → A0 s q := by
    intro q hq
    rcases hq with ⟨k, e, hk⟩ | hq
    · exact hD.2 k (q, e) hk
    · exact Nat.le_trans hS.1 hq
  have hqo : qo < H.size := va_at.lt (hO 0 _ rfl)
  have hqn : ¬ va_A (Wd g ca M) H.size qo := by
    rintro (⟨k, e9, h9⟩ | h9)
    · unfold Wd at h9
      rw [List.getElem?_map] at h9
      cases hq : PL[k]? with
      | none => rw [hq] at h9; cases h9
      | some z =>
        rw [hq] at h9
        exact hq2 z.1 z.2 (List.mem_of_getElem? hq) (Prod.mk.inj (Option.some.inj h9)).1
    · omega
  intro T hT X
  obtain ⟨v1, st₀, t, T', Ls, h0, X', hLs, e1', e2', ⟨⟨v2, u, hv, ⟨r, rfl, hp9⟩, hb⟩, hz, hk9⟩, stp⟩ := hr T hT X
  cases hv
  rw [h0] at hz hk9
  obtain ⟨t2, a1, b1⟩ := h r u hp9 C0 T'.heap (locs ++ Ls) ls ⟨by rw [e1']; exact hb, Wd_D hD, ⟨Nat.le_trans hS.1 (by rw [e1']; exact hz), fun q h1 h2 => by rw [e1', hk9 q (Nat.lt_of_lt_of_le h1 hS.1) (fun z => h2 (hF q z))]; exact hS.2.1 q h1 h2, fun q hq => by
      rcases List.mem_append.mp hq with h | h
      · exact hS.2.2 q h
      · exact hF _ (hLs q h)⟩, ⟨f, hf, (fun k q hq => (hO k q hq).kept (by
        rw [e1']
        cases k with
        | zero => cases hq; exact hk9 qo hqo hqn
        | succ k => simp at hq))⟩, hq1, hq2⟩ hl T' rfl X'
  exact ⟨t2, stp t2 a1, b1⟩
end GLS
theorem im_X6_feed : Cond.instanceMethod yX6_feed ∈ wsA := (wa_2 (List.mem_of_getElem? (i := 36) (by decide +kernel)) (by decide +kernel))
theorem se_X6_feed : Cond.selects RX6 yX6_feed yX6_feed ∈ wsA := (wa_2 (List.mem_of_getElem? (i := 37) (by decide +kernel)) (by decide +kernel))
theorem co_X6_feed : Cond.code yX6_feed cX6_feed 6 (some .int) ∈ wsA := (wa_2 (List.mem_of_getElem? (i := 38) rfl) (by decide +kernel))
theorem yy_X6_feed : yX6_feed.cls = RX6 ∧ yX6_feed.cls ≠ "java/lang/invoke/MethodHandle" ∧ yX6_feed.cls ≠ "java/lang/invoke/VarHandle" ∧ (parseMethodDescriptor yX6_feed.desc).map (fun d => d.parameters.length) = some 5 := by decide +kernel
theorem e_L_22 : EV mdL md_X6_feed 22 6 5 := ⟨(wa_2 (List.mem_of_getElem? (i := 35) (by decide +kernel)) (by decide +kernel)), im_X6_feed, se_X6_feed, (wa_1 (List.mem_of_getElem? (i := 1) (by decide +kernel)) (by decide +kernel)), co_X6_feed, yy_X6_feed, ⟨by decide, by decide⟩, _, rfl, rfl⟩
theorem im_X7_feed : Cond.instanceMethod yX7_feed ∈ wsA := (wa_4 (List.mem_of_getElem? (i := 75) (by decide +kernel)) (by decide +kernel))
theorem se_X7_feed : Cond.selects RX7 yX7_feed yX7_feed ∈ wsA := (wa_4 (List.mem_of_getElem? (i := 76) (by decide +kernel)) (by decide +kernel))
theorem co_X7_feed : Cond.code yX7_feed cX7_feed 6 (some .int) ∈ wsA := (wa_4 (List.mem_of_getElem? (i := 77) rfl) (by decide +kernel))
theorem yy_X7_feed : yX7_feed.cls = RX7 ∧ yX7_feed.cls ≠ "java/lang/invoke/MethodHandle" ∧ yX7_feed.cls ≠ "java/lang/invoke/VarHandle" ∧ (parseMethodDescriptor yX7_feed.desc).map (fun d => d.parameters.length) = some 5 := by decide +kernel
theorem e_L_26 : EV mdL md_X7_feed 26 7 5 := ⟨(wa_4 (List.mem_of_getElem? (i := 74) (by decide +kernel)) (by decide +kernel)), im_X7_feed, se_X7_feed, (wa_1 (List.mem_of_getElem? (i := 8) (by decide +kernel)) (by decide +kernel)), co_X7_feed, yy_X7_feed, ⟨by decide, by decide⟩, _, rfl, rfl⟩
theorem im_X6_end : Cond.instanceMethod yX6_end ∈ wsA := (wa_2 (List.mem_of_getElem? (i := 44) (by decide +kernel)) (by decide +kernel))
theorem se_X6_end : Cond.selects RX6 yX6_end yX6_end ∈ wsA := (wa_2 (List.mem_of_getElem? (i := 45) (by decide +kernel)) (by decide +kernel))
theorem co_X6_end : Cond.code yX6_end cX6_end 2 (some .boolean) ∈ wsA := (wa_2 (List.mem_of_getElem? (i := 46) rfl) (by decide +kernel))
theorem yy_X6_end : yX6_end.cls = RX6 ∧ yX6_end.cls ≠ "java/lang/invoke/MethodHandle" ∧ yX6_end.cls ≠ "java/lang/invoke/VarHandle" ∧ (parseMethodDescriptor yX6_end.desc).map (fun d => d.parameters.length) = some 1 := by decide +kernel
theorem e_L_27 : EV mdL md_X6_end 27 6 1 := ⟨(wa_2 (List.mem_of_getElem? (i := 43) (by decide +kernel)) (by decide +kernel)), im_X6_end, se_X6_end, (wa_1 (List.mem_of_getElem? (i := 1) (by decide +kernel)) (by decide +kernel)), co_X6_end, yy_X6_end, ⟨by decide, by decide⟩, _, rfl, rfl⟩
theorem im_X7_end : Cond.instanceMethod yX7_end ∈ wsA := (wa_4 (List.mem_of_getElem? (i := 84) (by decide +kernel)) (by decide +kernel))
theorem se_X7_end : Cond.selects RX7 yX7_end yX7_end ∈ wsA := (wa_4 (List.mem_of_getElem? (i := 85) (by decide +kernel)) (by decide +kernel))
theorem co_X7_end : Cond.code yX7_end cX7_end 2 (some .boolean) ∈ wsA := (wa_4 (List.mem_of_getElem? (i := 86) rfl) (by decide +kernel))
theorem yy_X7_end : yX7_end.cls = RX7 ∧ yX7_end.cls ≠ "java/lang/invoke/MethodHandle" ∧ yX7_end.cls ≠ "java/lang/invoke/VarHandle" ∧ (parseMethodDescriptor yX7_end.desc).map (fun d => d.parameters.length) = some 1 := by decide +kernel
theorem e_L_31 : EV mdL md_X7_end 31 7 1 := ⟨(wa_4 (List.mem_of_getElem? (i := 83) (by decide +kernel)) (by decide +kernel)), im_X7_end, se_X7_end, (wa_1 (List.mem_of_getElem? (i := 8) (by decide +kernel)) (by decide +kernel)), co_X7_end, yy_X7_end, ⟨by decide, by decide⟩, _, rfl, rfl⟩
theorem im_X6_text : Cond.instanceMethod yX6_text ∈ wsA := (wa_2 (List.mem_of_getElem? (i := 48) (by decide +kernel)) (by decide +kernel))
theorem se_X6_text : Cond.selects RX6 yX6_text yX6_text ∈ wsA := (wa_2 (List.mem_of_getElem? (i := 49) (by decide +kernel)) (by decide +kernel))
theorem co_X6_text : Cond.code yX6_text cX6_text 2 (some .int) ∈ wsA := (wa_2 (List.mem_of_getElem? (i := 50) rfl) (by decide +kernel))
theorem yy_X6_text : yX6_text.cls = RX6 ∧ yX6_text.cls ≠ "java/lang/invoke/MethodHandle" ∧ yX6_text.cls ≠ "java/lang/invoke/VarHandle" ∧ (parseMethodDescriptor yX6_text.desc).map (fun d => d.parameters.length) = some 0 := by decide +kernel
theorem e_L_32 : EV mdL md_X6_text 32 6 0 := ⟨(wa_2 (List.mem_of_getElem? (i := 47) (by decide +kernel)) (by decide +kernel)), im_X6_text, se_X6_text, (wa_1 (List.mem_of_getElem? (i := 1) (by decide +kernel)) (by decide +kernel)), co_X6_text, yy_X6_text, ⟨by decide, by decide⟩, _, rfl, rfl⟩
theorem im_X7_text : Cond.instanceMethod yX7_text ∈ wsA := (wa_4 (List.mem_of_getElem? (i := 179) (by decide +kernel)) (by decide +kernel))
theorem se_X7_text : Cond.selects RX7 yX7_text yX7_text ∈ wsA := (wa_4 (List.mem_of_getElem? (i := 180) (by decide +kernel)) (by decide +kernel))
theorem co_X7_text : Cond.code yX7_text cX7_text 2 (some .int) ∈ wsA := (wa_4 (List.mem_of_getElem? (i := 181) rfl) (by decide +kernel))
theorem yy_X7_text : yX7_text.cls = RX7 ∧ yX7_text.cls ≠ "java/lang/invoke/MethodHandle" ∧ yX7_text.cls ≠ "java/lang/invoke/VarHandle" ∧ (parseMethodDescriptor yX7_text.desc).map (fun d => d.parameters.length) = some 0 := by decide +kernel
theorem e_L_36 : EV mdL md_X7_text 36 7 0 := ⟨(wa_4 (List.mem_of_getElem? (i := 178) (by decide +kernel)) (by decide +kernel)), im_X7_text, se_X7_text, (wa_1 (List.mem_of_getElem? (i := 8) (by decide +kernel)) (by decide +kernel)), co_X7_text, yy_X7_text, ⟨by decide, by decide⟩, _, rfl, rfl⟩
theorem im_X6_fault : Cond.instanceMethod yX6_fault ∈ wsA := (wa_2 (List.mem_of_getElem? (i := 227) (by decide +kernel)) (by decide +kernel))
theorem se_X6_fault : Cond.selects RX6 yX6_fault yX6_fault ∈ wsA := (wa_2 (List.mem_of_getElem? (i := 228) (by decide +kernel)) (by decide +kernel))
theorem co_X6_fault : Cond.code yX6_fault cX6_fault 1 (some .int) ∈ wsA := (wa_2 (List.mem_of_getElem? (i := 229) rfl) (by decide +kernel))
theorem yy_X6_fault : yX6_fault.cls = RX6 ∧ yX6_fault.cls ≠ "java/lang/invoke/MethodHandle" ∧ yX6_fault.cls ≠ "java/lang/invoke/VarHandle" ∧ (parseMethodDescriptor yX6_fault.desc).map (fun d => d.parameters.length) = some 0 := by decide +kernel
theorem e_L_37 : EV mdL md_X6_fault 37 6 0 := ⟨(wa_2 (List.mem_of_getElem? (i := 226) (by decide +kernel)) (by decide +kernel)), im_X6_fault, se_X6_fault, (wa_1 (List.mem_of_getElem? (i := 1) (by decide +kernel)) (by decide +kernel)), co_X6_fault, yy_X6_fault, ⟨by decide, by decide⟩, _, rfl, rfl⟩
theorem im_X7_fault : Cond.instanceMethod yX7_fault ∈ wsA := (wa_5 (List.mem_of_getElem? (i := 19) (by decide +kernel)) (by decide +kernel))
theorem se_X7_fault : Cond.selects RX7 yX7_fault yX7_fault ∈ wsA := (wa_5 (List.mem_of_getElem? (i := 20) (by decide +kernel)) (by decide +kernel))
theorem co_X7_fault : Cond.code yX7_fault cX7_fault 1 (some .int) ∈ wsA := (wa_5 (List.mem_of_getElem? (i := 21) rfl) (by decide +kernel))
theorem yy_X7_fault : yX7_fault.cls = RX7 ∧ yX7_fault.cls ≠ "java/lang/invoke/MethodHandle" ∧ yX7_fault.cls ≠ "java/lang/invoke/VarHandle" ∧ (parseMethodDescriptor yX7_fault.desc).map (fun d => d.parameters.length) = some 0 := by decide +kernel
theorem e_L_40 : EV mdL md_X7_fault 40 7 0 := ⟨(wa_5 (List.mem_of_getElem? (i := 18) (by decide +kernel)) (by decide +kernel)), im_X7_fault, se_X7_fault, (wa_1 (List.mem_of_getElem? (i := 8) (by decide +kernel)) (by decide +kernel)), co_X7_fault, yy_X7_fault, ⟨by decide, by decide⟩, _, rfl, rfl⟩
theorem im_X6_now : Cond.instanceMethod yX6_now ∈ wsA := (wa_2 (List.mem_of_getElem? (i := 231) (by decide +kernel)) (by decide +kernel))
theorem se_X6_now : Cond.selects RX6 yX6_now yX6_now ∈ wsA := (wa_2 (List.mem_of_getElem? (i := 232) (by decide +kernel)) (by decide +kernel))
theorem co_X6_now : Cond.code yX6_now cX6_now 2 (some .int) ∈ wsA := (wa_2 (List.mem_of_getElem? (i := 233) rfl) (by decide +kernel))
theorem yy_X6_now : yX6_now.cls = RX6 ∧ yX6_now.cls ≠ "java/lang/invoke/MethodHandle" ∧ yX6_now.cls ≠ "java/lang/invoke/VarHandle" ∧ (parseMethodDescriptor yX6_now.desc).map (fun d => d.parameters.length) = some 1 := by decide +kernel
theorem e_L_41 : EV mdL md_X6_now 41 6 1 := ⟨(wa_2 (List.mem_of_getElem? (i := 230) (by decide +kernel)) (by decide +kernel)), im_X6_now, se_X6_now, (wa_1 (List.mem_of_getElem? (i := 1) (by decide +kernel)) (by decide +kernel)), co_X6_now, yy_X6_now, ⟨by decide, by decide⟩, _, rfl, rfl⟩
theorem im_X7_now : Cond.instanceMethod yX7_now ∈ wsA := (wa_5 (List.mem_of_getElem? (i := 23) (by decide +kernel)) (by decide +kernel))
theorem se_X7_now : Cond.selects RX7 yX7_now yX7_now ∈ wsA := (wa_5 (List.mem_of_getElem? (i := 24) (by decide +kernel)) (by decide +kernel))
theorem co_X7_now : Cond.code yX7_now cX7_now 2 (some .int) ∈ wsA := (wa_5 (List.mem_of_getElem? (i := 25) rfl) (by decide +kernel))
theorem yy_X7_now : yX7_now.cls = RX7 ∧ yX7_now.cls ≠ "java/lang/invoke/MethodHandle" ∧ yX7_now.cls ≠ "java/lang/invoke/VarHandle" ∧ (parseMethodDescriptor yX7_now.desc).map (fun d => d.parameters.length) = some 1 := by decide +kernel
theorem e_L_45 : EV mdL md_X7_now 45 7 1 := ⟨(wa_5 (List.mem_of_getElem? (i := 22) (by decide +kernel)) (by decide +kernel)), im_X7_now, se_X7_now, (wa_1 (List.mem_of_getElem? (i := 8) (by decide +kernel)) (by decide +kernel)), co_X7_now, yy_X7_now, ⟨by decide, by decide⟩, _, rfl, rfl⟩
theorem im_X7_lot : Cond.instanceMethod yX7_lot ∈ wsA := (wa_5 (List.mem_of_getElem? (i := 63) (by decide +kernel)) (by decide +kernel))
theorem se_X7_lot : Cond.selects RX7 yX7_lot yX7_lot ∈ wsA := (wa_5 (List.mem_of_getElem? (i := 64) (by decide +kernel)) (by decide +kernel))
theorem co_X7_lot : Cond.code yX7_lot cX7_lot 3 (some .int) ∈ wsA := (wa_5 (List.mem_of_getElem? (i := 65) rfl) (by decide +kernel))
theorem yy_X7_lot : yX7_lot.cls = RX7 ∧ yX7_lot.cls ≠ "java/lang/invoke/MethodHandle" ∧ yX7_lot.cls ≠ "java/lang/invoke/VarHandle" ∧ (parseMethodDescriptor yX7_lot.desc).map (fun d => d.parameters.length) = some 2 := by decide +kernel
theorem e_L_51 : EV mdL md_X7_lot 51 7 2 := ⟨(wa_5 (List.mem_of_getElem? (i := 62) (by decide +kernel)) (by decide +kernel)), im_X7_lot, se_X7_lot, (wa_1 (List.mem_of_getElem? (i := 8) (by decide +kernel)) (by decide +kernel)), co_X7_lot, yy_X7_lot, ⟨by decide, by decide⟩, _, rfl, rfl⟩
theorem im_X7_thrown : Cond.instanceMethod yX7_thrown ∈ wsA := (wa_4 (List.mem_of_getElem? (i := 71) (by decide +kernel)) (by decide +kernel))
theorem se_X7_thrown : Cond.selects RX7 yX7_thrown yX7_thrown ∈ wsA := (wa_4 (List.mem_of_getElem? (i := 72) (by decide +kernel)) (by decide +kernel))
theorem co_X7_thrown : Cond.code yX7_thrown cX7_thrown 1 (some .int) ∈ wsA := (wa_4 (List.mem_of_getElem? (i := 73) rfl) (by decide +kernel))
theorem yy_X7_thrown : yX7_thrown.cls = RX7 ∧ yX7_thrown.cls ≠ "java/lang/invoke/MethodHandle" ∧ yX7_thrown.cls ≠ "java/lang/invoke/VarHandle" ∧ (parseMethodDescriptor yX7_thrown.desc).map (fun d => d.parameters.length) = some 0 := by decide +kernel
theorem e_L_52 : EV mdL md_X7_thrown 52 7 0 := ⟨(wa_4 (List.mem_of_getElem? (i := 70) (by decide +kernel)) (by decide +kernel)), im_X7_thrown, se_X7_thrown, (wa_1 (List.mem_of_getElem? (i := 8) (by decide +kernel)) (by decide +kernel)), co_X7_thrown, yy_X7_thrown, ⟨by decide, by decide⟩, _, rfl, rfl⟩
theorem im_X7_order : Cond.instanceMethod yX7_order ∈ wsA := (wa_5 (List.mem_of_getElem? (i := 75) (by decide +kernel)) (by decide +kernel))
theorem se_X7_order : Cond.selects RX7 yX7_order yX7_order ∈ wsA := (wa_5 (List.mem_of_getElem? (i := 76) (by decide +kernel)) (by decide +kernel))
theorem co_X7_order : Cond.code yX7_order cX7_order 3 (some .int) ∈ wsA := (wa_5 (List.mem_of_getElem? (i := 77) rfl) (by decide +kernel))
theorem yy_X7_order : yX7_order.cls = RX7 ∧ yX7_order.cls ≠ "java/lang/invoke/MethodHandle" ∧ yX7_order.cls ≠ "java/lang/invoke/VarHandle" ∧ (parseMethodDescriptor yX7_order.desc).map (fun d => d.parameters.length) = some 2 := by decide +kernel
theorem e_L_57 : EV mdL md_X7_order 57 7 2 := ⟨(wa_5 (List.mem_of_getElem? (i := 74) (by decide +kernel)) (by decide +kernel)), im_X7_order, se_X7_order, (wa_1 (List.mem_of_getElem? (i := 8) (by decide +kernel)) (by decide +kernel)), co_X7_order, yy_X7_order, ⟨by decide, by decide⟩, _, rfl, rfl⟩
theorem im_X6_reserved : Cond.instanceMethod yX6_reserved ∈ wsA := (wa_3 (List.mem_of_getElem? (i := 11) (by decide +kernel)) (by decide +kernel))
theorem se_X6_reserved : Cond.selects RX6 yX6_reserved yX6_reserved ∈ wsA := (wa_3 (List.mem_of_getElem? (i := 12) (by decide +kernel)) (by decide +kernel))
theorem co_X6_reserved : Cond.code yX6_reserved cX6_reserved 3 (some .int) ∈ wsA := (wa_3 (List.mem_of_getElem? (i := 13) rfl) (by decide +kernel))
theorem yy_X6_reserved : yX6_reserved.cls = RX6 ∧ yX6_reserved.cls ≠ "java/lang/invoke/MethodHandle" ∧ yX6_reserved.cls ≠ "java/lang/invoke/VarHandle" ∧ (parseMethodDescriptor yX6_reserved.desc).map (fun d => d.parameters.length) = some 2 := by decide +kernel
theorem e_L_58 : EV mdL md_X6_reserved 58 6 2 := ⟨(wa_3 (List.mem_of_getElem? (i := 10) (by decide +kernel)) (by decide +kernel)), im_X6_reserved, se_X6_reserved, (wa_1 (List.mem_of_getElem? (i := 1) (by decide +kernel)) (by decide +kernel)), co_X6_reserved, yy_X6_reserved, ⟨by decide, by decide⟩, _, rfl, rfl⟩
theorem im_X7_reserved : Cond.instanceMethod yX7_reserved ∈ wsA := (wa_5 (List.mem_of_getElem? (i := 83) (by decide +kernel)) (by decide +kernel))
theorem se_X7_reserved : Cond.selects RX7 yX7_reserved yX7_reserved ∈ wsA := (wa_5 (List.mem_of_getElem? (i := 84) (by decide +kernel)) (by decide +kernel))
theorem co_X7_reserved : Cond.code yX7_reserved cX7_reserved 3 (some .int) ∈ wsA := (wa_5 (List.mem_of_getElem? (i := 85) rfl) (by decide +kernel))
theorem yy_X7_reserved : yX7_reserved.cls = RX7 ∧ yX7_reserved.cls ≠ "java/lang/invoke/MethodHandle" ∧ yX7_reserved.cls ≠ "java/lang/invoke/VarHandle" ∧ (parseMethodDescriptor yX7_reserved.desc).map (fun d => d.parameters.length) = some 2 := by decide +kernel
theorem e_L_61 : EV mdL md_X7_reserved 61 7 2 := ⟨(wa_5 (List.mem_of_getElem? (i := 82) (by decide +kernel)) (by decide +kernel)), im_X7_reserved, se_X7_reserved, (wa_1 (List.mem_of_getElem? (i := 8) (by decide +kernel)) (by decide +kernel)), co_X7_reserved, yy_X7_reserved, ⟨by decide, by decide⟩, _, rfl, rfl⟩
theorem im_X6_customer : Cond.instanceMethod yX6_customer ∈ wsA := (wa_3 (List.mem_of_getElem? (i := 31) (by decide +kernel)) (by decide +kernel))
theorem se_X6_customer : Cond.selects RX6 yX6_customer yX6_customer ∈ wsA := (wa_3 (List.mem_of_getElem? (i := 32) (by decide +kernel)) (by decide +kernel))
theorem co_X6_customer : Cond.code yX6_customer cX6_customer 3 (some .int) ∈ wsA := (wa_3 (List.mem_of_getElem? (i := 33) rfl) (by decide +kernel))
theorem yy_X6_customer : yX6_customer.cls = RX6 ∧ yX6_customer.cls ≠ "java/lang/invoke/MethodHandle" ∧ yX6_customer.cls ≠ "java/lang/invoke/VarHandle" ∧ (parseMethodDescriptor yX6_customer.desc).map (fun d => d.parameters.length) = some 2 := by decide +kernel
theorem e_L_62 : EV mdL md_X6_customer 62 6 2 := ⟨(wa_3 (List.mem_of_getElem? (i := 30) (by decide +kernel)) (by decide +kernel)), im_X6_customer, se_X6_customer, (wa_1 (List.mem_of_getElem? (i := 1) (by decide +kernel)) (by decide +kernel)), co_X6_customer, yy_X6_customer, ⟨by decide, by decide⟩, _, rfl, rfl⟩
theorem im_X7_customer : Cond.instanceMethod yX7_customer ∈ wsA := (wa_5 (List.mem_of_getElem? (i := 87) (by decide +kernel)) (by decide +kernel))
theorem se_X7_customer : Cond.selects RX7 yX7_customer yX7_customer ∈ wsA := (wa_5 (List.mem_of_getElem? (i := 88) (by decide +kernel)) (by decide +kernel))
theorem co_X7_customer : Cond.code yX7_customer cX7_customer 3 (some .int) ∈ wsA := (wa_5 (List.mem_of_getElem? (i := 89) rfl) (by decide +kernel))
theorem yy_X7_customer : yX7_customer.cls = RX7 ∧ yX7_customer.cls ≠ "java/lang/invoke/MethodHandle" ∧ yX7_customer.cls ≠ "java/lang/invoke/VarHandle" ∧ (parseMethodDescriptor yX7_customer.desc).map (fun d => d.parameters.length) = some 2 := by decide +kernel
theorem e_L_65 : EV mdL md_X7_customer 65 7 2 := ⟨(wa_5 (List.mem_of_getElem? (i := 86) (by decide +kernel)) (by decide +kernel)), im_X7_customer, se_X7_customer, (wa_1 (List.mem_of_getElem? (i := 8) (by decide +kernel)) (by decide +kernel)), co_X7_customer, yy_X7_customer, ⟨by decide, by decide⟩, _, rfl, rfl⟩
theorem im_X6_suits : Cond.instanceMethod yX6_suits ∈ wsA := (wa_3 (List.mem_of_getElem? (i := 41) (by decide +kernel)) (by decide +kernel))
theorem se_X6_suits : Cond.selects RX6 yX6_suits yX6_suits ∈ wsA := (wa_3 (List.mem_of_getElem? (i := 42) (by decide +kernel)) (by decide +kernel))
theorem co_X6_suits : Cond.code yX6_suits cX6_suits 3 (some .boolean) ∈ wsA := (wa_3 (List.mem_of_getElem? (i := 43) rfl) (by decide +kernel))
theorem yy_X6_suits : yX6_suits.cls = RX6 ∧ yX6_suits.cls ≠ "java/lang/invoke/MethodHandle" ∧ yX6_suits.cls ≠ "java/lang/invoke/VarHandle" ∧ (parseMethodDescriptor yX6_suits.desc).map (fun d => d.parameters.length) = some 2 := by decide +kernel
theorem e_L_66 : EV mdL md_X6_suits 66 6 2 := ⟨(wa_3 (List.mem_of_getElem? (i := 40) (by decide +kernel)) (by decide +kernel)), im_X6_suits, se_X6_suits, (wa_1 (List.mem_of_getElem? (i := 1) (by decide +kernel)) (by decide +kernel)), co_X6_suits, yy_X6_suits, ⟨by decide, by decide⟩, _, rfl, rfl⟩
theorem im_X7_suits : Cond.instanceMethod yX7_suits ∈ wsA := (wa_5 (List.mem_of_getElem? (i := 103) (by decide +kernel)) (by decide +kernel))
theorem se_X7_suits : Cond.selects RX7 yX7_suits yX7_suits ∈ wsA := (wa_5 (List.mem_of_getElem? (i := 104) (by decide +kernel)) (by decide +kernel))
theorem co_X7_suits : Cond.code yX7_suits cX7_suits 3 (some .boolean) ∈ wsA := (wa_5 (List.mem_of_getElem? (i := 105) rfl) (by decide +kernel))
theorem yy_X7_suits : yX7_suits.cls = RX7 ∧ yX7_suits.cls ≠ "java/lang/invoke/MethodHandle" ∧ yX7_suits.cls ≠ "java/lang/invoke/VarHandle" ∧ (parseMethodDescriptor yX7_suits.desc).map (fun d => d.parameters.length) = some 2 := by decide +kernel
theorem e_L_70 : EV mdL md_X7_suits 70 7 2 := ⟨(wa_5 (List.mem_of_getElem? (i := 102) (by decide +kernel)) (by decide +kernel)), im_X7_suits, se_X7_suits, (wa_1 (List.mem_of_getElem? (i := 8) (by decide +kernel)) (by decide +kernel)), co_X7_suits, yy_X7_suits, ⟨by decide, by decide⟩, _, rfl, rfl⟩
theorem im_X6_plan : Cond.instanceMethod yX6_plan ∈ wsA := (wa_3 (List.mem_of_getElem? (i := 55) (by decide +kernel)) (by decide +kernel))
theorem se_X6_plan : Cond.selects RX6 yX6_plan yX6_plan ∈ wsA := (wa_3 (List.mem_of_getElem? (i := 56) (by decide +kernel)) (by decide +kernel))
theorem co_X6_plan : Cond.code yX6_plan cX6_plan 4 (some .int) ∈ wsA := (wa_3 (List.mem_of_getElem? (i := 57) rfl) (by decide +kernel))
theorem yy_X6_plan : yX6_plan.cls = RX6 ∧ yX6_plan.cls ≠ "java/lang/invoke/MethodHandle" ∧ yX6_plan.cls ≠ "java/lang/invoke/VarHandle" ∧ (parseMethodDescriptor yX6_plan.desc).map (fun d => d.parameters.length) = some 2 := by decide +kernel
theorem e_L_71 : EV mdL md_X6_plan 71 6 2 := ⟨(wa_3 (List.mem_of_getElem? (i := 54) (by decide +kernel)) (by decide +kernel)), im_X6_plan, se_X6_plan, (wa_1 (List.mem_of_getElem? (i := 1) (by decide +kernel)) (by decide +kernel)), co_X6_plan, yy_X6_plan, ⟨by decide, by decide⟩, _, rfl, rfl⟩
theorem im_X7_plan : Cond.instanceMethod yX7_plan ∈ wsA := (wa_5 (List.mem_of_getElem? (i := 115) (by decide +kernel)) (by decide +kernel))
theorem se_X7_plan : Cond.selects RX7 yX7_plan yX7_plan ∈ wsA := (wa_5 (List.mem_of_getElem? (i := 116) (by decide +kernel)) (by decide +kernel))
theorem co_X7_plan : Cond.code yX7_plan cX7_plan 3 (some .int) ∈ wsA := (wa_5 (List.mem_of_getElem? (i := 117) rfl) (by decide +kernel))
theorem yy_X7_plan : yX7_plan.cls = RX7 ∧ yX7_plan.cls ≠ "java/lang/invoke/MethodHandle" ∧ yX7_plan.cls ≠ "java/lang/invoke/VarHandle" ∧ (parseMethodDescriptor yX7_plan.desc).map (fun d => d.parameters.length) = some 2 := by decide +kernel
theorem e_L_74 : EV mdL md_X7_plan 74 7 2 := ⟨(wa_5 (List.mem_of_getElem? (i := 114) (by decide +kernel)) (by decide +kernel)), im_X7_plan, se_X7_plan, (wa_1 (List.mem_of_getElem? (i := 8) (by decide +kernel)) (by decide +kernel)), co_X7_plan, yy_X7_plan, ⟨by decide, by decide⟩, _, rfl, rfl⟩
theorem im_X6_waste : Cond.instanceMethod yX6_waste ∈ wsA := (wa_3 (List.mem_of_getElem? (i := 101) (by decide +kernel)) (by decide +kernel))
theorem se_X6_waste : Cond.selects RX6 yX6_waste yX6_waste ∈ wsA := (wa_3 (List.mem_of_getElem? (i := 102) (by decide +kernel)) (by decide +kernel))
theorem co_X6_waste : Cond.code yX6_waste cX6_waste 5 (some .int) ∈ wsA := (wa_3 (List.mem_of_getElem? (i := 103) rfl) (by decide +kernel))
theorem yy_X6_waste : yX6_waste.cls = RX6 ∧ yX6_waste.cls ≠ "java/lang/invoke/MethodHandle" ∧ yX6_waste.cls ≠ "java/lang/invoke/VarHandle" ∧ (parseMethodDescriptor yX6_waste.desc).map (fun d => d.parameters.length) = some 2 := by decide +kernel
theorem e_L_75 : EV mdL md_X6_waste 75 6 2 := ⟨(wa_3 (List.mem_of_getElem? (i := 100) (by decide +kernel)) (by decide +kernel)), im_X6_waste, se_X6_waste, (wa_1 (List.mem_of_getElem? (i := 1) (by decide +kernel)) (by decide +kernel)), co_X6_waste, yy_X6_waste, ⟨by decide, by decide⟩, _, rfl, rfl⟩
theorem im_X7_waste : Cond.instanceMethod yX7_waste ∈ wsA := (wa_5 (List.mem_of_getElem? (i := 195) (by decide +kernel)) (by decide +kernel))
theorem se_X7_waste : Cond.selects RX7 yX7_waste yX7_waste ∈ wsA := (wa_5 (List.mem_of_getElem? (i := 196) (by decide +kernel)) (by decide +kernel))
theorem co_X7_waste : Cond.code yX7_waste cX7_waste 5 (some .int) ∈ wsA := (wa_5 (List.mem_of_getElem? (i := 197) rfl) (by decide +kernel))
theorem yy_X7_waste : yX7_waste.cls = RX7 ∧ yX7_waste.cls ≠ "java/lang/invoke/MethodHandle" ∧ yX7_waste.cls ≠ "java/lang/invoke/VarHandle" ∧ (parseMethodDescriptor yX7_waste.desc).map (fun d => d.parameters.length) = some 2 := by decide +kernel
theorem e_L_78 : EV mdL md_X7_waste 78 7 2 := ⟨(wa_5 (List.mem_of_getElem? (i := 194) (by decide +kernel)) (by decide +kernel)), im_X7_waste, se_X7_waste, (wa_1 (List.mem_of_getElem? (i := 8) (by decide +kernel)) (by decide +kernel)), co_X7_waste, yy_X7_waste, ⟨by decide, by decide⟩, _, rfl, rfl⟩
theorem im_X6_least : Cond.instanceMethod yX6_least ∈ wsA := (wa_3 (List.mem_of_getElem? (i := 110) (by decide +kernel)) (by decide +kernel))
theorem se_X6_least : Cond.selects RX6 yX6_least yX6_least ∈ wsA := (wa_3 (List.mem_of_getElem? (i := 111) (by decide +kernel)) (by decide +kernel))
theorem co_X6_least : Cond.code yX6_least cX6_least 3 (some .int) ∈ wsA := (wa_3 (List.mem_of_getElem? (i := 112) rfl) (by decide +kernel))
theorem yy_X6_least : yX6_least.cls = RX6 ∧ yX6_least.cls ≠ "java/lang/invoke/MethodHandle" ∧ yX6_least.cls ≠ "java/lang/invoke/VarHandle" ∧ (parseMethodDescriptor yX6_least.desc).map (fun d => d.parameters.length) = some 2 := by decide +kernel
theorem e_L_79 : EV mdL md_X6_least 79 6 2 := ⟨(wa_3 (List.mem_of_getElem? (i := 109) (by decide +kernel)) (by decide +kernel)), im_X6_least, se_X6_least, (wa_1 (List.mem_of_getElem? (i := 1) (by decide +kernel)) (by decide +kernel)), co_X6_least, yy_X6_least, ⟨by decide, by decide⟩, _, rfl, rfl⟩
theorem im_X7_least : Cond.instanceMethod yX7_least ∈ wsA := (wa_5 (List.mem_of_getElem? (i := 203) (by decide +kernel)) (by decide +kernel))
theorem se_X7_least : Cond.selects RX7 yX7_least yX7_least ∈ wsA := (wa_5 (List.mem_of_getElem? (i := 204) (by decide +kernel)) (by decide +kernel))
theorem co_X7_least : Cond.code yX7_least cX7_least 5 (some .int) ∈ wsA := (wa_5 (List.mem_of_getElem? (i := 205) rfl) (by decide +kernel))
theorem yy_X7_least : yX7_least.cls = RX7 ∧ yX7_least.cls ≠ "java/lang/invoke/MethodHandle" ∧ yX7_least.cls ≠ "java/lang/invoke/VarHandle" ∧ (parseMethodDescriptor yX7_least.desc).map (fun d => d.parameters.length) = some 2 := by decide +kernel
theorem e_L_82 : EV mdL md_X7_least 82 7 2 := ⟨(wa_5 (List.mem_of_getElem? (i := 202) (by decide +kernel)) (by decide +kernel)), im_X7_least, se_X7_least, (wa_1 (List.mem_of_getElem? (i := 8) (by decide +kernel)) (by decide +kernel)), co_X7_least, yy_X7_least, ⟨by decide, by decide⟩, _, rfl, rfl⟩
theorem im_X6_would : Cond.instanceMethod yX6_would ∈ wsA := (wa_3 (List.mem_of_getElem? (i := 118) (by decide +kernel)) (by decide +kernel))
theorem se_X6_would : Cond.selects RX6 yX6_would yX6_would ∈ wsA := (wa_3 (List.mem_of_getElem? (i := 119) (by decide +kernel)) (by decide +kernel))
theorem co_X6_would : Cond.code yX6_would cX6_would 6 (some .int) ∈ wsA := (wa_3 (List.mem_of_getElem? (i := 120) rfl) (by decide +kernel))
theorem yy_X6_would : yX6_would.cls = RX6 ∧ yX6_would.cls ≠ "java/lang/invoke/MethodHandle" ∧ yX6_would.cls ≠ "java/lang/invoke/VarHandle" ∧ (parseMethodDescriptor yX6_would.desc).map (fun d => d.parameters.length) = some 4 := by decide +kernel
theorem e_L_83 : EV mdL md_X6_would 83 6 4 := ⟨(wa_3 (List.mem_of_getElem? (i := 117) (by decide +kernel)) (by decide +kernel)), im_X6_would, se_X6_would, (wa_1 (List.mem_of_getElem? (i := 1) (by decide +kernel)) (by decide +kernel)), co_X6_would, yy_X6_would, ⟨by decide, by decide⟩, _, rfl, rfl⟩
theorem im_X7_would : Cond.instanceMethod yX7_would ∈ wsA := (wa_5 (List.mem_of_getElem? (i := 207) (by decide +kernel)) (by decide +kernel))
theorem se_X7_would : Cond.selects RX7 yX7_would yX7_would ∈ wsA := (wa_5 (List.mem_of_getElem? (i := 208) (by decide +kernel)) (by decide +kernel))
theorem co_X7_would : Cond.code yX7_would cX7_would 5 (some .int) ∈ wsA := (wa_5 (List.mem_of_getElem? (i := 209) rfl) (by decide +kernel))
theorem yy_X7_would : yX7_would.cls = RX7 ∧ yX7_would.cls ≠ "java/lang/invoke/MethodHandle" ∧ yX7_would.cls ≠ "java/lang/invoke/VarHandle" ∧ (parseMethodDescriptor yX7_would.desc).map (fun d => d.parameters.length) = some 4 := by decide +kernel
theorem e_L_87 : EV mdL md_X7_would 87 7 4 := ⟨(wa_5 (List.mem_of_getElem? (i := 206) (by decide +kernel)) (by decide +kernel)), im_X7_would, se_X7_would, (wa_1 (List.mem_of_getElem? (i := 8) (by decide +kernel)) (by decide +kernel)), co_X7_would, yy_X7_would, ⟨by decide, by decide⟩, _, rfl, rfl⟩
theorem im_X6_slack : Cond.instanceMethod yX6_slack ∈ wsA := (wa_3 (List.mem_of_getElem? (i := 129) (by decide +kernel)) (by decide +kernel))
theorem se_X6_slack : Cond.selects RX6 yX6_slack yX6_slack ∈ wsA := (wa_3 (List.mem_of_getElem? (i := 130) (by decide +kernel)) (by decide +kernel))
theorem co_X6_slack : Cond.code yX6_slack cX6_slack 6 (some .int) ∈ wsA := (wa_3 (List.mem_of_getElem? (i := 131) rfl) (by decide +kernel))
theorem yy_X6_slack : yX6_slack.cls = RX6 ∧ yX6_slack.cls ≠ "java/lang/invoke/MethodHandle" ∧ yX6_slack.cls ≠ "java/lang/invoke/VarHandle" ∧ (parseMethodDescriptor yX6_slack.desc).map (fun d => d.parameters.length) = some 1 := by decide +kernel
theorem e_L_88 : EV mdL md_X6_slack 88 6 1 := ⟨(wa_3 (List.mem_of_getElem? (i := 128) (by decide +kernel)) (by decide +kernel)), im_X6_slack, se_X6_slack, (wa_1 (List.mem_of_getElem? (i := 1) (by decide +kernel)) (by decide +kernel)), co_X6_slack, yy_X6_slack, ⟨by decide, by decide⟩, _, rfl, rfl⟩
theorem im_X7_slack : Cond.instanceMethod yX7_slack ∈ wsA := (wa_5 (List.mem_of_getElem? (i := 215) (by decide +kernel)) (by decide +kernel))
theorem se_X7_slack : Cond.selects RX7 yX7_slack yX7_slack ∈ wsA := (wa_5 (List.mem_of_getElem? (i := 216) (by decide +kernel)) (by decide +kernel))
theorem co_X7_slack : Cond.code yX7_slack cX7_slack 4 (some .int) ∈ wsA := (wa_5 (List.mem_of_getElem? (i := 217) rfl) (by decide +kernel))
theorem yy_X7_slack : yX7_slack.cls = RX7 ∧ yX7_slack.cls ≠ "java/lang/invoke/MethodHandle" ∧ yX7_slack.cls ≠ "java/lang/invoke/VarHandle" ∧ (parseMethodDescriptor yX7_slack.desc).map (fun d => d.parameters.length) = some 1 := by decide +kernel
theorem e_L_91 : EV mdL md_X7_slack 91 7 1 := ⟨(wa_5 (List.mem_of_getElem? (i := 214) (by decide +kernel)) (by decide +kernel)), im_X7_slack, se_X7_slack, (wa_1 (List.mem_of_getElem? (i := 8) (by decide +kernel)) (by decide +kernel)), co_X7_slack, yy_X7_slack, ⟨by decide, by decide⟩, _, rfl, rfl⟩
theorem im_X6_comes : Cond.instanceMethod yX6_comes ∈ wsA := (wa_3 (List.mem_of_getElem? (i := 137) (by decide +kernel)) (by decide +kernel))
theorem se_X6_comes : Cond.selects RX6 yX6_comes yX6_comes ∈ wsA := (wa_3 (List.mem_of_getElem? (i := 138) (by decide +kernel)) (by decide +kernel))
theorem co_X6_comes : Cond.code yX6_comes cX6_comes 5 (some .int) ∈ wsA := (wa_3 (List.mem_of_getElem? (i := 139) rfl) (by decide +kernel))
theorem yy_X6_comes : yX6_comes.cls = RX6 ∧ yX6_comes.cls ≠ "java/lang/invoke/MethodHandle" ∧ yX6_comes.cls ≠ "java/lang/invoke/VarHandle" ∧ (parseMethodDescriptor yX6_comes.desc).map (fun d => d.parameters.length) = some 4 := by decide +kernel
theorem e_L_92 : EV mdL md_X6_comes 92 6 4 := ⟨(wa_3 (List.mem_of_getElem? (i := 136) (by decide +kernel)) (by decide +kernel)), im_X6_comes, se_X6_comes, (wa_1 (List.mem_of_getElem? (i := 1) (by decide +kernel)) (by decide +kernel)), co_X6_comes, yy_X6_comes, ⟨by decide, by decide⟩, _, rfl, rfl⟩
theorem im_X7_comes : Cond.instanceMethod yX7_comes ∈ wsA := (wa_5 (List.mem_of_getElem? (i := 219) (by decide +kernel)) (by decide +kernel))
theorem se_X7_comes : Cond.selects RX7 yX7_comes yX7_comes ∈ wsA := (wa_5 (List.mem_of_getElem? (i := 220) (by decide +kernel)) (by decide +kernel))
theorem co_X7_comes : Cond.code yX7_comes cX7_comes 6 (some .int) ∈ wsA := (wa_5 (List.mem_of_getElem? (i := 221) rfl) (by decide +kernel))
theorem yy_X7_comes : yX7_comes.cls = RX7 ∧ yX7_comes.cls ≠ "java/lang/invoke/MethodHandle" ∧ yX7_comes.cls ≠ "java/lang/invoke/VarHandle" ∧ (parseMethodDescriptor yX7_comes.desc).map (fun d => d.parameters.length) = some 4 := by decide +kernel
theorem e_L_95 : EV mdL md_X7_comes 95 7 4 := ⟨(wa_5 (List.mem_of_getElem? (i := 218) (by decide +kernel)) (by decide +kernel)), im_X7_comes, se_X7_comes, (wa_1 (List.mem_of_getElem? (i := 8) (by decide +kernel)) (by decide +kernel)), co_X7_comes, yy_X7_comes, ⟨by decide, by decide⟩, _, rfl, rfl⟩
theorem im_X6_asks : Cond.instanceMethod yX6_asks ∈ wsA := (wa_3 (List.mem_of_getElem? (i := 151) (by decide +kernel)) (by decide +kernel))
theorem se_X6_asks : Cond.selects RX6 yX6_asks yX6_asks ∈ wsA := (wa_3 (List.mem_of_getElem? (i := 152) (by decide +kernel)) (by decide +kernel))
theorem co_X6_asks : Cond.code yX6_asks cX6_asks 5 (some .int) ∈ wsA := (wa_3 (List.mem_of_getElem? (i := 153) rfl) (by decide +kernel))
theorem yy_X6_asks : yX6_asks.cls = RX6 ∧ yX6_asks.cls ≠ "java/lang/invoke/MethodHandle" ∧ yX6_asks.cls ≠ "java/lang/invoke/VarHandle" ∧ (parseMethodDescriptor yX6_asks.desc).map (fun d => d.parameters.length) = some 4 := by decide +kernel
theorem e_L_96 : EV mdL md_X6_asks 96 6 4 := ⟨(wa_3 (List.mem_of_getElem? (i := 150) (by decide +kernel)) (by decide +kernel)), im_X6_asks, se_X6_asks, (wa_1 (List.mem_of_getElem? (i := 1) (by decide +kernel)) (by decide +kernel)), co_X6_asks, yy_X6_asks, ⟨by decide, by decide⟩, _, rfl, rfl⟩
theorem im_X7_asks : Cond.instanceMethod yX7_asks ∈ wsA := (wa_5 (List.mem_of_getElem? (i := 227) (by decide +kernel)) (by decide +kernel))
theorem se_X7_asks : Cond.selects RX7 yX7_asks yX7_asks ∈ wsA := (wa_5 (List.mem_of_getElem? (i := 228) (by decide +kernel)) (by decide +kernel))
theorem co_X7_asks : Cond.code yX7_asks cX7_asks 6 (some .int) ∈ wsA := (wa_5 (List.mem_of_getElem? (i := 229) rfl) (by decide +kernel))
theorem yy_X7_asks : yX7_asks.cls = RX7 ∧ yX7_asks.cls ≠ "java/lang/invoke/MethodHandle" ∧ yX7_asks.cls ≠ "java/lang/invoke/VarHandle" ∧ (parseMethodDescriptor yX7_asks.desc).map (fun d => d.parameters.length) = some 4 := by decide +kernel
theorem e_L_99 : EV mdL md_X7_asks 99 7 4 := ⟨(wa_5 (List.mem_of_getElem? (i := 226) (by decide +kernel)) (by decide +kernel)), im_X7_asks, se_X7_asks, (wa_1 (List.mem_of_getElem? (i := 8) (by decide +kernel)) (by decide +kernel)), co_X7_asks, yy_X7_asks, ⟨by decide, by decide⟩, _, rfl, rfl⟩
theorem im_X6_reserve : Cond.instanceMethod yX6_reserve ∈ wsA := (wa_3 (List.mem_of_getElem? (i := 155) (by decide +kernel)) (by decide +kernel))
theorem se_X6_reserve : Cond.selects RX6 yX6_reserve yX6_reserve ∈ wsA := (wa_3 (List.mem_of_getElem? (i := 156) (by decide +kernel)) (by decide +kernel))
theorem co_X6_reserve : Cond.code yX6_reserve cX6_reserve 2 (some .int) ∈ wsA := (wa_3 (List.mem_of_getElem? (i := 157) rfl) (by decide +kernel))
theorem yy_X6_reserve : yX6_reserve.cls = RX6 ∧ yX6_reserve.cls ≠ "java/lang/invoke/MethodHandle" ∧ yX6_reserve.cls ≠ "java/lang/invoke/VarHandle" ∧ (parseMethodDescriptor yX6_reserve.desc).map (fun d => d.parameters.length) = some 1 := by decide +kernel
theorem e_L_100 : EV mdL md_X6_reserve 100 6 1 := ⟨(wa_3 (List.mem_of_getElem? (i := 154) (by decide +kernel)) (by decide +kernel)), im_X6_reserve, se_X6_reserve, (wa_1 (List.mem_of_getElem? (i := 1) (by decide +kernel)) (by decide +kernel)), co_X6_reserve, yy_X6_reserve, ⟨by decide, by decide⟩, _, rfl, rfl⟩
theorem im_X7_reserve : Cond.instanceMethod yX7_reserve ∈ wsA := (wa_5 (List.mem_of_getElem? (i := 231) (by decide +kernel)) (by decide +kernel))
theorem se_X7_reserve : Cond.selects RX7 yX7_reserve yX7_reserve ∈ wsA := (wa_5 (List.mem_of_getElem? (i := 232) (by decide +kernel)) (by decide +kernel))
theorem co_X7_reserve : Cond.code yX7_reserve cX7_reserve 7 (some .int) ∈ wsA := (wa_5 (List.mem_of_getElem? (i := 233) rfl) (by decide +kernel))
theorem yy_X7_reserve : yX7_reserve.cls = RX7 ∧ yX7_reserve.cls ≠ "java/lang/invoke/MethodHandle" ∧ yX7_reserve.cls ≠ "java/lang/invoke/VarHandle" ∧ (parseMethodDescriptor yX7_reserve.desc).map (fun d => d.parameters.length) = some 1 := by decide +kernel
theorem e_L_103 : EV mdL md_X7_reserve 103 7 1 := ⟨(wa_5 (List.mem_of_getElem? (i := 230) (by decide +kernel)) (by decide +kernel)), im_X7_reserve, se_X7_reserve, (wa_1 (List.mem_of_getElem? (i := 8) (by decide +kernel)) (by decide +kernel)), co_X7_reserve, yy_X7_reserve, ⟨by decide, by decide⟩, _, rfl, rfl⟩
theorem im_X6_cancel : Cond.instanceMethod yX6_cancel ∈ wsA := (wa_3 (List.mem_of_getElem? (i := 171) (by decide +kernel)) (by decide +kernel))
theorem se_X6_cancel : Cond.selects RX6 yX6_cancel yX6_cancel ∈ wsA := (wa_3 (List.mem_of_getElem? (i := 172) (by decide +kernel)) (by decide +kernel))
theorem co_X6_cancel : Cond.code yX6_cancel cX6_cancel 2 (some .int) ∈ wsA := (wa_3 (List.mem_of_getElem? (i := 173) rfl) (by decide +kernel))
theorem yy_X6_cancel : yX6_cancel.cls = RX6 ∧ yX6_cancel.cls ≠ "java/lang/invoke/MethodHandle" ∧ yX6_cancel.cls ≠ "java/lang/invoke/VarHandle" ∧ (parseMethodDescriptor yX6_cancel.desc).map (fun d => d.parameters.length) = some 1 := by decide +kernel
theorem e_L_104 : EV mdL md_X6_cancel 104 6 1 := ⟨(wa_3 (List.mem_of_getElem? (i := 170) (by decide +kernel)) (by decide +kernel)), im_X6_cancel, se_X6_cancel, (wa_1 (List.mem_of_getElem? (i := 1) (by decide +kernel)) (by decide +kernel)), co_X6_cancel, yy_X6_cancel, ⟨by decide, by decide⟩, _, rfl, rfl⟩
theorem im_X7_cancel : Cond.instanceMethod yX7_cancel ∈ wsA := (wa_5 (List.mem_of_getElem? (i := 235) (by decide +kernel)) (by decide +kernel))
theorem se_X7_cancel : Cond.selects RX7 yX7_cancel yX7_cancel ∈ wsA := (wa_5 (List.mem_of_getElem? (i := 236) (by decide +kernel)) (by decide +kernel))
theorem co_X7_cancel : Cond.code yX7_cancel cX7_cancel 2 (some .int) ∈ wsA := (wa_5 (List.mem_of_getElem? (i := 237) rfl) (by decide +kernel))
theorem yy_X7_cancel : yX7_cancel.cls = RX7 ∧ yX7_cancel.cls ≠ "java/lang/invoke/MethodHandle" ∧ yX7_cancel.cls ≠ "java/lang/invoke/VarHandle" ∧ (parseMethodDescriptor yX7_cancel.desc).map (fun d => d.parameters.length) = some 1 := by decide +kernel
theorem e_L_107 : EV mdL md_X7_cancel 107 7 1 := ⟨(wa_5 (List.mem_of_getElem? (i := 234) (by decide +kernel)) (by decide +kernel)), im_X7_cancel, se_X7_cancel, (wa_1 (List.mem_of_getElem? (i := 8) (by decide +kernel)) (by decide +kernel)), co_X7_cancel, yy_X7_cancel, ⟨by decide, by decide⟩, _, rfl, rfl⟩
theorem im_X6_hold : Cond.instanceMethod yX6_hold ∈ wsA := (wa_3 (List.mem_of_getElem? (i := 185) (by decide +kernel)) (by decide +kernel))
theorem se_X6_hold : Cond.selects RX6 yX6_hold yX6_hold ∈ wsA := (wa_3 (List.mem_of_getElem? (i := 186) (by decide +kernel)) (by decide +kernel))
theorem co_X6_hold : Cond.code yX6_hold cX6_hold 3 (some .int) ∈ wsA := (wa_3 (List.mem_of_getElem? (i := 187) rfl) (by decide +kernel))
theorem yy_X6_hold : yX6_hold.cls = RX6 ∧ yX6_hold.cls ≠ "java/lang/invoke/MethodHandle" ∧ yX6_hold.cls ≠ "java/lang/invoke/VarHandle" ∧ (parseMethodDescriptor yX6_hold.desc).map (fun d => d.parameters.length) = some 2 := by decide +kernel
theorem e_L_108 : EV mdL md_X6_hold 108 6 2 := ⟨(wa_3 (List.mem_of_getElem? (i := 184) (by decide +kernel)) (by decide +kernel)), im_X6_hold, se_X6_hold, (wa_1 (List.mem_of_getElem? (i := 1) (by decide +kernel)) (by decide +kernel)), co_X6_hold, yy_X6_hold, ⟨by decide, by decide⟩, _, rfl, rfl⟩
theorem im_X7_hold : Cond.instanceMethod yX7_hold ∈ wsA := (wa_6 (List.mem_of_getElem? (i := 3) (by decide +kernel)) (by decide +kernel))
theorem se_X7_hold : Cond.selects RX7 yX7_hold yX7_hold ∈ wsA := (wa_6 (List.mem_of_getElem? (i := 4) (by decide +kernel)) (by decide +kernel))
theorem co_X7_hold : Cond.code yX7_hold cX7_hold 5 (some .int) ∈ wsA := (wa_6 (List.mem_of_getElem? (i := 5) rfl) (by decide +kernel))
theorem yy_X7_hold : yX7_hold.cls = RX7 ∧ yX7_hold.cls ≠ "java/lang/invoke/MethodHandle" ∧ yX7_hold.cls ≠ "java/lang/invoke/VarHandle" ∧ (parseMethodDescriptor yX7_hold.desc).map (fun d => d.parameters.length) = some 2 := by decide +kernel
theorem e_L_111 : EV mdL md_X7_hold 111 7 2 := ⟨(wa_6 (List.mem_of_getElem? (i := 2) (by decide +kernel)) (by decide +kernel)), im_X7_hold, se_X7_hold, (wa_1 (List.mem_of_getElem? (i := 8) (by decide +kernel)) (by decide +kernel)), co_X7_hold, yy_X7_hold, ⟨by decide, by decide⟩, _, rfl, rfl⟩
theorem im_X6_deliver : Cond.instanceMethod yX6_deliver ∈ wsA := (wa_3 (List.mem_of_getElem? (i := 194) (by decide +kernel)) (by decide +kernel))
theorem se_X6_deliver : Cond.selects RX6 yX6_deliver yX6_deliver ∈ wsA := (wa_3 (List.mem_of_getElem? (i := 195) (by decide +kernel)) (by decide +kernel))
theorem co_X6_deliver : Cond.code yX6_deliver cX6_deliver 2 (some .int) ∈ wsA := (wa_3 (List.mem_of_getElem? (i := 196) rfl) (by decide +kernel))
theorem yy_X6_deliver : yX6_deliver.cls = RX6 ∧ yX6_deliver.cls ≠ "java/lang/invoke/MethodHandle" ∧ yX6_deliver.cls ≠ "java/lang/invoke/VarHandle" ∧ (parseMethodDescriptor yX6_deliver.desc).map (fun d => d.parameters.length) = some 1 := by decide +kernel
theorem e_L_112 : EV mdL md_X6_deliver 112 6 1 := ⟨(wa_3 (List.mem_of_getElem? (i := 193) (by decide +kernel)) (by decide +kernel)), im_X6_deliver, se_X6_deliver, (wa_1 (List.mem_of_getElem? (i := 1) (by decide +kernel)) (by decide +kernel)), co_X6_deliver, yy_X6_deliver, ⟨by decide, by decide⟩, _, rfl, rfl⟩
theorem im_X7_deliver : Cond.instanceMethod yX7_deliver ∈ wsA := (wa_6 (List.mem_of_getElem? (i := 7) (by decide +kernel)) (by decide +kernel))
theorem se_X7_deliver : Cond.selects RX7 yX7_deliver yX7_deliver ∈ wsA := (wa_6 (List.mem_of_getElem? (i := 8) (by decide +kernel)) (by decide +kernel))
theorem co_X7_deliver : Cond.code yX7_deliver cX7_deliver 4 (some .int) ∈ wsA := (wa_6 (List.mem_of_getElem? (i := 9) rfl) (by decide +kernel))
theorem yy_X7_deliver : yX7_deliver.cls = RX7 ∧ yX7_deliver.cls ≠ "java/lang/invoke/MethodHandle" ∧ yX7_deliver.cls ≠ "java/lang/invoke/VarHandle" ∧ (parseMethodDescriptor yX7_deliver.desc).map (fun d => d.parameters.length) = some 1 := by decide +kernel
theorem e_L_115 : EV mdL md_X7_deliver 115 7 1 := ⟨(wa_6 (List.mem_of_getElem? (i := 6) (by decide +kernel)) (by decide +kernel)), im_X7_deliver, se_X7_deliver, (wa_1 (List.mem_of_getElem? (i := 8) (by decide +kernel)) (by decide +kernel)), co_X7_deliver, yy_X7_deliver, ⟨by decide, by decide⟩, _, rfl, rfl⟩
theorem im_X6_pass : Cond.instanceMethod yX6_pass ∈ wsA := (wa_3 (List.mem_of_getElem? (i := 208) (by decide +kernel)) (by decide +kernel))
theorem se_X6_pass : Cond.selects RX6 yX6_pass yX6_pass ∈ wsA := (wa_3 (List.mem_of_getElem? (i := 209) (by decide +kernel)) (by decide +kernel))
theorem co_X6_pass : Cond.code yX6_pass cX6_pass 3 (some .int) ∈ wsA := (wa_3 (List.mem_of_getElem? (i := 210) rfl) (by decide +kernel))
theorem yy_X6_pass : yX6_pass.cls = RX6 ∧ yX6_pass.cls ≠ "java/lang/invoke/MethodHandle" ∧ yX6_pass.cls ≠ "java/lang/invoke/VarHandle" ∧ (parseMethodDescriptor yX6_pass.desc).map (fun d => d.parameters.length) = some 1 := by decide +kernel
theorem e_L_116 : EV mdL md_X6_pass 116 6 1 := ⟨(wa_3 (List.mem_of_getElem? (i := 207) (by decide +kernel)) (by decide +kernel)), im_X6_pass, se_X6_pass, (wa_1 (List.mem_of_getElem? (i := 1) (by decide +kernel)) (by decide +kernel)), co_X6_pass, yy_X6_pass, ⟨by decide, by decide⟩, _, rfl, rfl⟩
theorem im_X7_pass : Cond.instanceMethod yX7_pass ∈ wsA := (wa_6 (List.mem_of_getElem? (i := 11) (by decide +kernel)) (by decide +kernel))
theorem se_X7_pass : Cond.selects RX7 yX7_pass yX7_pass ∈ wsA := (wa_6 (List.mem_of_getElem? (i := 12) (by decide +kernel)) (by decide +kernel))
theorem co_X7_pass : Cond.code yX7_pass cX7_pass 3 (some .int) ∈ wsA := (wa_6 (List.mem_of_getElem? (i := 13) rfl) (by decide +kernel))
theorem yy_X7_pass : yX7_pass.cls = RX7 ∧ yX7_pass.cls ≠ "java/lang/invoke/MethodHandle" ∧ yX7_pass.cls ≠ "java/lang/invoke/VarHandle" ∧ (parseMethodDescriptor yX7_pass.desc).map (fun d => d.parameters.length) = some 1 := by decide +kernel
theorem e_L_119 : EV mdL md_X7_pass 119 7 1 := ⟨(wa_6 (List.mem_of_getElem? (i := 10) (by decide +kernel)) (by decide +kernel)), im_X7_pass, se_X7_pass, (wa_1 (List.mem_of_getElem? (i := 8) (by decide +kernel)) (by decide +kernel)), co_X7_pass, yy_X7_pass, ⟨by decide, by decide⟩, _, rfl, rfl⟩
theorem im_X6_undo : Cond.instanceMethod yX6_undo ∈ wsA := (wa_3 (List.mem_of_getElem? (i := 220) (by decide +kernel)) (by decide +kernel))
theorem se_X6_undo : Cond.selects RX6 yX6_undo yX6_undo ∈ wsA := (wa_3 (List.mem_of_getElem? (i := 221) (by decide +kernel)) (by decide +kernel))
theorem co_X6_undo : Cond.code yX6_undo cX6_undo 1 (some .int) ∈ wsA := (wa_3 (List.mem_of_getElem? (i := 222) rfl) (by decide +kernel))
theorem yy_X6_undo : yX6_undo.cls = RX6 ∧ yX6_undo.cls ≠ "java/lang/invoke/MethodHandle" ∧ yX6_undo.cls ≠ "java/lang/invoke/VarHandle" ∧ (parseMethodDescriptor yX6_undo.desc).map (fun d => d.parameters.length) = some 0 := by decide +kernel
theorem e_L_120 : EV mdL md_X6_undo 120 6 0 := ⟨(wa_3 (List.mem_of_getElem? (i := 219) (by decide +kernel)) (by decide +kernel)), im_X6_undo, se_X6_undo, (wa_1 (List.mem_of_getElem? (i := 1) (by decide +kernel)) (by decide +kernel)), co_X6_undo, yy_X6_undo, ⟨by decide, by decide⟩, _, rfl, rfl⟩
theorem im_X7_undo : Cond.instanceMethod yX7_undo ∈ wsA := (wa_6 (List.mem_of_getElem? (i := 19) (by decide +kernel)) (by decide +kernel))
theorem se_X7_undo : Cond.selects RX7 yX7_undo yX7_undo ∈ wsA := (wa_6 (List.mem_of_getElem? (i := 20) (by decide +kernel)) (by decide +kernel))
theorem co_X7_undo : Cond.code yX7_undo cX7_undo 2 (some .int) ∈ wsA := (wa_6 (List.mem_of_getElem? (i := 21) rfl) (by decide +kernel))
theorem yy_X7_undo : yX7_undo.cls = RX7 ∧ yX7_undo.cls ≠ "java/lang/invoke/MethodHandle" ∧ yX7_undo.cls ≠ "java/lang/invoke/VarHandle" ∧ (parseMethodDescriptor yX7_undo.desc).map (fun d => d.parameters.length) = some 0 := by decide +kernel
theorem e_L_123 : EV mdL md_X7_undo 123 7 0 := ⟨(wa_6 (List.mem_of_getElem? (i := 18) (by decide +kernel)) (by decide +kernel)), im_X7_undo, se_X7_undo, (wa_1 (List.mem_of_getElem? (i := 8) (by decide +kernel)) (by decide +kernel)), co_X7_undo, yy_X7_undo, ⟨by decide, by decide⟩, _, rfl, rfl⟩
