theorem IV0 {f r : Nat → Int32} (hf : ∀ i, i < 24 → f i = -1) (hr : ∀ i, i < 144 → r i = 0) : IV (M00 f r) (gs 1, 0, fun _ => gs 1) (fun _ => 0) 0 0 := by
  have hSK : SK ((M00 f r).1 0) (gs 1) := SK_mk (gs_RP (fun k hk => by
    rcases (show k = 0 ∨ k = 1 ∨ k = 2 ∨ k = 3 ∨ k = 4 ∨ k = 5 ∨ k = 6 by omega) with rfl | rfl | rfl | rfl | rfl | rfl | rfl <;> rfl) (fun i hi => hf i hi)) (gs_RR (fun i hi => hr i hi)) (gs_Ok (by omega) (by omega))
  refine ⟨⟨⟨hSK, 0, by omega, rfl, rfl, Nat.zero_le _, fun k hk => absurd hk (Nat.not_lt_zero k)⟩, ⟨rfl, fun i hi => absurd hi (Nat.not_lt_zero i)⟩, rfl⟩, ⟨⟨gs_RM (fun i hi => ?_), rfl, Nat.zero_le _, fun k hk => absurd hk (Nat.not_lt_zero k)⟩, ⟨rfl, fun i hi => absurd hi (Nat.not_lt_zero i)⟩, rfl⟩, ⟨Nat.zero_le _, fun i hi => absurd hi (Nat.not_lt_zero i)⟩⟩
  show upd (fun _ => 0) 1 (nI 1) i = if i = 1 then nI 1 else nI 0
  unfold upd
  split
  · rfl
  · rfl
theorem w6_q {D : va_G} {ca : Nat → ClassId} {x : Nat} {hT hS hD hP : Nat → Nat} {qr qn qt qp qa : Nat} {fA f' : Nat → Option Nat} {hl : List (Nat → Nat)} {f r : Nat → Int32} {H : Heap} (h : ∀ i, i < 10 → fA i = f' i) (hw : va_P D vwCl (w6 ca x hT hS hD hP qr qn qt qp qa fA hl f r) H) : va_P D vwCl (w6 ca x hT hS hD hP qr qn qt qp qa f' hl f r) H := by
  unfold w6 at hw ⊢
  have A := P_left hw
  have A2 := P_right A
  have A5 := P_right (P_right (P_right A2))
  refine va_P.app (va_P.app (P_left A) (va_P.app (P_left A2) (va_P.app (P_left (P_right A2)) (va_P.app (P_left (P_right (P_right A2))) ?_)))) (P_right hw)
  unfold b0 at A5 ⊢
  refine va_P.app (fun k q hk => ?_) (P_right A5)
  match k, hk with
  | 0, hk => cases hk; exact P_left A5 0 _ rfl
  | 1, hk =>
    cases hk
    have h1 := P_left A5 1 _ rfl
    show H[qa]? = some (vp_cell (ca 3) (10, .inr (.inr (.inr (.inr f')))))
    rw [← cellQ h]
    exact h1
  | k + 2, hk => simp at hk
theorem w6_f {ca : Nat → ClassId} {x : Nat} {hT hS hD hP : Nat → Nat} {qr qn qt qp qa : Nat} {fA f' : Nat → Option Nat} {hl : List (Nat → Nat)} {f r : Nat → Int32} : (w6 ca x hT hS hD hP qr qn qt qp qa fA hl f r).map Prod.fst = (w6 ca x hT hS hD hP qr qn qt qp qa f' hl f r).map Prod.fst := by
  simp only [w6, b0, List.map_append, List.map_cons, List.map_nil]
theorem ten {hl : List (Nat → Nat)} (h : hl.length = 10) : ∃ h0 h1 h2 h3 h4 h5 h6 h7 h8 h9, hl = [h0, h1, h2, h3, h4, h5, h6, h7, h8, h9] := by
  match hl, h with
  | [a0, a1, a2, a3, a4, a5, a6, a7, a8, a9], _ => exact ⟨a0, a1, a2, a3, a4, a5, a6, a7, a8, a9, rfl⟩
/-- the law's world out of what was made -/
theorem made_LW {s : State} {D : va_G} {ca : Nat → ClassId} {x : Nat} {hT hS hD hP hM : Nat → Nat} {qr qn qt qp qa qo : Nat} {fA : Nat → Option Nat} {hl : List (Nat → Nat)} {f r : Nat → Int32} {H : Heap} {locs : List Loc} (g0 : Nat → Nat → Nat) (h10 : hl.length = 10) (hfA : ∀ i h, hl[i]? = some h → fA i = some (h 0)) (hw : va_P D vwCl (w6 ca x hT hS hD hP qr qn qt qp qa fA hl f r ++ b7 ca hM ++ [(qo, oE ca (fun _ => 0))]) H) (hd : va_D (A0 s) (w6 ca x hT hS hD hP qr qn qt qp qa fA hl f r ++ b7 ca hM ++ [(qo, oE ca (fun _ => 0))])) (hS9 : va_S (A0 s) s.heap H locs) : LW s D (gg x hT hS hD hP hM qr qn qt qp qa hl g0) ca qo (M00 f r) 0 H locs := by
  obtain ⟨h0, h1, h2, h3, h4, h5, h6, h7, h8, h9, rfl⟩ := ten h10
  have hq : ∀ i, i < 10 → fA i = (fun i => some (gg x hT hS hD hP hM qr qn qt qp qa [h0, h1, h2, h3, h4, h5, h6, h7, h8, h9] g0 (2 + i) 0)) i := by
    intro i hi
    rcases (show i = 0 ∨ i = 1 ∨ i = 2 ∨ i = 3 ∨ i = 4 ∨ i = 5 ∨ i = 6 ∨ i = 7 ∨ i = 8 ∨ i = 9 by omega) with rfl | rfl | rfl | rfl | rfl | rfl | rfl | rfl | rfl | rfl
    · exact hfA 0 h0 rfl
    · exact hfA 1 h1 rfl
    · exact hfA 2 h2 rfl
    · exact hfA 3 h3 rfl
    · exact hfA 4 h4 rfl
    · exact hfA 5 h5 rfl
    · exact hfA 6 h6 rfl
    · exact hfA 7 h7 rfl
    · exact hfA 8 h8 rfl
    · exact hfA 9 h9 rfl
  have hP1 := va_P.app (w6_q hq (P_left (P_left hw))) (P_right (P_left hw))
  have hD1 : va_D (A0 s) (w6 ca x hT hS hD hP qr qn qt qp qa (fun i => some (gg x hT hS hD hP hM qr qn qt qp qa [h0, h1, h2, h3, h4, h5, h6, h7, h8, h9] g0 (2 + i) 0)) [h0, h1, h2, h3, h4, h5, h6, h7, h8, h9] f r ++ b7 ca hM) := D_fst (by rw [List.map_append, List.map_append, w6_f]) (D_left hd)
  rw [← made_eq (g0 := g0) (h0 := h0) (hM := hM)] at hP1 hD1
  have hpm := PLc_perm.map (FF (gg x hT hS hD hP hM qr qn qt qp qa [h0, h1, h2, h3, h4, h5, h6, h7, h8, h9] g0) ca (M00 f r))
  refine ⟨P_perm hpm hP1, D_perm hpm hD1, hS9, ⟨fun _ => 0, rfl, P_right hw⟩, hd.2 _ _ (by rw [List.getElem?_append_right (Nat.le_refl _), Nat.sub_self]; rfl), fun o c hoc e => ?_⟩
  have hm : (qo, cellE (gg x hT hS hD hP hM qr qn qt qp qa [h0, h1, h2, h3, h4, h5, h6, h7, h8, h9] g0) ca (M00 f r) o c) ∈ PLc.map (FF (gg x hT hS hD hP hM qr qn qt qp qa [h0, h1, h2, h3, h4, h5, h6, h7, h8, h9] g0) ca (M00 f r)) := by
    refine hpm.subset (List.mem_map.mpr ⟨(o, c), hoc, ?_⟩)
    unfold FF
    dsimp only
    rw [e]
  rw [made_eq] at hm
  have hm2 : qo ∈ (w6 ca x hT hS hD hP qr qn qt qp qa fA [h0, h1, h2, h3, h4, h5, h6, h7, h8, h9] f r ++ b7 ca hM).map Prod.fst := by
    rw [List.map_append, w6_f (f' := fun i => some (gg x hT hS hD hP hM qr qn qt qp qa [h0, h1, h2, h3, h4, h5, h6, h7, h8, h9] g0 (2 + i) 0)), ← List.map_append]
    exact List.mem_map.mpr ⟨_, hm, rfl⟩
  obtain ⟨q', hq', e'⟩ := List.mem_map.mp hm2
  obtain ⟨i, hi⟩ := List.getElem?_of_mem hq'
  exact D_apart hd hi (j := 0) (q := (qo, oE ca (fun _ => 0))) rfl e'
section WS
variable {p : Program} {l : Launch} {e : Env} {s : State} {m : MethodId} {below : List Frame} {meth : Method} {c : Code} {b : Nat} {D : va_G} {ca : Nat → ClassId} {Q : State → Prop}
theorem ws_call {H : Heap} {locs : List Loc} {ls : Array Slot} {st0 st : List Value} {a : Array Value} {K N mc' ms' pc : Nat} {post' : va_W → Prop} {wr wc : va_W}
    (hr : va_Run p l e room_1 s m #[Value.ref b] below meth c H locs K N mc' ms' (F0 m pc ls st0) st (QN D post' (va_A wc H.size) a) (va_A wc H.size)) (hP : va_P D vwCl (wr ++ wc) H) (hD : va_D (A0 s) (wr ++ wc)) (hS : va_S (A0 s) s.heap H locs)
    (h : ∀ (w1 : va_W) (H1 : Heap) (locs1 : List Loc), post' w1 → va_P D vwCl (wr ++ w1) H1 → va_D (A0 s) (wr ++ w1) → va_S (A0 s) s.heap H1 locs1 → W p l e room_1 s m #[Value.ref b] below meth c H1 locs1 (K + mc') (N + ms') Q (F0 m (pc + 3) ls st)) : W p l e room_1 s m #[Value.ref b] below meth c H locs K N Q (F0 m pc ls st0) := by
  have hF : ∀ q, va_A wc H.size q → A0 s q := by
    intro q hq
    rcases hq with ⟨k, e, hk⟩ | hq
    · exact hD.2 (wr.length + k) (q, e) (by rw [List.getElem?_append_right (by omega), Nat.add_sub_cancel_left]; exact hk)
    · exact Nat.le_trans hS.1 hq
  have hap : ∀ (k : Nat) (q : Nat × va_E), wr[k]? = some q → q.1 < H.size ∧ ¬ va_A wc H.size q.1 := by
    intro k q hk
    have hlt := va_at.lt (P_left hP k q hk)
    refine ⟨hlt, ?_⟩
    rintro (⟨j, e9, h9⟩ | h9)
    · exact D_apart hD hk h9 rfl
    · omega
  intro T hT X
  obtain ⟨v, st₀, t, T', L, h0, X', hL, e1, e2, ⟨⟨hv, w1, hp, hb, hD1⟩, hz, hk9⟩, stp⟩ := hr T hT X
  cases hv
  rw [h0] at hz hk9
  obtain ⟨t2, a1, b1⟩ := h w1 T'.heap (locs ++ L) hp (va_P.app ((P_left hP).kept (fun k q hk => by rw [e1]; exact hk9 q.1 (hap k q hk).1 (hap k q hk).2)) (by rw [e1]; exact hb)) (va_D.app (D_left hD) (hD1.weaken (fun k q _ z => hF q.1 z)) (fun i j x y hx hy hxy => (hap i x hx).2 (by rw [hxy]; exact hD1.2 j y hy))) ⟨Nat.le_trans hS.1 (by rw [e1]; exact hz), fun q h1 h2 => by rw [e1, hk9 q (Nat.lt_of_lt_of_le h1 hS.1) (fun z => h2 (hF q z))]; exact hS.2.1 q h1 h2, fun q hq => by
      rcases List.mem_append.mp hq with h | h
      · exact hS.2.2 q h
      · exact hF _ (hL q h)⟩ T' rfl X'
  exact ⟨t2, stp t2 a1, b1⟩
theorem ws_init {H : Heap} {locs : List Loc} {ls : Array Slot} {st : List Value} {K N mc' ms' pc idx q : Nat} {post' : va_W → Prop} {wr : va_W} {ec : va_E} (md' : Md) (hx : p.tables.exec = Jvm.exec) (hb : c.code = code) (hml : c.maxLocals = 7) (hown : s.vm.findClass RL = some m.cls) (hts : ∀ w ∈ wsA, w.before #[Value.ref b] s = true) (hK : va_K D vwCl (tyl ca) s) (hz : Nz s) (hl : ls.size = 7) (he : EI mdL md' idx 0) (hd : decode code pc = .ok (.invokespecial idx, 3)) (hst2 : (st.map fun v => v.category).sum ≤ 8) (hk : K + mc' ≤ 601024) (hs : N + ms' ≤ 7293034) (hc : CtN l D ca md' [.ref q] [(q, ec)] mc' ms' post') (hP : va_P D vwCl (wr ++ [(q, ec)]) H) (hD : va_D (A0 s) (wr ++ [(q, ec)])) (hS : va_S (A0 s) s.heap H locs)
    (h : ∀ (w1 : va_W) (H1 : Heap) (locs1 : List Loc), post' w1 → va_P D vwCl (wr ++ w1) H1 → va_D (A0 s) (wr ++ w1) → va_S (A0 s) s.heap H1 locs1 → W p l e room_1 s m #[Value.ref b] below meth c H1 locs1 (K + mc') (N + ms') Q (F0 m (pc + 3) ls st)) : W p l e room_1 s m #[Value.ref b] below meth c H locs K N Q (F0 m pc ls (.ref q :: st)) := by
  obtain ⟨e1, e2, e4, e5, e0, e6, e8, e7⟩ := he
  have hc' := hc H.size
  have hcode : Cond.code md'.2.1 md'.2.2.1 md'.2.2.2.1 md'.2.2.2.2.1 ∈ wsA := by rw [e0]; exact e5
  have hcb := callB_of (own := RL) (index := idx) (y := md'.2.1) (bytes := md'.2.2.1) (maxL := md'.2.2.2.1) (ret := md'.2.2.2.2.1) (R := room_1) (mc := mc') (ms := ms') (rm := { frames := md'.2.2.2.2.2.1, cells := mc', slots := ms', locals := md'.2.2.2.2.2.2 }) 0 hts (w_in hcode) rfl rfl rfl (by rw [e6.1]; exact hts _ e4) (hts _ e1) e6.2 e7
  rw [e0] at hc' hcb
  refine ws_call (wr := wr) (wc := [(q, ec)]) (a := ([Value.ref q] : List Value).toArray) (va_runI (As := []) (b := q) (n := 0) ⟨hx, hb, hml, hown, hts⟩ hc' ⟨hcb, e8, hts _ e2⟩ ⟨preN_blind, fun U hU hW => ⟨rfl, by rw [hU], by rw [hU]; exact P_right hP, va_K.moved hW.alike hK, ?_, Nz.warm hW hz⟩⟩ rfl rfl hl rfl (lv_room hst2) hd ⟨hk, hs⟩) hP hD hS h
  refine ⟨fun i j x y hx hy hxy => ?_, fun _ _ _ => trivial⟩
  have h1 := (List.getElem?_eq_some_iff.mp hx).1
  have h2 := (List.getElem?_eq_some_iff.mp hy).1
  simp at h1 h2
  omega
end WS
theorem ei_L_X6 : EI mdL md_X6_init 18 0 := ⟨(wa_1 (List.mem_of_getElem? (i := 21) (by decide +kernel)) (by decide +kernel)), (wa_1 (List.mem_of_getElem? (i := 22) (by decide +kernel)) (by decide +kernel)), (wa_1 (List.mem_of_getElem? (i := 1) (by decide +kernel)) (by decide +kernel)), (wa_1 (List.mem_of_getElem? (i := 23) rfl) (by decide +kernel)), rfl, (by decide +kernel), rfl, ⟨by decide, by decide⟩⟩
theorem ei_L_X7 : EI mdL md_X7_init 21 0 := ⟨(wa_4 (List.mem_of_getElem? (i := 88) (by decide +kernel)) (by decide +kernel)), (wa_4 (List.mem_of_getElem? (i := 89) (by decide +kernel)) (by decide +kernel)), (wa_1 (List.mem_of_getElem? (i := 8) (by decide +kernel)) (by decide +kernel)), (wa_4 (List.mem_of_getElem? (i := 90) rfl) (by decide +kernel)), rfl, (by decide +kernel), rfl, ⟨by decide, by decide⟩⟩
set_option maxHeartbeats 4000000 in
set_option maxRecDepth 100000 in
/-- THE LAW, from its entry -/
theorem whole_start {p : Program} {e : Env} {s : State} {m : MethodId} {below : List Frame} {meth : Method} {c : Code} (l : Launch) (hflags : l.flags = flags0) {b L : Nat} {xs : Nat → Int32} (hL : L ≤ 3072) (C0 : lw_At p s m meth c b L xs) : W p l e room_1 s m #[Value.ref b] below meth c s.heap [] 0 0 (lw_Z below #[Value.ref b] s) (entryFrame m ([Value.ref b] : List Value).toArray 7) := by
  obtain ⟨hx, hb, hr, hml, hown, hts, hX, hbl, hlocks, hgv⟩ := id C0
  have htsA := st_A C0
  have htr : l.stackTraces = false := by unfold Launch.stackTraces; rw [hflags]; decide +kernel
  have hA : ∀ q : Nat, s.heap.size ≤ q → A0 s q := fun _ h => h
  obtain ⟨D, ca, hK, hK4⟩ := st_K C0
  obtain ⟨g0, hg0⟩ := st_Sx C0
  have hz := st_Nz C0
  have hS : va_S (A0 s) s.heap s.heap [] := va_S.rf
  have hP : va_P D vwCl [] s.heap := fun k q h => by simp at h
  have hD : va_D (A0 s) [] := ⟨fun i j p q h => by simp at h, fun k q h => by simp at h⟩
  have hl := lv_entry ([.ref b]) (n := 7) (Nat.le_of_ble_eq_true rfl)
  rw [lg_entry_eq]
  generalize (lg_sl ([.ref b]) ++ List.replicate (7 - (lg_sl ([.ref b])).length) Slot.unset).toArray = ls at hl ⊢
  have hl : lv_has ls 7 [(0, .ref b)] := hl
  refine va_new (ci := 6) (fs := [.null, .null, .null, .null, .null, .null]) (C := RX6) (T := TX6) (N := 6) hx hb htsA ulX6 tyX6 tyX6_ok hown (htsA _ (wa_1 (List.mem_of_getElem? (i := 19) (by decide +kernel)) (by decide +kernel))) (htsA _ (wa_1 (List.mem_of_getElem? (i := 20) (by decide +kernel)) (by decide +kernel))) (htsA _ (wa_1 (List.mem_of_getElem? (i := 1) (by decide +kernel)) (by decide +kernel))) hK hP hD hS hA rfl df_6 (Nat.le_of_ble_eq_true rfl) (Nat.le_of_ble_eq_true rfl) dL_law_0 (fun x H hP hD hS => ?_)
  refine lv_dup hx hb dL_law_3 rfl ?_
  refine ws_init (ca := ca) md_X6_init hx hb hml hown htsA hK hz hl.1 ei_L_X6 dL_law_4 (Nat.le_of_ble_eq_true rfl) (Nat.le_of_ble_eq_true rfl) (Nat.le_of_ble_eq_true rfl) (c_X6_init x) hP hD hS (fun w1 H locs hw1 hP hD hS => ?_)
  obtain ⟨hT, hSt, hDr, hPl, qr, qn, qt, qp, qa, fA, hl9, f, r, h10, hfA, hf, hr9, rfl⟩ := hw1
  refine lv_astore_n (lv' := [(1, .ref x), (0, .ref b)]) hx hb dL_law_7 rfl hl (by decide) rfl (fun ls hl => ?_)
  refine va_new (ci := 7) (fs := [.int 0, .null, .int 0, .int 0, .int 0, .int 0, .int 0, .int 0, .int 0, .int 0, .long 0, .null, .null, .null, .int 0, .int 0, .null, .null, .null, .null, .null, .null, .null, .null, .int 0, .int 0, .int 0, .int 0]) (C := RX7) (T := TX7) (N := 28) hx hb htsA ulX7 tyX7 tyX7_ok hown (htsA _ (wa_4 (List.mem_of_getElem? (i := 87) (by decide +kernel)) (by decide +kernel))) (htsA _ (wa_4 (List.mem_of_getElem? (i := 81) (by decide +kernel)) (by decide +kernel))) (htsA _ (wa_1 (List.mem_of_getElem? (i := 8) (by decide +kernel)) (by decide +kernel))) hK hP hD hS hA rfl df_7 (Nat.le_of_ble_eq_true rfl) (Nat.le_of_ble_eq_true rfl) dL_law_8 (fun q H hP hD hS => ?_)
  refine lv_dup hx hb dL_law_11 rfl ?_
  refine ws_init (ca := ca) md_X7_init hx hb hml hown htsA hK hz hl.1 ei_L_X7 dL_law_12 (Nat.le_of_ble_eq_true rfl) (Nat.le_of_ble_eq_true rfl) (Nat.le_of_ble_eq_true rfl) (c_X7_init q) hP hD hS (fun w1 H2 locs2 hw1 hP2 hD2 hS2 => ?_)
  obtain ⟨hM, hq, rfl⟩ := hw1
  subst hq
  refine lv_astore_n (lv' := [(2, .ref (hM 0)), (1, .ref x), (0, .ref b)]) hx hb dL_law_15 rfl hl (by decide) rfl (fun ls hl => ?_)
  refine lv_iconst (v := nI 1) hx hb dL_law_16 rfl ?_
  refine va_newa (atype := .long) (N' := 1) (a0 := (1, .inr (.inl (fun _ => 0)))) hx hb (htsA _ ar_4) rfl hK4 hP2 hD2 hS2 hA (fun cA => rfl) (nI_pos (by decide)) (nI_clamp (by decide)) (by decide) (by exact Nat.le_of_ble_eq_true rfl) (by exact Nat.le_of_ble_eq_true rfl) dL_law_17 (fun qo cA H3 hK1 hP3 hD3 hS3 => ?_)
  have e3 : cA = ca 4 := Option.some.inj ((show s.vm.findClass _ = some cA from (hK1.2 1 (cA, .long) rfl).2).symm.trans (hK4.2 0 _ rfl).2)
  subst e3
  refine lv_astore_n (lv' := [(3, .ref qo), (2, .ref (hM 0)), (1, .ref x), (0, .ref b)]) hx hb dL_law_19 rfl hl (by decide) rfl (fun ls hl => ?_)
  refine lv_iconst (v := nI 0) hx hb dL_law_20 rfl ?_
  refine lv_istore (lv' := [(4, .int (nI 0)), (3, .ref qo), (2, .ref (hM 0)), (1, .ref x), (0, .ref b)]) hx hb dL_law_21 hl (by decide) rfl (fun ls hl => ?_)
  have hLW := made_LW (s := s) (locs := locs2) g0 h10 hfA hP3 hD3 hS3
  have hgo := law_loop (p := p) (l := l) (e := e) (s := s) (m := m) (below := below) (meth := meth) (c := c) (b := b) (L := L) (xs := xs) (D := D) (g := gg x hT hSt hDr hPl hM qr qn qt qp qa hl9 g0) (ca := ca) (qo := qo) (K0 := 195) (N0 := 24461) (st_Ew C0) hL (by decide) (by decide) 0 (Nat.zero_le _) (M00 f r) 0 _ _ _ _ (IV0 hf hr9)
  exact hgo ⟨C0, hK, hK4, hg0 _ rfl rfl rfl rfl, htr, hL⟩ H3 locs2 ls hLW hl

