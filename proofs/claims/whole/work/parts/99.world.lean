/-! THE SYSTEM AS IT IS MADE -/
def gg (x : Nat) (hT hS hD hP hM : Nat → Nat) (qr qn qt qp qa : Nat) (hl : List (Nat → Nat)) (g0 : Nat → Nat → Nat) (o c : Nat) : Nat := match o with
  | 0 => hS c | 1 => hD c | 12 => x | 13 => hT c | 14 => qt | 15 => (match c with | 0 => qr | _ => qn) | 16 => hP c | 17 => (match c with | 0 => qp | _ => qa) | 18 => hM c | 19 => 0 | 20 => g0 20 c | 21 => g0 21 c | 22 => g0 22 c | 23 => g0 23 c
  | o + 2 => (match hl[o]? with | some h => h c | none => 0)
def M00 (f r : Nat → Int32) : Mm := (fun o c => match o, c with
  | 0, 0 => (fun i => match i with | 1 => nI 1 | _ => 0)
  | 0, 9 => f
  | 0, 20 => r
  | 18, 12 => upd (fun _ => 0) 1 (nI 1)
  | _, _ => fun _ => 0, 0)
def prs (o : Nat) : List (Nat × Nat) := (o, 0) :: (acs (kd o)).map (fun c => (o, c))
def PLc : List (Nat × Nat) := ([(12, 0)] ++ prs 13 ++ (prs 1 ++ ((prs 15 ++ [(14, 0)]) ++ (prs 16 ++ ([(17, 0), (17, 1)] ++ (List.range 10).flatMap (fun i => prs (2 + i)))))) ++ prs 0) ++ prs 18
theorem PLc_perm : PL.Perm PLc := by decide +kernel
theorem cellQ {cA : ClassId} {f f' : Nat → Option Nat} (h : ∀ i, i < 10 → f i = f' i) : vp_cell cA (10, .inr (.inr (.inr (.inr f)))) = vp_cell cA (10, .inr (.inr (.inr (.inr f')))) := by
  rw [vp_cell_q, vp_cell_q]
  unfold arrV
  congr 2
  funext j
  show va_rf (f j.val) = va_rf (f' j.val)
  rw [h j.val j.isLt]
theorem P_q {D : va_G} {ca : Nat → ClassId} {a : Nat} {f f' : Nat → Option Nat} {w1 w2 : va_W} {H : Heap} (h : ∀ i, i < 10 → f i = f' i) (hP : va_P D vwCl (w1 ++ [(a, sE ca f)] ++ w2) H) : va_P D vwCl (w1 ++ [(a, sE ca f')] ++ w2) H := by
  refine va_P.app (va_P.app (P_left (P_left hP)) (fun k q hk => ?_)) (P_right hP)
  cases k with
  | zero =>
    cases hk
    have h1 := P_right (P_left hP) 0 _ rfl
    show H[a]? = some (vp_cell (ca 3) (10, .inr (.inr (.inr (.inr f')))))
    rw [← cellQ h]
    exact h1
  | succ k => simp at hk
theorem D_fst {A : Nat → Prop} {w w' : va_W} (e : w.map Prod.fst = w'.map Prod.fst) (h : va_D A w) : va_D A w' := by
  rw [D_nodup] at h ⊢
  refine ⟨e ▸ h.1, fun q hq => ?_⟩
  have h1 : q.1 ∈ w.map Prod.fst := by rw [e]; exact List.mem_map_of_mem hq
  obtain ⟨q', hq', e'⟩ := List.mem_map.mp h1
  rw [← e']
  exact h.2 q' hq'
def FF (g : Nat → Nat → Nat) (ca : Nat → ClassId) (M : Mm) : Nat × Nat → Nat × va_E := fun q => (g q.1 q.2, cellE g ca M q.1 q.2)
section PB
variable {g : Nat → Nat → Nat} {ca : Nat → ClassId} {M : Mm} {o : Nat}
theorem fl_1 : flds g M o 1 = [.ref (g (M.1 o 0 0).toNatClampNeg 0), .int (M.1 o 0 1), .int (M.1 o 0 2), .ref (g o 4), .ref (g o 5), .ref (g o 6), .ref (g o 7)] := by
  simp only [flds, ftab, List.mapIdx_cons, List.mapIdx_nil]
  rfl
theorem ac_1 : acs 1 = [4, 5, 6, 7] := by decide +kernel
theorem pb_1 (hk : kd o = 1) : (prs o).map (FF g ca M) = [(g o 0, .inr (1, [.ref (g (M.1 o 0 0).toNatClampNeg 0), .int (M.1 o 0 1), .int (M.1 o 0 2), .ref (g o 4), .ref (g o 5), .ref (g o 6), .ref (g o 7)])), (g o 4, .inl (ca 0, 24, .inl (M.1 o 4))), (g o 5, .inl (ca 0, 24, .inl (M.1 o 5))), (g o 6, .inl (ca 0, 6, .inl (M.1 o 6))), (g o 7, .inl (ca 0, 144, .inl (M.1 o 7)))] := by
  unfold prs
  rw [hk, ac_1]
  simp only [List.map]
  unfold FF
  dsimp only
  rw [cellE_obj hk, fl_1, cellE_arr (c := 4) hk rfl (by decide), cellE_arr (c := 5) hk rfl (by decide), cellE_arr (c := 6) hk rfl (by decide), cellE_arr (c := 7) hk rfl (by decide)]
theorem fl_2 : flds g M o 2 = [.int (M.1 o 0 0), .int (M.1 o 0 1), .int (M.1 o 0 2), .int (M.1 o 0 3), .int (M.1 o 0 4), .int (M.1 o 0 5), .int (M.1 o 0 6), .ref (g o 8), .ref (g o 9), .ref (g o 10), .ref (g o 11), .ref (g o 12), .ref (g o 13), .ref (g o 14), .ref (g o 15), .ref (g o 16), .ref (g o 17), .ref (g o 18), .ref (g o 19), .ref (g o 20)] := by
  simp only [flds, ftab, List.mapIdx_cons, List.mapIdx_nil]
  rfl
theorem ac_2 : acs 2 = [8, 9, 10, 11, 12, 13, 14, 15, 16, 17, 18, 19, 20] := by decide +kernel
theorem pb_2 (hk : kd o = 2) : (prs o).map (FF g ca M) = [(g o 0, .inr (2, [.int (M.1 o 0 0), .int (M.1 o 0 1), .int (M.1 o 0 2), .int (M.1 o 0 3), .int (M.1 o 0 4), .int (M.1 o 0 5), .int (M.1 o 0 6), .ref (g o 8), .ref (g o 9), .ref (g o 10), .ref (g o 11), .ref (g o 12), .ref (g o 13), .ref (g o 14), .ref (g o 15), .ref (g o 16), .ref (g o 17), .ref (g o 18), .ref (g o 19), .ref (g o 20)])), (g o 8, .inl (ca 0, 6, .inl (M.1 o 8))), (g o 9, .inl (ca 0, 24, .inl (M.1 o 9))), (g o 10, .inl (ca 0, 24, .inl (M.1 o 10))), (g o 11, .inl (ca 0, 24, .inl (M.1 o 11))), (g o 12, .inl (ca 0, 24, .inl (M.1 o 12))), (g o 13, .inl (ca 0, 24, .inl (M.1 o 13))), (g o 14, .inl (ca 0, 41, .inl (M.1 o 14))), (g o 15, .inl (ca 0, 41, .inl (M.1 o 15))), (g o 16, .inl (ca 0, 41, .inl (M.1 o 16))), (g o 17, .inl (ca 0, 41, .inl (M.1 o 17))), (g o 18, .inl (ca 0, 41, .inl (M.1 o 18))), (g o 19, .inl (ca 0, 41, .inl (M.1 o 19))), (g o 20, .inl (ca 0, 144, .inl (M.1 o 20)))] := by
  unfold prs
  rw [hk, ac_2]
  simp only [List.map]
  unfold FF
  dsimp only
  rw [cellE_obj hk, fl_2, cellE_arr (c := 8) hk rfl (by decide), cellE_arr (c := 9) hk rfl (by decide), cellE_arr (c := 10) hk rfl (by decide), cellE_arr (c := 11) hk rfl (by decide), cellE_arr (c := 12) hk rfl (by decide), cellE_arr (c := 13) hk rfl (by decide), cellE_arr (c := 14) hk rfl (by decide), cellE_arr (c := 15) hk rfl (by decide), cellE_arr (c := 16) hk rfl (by decide), cellE_arr (c := 17) hk rfl (by decide), cellE_arr (c := 18) hk rfl (by decide), cellE_arr (c := 19) hk rfl (by decide), cellE_arr (c := 20) hk rfl (by decide)]
theorem fl_3 : flds g M o 3 = [.ref (g o 1), .int (M.1 o 0 1)] := by
  simp only [flds, ftab, List.mapIdx_cons, List.mapIdx_nil]
  rfl
theorem ac_3 : acs 3 = [1] := by decide +kernel
theorem pb_3 (hk : kd o = 3) : (prs o).map (FF g ca M) = [(g o 0, .inr (3, [.ref (g o 1), .int (M.1 o 0 1)])), (g o 1, .inl (ca 1, 640, .inl (M.1 o 1)))] := by
  unfold prs
  rw [hk, ac_3]
  simp only [List.map]
  unfold FF
  dsimp only
  rw [cellE_obj hk, fl_3, cellE_arr (c := 1) hk rfl (by decide)]
theorem fl_4 : flds g M o 4 = [.ref (g 14 0), .ref (g 1 0), .int (M.1 o 0 2), .int (M.1 o 0 3), .int (M.1 o 0 4), .ref (g o 6), .int (M.1 o 0 6), .int (M.1 o 0 7), .int (M.1 o 0 8)] := by
  simp only [flds, ftab, List.mapIdx_cons, List.mapIdx_nil]
  rfl
theorem ac_4 : acs 4 = [6] := by decide +kernel
theorem pb_4 (hk : kd o = 4) : (prs o).map (FF g ca M) = [(g o 0, .inr (4, [.ref (g 14 0), .ref (g 1 0), .int (M.1 o 0 2), .int (M.1 o 0 3), .int (M.1 o 0 4), .ref (g o 6), .int (M.1 o 0 6), .int (M.1 o 0 7), .int (M.1 o 0 8)])), (g o 6, .inl (ca 0, 4, .inl (M.1 o 6)))] := by
  unfold prs
  rw [hk, ac_4]
  simp only [List.map]
  unfold FF
  dsimp only
  rw [cellE_obj hk, fl_4, cellE_arr (c := 6) hk rfl (by decide)]
theorem fl_7 : flds g M o 7 = [.int (M.1 o 0 0), .ref (g o 2), .int (M.1 o 0 2), .int (M.1 o 0 3), .int (M.1 o 0 4), .int (M.1 o 0 5), .int (M.1 o 0 6), .int (M.1 o 0 7), .int (M.1 o 0 8), .int (M.1 o 0 9), .long M.2, .ref (g o 12), .ref (g o 13), .ref (g o 14), .int (M.1 o 0 14), .int (M.1 o 0 15), .ref (g o 17), .ref (g o 18), .ref (g o 19), .ref (g o 20), .ref (g o 21), .ref (g o 22), .ref (g o 23), .ref (g o 24), .int (M.1 o 0 24), .int (M.1 o 0 25), .int (M.1 o 0 26), .int (M.1 o 0 27)] := by
  simp only [flds, ftab, List.mapIdx_cons, List.mapIdx_nil]
  rfl
theorem ac_7 : acs 7 = [2, 12, 13, 14, 17, 18, 19, 20, 21, 22, 23, 24] := by decide +kernel
theorem pb_7 (hk : kd o = 7) : (prs o).map (FF g ca M) = [(g o 0, .inr (7, [.int (M.1 o 0 0), .ref (g o 2), .int (M.1 o 0 2), .int (M.1 o 0 3), .int (M.1 o 0 4), .int (M.1 o 0 5), .int (M.1 o 0 6), .int (M.1 o 0 7), .int (M.1 o 0 8), .int (M.1 o 0 9), .long M.2, .ref (g o 12), .ref (g o 13), .ref (g o 14), .int (M.1 o 0 14), .int (M.1 o 0 15), .ref (g o 17), .ref (g o 18), .ref (g o 19), .ref (g o 20), .ref (g o 21), .ref (g o 22), .ref (g o 23), .ref (g o 24), .int (M.1 o 0 24), .int (M.1 o 0 25), .int (M.1 o 0 26), .int (M.1 o 0 27)])), (g o 2, .inl (ca 0, 640, .inl (M.1 o 2))), (g o 12, .inl (ca 0, 1333, .inl (M.1 o 12))), (g o 13, .inl (ca 0, 1333, .inl (M.1 o 13))), (g o 14, .inl (ca 0, 13330, .inl (M.1 o 14))), (g o 17, .inl (ca 0, 8, .inl (M.1 o 17))), (g o 18, .inl (ca 0, 24, .inl (M.1 o 18))), (g o 19, .inl (ca 0, 8, .inl (M.1 o 19))), (g o 20, .inl (ca 0, 192, .inl (M.1 o 20))), (g o 21, .inl (ca 0, 24, .inl (M.1 o 21))), (g o 22, .inl (ca 0, 8, .inl (M.1 o 22))), (g o 23, .inl (ca 0, 24, .inl (M.1 o 23))), (g o 24, .inl (ca 2, 192, .inl (M.1 o 24)))] := by
  unfold prs
  rw [hk, ac_7]
  simp only [List.map]
  unfold FF
  dsimp only
  rw [cellE_obj hk, fl_7, cellE_arr (c := 2) hk rfl (by decide), cellE_arr (c := 12) hk rfl (by decide), cellE_arr (c := 13) hk rfl (by decide), cellE_arr (c := 14) hk rfl (by decide), cellE_arr (c := 17) hk rfl (by decide), cellE_arr (c := 18) hk rfl (by decide), cellE_arr (c := 19) hk rfl (by decide), cellE_arr (c := 20) hk rfl (by decide), cellE_arr (c := 21) hk rfl (by decide), cellE_arr (c := 22) hk rfl (by decide), cellE_arr (c := 23) hk rfl (by decide), cellE_arr (c := 24) hk rfl (by decide)]
end PB
section MADE
variable {D : va_G} {ca : Nat → ClassId} {x : Nat} {hT hS hD hP hM : Nat → Nat} {qr qn qt qp qa : Nat} {g0 : Nat → Nat → Nat} {f r : Nat → Int32} {h0 h1 h2 h3 h4 h5 h6 h7 h8 h9 : Nat → Nat}
theorem mp_13 : (prs 13).map (FF (gg x hT hS hD hP hM qr qn qt qp qa [h0, h1, h2, h3, h4, h5, h6, h7, h8, h9] g0) ca (M00 f r)) = b3 ca hT := (pb_3 (o := 13) rfl).trans rfl
theorem mp_1 : (prs 1).map (FF (gg x hT hS hD hP hM qr qn qt qp qa [h0, h1, h2, h3, h4, h5, h6, h7, h8, h9] g0) ca (M00 f r)) = b2 ca hD := (pb_2 (o := 1) rfl).trans rfl
theorem mp_16 : (prs 16).map (FF (gg x hT hS hD hP hM qr qn qt qp qa [h0, h1, h2, h3, h4, h5, h6, h7, h8, h9] g0) ca (M00 f r)) = b1 ca hP (hS 0) := (pb_1 (o := 16) rfl).trans rfl
theorem mp_0 : (prs 0).map (FF (gg x hT hS hD hP hM qr qn qt qp qa [h0, h1, h2, h3, h4, h5, h6, h7, h8, h9] g0) ca (M00 f r)) = bc2 ca hS (nI 1) f r := (pb_2 (o := 0) rfl).trans rfl
theorem mp_18 : (prs 18).map (FF (gg x hT hS hD hP hM qr qn qt qp qa [h0, h1, h2, h3, h4, h5, h6, h7, h8, h9] g0) ca (M00 f r)) = b7 ca hM := (pb_7 (o := 18) rfl).trans rfl
theorem mp_2 : (prs 2).map (FF (gg x hT hS hD hP hM qr qn qt qp qa [h0, h1, h2, h3, h4, h5, h6, h7, h8, h9] g0) ca (M00 f r)) = b2 ca h0 := (pb_2 (o := 2) rfl).trans rfl
theorem mp_3 : (prs 3).map (FF (gg x hT hS hD hP hM qr qn qt qp qa [h0, h1, h2, h3, h4, h5, h6, h7, h8, h9] g0) ca (M00 f r)) = b2 ca h1 := (pb_2 (o := 3) rfl).trans rfl
theorem mp_4 : (prs 4).map (FF (gg x hT hS hD hP hM qr qn qt qp qa [h0, h1, h2, h3, h4, h5, h6, h7, h8, h9] g0) ca (M00 f r)) = b2 ca h2 := (pb_2 (o := 4) rfl).trans rfl
theorem mp_5 : (prs 5).map (FF (gg x hT hS hD hP hM qr qn qt qp qa [h0, h1, h2, h3, h4, h5, h6, h7, h8, h9] g0) ca (M00 f r)) = b2 ca h3 := (pb_2 (o := 5) rfl).trans rfl
theorem mp_6 : (prs 6).map (FF (gg x hT hS hD hP hM qr qn qt qp qa [h0, h1, h2, h3, h4, h5, h6, h7, h8, h9] g0) ca (M00 f r)) = b2 ca h4 := (pb_2 (o := 6) rfl).trans rfl
theorem mp_7 : (prs 7).map (FF (gg x hT hS hD hP hM qr qn qt qp qa [h0, h1, h2, h3, h4, h5, h6, h7, h8, h9] g0) ca (M00 f r)) = b2 ca h5 := (pb_2 (o := 7) rfl).trans rfl
theorem mp_8 : (prs 8).map (FF (gg x hT hS hD hP hM qr qn qt qp qa [h0, h1, h2, h3, h4, h5, h6, h7, h8, h9] g0) ca (M00 f r)) = b2 ca h6 := (pb_2 (o := 8) rfl).trans rfl
theorem mp_9 : (prs 9).map (FF (gg x hT hS hD hP hM qr qn qt qp qa [h0, h1, h2, h3, h4, h5, h6, h7, h8, h9] g0) ca (M00 f r)) = b2 ca h7 := (pb_2 (o := 9) rfl).trans rfl
theorem mp_10 : (prs 10).map (FF (gg x hT hS hD hP hM qr qn qt qp qa [h0, h1, h2, h3, h4, h5, h6, h7, h8, h9] g0) ca (M00 f r)) = b2 ca h8 := (pb_2 (o := 10) rfl).trans rfl
theorem mp_11 : (prs 11).map (FF (gg x hT hS hD hP hM qr qn qt qp qa [h0, h1, h2, h3, h4, h5, h6, h7, h8, h9] g0) ca (M00 f r)) = b2 ca h9 := (pb_2 (o := 11) rfl).trans rfl
theorem mp_12 : [(12, 0)].map (FF (gg x hT hS hD hP hM qr qn qt qp qa [h0, h1, h2, h3, h4, h5, h6, h7, h8, h9] g0) ca (M00 f r)) = bX x (hT 0) (hS 0) (hD 0) qr (hP 0) qp := rfl
theorem mp_15 : (prs 15).map (FF (gg x hT hS hD hP hM qr qn qt qp qa [h0, h1, h2, h3, h4, h5, h6, h7, h8, h9] g0) ca (M00 f r)) ++ [(14, 0)].map (FF (gg x hT hS hD hP hM qr qn qt qp qa [h0, h1, h2, h3, h4, h5, h6, h7, h8, h9] g0) ca (M00 f r)) = bR ca qr qn qt (hT 0) (hD 0) := by
  rw [pb_4 (o := 15) rfl]
  rfl
theorem mp_17 : [(17, 0), (17, 1)].map (FF (gg x hT hS hD hP hM qr qn qt qp qa [h0, h1, h2, h3, h4, h5, h6, h7, h8, h9] g0) ca (M00 f r)) = [(qp, .inr (0, [.ref qa, .int 0, .int 0])), (qa, sE ca (fun i => some ((gg x hT hS hD hP hM qr qn qt qp qa [h0, h1, h2, h3, h4, h5, h6, h7, h8, h9] g0) (2 + i) 0)))] := rfl
theorem mp_R : ((List.range 10).flatMap (fun i => prs (2 + i))).map (FF (gg x hT hS hD hP hM qr qn qt qp qa [h0, h1, h2, h3, h4, h5, h6, h7, h8, h9] g0) ca (M00 f r)) = [h0, h1, h2, h3, h4, h5, h6, h7, h8, h9].flatMap (b2 ca) := by
  have e1 : (List.range 10).flatMap (fun i => prs (2 + i)) = prs 2 ++ (prs 3 ++ (prs 4 ++ (prs 5 ++ (prs 6 ++ (prs 7 ++ (prs 8 ++ (prs 9 ++ (prs 10 ++ (prs 11))))))))) := by
    rw [show List.range 10 = [0, 1, 2, 3, 4, 5, 6, 7, 8, 9] from by decide]
    simp only [List.flatMap_cons, List.flatMap_nil, List.append_nil, Nat.reduceAdd]
  rw [e1]
  simp only [List.map_append, List.flatMap_cons, List.flatMap_nil, List.append_nil]
  rw [mp_2, mp_3, mp_4, mp_5, mp_6, mp_7, mp_8, mp_9, mp_10, mp_11]
theorem made_eq : PLc.map (FF (gg x hT hS hD hP hM qr qn qt qp qa [h0, h1, h2, h3, h4, h5, h6, h7, h8, h9] g0) ca (M00 f r)) = w6 ca x hT hS hD hP qr qn qt qp qa (fun i => some ((gg x hT hS hD hP hM qr qn qt qp qa [h0, h1, h2, h3, h4, h5, h6, h7, h8, h9] g0) (2 + i) 0)) [h0, h1, h2, h3, h4, h5, h6, h7, h8, h9] f r ++ b7 ca hM := by
  unfold PLc w6 b0
  simp only [List.map_append]
  rw [mp_12, mp_13, mp_1, mp_15, mp_16, mp_17, mp_R, mp_0, mp_18]
end MADE

