set_option maxHeartbeats 8000000 in
set_option maxRecDepth 100000 in
/-- THE LAW'S LOOP: with k calls made, both sides hold one state -/
theorem law_loop {p : Program} {l : Launch} {e : Env} {s : State} {m : MethodId} {below : List Frame} {meth : Method} {c : Code} {b L : Nat} {xs : Nat → Int32} {D : va_G} {g : Nat → Nat → Nat} {ca : Nat → ClassId} {qo K0 N0 : Nat} (hE : Ew s) (hL : L ≤ 3072) (hK0 : K0 ≤ 600000) (hN0 : N0 ≤ 7000000) : ∀ k, k ≤ 512 → ∀ (M : Mm) (v : Int64) (S : Sys) (t : Nat → Nat) (n f : Nat), IV M S t n f → GL p l e s m below meth c b L xs D g ca qo (K0 + k) (N0 + 6 * k) 23 [(4, .int (nI (6 * k))), (3, .ref qo), (2, .ref (g 18 0)), (1, .ref (g 12 0)), (0, .ref b)] [] M v := by
  refine upto ?_
  intro k hk ih M v S t n f hI
  obtain ⟨a, u, h⟩ := S
  obtain ⟨hC, hR, hB⟩ := hI
  have hO : Ok a := hC.ok
  have hib : Ib a := hC.1.1.ib
  have hKc : K0 + k ≤ 600600 := by omega
  have hNc : N0 + 6 * k ≤ 7010000 := by omega
  have hKb : K0 + k ≤ 601024 := by omega
  have hNb : N0 + 6 * k ≤ 7293034 := by omega
  have hKd : K0 + k + 1 ≤ 601024 := by omega
  have hNd : N0 + 6 * k + 6 ≤ 7293034 := by omega
  have hcn : M.1 17 0 2 = nI u := by obtain ⟨_, nx, _, _, h3, _⟩ := hC.1; exact h3
  refine gl_iload 25 0 dL_law_23 rfl rfl ?_
  refine gl_aload_n 26 4 dL_law_25 rfl rfl ?_
  refine gl_slen 27 dL_law_26 rfl ?_
  refine gl_bipush 29 (nI 6) dL_law_27 rfl rfl ?_
  refine gl_isub 30 (nI L - nI 6) dL_law_29 rfl rfl ?_
  refine gl_icmp_gt 1019 33 dL_law_30 rfl rfl (fun c30 => ?_) (fun c30 => ?_)
  · exact gl_ret dL_law_1019 dL_law_1020 hKb hNb
  have hlt : 6 * k + 6 ≤ L := lw_more hL (by omega) c30
  have B13 : ∀ (M : Mm) (v : Int64) (S : Sys) (t : Nat → Nat) (n f : Nat), IV M S t n f → GL p l e s m below meth c b L xs D g ca qo (K0 + k + 1) (N0 + 6 * k + 6) 1013 [(4, .int (nI (6 * k))), (3, .ref qo), (2, .ref (g 18 0)), (1, .ref (g 12 0)), (0, .ref b)] [] M v := by
    intro M v S t n f hI
    refine gl_iinc 1016 (nI (6 * (k + 1))) [(4, .int (nI (6 * (k + 1)))), (3, .ref qo), (2, .ref (g 18 0)), (1, .ref (g 12 0)), (0, .ref b)] dL_law_1013 rfl 0 rfl (by rw [show 6 * (k + 1) = 6 * k + 6 by omega]; exact nI_add (6 * k) 6) (by decide) rfl ?_
    refine gl_goto 23 dL_law_1016 rfl ?_
    have h9 := ih (by omega) M v S t n f hI
    rw [show K0 + (k + 1) = K0 + k + 1 by omega, show N0 + 6 * (k + 1) = N0 + 6 * k + 6 by omega] at h9
    exact h9
  refine gl_aload_n 34 4 dL_law_33 rfl rfl ?_
  refine gl_iload 36 0 dL_law_34 rfl rfl ?_
  refine gl_sld 37 (6 * k) dL_law_36 rfl (by omega) ?_
  refine gl_bipush 39 (nI 31) dL_law_37 rfl rfl ?_
  refine gl_iand 40 (xs (6 * k) &&& nI 31) dL_law_39 rfl rfl ?_
  cases hx : inr (xs (6 * k) &&& nI 31) 23 with
  | false =>
    refine gl_tableOut 1013 dL_law_40 (by have h9 := inr_out hx; omega) rfl ?_
    exact gl_widen (Nat.le_succ _) (Nat.le_add_right _ 6) (B13 _ _ _ _ _ _ ⟨hC, hR, hB⟩)
  | true =>
    obtain ⟨jx, hjx, ej⟩ := inr_of hx
    rw [ej]
    rcases (show jx = 0 ∨ jx = 1 ∨ jx = 2 ∨ jx = 3 ∨ jx = 4 ∨ jx = 5 ∨ jx = 6 ∨ jx = 7 ∨ jx = 8 ∨ jx = 9 ∨ jx = 10 ∨ jx = 11 ∨ jx = 12 ∨ jx = 13 ∨ jx = 14 ∨ jx = 15 ∨ jx = 16 ∨ jx = 17 ∨ jx = 18 ∨ jx = 19 ∨ jx = 20 ∨ jx = 21 ∨ jx = 22 by omega) with rfl | rfl | rfl | rfl | rfl | rfl | rfl | rfl | rfl | rfl | rfl | rfl | rfl | rfl | rfl | rfl | rfl | rfl | rfl | rfl | rfl | rfl | rfl
    · refine gl_tableIn 148 dL_law_40 (by decide) (by decide) rfl rfl ?_
      refine gl_aload_n 149 3 dL_law_148 rfl rfl ?_
      refine gl_aload_n 150 4 dL_law_149 rfl rfl ?_
      refine gl_iload 152 0 dL_law_150 rfl rfl ?_
      refine gl_iconst 153 (nI 1) dL_law_152 rfl rfl ?_
      refine gl_iadd 154 (nI (6 * k + 1)) dL_law_153 rfl (nI_add (6 * k) 1) ?_
      refine gl_sld 155 (6 * k + 1) dL_law_154 rfl (by omega) ?_
      refine gl_aload_n 156 4 dL_law_155 rfl rfl ?_
      refine gl_iload 158 0 dL_law_156 rfl rfl ?_
      refine gl_iconst 159 (nI 2) dL_law_158 rfl rfl ?_
      refine gl_iadd 160 (nI (6 * k + 2)) dL_law_159 rfl (nI_add (6 * k) 2) ?_
      refine gl_sld 161 (6 * k + 2) dL_law_160 rfl (by omega) ?_
      refine gl_aload_n 162 4 dL_law_161 rfl rfl ?_
      refine gl_iload 164 0 dL_law_162 rfl rfl ?_
      refine gl_iconst 165 (nI 3) dL_law_164 rfl rfl ?_
      refine gl_iadd 166 (nI (6 * k + 3)) dL_law_165 rfl (nI_add (6 * k) 3) ?_
      refine gl_sld 167 (6 * k + 3) dL_law_166 rfl (by omega) ?_
      refine gl_aload_n 168 4 dL_law_167 rfl rfl ?_
      refine gl_iload 170 0 dL_law_168 rfl rfl ?_
      refine gl_iconst 171 (nI 4) dL_law_170 rfl rfl ?_
      refine gl_iadd 172 (nI (6 * k + 4)) dL_law_171 rfl (nI_add (6 * k) 4) ?_
      refine gl_sld 173 (6 * k + 4) dL_law_172 rfl (by omega) ?_
      refine gl_aload_n 174 4 dL_law_173 rfl rfl ?_
      refine gl_iload 176 0 dL_law_174 rfl rfl ?_
      refine gl_iconst 177 (nI 5) dL_law_176 rfl rfl ?_
      refine gl_iadd 178 (nI (6 * k + 5)) dL_law_177 rfl (nI_add (6 * k) 5) ?_
      refine gl_sld 179 (6 * k + 5) dL_law_178 rfl (by omega) ?_
      refine gl_callV 182 md_X6_feed [.int (xs (6 * k + 1)), .int (xs (6 * k + 2)), .int (xs (6 * k + 3)), .int (xs (6 * k + 4)), .int (xs (6 * k + 5))] [] dL_law_179 rfl e_L_22 rfl (by decide) rfl rfl (Nat.le_of_ble_eq_true rfl) hKb hNb (c_X6_feed hC.2.1 hB.1 (xs (6 * k + 1)) (xs (6 * k + 2)) (xs (6 * k + 3)) (xs (6 * k + 4)) (xs (6 * k + 5))) (fun r6 M6 h6 => ?_)
      obtain ⟨rfl, h6a, h6b⟩ := h6
      obtain ⟨hC1, hK1⟩ := hC.f13 h6a h6b
      have hR1 := hR.kr hK1
      refine gl_aload_n 183 2 dL_law_182 rfl rfl ?_
      refine gl_aload_n 184 4 dL_law_183 rfl rfl ?_
      refine gl_iload 186 0 dL_law_184 rfl rfl ?_
      refine gl_iconst 187 (nI 1) dL_law_186 rfl rfl ?_
      refine gl_iadd 188 (nI (6 * k + 1)) dL_law_187 rfl (nI_add (6 * k) 1) ?_
      refine gl_sld 189 (6 * k + 1) dL_law_188 rfl (by omega) ?_
      refine gl_aload_n 190 4 dL_law_189 rfl rfl ?_
      refine gl_iload 192 0 dL_law_190 rfl rfl ?_
      refine gl_iconst 193 (nI 2) dL_law_192 rfl rfl ?_
      refine gl_iadd 194 (nI (6 * k + 2)) dL_law_193 rfl (nI_add (6 * k) 2) ?_
      refine gl_sld 195 (6 * k + 2) dL_law_194 rfl (by omega) ?_
      refine gl_aload_n 196 4 dL_law_195 rfl rfl ?_
      refine gl_iload 198 0 dL_law_196 rfl rfl ?_
      refine gl_iconst 199 (nI 3) dL_law_198 rfl rfl ?_
      refine gl_iadd 200 (nI (6 * k + 3)) dL_law_199 rfl (nI_add (6 * k) 3) ?_
      refine gl_sld 201 (6 * k + 3) dL_law_200 rfl (by omega) ?_
      refine gl_aload_n 202 4 dL_law_201 rfl rfl ?_
      refine gl_iload 204 0 dL_law_202 rfl rfl ?_
      refine gl_iconst 205 (nI 4) dL_law_204 rfl rfl ?_
      refine gl_iadd 206 (nI (6 * k + 4)) dL_law_205 rfl (nI_add (6 * k) 4) ?_
      refine gl_sld 207 (6 * k + 4) dL_law_206 rfl (by omega) ?_
      refine gl_aload_n 208 4 dL_law_207 rfl rfl ?_
      refine gl_iload 210 0 dL_law_208 rfl rfl ?_
      refine gl_iconst 211 (nI 5) dL_law_210 rfl rfl ?_
      refine gl_iadd 212 (nI (6 * k + 5)) dL_law_211 rfl (nI_add (6 * k) 5) ?_
      refine gl_sld 213 (6 * k + 5) dL_law_212 rfl (by omega) ?_
      refine gl_callV 216 md_X7_feed [.int (xs (6 * k + 1)), .int (xs (6 * k + 2)), .int (xs (6 * k + 3)), .int (xs (6 * k + 4)), .int (xs (6 * k + 5))] [_] dL_law_213 rfl e_L_26 rfl (by decide) rfl rfl (Nat.le_of_ble_eq_true rfl) hKb hNb (c_X7_feed hR1.2.1 hB.1 (xs (6 * k + 1)) (xs (6 * k + 2)) (xs (6 * k + 3)) (xs (6 * k + 4)) (xs (6 * k + 5))) (fun r7 M7 h7 => ?_)
      obtain ⟨rfl, h7a, h7b⟩ := h7
      obtain ⟨hR2, hK2⟩ := hR1.ftp h7a h7b
      refine gl_icmp_eq 1013 219 dL_law_216 rfl rfl (fun _ => ?_) (fun z => absurd rfl z)
      exact gl_widen (Nat.le_succ _) (Nat.le_add_right _ 6) (B13 _ _ _ _ _ _ ⟨hC1.kc hK2, hR2, (Tb_fd hB)⟩)
    · refine gl_tableIn 221 dL_law_40 (by decide) (by decide) rfl rfl ?_
      refine gl_aload_n 222 3 dL_law_221 rfl rfl ?_
      refine gl_aload_n 223 4 dL_law_222 rfl rfl ?_
      refine gl_iload 225 0 dL_law_223 rfl rfl ?_
      refine gl_iconst 226 (nI 1) dL_law_225 rfl rfl ?_
      refine gl_iadd 227 (nI (6 * k + 1)) dL_law_226 rfl (nI_add (6 * k) 1) ?_
      refine gl_sld 228 (6 * k + 1) dL_law_227 rfl (by omega) ?_
      refine gl_callV 231 md_X6_end [.int (xs (6 * k + 1))] [] dL_law_228 rfl e_L_27 rfl (by decide) rfl rfl (Nat.le_of_ble_eq_true rfl) hKb hNb (c_X6_end hC.2.1 hB.1 (xs (6 * k + 1))) (fun r6 M6 h6 => ?_)
      obtain ⟨rfl, h6a, h6b⟩ := h6
      obtain ⟨hC1, hK1⟩ := hC.f13 h6a h6b
      have hR1 := hR.kr hK1
      refine gl_aload_n 232 2 dL_law_231 rfl rfl ?_
      refine gl_aload_n 233 4 dL_law_232 rfl rfl ?_
      refine gl_iload 235 0 dL_law_233 rfl rfl ?_
      refine gl_iconst 236 (nI 1) dL_law_235 rfl rfl ?_
      refine gl_iadd 237 (nI (6 * k + 1)) dL_law_236 rfl (nI_add (6 * k) 1) ?_
      refine gl_sld 238 (6 * k + 1) dL_law_237 rfl (by omega) ?_
      refine gl_callV 241 md_X7_end [.int (xs (6 * k + 1))] [_] dL_law_238 rfl e_L_31 rfl (by decide) rfl rfl (Nat.le_of_ble_eq_true rfl) hKb hNb (c_X7_end hR1.2.1 hB.1 (xs (6 * k + 1))) (fun r7 M7 h7 => ?_)
      obtain ⟨rfl, h7a, h7b⟩ := h7
      obtain ⟨hR2, hK2⟩ := hR1.ftp h7a h7b
      refine gl_icmp_eq 1013 244 dL_law_241 rfl rfl (fun _ => ?_) (fun z => absurd rfl z)
      exact gl_widen (Nat.le_succ _) (Nat.le_add_right _ 6) (B13 _ _ _ _ _ _ ⟨hC1.kc hK2, hR2, (Tb_en hB)⟩)
    · refine gl_tableIn 246 dL_law_40 (by decide) (by decide) rfl rfl ?_
      refine gl_aload_n 247 3 dL_law_246 rfl rfl ?_
      refine gl_callV 250 md_X6_text [] [] dL_law_247 rfl e_L_32 rfl (by decide) rfl rfl (Nat.le_of_ble_eq_true rfl) hKb hNb (c_X6_text hC.2.1 hB hC.1) (fun r6 M6 h6 => ?_)
      obtain ⟨rfl, h6a, h6b, h6c, h6d⟩ := h6
      have hK1 : KR M M6 := fun c i => h6d.1 18 c i (by omega)
      have hR1 := hR.kr hK1
      refine gl_aload_n 251 2 dL_law_250 rfl rfl ?_
      refine gl_callV 254 md_X7_text [] [_] dL_law_251 rfl e_L_36 rfl (by decide) rfl rfl (Nat.le_of_ble_eq_true rfl) hKb hNb (c_X7_text hR1.2.1 hB hR1.1) (fun r7 M7 h7 => ?_)
      obtain ⟨rfl, h7a, h7b, h7c, h7d⟩ := h7
      have hC1 : CI M6 (S_txt t n (a, u, h)).2.2 t 0 (S_txt t n (a, u, h)).2.1 := ⟨h6a, h6c, h6b⟩
      have hR2 : RI M7 (S_txt t n (a, u, h)).2.2 t 0 (S_txt t n (a, u, h)).2.1 := ⟨h7a, h7c, h7b⟩
      have hK2 : KC M6 M7 := fun o c i z => h7d o c i z
      refine gl_icmp_eq 1013 257 dL_law_254 rfl rfl (fun _ => ?_) (fun z => absurd rfl z)
      exact gl_widen (Nat.le_succ _) (Nat.le_add_right _ 6) (B13 _ _ _ _ _ _ ⟨hC1.kc hK2, hR2, ⟨Nat.zero_le _, fun i hi => absurd hi (Nat.not_lt_zero i)⟩⟩)
    · refine gl_tableIn 259 dL_law_40 (by decide) (by decide) rfl rfl ?_
      refine gl_aload_n 260 3 dL_law_259 rfl rfl ?_
      refine gl_callV 263 md_X6_fault [] [] dL_law_260 rfl e_L_37 rfl (by decide) rfl rfl (Nat.le_of_ble_eq_true rfl) hKb hNb (c_X6_fault) (fun r6 M6 h6 => ?_)
      obtain ⟨r6e, h6⟩ := h6
      have r6e := r6e.trans hC.2.2
      subst r6e
      obtain ⟨hC1, hK1⟩ := hC.same h6
      have hR1 := hR.kr hK1
      refine gl_aload_n 264 2 dL_law_263 rfl rfl ?_
      refine gl_callV 267 md_X7_fault [] [_] dL_law_264 rfl e_L_40 rfl (by decide) rfl rfl (Nat.le_of_ble_eq_true rfl) hKb hNb (c_X7_fault) (fun r7 M7 h7 => ?_)
      obtain ⟨r7e, h7⟩ := h7
      have r7e := r7e.trans hR1.2.2
      subst r7e
      obtain ⟨hR2, hK2⟩ := hR1.w0 h7
      refine gl_icmp_eq 1013 270 dL_law_267 rfl rfl (fun _ => ?_) (fun z => absurd rfl z)
      exact gl_widen (Nat.le_succ _) (Nat.le_add_right _ 6) (B13 _ _ _ _ _ _ ⟨hC1.kc hK2, hR2, hB⟩)
    · refine gl_tableIn 272 dL_law_40 (by decide) (by decide) rfl rfl ?_
      refine gl_aload_n 273 3 dL_law_272 rfl rfl ?_
      refine gl_aload_n 274 4 dL_law_273 rfl rfl ?_
      refine gl_iload 276 0 dL_law_274 rfl rfl ?_
      refine gl_iconst 277 (nI 1) dL_law_276 rfl rfl ?_
      refine gl_iadd 278 (nI (6 * k + 1)) dL_law_277 rfl (nI_add (6 * k) 1) ?_
      refine gl_sld 279 (6 * k + 1) dL_law_278 rfl (by omega) ?_
      refine gl_callV 282 md_X6_now [.int (xs (6 * k + 1))] [] dL_law_279 rfl e_L_41 rfl (by decide) rfl rfl (Nat.le_of_ble_eq_true rfl) hKb hNb (c_X6_now hC.1.1 hcn hC.2.1.1 (xs (6 * k + 1))) (fun r6 M6 h6 => ?_)
      obtain ⟨rfl, h6⟩ := h6
      obtain ⟨hC1, hK1⟩ := hC.same h6
      have hR1 := hR.kr hK1
      refine gl_aload_n 283 2 dL_law_282 rfl rfl ?_
      refine gl_aload_n 284 4 dL_law_283 rfl rfl ?_
      refine gl_iload 286 0 dL_law_284 rfl rfl ?_
      refine gl_iconst 287 (nI 1) dL_law_286 rfl rfl ?_
      refine gl_iadd 288 (nI (6 * k + 1)) dL_law_287 rfl (nI_add (6 * k) 1) ?_
      refine gl_sld 289 (6 * k + 1) dL_law_288 rfl (by omega) ?_
      refine gl_callV 292 md_X7_now [.int (xs (6 * k + 1))] [_] dL_law_289 rfl e_L_45 rfl (by decide) rfl rfl (Nat.le_of_ble_eq_true rfl) hKb hNb (c_X7_now hR1.1.1 hO.1 hR1.1.2.1 hR1.2.1.1 (xs (6 * k + 1))) (fun r7 M7 h7 => ?_)
      obtain ⟨rfl, h7⟩ := h7
      obtain ⟨hR2, hK2⟩ := hR1.w0 h7
      refine gl_icmp_eq 1013 295 dL_law_292 rfl rfl (fun _ => ?_) (fun z => absurd rfl z)
      exact gl_widen (Nat.le_succ _) (Nat.le_add_right _ 6) (B13 _ _ _ _ _ _ ⟨hC1.kc hK2, hR2, hB⟩)
    · refine gl_tableIn 297 dL_law_40 (by decide) (by decide) rfl rfl ?_
      refine gl_aload_n 298 3 dL_law_297 rfl rfl ?_
      refine gl_aload_n 299 4 dL_law_298 rfl rfl ?_
      refine gl_iload 301 0 dL_law_299 rfl rfl ?_
      refine gl_iconst 302 (nI 1) dL_law_301 rfl rfl ?_
      refine gl_iadd 303 (nI (6 * k + 1)) dL_law_302 rfl (nI_add (6 * k) 1) ?_
      refine gl_sld 304 (6 * k + 1) dL_law_303 rfl (by omega) ?_
      refine gl_aload_n 305 4 dL_law_304 rfl rfl ?_
      refine gl_iload 307 0 dL_law_305 rfl rfl ?_
      refine gl_iconst 308 (nI 2) dL_law_307 rfl rfl ?_
      refine gl_iadd 309 (nI (6 * k + 2)) dL_law_308 rfl (nI_add (6 * k) 2) ?_
      refine gl_sld 310 (6 * k + 2) dL_law_309 rfl (by omega) ?_
      refine gl_aload_n 311 1 dL_law_310 rfl rfl ?_
      refine gl_lot 314 dL_law_311 rfl hC.1.1 hE (xs (6 * k + 1)) (xs (6 * k + 2)) rfl (Nat.le_of_ble_eq_true rfl) hKd hNd (fun hT => ?_) (fun p9 k9 hT e1 e2 hp9 hk9 => ?_)
      · refine gl_istore 316 [(5, .int (nI 1)), (4, .int (nI (6 * k))), (3, .ref qo), (2, .ref (g 18 0)), (1, .ref (g 12 0)), (0, .ref b)] dL_law_314 rfl (by decide) rfl ?_
        refine gl_aload_n 317 3 dL_law_316 rfl rfl ?_
        refine gl_aload_n 318 5 dL_law_317 rfl rfl ?_
        refine gl_iload 320 1 dL_law_318 rfl rfl ?_
        refine gl_iconst 321 (nI 1) dL_law_320 rfl rfl ?_
        refine gl_iadd 322 (nI (6 * k + 1)) dL_law_321 rfl (nI_add (6 * k) 1) ?_
        refine gl_sld 323 (6 * k + 1) dL_law_322 rfl (by omega) ?_
        refine gl_aload_n 324 5 dL_law_323 rfl rfl ?_
        refine gl_iload 326 1 dL_law_324 rfl rfl ?_
        refine gl_iconst 327 (nI 2) dL_law_326 rfl rfl ?_
        refine gl_iadd 328 (nI (6 * k + 2)) dL_law_327 rfl (nI_add (6 * k) 2) ?_
        refine gl_sld 329 (6 * k + 2) dL_law_328 rfl (by omega) ?_
        refine gl_callV 332 md_X7_lot [.int (xs (6 * k + 1)), .int (xs (6 * k + 2))] [] dL_law_329 rfl e_L_51 rfl (by decide) rfl rfl (Nat.le_of_ble_eq_true rfl) hKd hNd (c_X7_lot hR.1.1 hO.1 (xs (6 * k + 1)) (xs (6 * k + 2))) (fun r7 M7 h7 => ?_)
        rcases h7 with ⟨h7, _⟩ | ⟨_, h7, _⟩
        rotate_left
        · rw [hT] at h7; exact absurd h7 (by decide)
        obtain ⟨hR1, hK1⟩ := hR.w0 (x := nI 0) rfl
        obtain ⟨hR2, hK2⟩ := hR1.w0 h7
        have hth : M7.1 18 0 0 = nI 1 := by rw [h7]; exact wr_eq
        have hK3 : KC M M7 := fun o c i z => (hK2 o c i z).trans (hK1 o c i z)
        refine gl_istore 334 [(6, .int r7), (5, .int (nI 1)), (4, .int (nI (6 * k))), (3, .ref qo), (2, .ref (g 18 0)), (1, .ref (g 12 0)), (0, .ref b)] dL_law_332 rfl (by decide) rfl ?_
        refine gl_aload_n 335 4 dL_law_334 rfl rfl ?_
        refine gl_callV 338 md_X7_thrown [] [] dL_law_335 rfl e_L_52 rfl (by decide) rfl rfl (Nat.le_of_ble_eq_true rfl) hKd hNd c_X7_thrown (fun r8 M8 h8 => ?_)
        obtain ⟨r8e, h8⟩ := h8
        have r8e := r8e.trans hth
        subst r8e
        have h8 := h8.symm
        subst h8
        refine gl_iload 340 1 dL_law_338 rfl rfl ?_
        refine gl_icmp_eq 345 343 dL_law_340 rfl rfl (fun _ => ?_) (fun z => absurd rfl z)
        refine gl_iload 347 1 dL_law_345 rfl rfl ?_
        refine gl_if_ne 362 350 dL_law_347 rfl rfl (fun _ => ?_) (fun z => absurd z (by decide))
        refine gl_goto 1013 dL_law_362 rfl ?_
        refine gl_lv [2, 3, 4, 5, 6] rfl ?_
        exact B13 _ _ _ _ _ _ ⟨hC.kc hK3, hR2, hB⟩
      · refine gl_istore 316 [(5, .int (nI 0)), (4, .int (nI (6 * k))), (3, .ref qo), (2, .ref (g 18 0)), (1, .ref (g 12 0)), (0, .ref b)] dL_law_314 rfl (by decide) rfl ?_
        refine gl_aload_n 317 3 dL_law_316 rfl rfl ?_
        refine gl_aload_n 318 5 dL_law_317 rfl rfl ?_
        refine gl_iload 320 1 dL_law_318 rfl rfl ?_
        refine gl_iconst 321 (nI 1) dL_law_320 rfl rfl ?_
        refine gl_iadd 322 (nI (6 * k + 1)) dL_law_321 rfl (nI_add (6 * k) 1) ?_
        refine gl_sld 323 (6 * k + 1) dL_law_322 rfl (by omega) ?_
        refine gl_aload_n 324 5 dL_law_323 rfl rfl ?_
        refine gl_iload 326 1 dL_law_324 rfl rfl ?_
        refine gl_iconst 327 (nI 2) dL_law_326 rfl rfl ?_
        refine gl_iadd 328 (nI (6 * k + 2)) dL_law_327 rfl (nI_add (6 * k) 2) ?_
        refine gl_sld 329 (6 * k + 2) dL_law_328 rfl (by omega) ?_
        refine gl_callV 332 md_X7_lot [.int (xs (6 * k + 1)), .int (xs (6 * k + 2))] [] dL_law_329 rfl e_L_51 rfl (by decide) rfl rfl (Nat.le_of_ble_eq_true rfl) hKd hNd (c_X7_lot hR.1.1 hO.1 (xs (6 * k + 1)) (xs (6 * k + 2))) (fun r7 M7 h7 => ?_)
        rcases h7 with ⟨_, h7⟩ | ⟨h7, _, p8, k8, e3, e4, rfl, hp8, hk8⟩
        · rw [hT] at h7; exact absurd h7 (by decide)
        obtain ⟨hR2, hK3⟩ := hR.w0 h7
        have hth : M7.1 18 0 0 = nI 0 := by rw [h7]; exact wr_eq
        have hp9 : p9 < a 0 3 := hp9
        have hp8 : p8 < a 0 3 := hp8
        have b9 := hO.1.l24
        have b8 := hO.1.o41
        have ep : p8 = p9 := (nI_eq (by omega) (by omega)).mp (e3.symm.trans e1)
        have ek : k8 = k9 := (nI_eq (by omega) (by omega)).mp (e4.symm.trans e2)
        subst ep
        subst ek
        refine gl_istore 334 [(6, .int (nI (V_lot a p8 k8))), (5, .int (nI 0)), (4, .int (nI (6 * k))), (3, .ref qo), (2, .ref (g 18 0)), (1, .ref (g 12 0)), (0, .ref b)] dL_law_332 rfl (by decide) rfl ?_
        refine gl_aload_n 335 4 dL_law_334 rfl rfl ?_
        refine gl_callV 338 md_X7_thrown [] [] dL_law_335 rfl e_L_52 rfl (by decide) rfl rfl (Nat.le_of_ble_eq_true rfl) hKd hNd c_X7_thrown (fun r8 M8 h8 => ?_)
        obtain ⟨r8e, h8⟩ := h8
        have r8e := r8e.trans hth
        subst r8e
        have h8 := h8.symm
        subst h8
        refine gl_iload 340 1 dL_law_338 rfl rfl ?_
        refine gl_icmp_eq 345 343 dL_law_340 rfl rfl (fun _ => ?_) (fun z => absurd rfl z)
        refine gl_iload 347 1 dL_law_345 rfl rfl ?_
        refine gl_if_ne 362 350 dL_law_347 rfl rfl (fun z => absurd rfl z) (fun _ => ?_)
        refine gl_aload_n 351 3 dL_law_350 rfl rfl ?_
        refine gl_iconst 352 (nI 0) dL_law_351 rfl rfl ?_
        refine gl_lald 353 dL_law_352 rfl ?_
        refine gl_iload 355 0 dL_law_353 rfl rfl ?_
        refine gl_i2l 356 ((nI (V_lot a p8 k8)).toInt64) dL_law_355 rfl rfl ?_
        refine gl_lcmp 357 0 dL_law_356 rfl ((lg_cmp_eq _ _).mpr rfl) ?_
        refine gl_if_eq 362 360 dL_law_357 rfl rfl (fun _ => ?_) (fun z => absurd rfl z)
        refine gl_goto 1013 dL_law_362 rfl ?_
        refine gl_lv [2, 3, 4, 5, 6] rfl ?_
        exact B13 _ _ _ _ _ _ ⟨hC.kc hK3, hR2, hB⟩
    · refine gl_tableIn 365 dL_law_40 (by decide) (by decide) rfl rfl ?_
      refine gl_aload_n 366 3 dL_law_365 rfl rfl ?_
      refine gl_aload_n 367 4 dL_law_366 rfl rfl ?_
      refine gl_iload 369 0 dL_law_367 rfl rfl ?_
      refine gl_iconst 370 (nI 1) dL_law_369 rfl rfl ?_
      refine gl_iadd 371 (nI (6 * k + 1)) dL_law_370 rfl (nI_add (6 * k) 1) ?_
      refine gl_sld 372 (6 * k + 1) dL_law_371 rfl (by omega) ?_
      refine gl_aload_n 373 4 dL_law_372 rfl rfl ?_
      refine gl_iload 375 0 dL_law_373 rfl rfl ?_
      refine gl_iconst 376 (nI 2) dL_law_375 rfl rfl ?_
      refine gl_iadd 377 (nI (6 * k + 2)) dL_law_376 rfl (nI_add (6 * k) 2) ?_
      refine gl_sld 378 (6 * k + 2) dL_law_377 rfl (by omega) ?_
      refine gl_aload_n 379 1 dL_law_378 rfl rfl ?_
      refine gl_order 382 dL_law_379 rfl hC.1.1 hE (xs (6 * k + 1)) (xs (6 * k + 2)) rfl (Nat.le_of_ble_eq_true rfl) hKd hNd (fun hT => ?_) (fun p9 k9 hT e1 e2 hp9 hk9 => ?_)
      · refine gl_istore 384 [(5, .int (nI 1)), (4, .int (nI (6 * k))), (3, .ref qo), (2, .ref (g 18 0)), (1, .ref (g 12 0)), (0, .ref b)] dL_law_382 rfl (by decide) rfl ?_
        refine gl_aload_n 385 3 dL_law_384 rfl rfl ?_
        refine gl_aload_n 386 5 dL_law_385 rfl rfl ?_
        refine gl_iload 388 1 dL_law_386 rfl rfl ?_
        refine gl_iconst 389 (nI 1) dL_law_388 rfl rfl ?_
        refine gl_iadd 390 (nI (6 * k + 1)) dL_law_389 rfl (nI_add (6 * k) 1) ?_
        refine gl_sld 391 (6 * k + 1) dL_law_390 rfl (by omega) ?_
        refine gl_aload_n 392 5 dL_law_391 rfl rfl ?_
        refine gl_iload 394 1 dL_law_392 rfl rfl ?_
        refine gl_iconst 395 (nI 2) dL_law_394 rfl rfl ?_
        refine gl_iadd 396 (nI (6 * k + 2)) dL_law_395 rfl (nI_add (6 * k) 2) ?_
        refine gl_sld 397 (6 * k + 2) dL_law_396 rfl (by omega) ?_
        refine gl_callV 400 md_X7_order [.int (xs (6 * k + 1)), .int (xs (6 * k + 2))] [] dL_law_397 rfl e_L_57 rfl (by decide) rfl rfl (Nat.le_of_ble_eq_true rfl) hKd hNd (c_X7_order hR.1.1 hO.1 (xs (6 * k + 1)) (xs (6 * k + 2))) (fun r7 M7 h7 => ?_)
        rcases h7 with ⟨h7, _⟩ | ⟨_, h7, _⟩
        rotate_left
        · rw [hT] at h7; exact absurd h7 (by decide)
        obtain ⟨hR1, hK1⟩ := hR.w0 (x := nI 0) rfl
        obtain ⟨hR2, hK2⟩ := hR1.w0 h7
        have hth : M7.1 18 0 0 = nI 1 := by rw [h7]; exact wr_eq
        have hK3 : KC M M7 := fun o c i z => (hK2 o c i z).trans (hK1 o c i z)
        refine gl_istore 402 [(6, .int r7), (5, .int (nI 1)), (4, .int (nI (6 * k))), (3, .ref qo), (2, .ref (g 18 0)), (1, .ref (g 12 0)), (0, .ref b)] dL_law_400 rfl (by decide) rfl ?_
        refine gl_aload_n 403 4 dL_law_402 rfl rfl ?_
        refine gl_callV 406 md_X7_thrown [] [] dL_law_403 rfl e_L_52 rfl (by decide) rfl rfl (Nat.le_of_ble_eq_true rfl) hKd hNd c_X7_thrown (fun r8 M8 h8 => ?_)
        obtain ⟨r8e, h8⟩ := h8
        have r8e := r8e.trans hth
        subst r8e
        have h8 := h8.symm
        subst h8
        refine gl_iload 408 1 dL_law_406 rfl rfl ?_
        refine gl_icmp_eq 413 411 dL_law_408 rfl rfl (fun _ => ?_) (fun z => absurd rfl z)
        refine gl_iload 415 1 dL_law_413 rfl rfl ?_
        refine gl_if_ne 430 418 dL_law_415 rfl rfl (fun _ => ?_) (fun z => absurd z (by decide))
        refine gl_goto 1013 dL_law_430 rfl ?_
        refine gl_lv [2, 3, 4, 5, 6] rfl ?_
        exact B13 _ _ _ _ _ _ ⟨hC.kc hK3, hR2, hB⟩
      · refine gl_istore 384 [(5, .int (nI 0)), (4, .int (nI (6 * k))), (3, .ref qo), (2, .ref (g 18 0)), (1, .ref (g 12 0)), (0, .ref b)] dL_law_382 rfl (by decide) rfl ?_
        refine gl_aload_n 385 3 dL_law_384 rfl rfl ?_
        refine gl_aload_n 386 5 dL_law_385 rfl rfl ?_
        refine gl_iload 388 1 dL_law_386 rfl rfl ?_
        refine gl_iconst 389 (nI 1) dL_law_388 rfl rfl ?_
        refine gl_iadd 390 (nI (6 * k + 1)) dL_law_389 rfl (nI_add (6 * k) 1) ?_
        refine gl_sld 391 (6 * k + 1) dL_law_390 rfl (by omega) ?_
        refine gl_aload_n 392 5 dL_law_391 rfl rfl ?_
        refine gl_iload 394 1 dL_law_392 rfl rfl ?_
        refine gl_iconst 395 (nI 2) dL_law_394 rfl rfl ?_
        refine gl_iadd 396 (nI (6 * k + 2)) dL_law_395 rfl (nI_add (6 * k) 2) ?_
        refine gl_sld 397 (6 * k + 2) dL_law_396 rfl (by omega) ?_
        refine gl_callV 400 md_X7_order [.int (xs (6 * k + 1)), .int (xs (6 * k + 2))] [] dL_law_397 rfl e_L_57 rfl (by decide) rfl rfl (Nat.le_of_ble_eq_true rfl) hKd hNd (c_X7_order hR.1.1 hO.1 (xs (6 * k + 1)) (xs (6 * k + 2))) (fun r7 M7 h7 => ?_)
        rcases h7 with ⟨_, h7⟩ | ⟨h7, _, p8, k8, e3, e4, rfl, hp8, hk8⟩
        · rw [hT] at h7; exact absurd h7 (by decide)
        obtain ⟨hR2, hK3⟩ := hR.w0 h7
        have hth : M7.1 18 0 0 = nI 0 := by rw [h7]; exact wr_eq
        have hp9 : p9 < a 0 4 := hp9
        have hp8 : p8 < a 0 4 := hp8
        have b9 := hO.1.l24
        have b8 := hO.1.o41
        have ep : p8 = p9 := (nI_eq (by omega) (by omega)).mp (e3.symm.trans e1)
        have ek : k8 = k9 := (nI_eq (by omega) (by omega)).mp (e4.symm.trans e2)
        subst ep
        subst ek
        refine gl_istore 402 [(6, .int (nI (V_ord a p8 k8))), (5, .int (nI 0)), (4, .int (nI (6 * k))), (3, .ref qo), (2, .ref (g 18 0)), (1, .ref (g 12 0)), (0, .ref b)] dL_law_400 rfl (by decide) rfl ?_
        refine gl_aload_n 403 4 dL_law_402 rfl rfl ?_
        refine gl_callV 406 md_X7_thrown [] [] dL_law_403 rfl e_L_52 rfl (by decide) rfl rfl (Nat.le_of_ble_eq_true rfl) hKd hNd c_X7_thrown (fun r8 M8 h8 => ?_)
        obtain ⟨r8e, h8⟩ := h8
        have r8e := r8e.trans hth
        subst r8e
        have h8 := h8.symm
        subst h8
        refine gl_iload 408 1 dL_law_406 rfl rfl ?_
        refine gl_icmp_eq 413 411 dL_law_408 rfl rfl (fun _ => ?_) (fun z => absurd rfl z)
        refine gl_iload 415 1 dL_law_413 rfl rfl ?_
        refine gl_if_ne 430 418 dL_law_415 rfl rfl (fun z => absurd rfl z) (fun _ => ?_)
        refine gl_aload_n 419 3 dL_law_418 rfl rfl ?_
        refine gl_iconst 420 (nI 0) dL_law_419 rfl rfl ?_
        refine gl_lald 421 dL_law_420 rfl ?_
        refine gl_iload 423 0 dL_law_421 rfl rfl ?_
        refine gl_i2l 424 ((nI (V_ord a p8 k8)).toInt64) dL_law_423 rfl rfl ?_
        refine gl_lcmp 425 0 dL_law_424 rfl ((lg_cmp_eq _ _).mpr rfl) ?_
        refine gl_if_eq 430 428 dL_law_425 rfl rfl (fun _ => ?_) (fun z => absurd rfl z)
        refine gl_goto 1013 dL_law_430 rfl ?_
        refine gl_lv [2, 3, 4, 5, 6] rfl ?_
        exact B13 _ _ _ _ _ _ ⟨hC.kc hK3, hR2, hB⟩
    · refine gl_tableIn 433 dL_law_40 (by decide) (by decide) rfl rfl ?_
      refine gl_aload_n 434 3 dL_law_433 rfl rfl ?_
      refine gl_aload_n 435 4 dL_law_434 rfl rfl ?_
      refine gl_iload 437 0 dL_law_435 rfl rfl ?_
      refine gl_iconst 438 (nI 1) dL_law_437 rfl rfl ?_
      refine gl_iadd 439 (nI (6 * k + 1)) dL_law_438 rfl (nI_add (6 * k) 1) ?_
      refine gl_sld 440 (6 * k + 1) dL_law_439 rfl (by omega) ?_
      refine gl_aload_n 441 4 dL_law_440 rfl rfl ?_
      refine gl_iload 443 0 dL_law_441 rfl rfl ?_
      refine gl_iconst 444 (nI 2) dL_law_443 rfl rfl ?_
      refine gl_iadd 445 (nI (6 * k + 2)) dL_law_444 rfl (nI_add (6 * k) 2) ?_
      refine gl_sld 446 (6 * k + 2) dL_law_445 rfl (by omega) ?_
      refine gl_callV 449 md_X6_reserved [.int (xs (6 * k + 1)), .int (xs (6 * k + 2))] [] dL_law_446 rfl e_L_58 rfl (by decide) rfl rfl (Nat.le_of_ble_eq_true rfl) hKb hNb (c_X6_reserved hC.1.1 (xs (6 * k + 1)) (xs (6 * k + 2))) (fun r6 M6 h6 => ?_)
      obtain ⟨rfl, h6⟩ := h6
      obtain ⟨hC1, hK1⟩ := hC.same h6
      have hR1 := hR.kr hK1
      refine gl_aload_n 450 2 dL_law_449 rfl rfl ?_
      refine gl_aload_n 451 4 dL_law_450 rfl rfl ?_
      refine gl_iload 453 0 dL_law_451 rfl rfl ?_
      refine gl_iconst 454 (nI 1) dL_law_453 rfl rfl ?_
      refine gl_iadd 455 (nI (6 * k + 1)) dL_law_454 rfl (nI_add (6 * k) 1) ?_
      refine gl_sld 456 (6 * k + 1) dL_law_455 rfl (by omega) ?_
      refine gl_aload_n 457 4 dL_law_456 rfl rfl ?_
      refine gl_iload 459 0 dL_law_457 rfl rfl ?_
      refine gl_iconst 460 (nI 2) dL_law_459 rfl rfl ?_
      refine gl_iadd 461 (nI (6 * k + 2)) dL_law_460 rfl (nI_add (6 * k) 2) ?_
      refine gl_sld 462 (6 * k + 2) dL_law_461 rfl (by omega) ?_
      refine gl_callV 465 md_X7_reserved [.int (xs (6 * k + 1)), .int (xs (6 * k + 2))] [_] dL_law_462 rfl e_L_61 rfl (by decide) rfl rfl (Nat.le_of_ble_eq_true rfl) hKb hNb (c_X7_reserved hR1.1.1 hO.1 (xs (6 * k + 1)) (xs (6 * k + 2))) (fun r7 M7 h7 => ?_)
      obtain ⟨rfl, h7⟩ := h7
      obtain ⟨hR2, hK2⟩ := hR1.w0 h7
      refine gl_icmp_eq 1013 468 dL_law_465 rfl rfl (fun _ => ?_) (fun z => absurd rfl z)
      exact gl_widen (Nat.le_succ _) (Nat.le_add_right _ 6) (B13 _ _ _ _ _ _ ⟨hC1.kc hK2, hR2, hB⟩)
    · refine gl_tableIn 470 dL_law_40 (by decide) (by decide) rfl rfl ?_
      refine gl_aload_n 471 3 dL_law_470 rfl rfl ?_
      refine gl_aload_n 472 4 dL_law_471 rfl rfl ?_
      refine gl_iload 474 0 dL_law_472 rfl rfl ?_
      refine gl_iconst 475 (nI 1) dL_law_474 rfl rfl ?_
      refine gl_iadd 476 (nI (6 * k + 1)) dL_law_475 rfl (nI_add (6 * k) 1) ?_
      refine gl_sld 477 (6 * k + 1) dL_law_476 rfl (by omega) ?_
      refine gl_aload_n 478 4 dL_law_477 rfl rfl ?_
      refine gl_iload 480 0 dL_law_478 rfl rfl ?_
      refine gl_iconst 481 (nI 2) dL_law_480 rfl rfl ?_
      refine gl_iadd 482 (nI (6 * k + 2)) dL_law_481 rfl (nI_add (6 * k) 2) ?_
      refine gl_sld 483 (6 * k + 2) dL_law_482 rfl (by omega) ?_
      refine gl_callV 486 md_X6_customer [.int (xs (6 * k + 1)), .int (xs (6 * k + 2))] [] dL_law_483 rfl e_L_62 rfl (by decide) rfl rfl (Nat.le_of_ble_eq_true rfl) hKb hNb (c_X6_customer hC.1.1 (xs (6 * k + 1)) (xs (6 * k + 2))) (fun r6 M6 h6 => ?_)
      obtain ⟨rfl, h6⟩ := h6
      obtain ⟨hC1, hK1⟩ := hC.same h6
      have hR1 := hR.kr hK1
      refine gl_aload_n 487 2 dL_law_486 rfl rfl ?_
      refine gl_aload_n 488 4 dL_law_487 rfl rfl ?_
      refine gl_iload 490 0 dL_law_488 rfl rfl ?_
      refine gl_iconst 491 (nI 1) dL_law_490 rfl rfl ?_
      refine gl_iadd 492 (nI (6 * k + 1)) dL_law_491 rfl (nI_add (6 * k) 1) ?_
      refine gl_sld 493 (6 * k + 1) dL_law_492 rfl (by omega) ?_
      refine gl_aload_n 494 4 dL_law_493 rfl rfl ?_
      refine gl_iload 496 0 dL_law_494 rfl rfl ?_
      refine gl_iconst 497 (nI 2) dL_law_496 rfl rfl ?_
      refine gl_iadd 498 (nI (6 * k + 2)) dL_law_497 rfl (nI_add (6 * k) 2) ?_
      refine gl_sld 499 (6 * k + 2) dL_law_498 rfl (by omega) ?_
      refine gl_callV 502 md_X7_customer [.int (xs (6 * k + 1)), .int (xs (6 * k + 2))] [_] dL_law_499 rfl e_L_65 rfl (by decide) rfl rfl (Nat.le_of_ble_eq_true rfl) hKb hNb (c_X7_customer hR1.1.1 hO.1 (xs (6 * k + 1)) (xs (6 * k + 2))) (fun r7 M7 h7 => ?_)
      obtain ⟨rfl, h7⟩ := h7
      obtain ⟨hR2, hK2⟩ := hR1.w0 h7
      refine gl_icmp_eq 1013 505 dL_law_502 rfl rfl (fun _ => ?_) (fun z => absurd rfl z)
      exact gl_widen (Nat.le_succ _) (Nat.le_add_right _ 6) (B13 _ _ _ _ _ _ ⟨hC1.kc hK2, hR2, hB⟩)
    · refine gl_tableIn 507 dL_law_40 (by decide) (by decide) rfl rfl ?_
      refine gl_aload_n 508 3 dL_law_507 rfl rfl ?_
      refine gl_aload_n 509 4 dL_law_508 rfl rfl ?_
      refine gl_iload 511 0 dL_law_509 rfl rfl ?_
      refine gl_iconst 512 (nI 1) dL_law_511 rfl rfl ?_
      refine gl_iadd 513 (nI (6 * k + 1)) dL_law_512 rfl (nI_add (6 * k) 1) ?_
      refine gl_sld 514 (6 * k + 1) dL_law_513 rfl (by omega) ?_
      refine gl_aload_n 515 4 dL_law_514 rfl rfl ?_
      refine gl_iload 517 0 dL_law_515 rfl rfl ?_
      refine gl_iconst 518 (nI 2) dL_law_517 rfl rfl ?_
      refine gl_iadd 519 (nI (6 * k + 2)) dL_law_518 rfl (nI_add (6 * k) 2) ?_
      refine gl_sld 520 (6 * k + 2) dL_law_519 rfl (by omega) ?_
      refine gl_callV 523 md_X6_suits [.int (xs (6 * k + 1)), .int (xs (6 * k + 2))] [] dL_law_520 rfl e_L_66 rfl (by decide) rfl rfl (Nat.le_of_ble_eq_true rfl) hKb hNb (c_X6_suits hC.1.1 (xs (6 * k + 1)) (xs (6 * k + 2))) (fun r6 M6 h6 => ?_)
      obtain ⟨rfl, h6⟩ := h6
      obtain ⟨hC1, hK1⟩ := hC.same h6
      have hR1 := hR.kr hK1
      refine gl_aload_n 524 2 dL_law_523 rfl rfl ?_
      refine gl_aload_n 525 4 dL_law_524 rfl rfl ?_
      refine gl_iload 527 0 dL_law_525 rfl rfl ?_
      refine gl_iconst 528 (nI 1) dL_law_527 rfl rfl ?_
      refine gl_iadd 529 (nI (6 * k + 1)) dL_law_528 rfl (nI_add (6 * k) 1) ?_
      refine gl_sld 530 (6 * k + 1) dL_law_529 rfl (by omega) ?_
      refine gl_aload_n 531 4 dL_law_530 rfl rfl ?_
      refine gl_iload 533 0 dL_law_531 rfl rfl ?_
      refine gl_iconst 534 (nI 2) dL_law_533 rfl rfl ?_
      refine gl_iadd 535 (nI (6 * k + 2)) dL_law_534 rfl (nI_add (6 * k) 2) ?_
      refine gl_sld 536 (6 * k + 2) dL_law_535 rfl (by omega) ?_
      refine gl_callV 539 md_X7_suits [.int (xs (6 * k + 1)), .int (xs (6 * k + 2))] [_] dL_law_536 rfl e_L_70 rfl (by decide) rfl rfl (Nat.le_of_ble_eq_true rfl) hKb hNb (c_X7_suits hR1.1.1 hO.1 (xs (6 * k + 1)) (xs (6 * k + 2))) (fun r7 M7 h7 => ?_)
      obtain ⟨rfl, h7⟩ := h7
      obtain ⟨hR2, hK2⟩ := hR1.w0 h7
      refine gl_icmp_eq 1013 542 dL_law_539 rfl rfl (fun _ => ?_) (fun z => absurd rfl z)
      exact gl_widen (Nat.le_succ _) (Nat.le_add_right _ 6) (B13 _ _ _ _ _ _ ⟨hC1.kc hK2, hR2, hB⟩)
    · refine gl_tableIn 544 dL_law_40 (by decide) (by decide) rfl rfl ?_
      refine gl_aload_n 545 3 dL_law_544 rfl rfl ?_
      refine gl_aload_n 546 4 dL_law_545 rfl rfl ?_
      refine gl_iload 548 0 dL_law_546 rfl rfl ?_
      refine gl_iconst 549 (nI 1) dL_law_548 rfl rfl ?_
      refine gl_iadd 550 (nI (6 * k + 1)) dL_law_549 rfl (nI_add (6 * k) 1) ?_
      refine gl_sld 551 (6 * k + 1) dL_law_550 rfl (by omega) ?_
      refine gl_aload_n 552 4 dL_law_551 rfl rfl ?_
      refine gl_iload 554 0 dL_law_552 rfl rfl ?_
      refine gl_iconst 555 (nI 2) dL_law_554 rfl rfl ?_
      refine gl_iadd 556 (nI (6 * k + 2)) dL_law_555 rfl (nI_add (6 * k) 2) ?_
      refine gl_sld 557 (6 * k + 2) dL_law_556 rfl (by omega) ?_
      refine gl_callV 560 md_X6_plan [.int (xs (6 * k + 1)), .int (xs (6 * k + 2))] [] dL_law_557 rfl e_L_71 rfl (by decide) rfl rfl (Nat.le_of_ble_eq_true rfl) hKb hNb (c_X6_plan hC.1.1 (xs (6 * k + 1)) (xs (6 * k + 2))) (fun r6 M6 h6 => ?_)
      obtain ⟨rfl, h6⟩ := h6
      obtain ⟨hC1, hK1⟩ := hC.f16 h6
      have hR1 := hR.kr hK1
      refine gl_aload_n 561 2 dL_law_560 rfl rfl ?_
      refine gl_aload_n 562 4 dL_law_561 rfl rfl ?_
      refine gl_iload 564 0 dL_law_562 rfl rfl ?_
      refine gl_iconst 565 (nI 1) dL_law_564 rfl rfl ?_
      refine gl_iadd 566 (nI (6 * k + 1)) dL_law_565 rfl (nI_add (6 * k) 1) ?_
      refine gl_sld 567 (6 * k + 1) dL_law_566 rfl (by omega) ?_
      refine gl_aload_n 568 4 dL_law_567 rfl rfl ?_
      refine gl_iload 570 0 dL_law_568 rfl rfl ?_
      refine gl_iconst 571 (nI 2) dL_law_570 rfl rfl ?_
      refine gl_iadd 572 (nI (6 * k + 2)) dL_law_571 rfl (nI_add (6 * k) 2) ?_
      refine gl_sld 573 (6 * k + 2) dL_law_572 rfl (by omega) ?_
      refine gl_callV 576 md_X7_plan [.int (xs (6 * k + 1)), .int (xs (6 * k + 2))] [_] dL_law_573 rfl e_L_74 rfl (by decide) rfl rfl (Nat.le_of_ble_eq_true rfl) hKb hNb (c_X7_plan hR1.1.1 hO.1 (xs (6 * k + 1)) (xs (6 * k + 2))) (fun r7 M7 h7 => ?_)
      obtain ⟨rfl, h7⟩ := h7
      obtain ⟨hR2, hK2⟩ := hR1.fpn h7
      refine gl_icmp_eq 1013 579 dL_law_576 rfl rfl (fun _ => ?_) (fun z => absurd rfl z)
      exact gl_widen (Nat.le_succ _) (Nat.le_add_right _ 6) (B13 _ _ _ _ _ _ ⟨hC1.kc hK2, hR2, hB⟩)
    · refine gl_tableIn 581 dL_law_40 (by decide) (by decide) rfl rfl ?_
      refine gl_aload_n 582 3 dL_law_581 rfl rfl ?_
      refine gl_aload_n 583 4 dL_law_582 rfl rfl ?_
      refine gl_iload 585 0 dL_law_583 rfl rfl ?_
      refine gl_iconst 586 (nI 1) dL_law_585 rfl rfl ?_
      refine gl_iadd 587 (nI (6 * k + 1)) dL_law_586 rfl (nI_add (6 * k) 1) ?_
      refine gl_sld 588 (6 * k + 1) dL_law_587 rfl (by omega) ?_
      refine gl_aload_n 589 4 dL_law_588 rfl rfl ?_
      refine gl_iload 591 0 dL_law_589 rfl rfl ?_
      refine gl_iconst 592 (nI 2) dL_law_591 rfl rfl ?_
      refine gl_iadd 593 (nI (6 * k + 2)) dL_law_592 rfl (nI_add (6 * k) 2) ?_
      refine gl_sld 594 (6 * k + 2) dL_law_593 rfl (by omega) ?_
      refine gl_callV 597 md_X6_waste [.int (xs (6 * k + 1)), .int (xs (6 * k + 2))] [] dL_law_594 rfl e_L_75 rfl (by decide) rfl rfl (Nat.le_of_ble_eq_true rfl) hKb hNb (c_X6_waste hC.1.1 (xs (6 * k + 1)) (xs (6 * k + 2))) (fun r6 M6 h6 => ?_)
      obtain ⟨rfl, h6⟩ := h6
      obtain ⟨hC1, hK1⟩ := hC.same h6
      have hR1 := hR.kr hK1
      refine gl_aload_n 598 2 dL_law_597 rfl rfl ?_
      refine gl_aload_n 599 4 dL_law_598 rfl rfl ?_
      refine gl_iload 601 0 dL_law_599 rfl rfl ?_
      refine gl_iconst 602 (nI 1) dL_law_601 rfl rfl ?_
      refine gl_iadd 603 (nI (6 * k + 1)) dL_law_602 rfl (nI_add (6 * k) 1) ?_
      refine gl_sld 604 (6 * k + 1) dL_law_603 rfl (by omega) ?_
      refine gl_aload_n 605 4 dL_law_604 rfl rfl ?_
      refine gl_iload 607 0 dL_law_605 rfl rfl ?_
      refine gl_iconst 608 (nI 2) dL_law_607 rfl rfl ?_
      refine gl_iadd 609 (nI (6 * k + 2)) dL_law_608 rfl (nI_add (6 * k) 2) ?_
      refine gl_sld 610 (6 * k + 2) dL_law_609 rfl (by omega) ?_
      refine gl_callV 613 md_X7_waste [.int (xs (6 * k + 1)), .int (xs (6 * k + 2))] [_] dL_law_610 rfl e_L_78 rfl (by decide) rfl rfl (Nat.le_of_ble_eq_true rfl) hKb hNb (c_X7_waste hR1.1.1 hO.1 hO.2.2 (xs (6 * k + 1)) (xs (6 * k + 2))) (fun r7 M7 h7 => ?_)
      obtain ⟨rfl, h7⟩ := h7
      obtain ⟨hR2, hK2⟩ := hR1.w0 h7
      refine gl_icmp_eq 1013 616 dL_law_613 rfl rfl (fun _ => ?_) (fun z => absurd rfl z)
      exact gl_widen (Nat.le_succ _) (Nat.le_add_right _ 6) (B13 _ _ _ _ _ _ ⟨hC1.kc hK2, hR2, hB⟩)
    · refine gl_tableIn 618 dL_law_40 (by decide) (by decide) rfl rfl ?_
      refine gl_aload_n 619 3 dL_law_618 rfl rfl ?_
      refine gl_aload_n 620 4 dL_law_619 rfl rfl ?_
      refine gl_iload 622 0 dL_law_620 rfl rfl ?_
      refine gl_iconst 623 (nI 1) dL_law_622 rfl rfl ?_
      refine gl_iadd 624 (nI (6 * k + 1)) dL_law_623 rfl (nI_add (6 * k) 1) ?_
      refine gl_sld 625 (6 * k + 1) dL_law_624 rfl (by omega) ?_
      refine gl_aload_n 626 4 dL_law_625 rfl rfl ?_
      refine gl_iload 628 0 dL_law_626 rfl rfl ?_
      refine gl_iconst 629 (nI 2) dL_law_628 rfl rfl ?_
      refine gl_iadd 630 (nI (6 * k + 2)) dL_law_629 rfl (nI_add (6 * k) 2) ?_
      refine gl_sld 631 (6 * k + 2) dL_law_630 rfl (by omega) ?_
      refine gl_callV 634 md_X6_least [.int (xs (6 * k + 1)), .int (xs (6 * k + 2))] [] dL_law_631 rfl e_L_79 rfl (by decide) rfl rfl (Nat.le_of_ble_eq_true rfl) hKb hNb (c_X6_least hC.1.1 (xs (6 * k + 1)) (xs (6 * k + 2))) (fun r6 M6 h6 => ?_)
      obtain ⟨rfl, h6⟩ := h6
      obtain ⟨hC1, hK1⟩ := hC.f16 h6
      have hR1 := hR.kr hK1
      refine gl_aload_n 635 2 dL_law_634 rfl rfl ?_
      refine gl_aload_n 636 4 dL_law_635 rfl rfl ?_
      refine gl_iload 638 0 dL_law_636 rfl rfl ?_
      refine gl_iconst 639 (nI 1) dL_law_638 rfl rfl ?_
      refine gl_iadd 640 (nI (6 * k + 1)) dL_law_639 rfl (nI_add (6 * k) 1) ?_
      refine gl_sld 641 (6 * k + 1) dL_law_640 rfl (by omega) ?_
      refine gl_aload_n 642 4 dL_law_641 rfl rfl ?_
      refine gl_iload 644 0 dL_law_642 rfl rfl ?_
      refine gl_iconst 645 (nI 2) dL_law_644 rfl rfl ?_
      refine gl_iadd 646 (nI (6 * k + 2)) dL_law_645 rfl (nI_add (6 * k) 2) ?_
      refine gl_sld 647 (6 * k + 2) dL_law_646 rfl (by omega) ?_
      refine gl_callV 650 md_X7_least [.int (xs (6 * k + 1)), .int (xs (6 * k + 2))] [_] dL_law_647 rfl e_L_82 rfl (by decide) rfl rfl (Nat.le_of_ble_eq_true rfl) hKb hNb (c_X7_least hR1.1.1 hO.1 (xs (6 * k + 1)) (xs (6 * k + 2))) (fun r7 M7 h7 => ?_)
      obtain ⟨rfl, h7⟩ := h7
      obtain ⟨hR2, hK2⟩ := hR1.fpn h7
      refine gl_icmp_eq 1013 653 dL_law_650 rfl rfl (fun _ => ?_) (fun z => absurd rfl z)
      exact gl_widen (Nat.le_succ _) (Nat.le_add_right _ 6) (B13 _ _ _ _ _ _ ⟨hC1.kc hK2, hR2, hB⟩)
    · refine gl_tableIn 655 dL_law_40 (by decide) (by decide) rfl rfl ?_
      refine gl_aload_n 656 3 dL_law_655 rfl rfl ?_
      refine gl_aload_n 657 4 dL_law_656 rfl rfl ?_
      refine gl_iload 659 0 dL_law_657 rfl rfl ?_
      refine gl_iconst 660 (nI 1) dL_law_659 rfl rfl ?_
      refine gl_iadd 661 (nI (6 * k + 1)) dL_law_660 rfl (nI_add (6 * k) 1) ?_
      refine gl_sld 662 (6 * k + 1) dL_law_661 rfl (by omega) ?_
      refine gl_aload_n 663 4 dL_law_662 rfl rfl ?_
      refine gl_iload 665 0 dL_law_663 rfl rfl ?_
      refine gl_iconst 666 (nI 2) dL_law_665 rfl rfl ?_
      refine gl_iadd 667 (nI (6 * k + 2)) dL_law_666 rfl (nI_add (6 * k) 2) ?_
      refine gl_sld 668 (6 * k + 2) dL_law_667 rfl (by omega) ?_
      refine gl_aload_n 669 4 dL_law_668 rfl rfl ?_
      refine gl_iload 671 0 dL_law_669 rfl rfl ?_
      refine gl_iconst 672 (nI 3) dL_law_671 rfl rfl ?_
      refine gl_iadd 673 (nI (6 * k + 3)) dL_law_672 rfl (nI_add (6 * k) 3) ?_
      refine gl_sld 674 (6 * k + 3) dL_law_673 rfl (by omega) ?_
      refine gl_aload_n 675 4 dL_law_674 rfl rfl ?_
      refine gl_iload 677 0 dL_law_675 rfl rfl ?_
      refine gl_iconst 678 (nI 4) dL_law_677 rfl rfl ?_
      refine gl_iadd 679 (nI (6 * k + 4)) dL_law_678 rfl (nI_add (6 * k) 4) ?_
      refine gl_sld 680 (6 * k + 4) dL_law_679 rfl (by omega) ?_
      refine gl_callV 683 md_X6_would [.int (xs (6 * k + 1)), .int (xs (6 * k + 2)), .int (xs (6 * k + 3)), .int (xs (6 * k + 4))] [] dL_law_680 rfl e_L_83 rfl (by decide) rfl rfl (Nat.le_of_ble_eq_true rfl) hKb hNb (c_X6_would hC.1.1 (xs (6 * k + 1)) (xs (6 * k + 2)) (xs (6 * k + 3)) (xs (6 * k + 4))) (fun r6 M6 h6 => ?_)
      obtain ⟨rfl, h6⟩ := h6
      obtain ⟨hC1, hK1⟩ := hC.f116 h6
      have hR1 := hR.kr hK1
      refine gl_aload_n 684 2 dL_law_683 rfl rfl ?_
      refine gl_aload_n 685 4 dL_law_684 rfl rfl ?_
      refine gl_iload 687 0 dL_law_685 rfl rfl ?_
      refine gl_iconst 688 (nI 1) dL_law_687 rfl rfl ?_
      refine gl_iadd 689 (nI (6 * k + 1)) dL_law_688 rfl (nI_add (6 * k) 1) ?_
      refine gl_sld 690 (6 * k + 1) dL_law_689 rfl (by omega) ?_
      refine gl_aload_n 691 4 dL_law_690 rfl rfl ?_
      refine gl_iload 693 0 dL_law_691 rfl rfl ?_
      refine gl_iconst 694 (nI 2) dL_law_693 rfl rfl ?_
      refine gl_iadd 695 (nI (6 * k + 2)) dL_law_694 rfl (nI_add (6 * k) 2) ?_
      refine gl_sld 696 (6 * k + 2) dL_law_695 rfl (by omega) ?_
      refine gl_aload_n 697 4 dL_law_696 rfl rfl ?_
      refine gl_iload 699 0 dL_law_697 rfl rfl ?_
      refine gl_iconst 700 (nI 3) dL_law_699 rfl rfl ?_
      refine gl_iadd 701 (nI (6 * k + 3)) dL_law_700 rfl (nI_add (6 * k) 3) ?_
      refine gl_sld 702 (6 * k + 3) dL_law_701 rfl (by omega) ?_
      refine gl_aload_n 703 4 dL_law_702 rfl rfl ?_
      refine gl_iload 705 0 dL_law_703 rfl rfl ?_
      refine gl_iconst 706 (nI 4) dL_law_705 rfl rfl ?_
      refine gl_iadd 707 (nI (6 * k + 4)) dL_law_706 rfl (nI_add (6 * k) 4) ?_
      refine gl_sld 708 (6 * k + 4) dL_law_707 rfl (by omega) ?_
      refine gl_callV 711 md_X7_would [.int (xs (6 * k + 1)), .int (xs (6 * k + 2)), .int (xs (6 * k + 3)), .int (xs (6 * k + 4))] [_] dL_law_708 rfl e_L_87 rfl (by decide) rfl rfl (Nat.le_of_ble_eq_true rfl) hKb hNb (c_X7_would hR1.1.1 hO.1 (xs (6 * k + 1)) (xs (6 * k + 2)) (xs (6 * k + 3)) (xs (6 * k + 4))) (fun r7 M7 h7 => ?_)
      obtain ⟨rfl, h7⟩ := h7
      obtain ⟨hR2, hK2⟩ := hR1.fpn h7
      refine gl_icmp_eq 1013 714 dL_law_711 rfl rfl (fun _ => ?_) (fun z => absurd rfl z)
      exact gl_widen (Nat.le_succ _) (Nat.le_add_right _ 6) (B13 _ _ _ _ _ _ ⟨hC1.kc hK2, hR2, hB⟩)
    · refine gl_tableIn 716 dL_law_40 (by decide) (by decide) rfl rfl ?_
      refine gl_aload_n 717 3 dL_law_716 rfl rfl ?_
      refine gl_aload_n 718 4 dL_law_717 rfl rfl ?_
      refine gl_iload 720 0 dL_law_718 rfl rfl ?_
      refine gl_iconst 721 (nI 1) dL_law_720 rfl rfl ?_
      refine gl_iadd 722 (nI (6 * k + 1)) dL_law_721 rfl (nI_add (6 * k) 1) ?_
      refine gl_sld 723 (6 * k + 1) dL_law_722 rfl (by omega) ?_
      refine gl_callV 726 md_X6_slack [.int (xs (6 * k + 1))] [] dL_law_723 rfl e_L_88 rfl (by decide) rfl rfl (Nat.le_of_ble_eq_true rfl) hKb hNb (c_X6_slack hC.1.1 (xs (6 * k + 1))) (fun r6 M6 h6 => ?_)
      obtain ⟨rfl, h6⟩ := h6
      obtain ⟨hC1, hK1⟩ := hC.f116 h6
      have hR1 := hR.kr hK1
      refine gl_aload_n 727 2 dL_law_726 rfl rfl ?_
      refine gl_aload_n 728 4 dL_law_727 rfl rfl ?_
      refine gl_iload 730 0 dL_law_728 rfl rfl ?_
      refine gl_iconst 731 (nI 1) dL_law_730 rfl rfl ?_
      refine gl_iadd 732 (nI (6 * k + 1)) dL_law_731 rfl (nI_add (6 * k) 1) ?_
      refine gl_sld 733 (6 * k + 1) dL_law_732 rfl (by omega) ?_
      refine gl_callV 736 md_X7_slack [.int (xs (6 * k + 1))] [_] dL_law_733 rfl e_L_91 rfl (by decide) rfl rfl (Nat.le_of_ble_eq_true rfl) hKb hNb (c_X7_slack hR1.1.1 hO.1 (xs (6 * k + 1))) (fun r7 M7 h7 => ?_)
      obtain ⟨rfl, h7⟩ := h7
      obtain ⟨hR2, hK2⟩ := hR1.fpn h7
      refine gl_icmp_eq 1013 739 dL_law_736 rfl rfl (fun _ => ?_) (fun z => absurd rfl z)
      exact gl_widen (Nat.le_succ _) (Nat.le_add_right _ 6) (B13 _ _ _ _ _ _ ⟨hC1.kc hK2, hR2, hB⟩)
    · refine gl_tableIn 741 dL_law_40 (by decide) (by decide) rfl rfl ?_
      refine gl_aload_n 742 3 dL_law_741 rfl rfl ?_
      refine gl_aload_n 743 4 dL_law_742 rfl rfl ?_
      refine gl_iload 745 0 dL_law_743 rfl rfl ?_
      refine gl_iconst 746 (nI 1) dL_law_745 rfl rfl ?_
      refine gl_iadd 747 (nI (6 * k + 1)) dL_law_746 rfl (nI_add (6 * k) 1) ?_
      refine gl_sld 748 (6 * k + 1) dL_law_747 rfl (by omega) ?_
      refine gl_aload_n 749 4 dL_law_748 rfl rfl ?_
      refine gl_iload 751 0 dL_law_749 rfl rfl ?_
      refine gl_iconst 752 (nI 2) dL_law_751 rfl rfl ?_
      refine gl_iadd 753 (nI (6 * k + 2)) dL_law_752 rfl (nI_add (6 * k) 2) ?_
      refine gl_sld 754 (6 * k + 2) dL_law_753 rfl (by omega) ?_
      refine gl_aload_n 755 4 dL_law_754 rfl rfl ?_
      refine gl_iload 757 0 dL_law_755 rfl rfl ?_
      refine gl_iconst 758 (nI 3) dL_law_757 rfl rfl ?_
      refine gl_iadd 759 (nI (6 * k + 3)) dL_law_758 rfl (nI_add (6 * k) 3) ?_
      refine gl_sld 760 (6 * k + 3) dL_law_759 rfl (by omega) ?_
      refine gl_aload_n 761 4 dL_law_760 rfl rfl ?_
      refine gl_iload 763 0 dL_law_761 rfl rfl ?_
      refine gl_iconst 764 (nI 4) dL_law_763 rfl rfl ?_
      refine gl_iadd 765 (nI (6 * k + 4)) dL_law_764 rfl (nI_add (6 * k) 4) ?_
      refine gl_sld 766 (6 * k + 4) dL_law_765 rfl (by omega) ?_
      refine gl_callV 769 md_X6_comes [.int (xs (6 * k + 1)), .int (xs (6 * k + 2)), .int (xs (6 * k + 3)), .int (xs (6 * k + 4))] [] dL_law_766 rfl e_L_92 rfl (by decide) rfl rfl (Nat.le_of_ble_eq_true rfl) hKb hNb (c_X6_comes hC.1 (xs (6 * k + 1)) (xs (6 * k + 2)) (xs (6 * k + 3)) (xs (6 * k + 4))) (fun r6 M6 h6 => ?_)
      obtain ⟨rfl, h6a, h6b⟩ := h6
      obtain ⟨hC1, hK1⟩ := hC.fc h6a h6b
      have hR1 := hR.kr hK1
      refine gl_aload_n 770 2 dL_law_769 rfl rfl ?_
      refine gl_aload_n 771 4 dL_law_770 rfl rfl ?_
      refine gl_iload 773 0 dL_law_771 rfl rfl ?_
      refine gl_iconst 774 (nI 1) dL_law_773 rfl rfl ?_
      refine gl_iadd 775 (nI (6 * k + 1)) dL_law_774 rfl (nI_add (6 * k) 1) ?_
      refine gl_sld 776 (6 * k + 1) dL_law_775 rfl (by omega) ?_
      refine gl_aload_n 777 4 dL_law_776 rfl rfl ?_
      refine gl_iload 779 0 dL_law_777 rfl rfl ?_
      refine gl_iconst 780 (nI 2) dL_law_779 rfl rfl ?_
      refine gl_iadd 781 (nI (6 * k + 2)) dL_law_780 rfl (nI_add (6 * k) 2) ?_
      refine gl_sld 782 (6 * k + 2) dL_law_781 rfl (by omega) ?_
      refine gl_aload_n 783 4 dL_law_782 rfl rfl ?_
      refine gl_iload 785 0 dL_law_783 rfl rfl ?_
      refine gl_iconst 786 (nI 3) dL_law_785 rfl rfl ?_
      refine gl_iadd 787 (nI (6 * k + 3)) dL_law_786 rfl (nI_add (6 * k) 3) ?_
      refine gl_sld 788 (6 * k + 3) dL_law_787 rfl (by omega) ?_
      refine gl_aload_n 789 4 dL_law_788 rfl rfl ?_
      refine gl_iload 791 0 dL_law_789 rfl rfl ?_
      refine gl_iconst 792 (nI 4) dL_law_791 rfl rfl ?_
      refine gl_iadd 793 (nI (6 * k + 4)) dL_law_792 rfl (nI_add (6 * k) 4) ?_
      refine gl_sld 794 (6 * k + 4) dL_law_793 rfl (by omega) ?_
      refine gl_callV 797 md_X7_comes [.int (xs (6 * k + 1)), .int (xs (6 * k + 2)), .int (xs (6 * k + 3)), .int (xs (6 * k + 4))] [_] dL_law_794 rfl e_L_95 rfl (by decide) rfl rfl (Nat.le_of_ble_eq_true rfl) hKb hNb (c_X7_comes hR1.1 hO.1 (xs (6 * k + 1)) (xs (6 * k + 2)) (xs (6 * k + 3)) (xs (6 * k + 4))) (fun r7 M7 h7 => ?_)
      obtain ⟨rfl, h7a, h7b⟩ := h7
      obtain ⟨hR2, hK2⟩ := hR1.fa h7a h7b
      refine gl_icmp_eq 1013 800 dL_law_797 rfl rfl (fun _ => ?_) (fun z => absurd rfl z)
      exact gl_widen (Nat.le_succ _) (Nat.le_add_right _ 6) (B13 _ _ _ _ _ _ ⟨hC1.kc hK2, hR2, hB⟩)
    · refine gl_tableIn 802 dL_law_40 (by decide) (by decide) rfl rfl ?_
      refine gl_aload_n 803 3 dL_law_802 rfl rfl ?_
      refine gl_aload_n 804 4 dL_law_803 rfl rfl ?_
      refine gl_iload 806 0 dL_law_804 rfl rfl ?_
      refine gl_iconst 807 (nI 1) dL_law_806 rfl rfl ?_
      refine gl_iadd 808 (nI (6 * k + 1)) dL_law_807 rfl (nI_add (6 * k) 1) ?_
      refine gl_sld 809 (6 * k + 1) dL_law_808 rfl (by omega) ?_
      refine gl_aload_n 810 4 dL_law_809 rfl rfl ?_
      refine gl_iload 812 0 dL_law_810 rfl rfl ?_
      refine gl_iconst 813 (nI 2) dL_law_812 rfl rfl ?_
      refine gl_iadd 814 (nI (6 * k + 2)) dL_law_813 rfl (nI_add (6 * k) 2) ?_
      refine gl_sld 815 (6 * k + 2) dL_law_814 rfl (by omega) ?_
      refine gl_aload_n 816 4 dL_law_815 rfl rfl ?_
      refine gl_iload 818 0 dL_law_816 rfl rfl ?_
      refine gl_iconst 819 (nI 3) dL_law_818 rfl rfl ?_
      refine gl_iadd 820 (nI (6 * k + 3)) dL_law_819 rfl (nI_add (6 * k) 3) ?_
      refine gl_sld 821 (6 * k + 3) dL_law_820 rfl (by omega) ?_
      refine gl_aload_n 822 4 dL_law_821 rfl rfl ?_
      refine gl_iload 824 0 dL_law_822 rfl rfl ?_
      refine gl_iconst 825 (nI 4) dL_law_824 rfl rfl ?_
      refine gl_iadd 826 (nI (6 * k + 4)) dL_law_825 rfl (nI_add (6 * k) 4) ?_
      refine gl_sld 827 (6 * k + 4) dL_law_826 rfl (by omega) ?_
      refine gl_callV 830 md_X6_asks [.int (xs (6 * k + 1)), .int (xs (6 * k + 2)), .int (xs (6 * k + 3)), .int (xs (6 * k + 4))] [] dL_law_827 rfl e_L_96 rfl (by decide) rfl rfl (Nat.le_of_ble_eq_true rfl) hKb hNb (c_X6_asks hC.1 (xs (6 * k + 1)) (xs (6 * k + 2)) (xs (6 * k + 3)) (xs (6 * k + 4))) (fun r6 M6 h6 => ?_)
      obtain ⟨rfl, h6a, h6b⟩ := h6
      obtain ⟨hC1, hK1⟩ := hC.fc h6a h6b
      have hR1 := hR.kr hK1
      refine gl_aload_n 831 2 dL_law_830 rfl rfl ?_
      refine gl_aload_n 832 4 dL_law_831 rfl rfl ?_
      refine gl_iload 834 0 dL_law_832 rfl rfl ?_
      refine gl_iconst 835 (nI 1) dL_law_834 rfl rfl ?_
      refine gl_iadd 836 (nI (6 * k + 1)) dL_law_835 rfl (nI_add (6 * k) 1) ?_
      refine gl_sld 837 (6 * k + 1) dL_law_836 rfl (by omega) ?_
      refine gl_aload_n 838 4 dL_law_837 rfl rfl ?_
      refine gl_iload 840 0 dL_law_838 rfl rfl ?_
      refine gl_iconst 841 (nI 2) dL_law_840 rfl rfl ?_
      refine gl_iadd 842 (nI (6 * k + 2)) dL_law_841 rfl (nI_add (6 * k) 2) ?_
      refine gl_sld 843 (6 * k + 2) dL_law_842 rfl (by omega) ?_
      refine gl_aload_n 844 4 dL_law_843 rfl rfl ?_
      refine gl_iload 846 0 dL_law_844 rfl rfl ?_
      refine gl_iconst 847 (nI 3) dL_law_846 rfl rfl ?_
      refine gl_iadd 848 (nI (6 * k + 3)) dL_law_847 rfl (nI_add (6 * k) 3) ?_
      refine gl_sld 849 (6 * k + 3) dL_law_848 rfl (by omega) ?_
      refine gl_aload_n 850 4 dL_law_849 rfl rfl ?_
      refine gl_iload 852 0 dL_law_850 rfl rfl ?_
      refine gl_iconst 853 (nI 4) dL_law_852 rfl rfl ?_
      refine gl_iadd 854 (nI (6 * k + 4)) dL_law_853 rfl (nI_add (6 * k) 4) ?_
      refine gl_sld 855 (6 * k + 4) dL_law_854 rfl (by omega) ?_
      refine gl_callV 858 md_X7_asks [.int (xs (6 * k + 1)), .int (xs (6 * k + 2)), .int (xs (6 * k + 3)), .int (xs (6 * k + 4))] [_] dL_law_855 rfl e_L_99 rfl (by decide) rfl rfl (Nat.le_of_ble_eq_true rfl) hKb hNb (c_X7_asks hR1.1 hO.1 (xs (6 * k + 1)) (xs (6 * k + 2)) (xs (6 * k + 3)) (xs (6 * k + 4))) (fun r7 M7 h7 => ?_)
      obtain ⟨rfl, h7a, h7b⟩ := h7
      obtain ⟨hR2, hK2⟩ := hR1.fa h7a h7b
      refine gl_icmp_eq 1013 861 dL_law_858 rfl rfl (fun _ => ?_) (fun z => absurd rfl z)
      exact gl_widen (Nat.le_succ _) (Nat.le_add_right _ 6) (B13 _ _ _ _ _ _ ⟨hC1.kc hK2, hR2, hB⟩)
    · refine gl_tableIn 863 dL_law_40 (by decide) (by decide) rfl rfl ?_
      refine gl_aload_n 864 3 dL_law_863 rfl rfl ?_
      refine gl_aload_n 865 4 dL_law_864 rfl rfl ?_
      refine gl_iload 867 0 dL_law_865 rfl rfl ?_
      refine gl_iconst 868 (nI 1) dL_law_867 rfl rfl ?_
      refine gl_iadd 869 (nI (6 * k + 1)) dL_law_868 rfl (nI_add (6 * k) 1) ?_
      refine gl_sld 870 (6 * k + 1) dL_law_869 rfl (by omega) ?_
      refine gl_callV 873 md_X6_reserve [.int (xs (6 * k + 1))] [] dL_law_870 rfl e_L_100 rfl (by decide) rfl rfl (Nat.le_of_ble_eq_true rfl) hKb hNb (c_X6_reserve hC.1 (xs (6 * k + 1))) (fun r6 M6 h6 => ?_)
      obtain ⟨rfl, h6a, h6b⟩ := h6
      obtain ⟨hC1, hK1⟩ := hC.fc h6a h6b
      have hR1 := hR.kr hK1
      refine gl_aload_n 874 2 dL_law_873 rfl rfl ?_
      refine gl_aload_n 875 4 dL_law_874 rfl rfl ?_
      refine gl_iload 877 0 dL_law_875 rfl rfl ?_
      refine gl_iconst 878 (nI 1) dL_law_877 rfl rfl ?_
      refine gl_iadd 879 (nI (6 * k + 1)) dL_law_878 rfl (nI_add (6 * k) 1) ?_
      refine gl_sld 880 (6 * k + 1) dL_law_879 rfl (by omega) ?_
      refine gl_callV 883 md_X7_reserve [.int (xs (6 * k + 1))] [_] dL_law_880 rfl e_L_103 rfl (by decide) rfl rfl (Nat.le_of_ble_eq_true rfl) hKb hNb (c_X7_reserve hR1.1 hO.1 hib (xs (6 * k + 1))) (fun r7 M7 h7 => ?_)
      obtain ⟨rfl, h7a, h7b⟩ := h7
      obtain ⟨hR2, hK2⟩ := hR1.fa h7a h7b
      refine gl_icmp_eq 1013 886 dL_law_883 rfl rfl (fun _ => ?_) (fun z => absurd rfl z)
      exact gl_widen (Nat.le_succ _) (Nat.le_add_right _ 6) (B13 _ _ _ _ _ _ ⟨hC1.kc hK2, hR2, hB⟩)
    · refine gl_tableIn 888 dL_law_40 (by decide) (by decide) rfl rfl ?_
      refine gl_aload_n 889 3 dL_law_888 rfl rfl ?_
      refine gl_aload_n 890 4 dL_law_889 rfl rfl ?_
      refine gl_iload 892 0 dL_law_890 rfl rfl ?_
      refine gl_iconst 893 (nI 1) dL_law_892 rfl rfl ?_
      refine gl_iadd 894 (nI (6 * k + 1)) dL_law_893 rfl (nI_add (6 * k) 1) ?_
      refine gl_sld 895 (6 * k + 1) dL_law_894 rfl (by omega) ?_
      refine gl_callV 898 md_X6_cancel [.int (xs (6 * k + 1))] [] dL_law_895 rfl e_L_104 rfl (by decide) rfl rfl (Nat.le_of_ble_eq_true rfl) hKb hNb (c_X6_cancel hC.1 (xs (6 * k + 1))) (fun r6 M6 h6 => ?_)
      obtain ⟨rfl, h6a, h6b⟩ := h6
      obtain ⟨hC1, hK1⟩ := hC.fc h6a h6b
      have hR1 := hR.kr hK1
      refine gl_aload_n 899 2 dL_law_898 rfl rfl ?_
      refine gl_aload_n 900 4 dL_law_899 rfl rfl ?_
      refine gl_iload 902 0 dL_law_900 rfl rfl ?_
      refine gl_iconst 903 (nI 1) dL_law_902 rfl rfl ?_
      refine gl_iadd 904 (nI (6 * k + 1)) dL_law_903 rfl (nI_add (6 * k) 1) ?_
      refine gl_sld 905 (6 * k + 1) dL_law_904 rfl (by omega) ?_
      refine gl_callV 908 md_X7_cancel [.int (xs (6 * k + 1))] [_] dL_law_905 rfl e_L_107 rfl (by decide) rfl rfl (Nat.le_of_ble_eq_true rfl) hKb hNb (c_X7_cancel hR1.1 hO.1 hO.2.1 (xs (6 * k + 1))) (fun r7 M7 h7 => ?_)
      obtain ⟨rfl, h7a, h7b⟩ := h7
      obtain ⟨hR2, hK2⟩ := hR1.fa h7a h7b
      refine gl_icmp_eq 1013 911 dL_law_908 rfl rfl (fun _ => ?_) (fun z => absurd rfl z)
      exact gl_widen (Nat.le_succ _) (Nat.le_add_right _ 6) (B13 _ _ _ _ _ _ ⟨hC1.kc hK2, hR2, hB⟩)
    · refine gl_tableIn 913 dL_law_40 (by decide) (by decide) rfl rfl ?_
      refine gl_aload_n 914 3 dL_law_913 rfl rfl ?_
      refine gl_aload_n 915 4 dL_law_914 rfl rfl ?_
      refine gl_iload 917 0 dL_law_915 rfl rfl ?_
      refine gl_iconst 918 (nI 1) dL_law_917 rfl rfl ?_
      refine gl_iadd 919 (nI (6 * k + 1)) dL_law_918 rfl (nI_add (6 * k) 1) ?_
      refine gl_sld 920 (6 * k + 1) dL_law_919 rfl (by omega) ?_
      refine gl_aload_n 921 4 dL_law_920 rfl rfl ?_
      refine gl_iload 923 0 dL_law_921 rfl rfl ?_
      refine gl_iconst 924 (nI 2) dL_law_923 rfl rfl ?_
      refine gl_iadd 925 (nI (6 * k + 2)) dL_law_924 rfl (nI_add (6 * k) 2) ?_
      refine gl_sld 926 (6 * k + 2) dL_law_925 rfl (by omega) ?_
      refine gl_callV 929 md_X6_hold [.int (xs (6 * k + 1)), .int (xs (6 * k + 2))] [] dL_law_926 rfl e_L_108 rfl (by decide) rfl rfl (Nat.le_of_ble_eq_true rfl) hKb hNb (c_X6_hold hC.1 (xs (6 * k + 1)) (xs (6 * k + 2))) (fun r6 M6 h6 => ?_)
      obtain ⟨rfl, h6a, h6b⟩ := h6
      obtain ⟨hC1, hK1⟩ := hC.fc h6a h6b
      have hR1 := hR.kr hK1
      refine gl_aload_n 930 2 dL_law_929 rfl rfl ?_
      refine gl_aload_n 931 4 dL_law_930 rfl rfl ?_
      refine gl_iload 933 0 dL_law_931 rfl rfl ?_
      refine gl_iconst 934 (nI 1) dL_law_933 rfl rfl ?_
      refine gl_iadd 935 (nI (6 * k + 1)) dL_law_934 rfl (nI_add (6 * k) 1) ?_
      refine gl_sld 936 (6 * k + 1) dL_law_935 rfl (by omega) ?_
      refine gl_aload_n 937 4 dL_law_936 rfl rfl ?_
      refine gl_iload 939 0 dL_law_937 rfl rfl ?_
      refine gl_iconst 940 (nI 2) dL_law_939 rfl rfl ?_
      refine gl_iadd 941 (nI (6 * k + 2)) dL_law_940 rfl (nI_add (6 * k) 2) ?_
      refine gl_sld 942 (6 * k + 2) dL_law_941 rfl (by omega) ?_
      refine gl_callV 945 md_X7_hold [.int (xs (6 * k + 1)), .int (xs (6 * k + 2))] [_] dL_law_942 rfl e_L_111 rfl (by decide) rfl rfl (Nat.le_of_ble_eq_true rfl) hKb hNb (c_X7_hold hR1.1 hO.1 hib (xs (6 * k + 1)) (xs (6 * k + 2))) (fun r7 M7 h7 => ?_)
      obtain ⟨rfl, h7a, h7b⟩ := h7
      obtain ⟨hR2, hK2⟩ := hR1.fa h7a h7b
      refine gl_icmp_eq 1013 948 dL_law_945 rfl rfl (fun _ => ?_) (fun z => absurd rfl z)
      exact gl_widen (Nat.le_succ _) (Nat.le_add_right _ 6) (B13 _ _ _ _ _ _ ⟨hC1.kc hK2, hR2, hB⟩)
    · refine gl_tableIn 950 dL_law_40 (by decide) (by decide) rfl rfl ?_
      refine gl_aload_n 951 3 dL_law_950 rfl rfl ?_
      refine gl_aload_n 952 4 dL_law_951 rfl rfl ?_
      refine gl_iload 954 0 dL_law_952 rfl rfl ?_
      refine gl_iconst 955 (nI 1) dL_law_954 rfl rfl ?_
      refine gl_iadd 956 (nI (6 * k + 1)) dL_law_955 rfl (nI_add (6 * k) 1) ?_
      refine gl_sld 957 (6 * k + 1) dL_law_956 rfl (by omega) ?_
      refine gl_callV 960 md_X6_deliver [.int (xs (6 * k + 1))] [] dL_law_957 rfl e_L_112 rfl (by decide) rfl rfl (Nat.le_of_ble_eq_true rfl) hKb hNb (c_X6_deliver hC.1 (xs (6 * k + 1))) (fun r6 M6 h6 => ?_)
      obtain ⟨rfl, h6a, h6b⟩ := h6
      obtain ⟨hC1, hK1⟩ := hC.fc h6a h6b
      have hR1 := hR.kr hK1
      refine gl_aload_n 961 2 dL_law_960 rfl rfl ?_
      refine gl_aload_n 962 4 dL_law_961 rfl rfl ?_
      refine gl_iload 964 0 dL_law_962 rfl rfl ?_
      refine gl_iconst 965 (nI 1) dL_law_964 rfl rfl ?_
      refine gl_iadd 966 (nI (6 * k + 1)) dL_law_965 rfl (nI_add (6 * k) 1) ?_
      refine gl_sld 967 (6 * k + 1) dL_law_966 rfl (by omega) ?_
      refine gl_callV 970 md_X7_deliver [.int (xs (6 * k + 1))] [_] dL_law_967 rfl e_L_115 rfl (by decide) rfl rfl (Nat.le_of_ble_eq_true rfl) hKb hNb (c_X7_deliver hR1.1 hO.1 hO.2.1 hO.2.2 (xs (6 * k + 1))) (fun r7 M7 h7 => ?_)
      obtain ⟨rfl, h7a, h7b⟩ := h7
      obtain ⟨hR2, hK2⟩ := hR1.fa h7a h7b
      refine gl_icmp_eq 1013 973 dL_law_970 rfl rfl (fun _ => ?_) (fun z => absurd rfl z)
      exact gl_widen (Nat.le_succ _) (Nat.le_add_right _ 6) (B13 _ _ _ _ _ _ ⟨hC1.kc hK2, hR2, hB⟩)
    · refine gl_tableIn 975 dL_law_40 (by decide) (by decide) rfl rfl ?_
      refine gl_aload_n 976 3 dL_law_975 rfl rfl ?_
      refine gl_aload_n 977 4 dL_law_976 rfl rfl ?_
      refine gl_iload 979 0 dL_law_977 rfl rfl ?_
      refine gl_iconst 980 (nI 1) dL_law_979 rfl rfl ?_
      refine gl_iadd 981 (nI (6 * k + 1)) dL_law_980 rfl (nI_add (6 * k) 1) ?_
      refine gl_sld 982 (6 * k + 1) dL_law_981 rfl (by omega) ?_
      refine gl_callV 985 md_X6_pass [.int (xs (6 * k + 1))] [] dL_law_982 rfl e_L_116 rfl (by decide) rfl rfl (Nat.le_of_ble_eq_true rfl) hKb hNb (c_X6_pass hC.1 (xs (6 * k + 1))) (fun r6 M6 h6 => ?_)
      obtain ⟨rfl, h6a, h6b⟩ := h6
      obtain ⟨hC1, hK1⟩ := hC.fc h6a h6b
      have hR1 := hR.kr hK1
      refine gl_aload_n 986 2 dL_law_985 rfl rfl ?_
      refine gl_aload_n 987 4 dL_law_986 rfl rfl ?_
      refine gl_iload 989 0 dL_law_987 rfl rfl ?_
      refine gl_iconst 990 (nI 1) dL_law_989 rfl rfl ?_
      refine gl_iadd 991 (nI (6 * k + 1)) dL_law_990 rfl (nI_add (6 * k) 1) ?_
      refine gl_sld 992 (6 * k + 1) dL_law_991 rfl (by omega) ?_
      refine gl_callV 995 md_X7_pass [.int (xs (6 * k + 1))] [_] dL_law_992 rfl e_L_119 rfl (by decide) rfl rfl (Nat.le_of_ble_eq_true rfl) hKb hNb (c_X7_pass hR1.1 hO.1 hO (xs (6 * k + 1))) (fun r7 M7 h7 => ?_)
      obtain ⟨rfl, h7a, h7b⟩ := h7
      obtain ⟨hR2, hK2⟩ := hR1.fa h7a h7b
      refine gl_icmp_eq 1013 998 dL_law_995 rfl rfl (fun _ => ?_) (fun z => absurd rfl z)
      exact gl_widen (Nat.le_succ _) (Nat.le_add_right _ 6) (B13 _ _ _ _ _ _ ⟨hC1.kc hK2, hR2, hB⟩)
    · refine gl_tableIn 1000 dL_law_40 (by decide) (by decide) rfl rfl ?_
      refine gl_aload_n 1001 3 dL_law_1000 rfl rfl ?_
      refine gl_callV 1004 md_X6_undo [] [] dL_law_1001 rfl e_L_120 rfl (by decide) rfl rfl (Nat.le_of_ble_eq_true rfl) hKb hNb (c_X6_undo hC.1 ) (fun r6 M6 h6 => ?_)
      obtain ⟨rfl, h6a, h6b⟩ := h6
      obtain ⟨hC1, hK1⟩ := hC.fc h6a h6b
      have hR1 := hR.kr hK1
      refine gl_aload_n 1005 2 dL_law_1004 rfl rfl ?_
      refine gl_callV 1008 md_X7_undo [] [_] dL_law_1005 rfl e_L_123 rfl (by decide) rfl rfl (Nat.le_of_ble_eq_true rfl) hKb hNb (c_X7_undo hR1.1 ) (fun r7 M7 h7 => ?_)
      obtain ⟨rfl, h7a, h7b⟩ := h7
      obtain ⟨hR2, hK2⟩ := hR1.fa h7a h7b
      refine gl_icmp_eq 1013 1011 dL_law_1008 rfl rfl (fun _ => ?_) (fun z => absurd rfl z)
      exact gl_widen (Nat.le_succ _) (Nat.le_add_right _ 6) (B13 _ _ _ _ _ _ ⟨hC1.kc hK2, hR2, hB⟩)
