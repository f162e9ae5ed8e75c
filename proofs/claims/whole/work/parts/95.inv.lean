/-! THE SYSTEM'S STATE on both sides, and what each side leaves of the other -/
def CI (M : Mm) (S : Sys) (t : Nat → Nat) (n f : Nat) : Prop := CS M S ∧ TC M t n ∧ M.1 15 0 7 = nI f
def RI (M : Mm) (S : Sys) (t : Nat → Nat) (n f : Nat) : Prop := MY M S ∧ TR M t n ∧ M.1 18 0 8 = nI f
def KR (M M1 : Mm) : Prop := ∀ c i, M1.1 18 c i = M.1 18 c i
def KC (M M1 : Mm) : Prop := ∀ o c i, o ≠ 18 → M1.1 o c i = M.1 o c i
def IV (M : Mm) (S : Sys) (t : Nat → Nat) (n f : Nat) : Prop := CI M S t n f ∧ RI M S t n f ∧ Tb t n
section INV
variable {M M1 : Mm} {S S' : Sys} {t t' : Nat → Nat} {n n' f f' : Nat}
theorem RI.kr (h : RI M S t n f) (k : KR M M1) : RI M1 S t n f := by
  obtain ⟨⟨h1, h2, h3, h4⟩, ⟨h5, h6⟩, h7⟩ := h
  exact ⟨⟨RM_eq (fun i _ => k _ _) h1, (k _ _).trans h2, h3, fun j hj => RM_eq (fun i _ => k _ _) (h4 j hj)⟩, ⟨(k _ _).trans h5, fun i hi => (k _ _).trans (h6 i hi)⟩, (k _ _).trans h7⟩
theorem CI.kc (h : CI M S t n f) (k : KC M M1) : CI M1 S t n f := by
  obtain ⟨a, m, hh⟩ := S
  obtain ⟨h1, ⟨h5, h6⟩, h7⟩ := h
  exact ⟨CS.upd h1 (fun o c i ho => k o c i (by omega)) (by rw [show M1.1 0 = M.1 0 from funext (fun c => funext (fun i => k 0 c i (by decide)))]; exact h1.1), ⟨(k _ _ _ (by decide)).trans h5, fun i hi => (k _ _ _ (by decide)).trans (h6 i hi)⟩, (k _ _ _ (by decide)).trans h7⟩
theorem CI.f116 (h : CI M S t n f) (hF : F116 M M1) : CI M1 S t n f ∧ KR M M1 := by
  obtain ⟨a, m, hh⟩ := S
  obtain ⟨h1, ⟨h5, h6⟩, h7⟩ := h
  exact ⟨⟨h1.f116 hF, ⟨(hF.1 _ _ _ (by omega) (by omega)).trans h5, fun i hi => (hF.1 _ _ _ (by omega) (by omega)).trans (h6 i hi)⟩, (hF.1 _ _ _ (by omega) (by omega)).trans h7⟩, fun c i => hF.1 _ _ _ (by omega) (by omega)⟩
theorem CI.f16 (h : CI M S t n f) (hF : Fo 16 M M1) : CI M1 S t n f ∧ KR M M1 := h.f116 ⟨fun o' c' i' z1 z2 => hF.1 o' c' i' z2, hF.2⟩
theorem CI.fc (h : CI M S t n f) (hC : CS M1 S') (hF : FC M M1) : CI M1 S' t n f ∧ KR M M1 := by
  obtain ⟨h1, ⟨h5, h6⟩, h7⟩ := h
  exact ⟨⟨hC, ⟨(hF.1 _ _ _ (by omega) (by omega) (by omega)).trans h5, fun i hi => (hF.1 _ _ _ (by omega) (by omega) (by omega)).trans (h6 i hi)⟩, (hF.1 _ _ _ (by omega) (by omega) (by omega)).trans h7⟩, fun c i => hF.1 _ _ _ (by omega) (by omega) (by omega)⟩
theorem CI.f13 (h : CI M S t n f) (hT : TC M1 t' n') (hF : Fo 13 M M1) : CI M1 S t' n' f ∧ KR M M1 := by
  obtain ⟨a, m, hh⟩ := S
  obtain ⟨h1, h5, h7⟩ := h
  exact ⟨⟨CS.upd h1 (fun o c i ho => hF.1 o c i (by omega)) (by rw [show M1.1 0 = M.1 0 from funext (fun c => funext (fun i => hF.1 0 c i (by omega)))]; exact h1.1), hT, (hF.1 _ _ _ (by omega)).trans h7⟩, fun c i => hF.1 _ _ _ (by omega)⟩
theorem CI.same (h : CI M S t n f) (e : M1 = M) : CI M1 S t n f ∧ KR M M1 := by subst e; exact ⟨h, fun _ _ => rfl⟩
theorem RI.w0 {x : Int32} (h : RI M S t n f) (e : M1 = wr M 18 0 0 x) : RI M1 S t n f ∧ KC M M1 := by
  subst e
  obtain ⟨h1, ⟨h5, h6⟩, h7⟩ := h
  exact ⟨⟨MS.w0 h1, ⟨(wr_ne (by omega)).trans h5, fun i hi => (wr_ne (by omega)).trans (h6 i hi)⟩, (wr_ne (by omega)).trans h7⟩, fun o c i z => wr_ne (by omega)⟩
theorem RI.fpn {x : Int32} (h : RI M S t n f) (hF : FPn (wr M 18 0 0 x) M1) : RI M1 S t n f ∧ KC M M1 := by
  obtain ⟨⟨h1, ⟨h5, h6⟩, h7⟩, k⟩ := h.w0 (x := x) rfl
  exact ⟨⟨MS.fpn h1 hF, ⟨(hF.1 _ _ _ (by omega)).trans h5, fun i hi => (hF.1 _ _ _ (by omega)).trans (h6 i hi)⟩, (hF.1 _ _ _ (by omega)).trans h7⟩, fun o c i z => (hF.1 _ _ _ (by omega)).trans (k o c i z)⟩
theorem RI.fa (h : RI M S t n f) (hY : MY M1 S') (hF : FA M M1) : RI M1 S' t n f ∧ KC M M1 := by
  obtain ⟨h1, ⟨h5, h6⟩, h7⟩ := h
  exact ⟨⟨hY, ⟨(hF.1 _ _ _ (by omega)).trans h5, fun i hi => (hF.1 _ _ _ (by omega)).trans (h6 i hi)⟩, (hF.1 _ _ _ (by omega)).trans h7⟩, fun o c i z => hF.1 _ _ _ (by omega)⟩
theorem RI.ftp (h : RI M S t n f) (hT : TR M1 t' n') (hF : FTp M M1) : RI M1 S t' n' f ∧ KC M M1 := by
  obtain ⟨h1, h5, h7⟩ := h
  exact ⟨⟨MS.of h1 (hF.1 _ _ _ (by omega)) (fun i => hF.1 _ _ _ (by omega)) (RM_eq (fun i _ => hF.1 _ _ _ (by omega)) h1.1), hT, (hF.1 _ _ _ (by omega)).trans h7⟩, fun o c i z => hF.1 _ _ _ (by omega)⟩
theorem CI.ok (h : CI M S t n f) : Ok S.1 := h.1.1.2.2
end INV
