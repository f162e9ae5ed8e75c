theorem sg_int : ∀ b : Fin 256, (sb b.val).toInt = if b.val < 128 then (b.val : Int) else (b.val : Int) - 256 := by decide +kernel
theorem sg_eq {b w : Nat} (hb : b < 256) (hw : w < 128) : sb b = nI w ↔ b = w := by
  have h := sg_int ⟨b, hb⟩
  constructor
  · intro e
    rw [show sb (⟨b, hb⟩ : Fin 256).val = sb b from rfl, e, nI_toInt (by omega)] at h
    dsimp only at h
    split at h <;> omega
  · intro e
    subst e
    exact fa_byte_small hw
theorem sw_all : ∀ i : Fin 4, ∀ k : Fin 8, k.val < sLen.getD i.val 0 → (sByt.getD i.val []).getD k.val 0 = nI ((wl (4 + i.val)).getD k.val 0) ∧ (wl (4 + i.val)).getD k.val 0 < 128 := by decide +kernel
theorem sw_len : ∀ i : Fin 4, sLen.getD i.val 0 = (wl (4 + i.val)).length := by decide +kernel
theorem sw_at {b i k : Nat} (hb : b < 256) (hi : i < 4) (hk : k < sLen.getD i 0) : sb b = (sByt.getD i []).getD k 0 ↔ b = (wl (4 + i)).getD k 0 := by
  have hl := sLen_le hi
  obtain ⟨h1, h2⟩ := sw_all ⟨i, hi⟩ ⟨k, by omega⟩ hk
  dsimp only at h1 h2
  rw [h1]
  exact sg_eq hb h2
theorem isw_t {t : Nat → Nat} {q e i : Nat} (hi : i < 4) (h1 : e - q = sLen.getD i 0) (h2 : ∀ k, k < sLen.getD i 0 → t (q + k) = (wl (4 + i)).getD k 0) : isw t q e (4 + i) = true := by
  have hl := sw_len ⟨i, hi⟩
  dsimp only at hl
  unfold isw
  rw [← hl, decide_eq_true h1, fb_ct_all.mpr (fun k hk => decide_eq_true (h2 k hk)), decide_eq_true rfl]
  rfl
theorem isw_f1 {t : Nat → Nat} {q e i : Nat} (hi : i < 4) (h1 : ¬ e - q = sLen.getD i 0) : isw t q e (4 + i) = false := by
  have hl := sw_len ⟨i, hi⟩
  dsimp only at hl
  unfold isw
  rw [← hl, decide_eq_false h1]
  rfl
theorem isw_f2 {t : Nat → Nat} {q e i k : Nat} (hi : i < 4) (hk : k < sLen.getD i 0) (h2 : ¬ t (q + k) = (wl (4 + i)).getD k 0) : isw t q e (4 + i) = false := by
  have hl := sw_len ⟨i, hi⟩
  dsimp only at hl
  unfold isw
  rw [← hl, decide_eq_false (p := fb_ct _ _ = _) (fun z => h2 (of_decide_eq_true (fb_ct_all.mp z k hk))), Bool.and_false]
