/-! the words of the tables that every method may take with it -/
def wsA : List Cond := lw_tbl.filter goodWord
theorem wa_p {w : Cond} (h : w ∈ k2_sels lw_privs) (hg : goodWord w = true) : w ∈ wsA := List.mem_filter.mpr ⟨List.mem_append_left _ h, hg⟩
theorem wa_t {w : Cond} (h : w ∈ tables_1) (hg : goodWord w = true) : w ∈ wsA := List.mem_filter.mpr ⟨List.mem_append_right _ h, hg⟩
theorem wa_good : ∀ w ∈ wsA, goodWord w = true := fun w h => (List.mem_filter.mp h).2
theorem wa_in : ∀ w ∈ wsA, w ∈ lw_tbl := fun w h => (List.mem_filter.mp h).1
theorem wa_1 {w : Cond} (h : w ∈ tables_1_1) (hg : goodWord w = true) : w ∈ wsA := wa_t (List.mem_append_left _ h) hg
theorem wa_2 {w : Cond} (h : w ∈ tables_1_2) (hg : goodWord w = true) : w ∈ wsA := wa_t (List.mem_append_right _ (List.mem_append_left _ h)) hg
theorem wa_3 {w : Cond} (h : w ∈ tables_1_3) (hg : goodWord w = true) : w ∈ wsA := wa_t (List.mem_append_right _ (List.mem_append_right _ (List.mem_append_left _ h))) hg
theorem wa_4 {w : Cond} (h : w ∈ tables_1_4) (hg : goodWord w = true) : w ∈ wsA := wa_t (List.mem_append_right _ (List.mem_append_right _ (List.mem_append_right _ (List.mem_append_left _ h)))) hg
theorem wa_5 {w : Cond} (h : w ∈ tables_1_5) (hg : goodWord w = true) : w ∈ wsA := wa_t (List.mem_append_right _ (List.mem_append_right _ (List.mem_append_right _ (List.mem_append_right _ (List.mem_append_left _ h))))) hg
theorem wa_6 {w : Cond} (h : w ∈ tables_1_6) (hg : goodWord w = true) : w ∈ wsA := wa_t (List.mem_append_right _ (List.mem_append_right _ (List.mem_append_right _ (List.mem_append_right _ (List.mem_append_right _ (h)))))) hg
abbrev vwCl : List vw_C := [(RX0, TX0, 3), (RX1, TX1, 7), (RX2, TX2, 20), (RX3, TX3, 2), (RX4, TX4, 9), (RX5, TX5, 5), (RX6, TX6, 6), (RX7, TX7, 28)]
set_option maxRecDepth 20000 in
theorem ulX0 : ∀ w ∈ u_ws RX0 TX0 3, w ∈ wsA := by
  intro w hw
  obtain ⟨k, hk, rfl⟩ := List.mem_map.mp hw
  have hk := List.mem_range.mp hk
  match k, hk with
  | 0, _ => exact (wa_2 (List.mem_of_getElem? (i := 5) (by decide +kernel)) (by decide +kernel))
  | 1, _ => exact (wa_2 (List.mem_of_getElem? (i := 7) (by decide +kernel)) (by decide +kernel))
  | 2, _ => exact (wa_2 (List.mem_of_getElem? (i := 9) (by decide +kernel)) (by decide +kernel))
  | k + 3, h => exact absurd h (by omega)
set_option maxRecDepth 20000 in
theorem ulX1 : ∀ w ∈ u_ws RX1 TX1 7, w ∈ wsA := by
  intro w hw
  obtain ⟨k, hk, rfl⟩ := List.mem_map.mp hw
  have hk := List.mem_range.mp hk
  match k, hk with
  | 0, _ => exact (wa_1 (List.mem_of_getElem? (i := 217) (by decide +kernel)) (by decide +kernel))
  | 1, _ => exact (wa_1 (List.mem_of_getElem? (i := 219) (by decide +kernel)) (by decide +kernel))
  | 2, _ => exact (wa_1 (List.mem_of_getElem? (i := 221) (by decide +kernel)) (by decide +kernel))
  | 3, _ => exact (wa_1 (List.mem_of_getElem? (i := 223) (by decide +kernel)) (by decide +kernel))
  | 4, _ => exact (wa_1 (List.mem_of_getElem? (i := 225) (by decide +kernel)) (by decide +kernel))
  | 5, _ => exact (wa_1 (List.mem_of_getElem? (i := 227) (by decide +kernel)) (by decide +kernel))
  | 6, _ => exact (wa_1 (List.mem_of_getElem? (i := 229) (by decide +kernel)) (by decide +kernel))
  | k + 7, h => exact absurd h (by omega)
set_option maxRecDepth 20000 in
theorem ulX2 : ∀ w ∈ u_ws RX2 TX2 20, w ∈ wsA := by
  intro w hw
  obtain ⟨k, hk, rfl⟩ := List.mem_map.mp hw
  have hk := List.mem_range.mp hk
  match k, hk with
  | 0, _ => exact (wa_1 (List.mem_of_getElem? (i := 100) (by decide +kernel)) (by decide +kernel))
  | 1, _ => exact (wa_1 (List.mem_of_getElem? (i := 102) (by decide +kernel)) (by decide +kernel))
  | 2, _ => exact (wa_1 (List.mem_of_getElem? (i := 104) (by decide +kernel)) (by decide +kernel))
  | 3, _ => exact (wa_1 (List.mem_of_getElem? (i := 106) (by decide +kernel)) (by decide +kernel))
  | 4, _ => exact (wa_1 (List.mem_of_getElem? (i := 108) (by decide +kernel)) (by decide +kernel))
  | 5, _ => exact (wa_1 (List.mem_of_getElem? (i := 110) (by decide +kernel)) (by decide +kernel))
  | 6, _ => exact (wa_1 (List.mem_of_getElem? (i := 112) (by decide +kernel)) (by decide +kernel))
  | 7, _ => exact (wa_1 (List.mem_of_getElem? (i := 114) (by decide +kernel)) (by decide +kernel))
  | 8, _ => exact (wa_1 (List.mem_of_getElem? (i := 116) (by decide +kernel)) (by decide +kernel))
  | 9, _ => exact (wa_1 (List.mem_of_getElem? (i := 118) (by decide +kernel)) (by decide +kernel))
  | 10, _ => exact (wa_1 (List.mem_of_getElem? (i := 120) (by decide +kernel)) (by decide +kernel))
  | 11, _ => exact (wa_1 (List.mem_of_getElem? (i := 122) (by decide +kernel)) (by decide +kernel))
  | 12, _ => exact (wa_1 (List.mem_of_getElem? (i := 124) (by decide +kernel)) (by decide +kernel))
  | 13, _ => exact (wa_1 (List.mem_of_getElem? (i := 126) (by decide +kernel)) (by decide +kernel))
  | 14, _ => exact (wa_1 (List.mem_of_getElem? (i := 128) (by decide +kernel)) (by decide +kernel))
  | 15, _ => exact (wa_1 (List.mem_of_getElem? (i := 130) (by decide +kernel)) (by decide +kernel))
  | 16, _ => exact (wa_1 (List.mem_of_getElem? (i := 132) (by decide +kernel)) (by decide +kernel))
  | 17, _ => exact (wa_1 (List.mem_of_getElem? (i := 134) (by decide +kernel)) (by decide +kernel))
  | 18, _ => exact (wa_1 (List.mem_of_getElem? (i := 136) (by decide +kernel)) (by decide +kernel))
  | 19, _ => exact (wa_1 (List.mem_of_getElem? (i := 138) (by decide +kernel)) (by decide +kernel))
  | k + 20, h => exact absurd h (by omega)
set_option maxRecDepth 20000 in
theorem ulX3 : ∀ w ∈ u_ws RX3 TX3 2, w ∈ wsA := by
  intro w hw
  obtain ⟨k, hk, rfl⟩ := List.mem_map.mp hw
  have hk := List.mem_range.mp hk
  match k, hk with
  | 0, _ => exact (wa_1 (List.mem_of_getElem? (i := 38) (by decide +kernel)) (by decide +kernel))
  | 1, _ => exact (wa_1 (List.mem_of_getElem? (i := 40) (by decide +kernel)) (by decide +kernel))
  | k + 2, h => exact absurd h (by omega)
set_option maxRecDepth 20000 in
theorem ulX4 : ∀ w ∈ u_ws RX4 TX4 9, w ∈ wsA := by
  intro w hw
  obtain ⟨k, hk, rfl⟩ := List.mem_map.mp hw
  have hk := List.mem_range.mp hk
  match k, hk with
  | 0, _ => exact (wa_1 (List.mem_of_getElem? (i := 185) (by decide +kernel)) (by decide +kernel))
  | 1, _ => exact (wa_1 (List.mem_of_getElem? (i := 187) (by decide +kernel)) (by decide +kernel))
  | 2, _ => exact (wa_1 (List.mem_of_getElem? (i := 189) (by decide +kernel)) (by decide +kernel))
  | 3, _ => exact (wa_1 (List.mem_of_getElem? (i := 191) (by decide +kernel)) (by decide +kernel))
  | 4, _ => exact (wa_1 (List.mem_of_getElem? (i := 193) (by decide +kernel)) (by decide +kernel))
  | 5, _ => exact (wa_1 (List.mem_of_getElem? (i := 195) (by decide +kernel)) (by decide +kernel))
  | 6, _ => exact (wa_1 (List.mem_of_getElem? (i := 197) (by decide +kernel)) (by decide +kernel))
  | 7, _ => exact (wa_1 (List.mem_of_getElem? (i := 199) (by decide +kernel)) (by decide +kernel))
  | 8, _ => exact (wa_1 (List.mem_of_getElem? (i := 201) (by decide +kernel)) (by decide +kernel))
  | k + 9, h => exact absurd h (by omega)
set_option maxRecDepth 20000 in
theorem ulX5 : ∀ w ∈ u_ws RX5 TX5 5, w ∈ wsA := by
  intro w hw
  obtain ⟨k, hk, rfl⟩ := List.mem_map.mp hw
  have hk := List.mem_range.mp hk
  match k, hk with
  | 0, _ => exact (wa_1 (List.mem_of_getElem? (i := 162) (by decide +kernel)) (by decide +kernel))
  | 1, _ => exact (wa_1 (List.mem_of_getElem? (i := 164) (by decide +kernel)) (by decide +kernel))
  | 2, _ => exact (wa_1 (List.mem_of_getElem? (i := 166) (by decide +kernel)) (by decide +kernel))
  | 3, _ => exact (wa_1 (List.mem_of_getElem? (i := 168) (by decide +kernel)) (by decide +kernel))
  | 4, _ => exact (wa_1 (List.mem_of_getElem? (i := 170) (by decide +kernel)) (by decide +kernel))
  | k + 5, h => exact absurd h (by omega)
set_option maxRecDepth 20000 in
theorem ulX6 : ∀ w ∈ u_ws RX6 TX6 6, w ∈ wsA := by
  intro w hw
  obtain ⟨k, hk, rfl⟩ := List.mem_map.mp hw
  have hk := List.mem_range.mp hk
  match k, hk with
  | 0, _ => exact (wa_2 (List.mem_of_getElem? (i := 22) (by decide +kernel)) (by decide +kernel))
  | 1, _ => exact (wa_2 (List.mem_of_getElem? (i := 24) (by decide +kernel)) (by decide +kernel))
  | 2, _ => exact (wa_2 (List.mem_of_getElem? (i := 26) (by decide +kernel)) (by decide +kernel))
  | 3, _ => exact (wa_2 (List.mem_of_getElem? (i := 28) (by decide +kernel)) (by decide +kernel))
  | 4, _ => exact (wa_2 (List.mem_of_getElem? (i := 30) (by decide +kernel)) (by decide +kernel))
  | 5, _ => exact (wa_2 (List.mem_of_getElem? (i := 32) (by decide +kernel)) (by decide +kernel))
  | k + 6, h => exact absurd h (by omega)
set_option maxRecDepth 20000 in
theorem ulX7 : ∀ w ∈ u_ws RX7 TX7 28, w ∈ wsA := by
  intro w hw
  obtain ⟨k, hk, rfl⟩ := List.mem_map.mp hw
  have hk := List.mem_range.mp hk
  match k, hk with
  | 0, _ => exact (wa_4 (List.mem_of_getElem? (i := 120) (by decide +kernel)) (by decide +kernel))
  | 1, _ => exact (wa_4 (List.mem_of_getElem? (i := 122) (by decide +kernel)) (by decide +kernel))
  | 2, _ => exact (wa_4 (List.mem_of_getElem? (i := 124) (by decide +kernel)) (by decide +kernel))
  | 3, _ => exact (wa_4 (List.mem_of_getElem? (i := 126) (by decide +kernel)) (by decide +kernel))
  | 4, _ => exact (wa_4 (List.mem_of_getElem? (i := 128) (by decide +kernel)) (by decide +kernel))
  | 5, _ => exact (wa_4 (List.mem_of_getElem? (i := 130) (by decide +kernel)) (by decide +kernel))
  | 6, _ => exact (wa_4 (List.mem_of_getElem? (i := 132) (by decide +kernel)) (by decide +kernel))
  | 7, _ => exact (wa_4 (List.mem_of_getElem? (i := 134) (by decide +kernel)) (by decide +kernel))
  | 8, _ => exact (wa_4 (List.mem_of_getElem? (i := 136) (by decide +kernel)) (by decide +kernel))
  | 9, _ => exact (wa_4 (List.mem_of_getElem? (i := 138) (by decide +kernel)) (by decide +kernel))
  | 10, _ => exact (wa_4 (List.mem_of_getElem? (i := 140) (by decide +kernel)) (by decide +kernel))
  | 11, _ => exact (wa_4 (List.mem_of_getElem? (i := 142) (by decide +kernel)) (by decide +kernel))
  | 12, _ => exact (wa_4 (List.mem_of_getElem? (i := 144) (by decide +kernel)) (by decide +kernel))
  | 13, _ => exact (wa_4 (List.mem_of_getElem? (i := 146) (by decide +kernel)) (by decide +kernel))
  | 14, _ => exact (wa_4 (List.mem_of_getElem? (i := 148) (by decide +kernel)) (by decide +kernel))
  | 15, _ => exact (wa_4 (List.mem_of_getElem? (i := 150) (by decide +kernel)) (by decide +kernel))
  | 16, _ => exact (wa_4 (List.mem_of_getElem? (i := 152) (by decide +kernel)) (by decide +kernel))
  | 17, _ => exact (wa_4 (List.mem_of_getElem? (i := 154) (by decide +kernel)) (by decide +kernel))
  | 18, _ => exact (wa_4 (List.mem_of_getElem? (i := 156) (by decide +kernel)) (by decide +kernel))
  | 19, _ => exact (wa_4 (List.mem_of_getElem? (i := 158) (by decide +kernel)) (by decide +kernel))
  | 20, _ => exact (wa_4 (List.mem_of_getElem? (i := 160) (by decide +kernel)) (by decide +kernel))
  | 21, _ => exact (wa_4 (List.mem_of_getElem? (i := 162) (by decide +kernel)) (by decide +kernel))
  | 22, _ => exact (wa_4 (List.mem_of_getElem? (i := 164) (by decide +kernel)) (by decide +kernel))
  | 23, _ => exact (wa_4 (List.mem_of_getElem? (i := 166) (by decide +kernel)) (by decide +kernel))
  | 24, _ => exact (wa_4 (List.mem_of_getElem? (i := 168) (by decide +kernel)) (by decide +kernel))
  | 25, _ => exact (wa_4 (List.mem_of_getElem? (i := 170) (by decide +kernel)) (by decide +kernel))
  | 26, _ => exact (wa_4 (List.mem_of_getElem? (i := 172) (by decide +kernel)) (by decide +kernel))
  | 27, _ => exact (wa_4 (List.mem_of_getElem? (i := 174) (by decide +kernel)) (by decide +kernel))
  | k + 28, h => exact absurd h (by omega)
