/-! ===== fields, arrays, new cells ===== -/
/-- what the tables say of each class -/
def ClOk (ci : Nat) (q : vw_C) : Prop := (∀ w ∈ u_ws q.1 q.2.1 q.2.2, w ∈ gw) ∧ (∀ k, k < q.2.2 → parseFieldDescriptor (q.2.1 k).2.2.1 = some (tyOf ci k)) ∧ (∀ a, a < q.2.2 → ∀ b, b < q.2.2 → a ≠ b → (q.2.1 a).2.1 ≠ (q.2.1 b).2.1) ∧ Cond.instantiable q.1 q.2.2 ∈ gw ∧ Cond.initialized q.1 ∈ gw ∧ q.2.2 ≤ 60
theorem in_gw {w : Cond} (h : (lw_tbl.contains w && goodWord w) = true) : w ∈ gw := by
  rw [Bool.and_eq_true] at h
  exact List.mem_filter.mpr ⟨by simpa using h.1, h.2⟩
theorem all_gw {ws : List Cond} (h : (ws.all fun w => lw_tbl.contains w && goodWord w) = true) : ∀ w ∈ ws, w ∈ gw := fun w hw => in_gw (List.all_eq_true.mp h w hw)
set_option maxRecDepth 100000 in
theorem ok0 : ClOk 0 (RX0, TX0, 6) := ⟨all_gw (by decide +kernel), tyX0_ok, nmX0, in_gw (by decide +kernel), in_gw (by decide +kernel), by decide⟩
set_option maxRecDepth 100000 in
theorem ok1 : ClOk 1 (RX1, TX1, 6) := ⟨all_gw (by decide +kernel), tyX1_ok, nmX1, in_gw (by decide +kernel), in_gw (by decide +kernel), by decide⟩
set_option maxRecDepth 100000 in
theorem ok2 : ClOk 2 (RX2, TX2, 5) := ⟨all_gw (by decide +kernel), tyX2_ok, nmX2, in_gw (by decide +kernel), in_gw (by decide +kernel), by decide⟩
set_option maxRecDepth 100000 in
theorem ok3 : ClOk 3 (RX3, TX3, 9) := ⟨all_gw (by decide +kernel), tyX3_ok, nmX3, in_gw (by decide +kernel), in_gw (by decide +kernel), by decide⟩
set_option maxRecDepth 100000 in
theorem ok4 : ClOk 4 (RX4, TX4, 7) := ⟨all_gw (by decide +kernel), tyX4_ok, nmX4, in_gw (by decide +kernel), in_gw (by decide +kernel), by decide⟩
set_option maxRecDepth 100000 in
theorem ok5 : ClOk 5 (RX5, TX5, 3) := ⟨all_gw (by decide +kernel), tyX5_ok, nmX5, in_gw (by decide +kernel), in_gw (by decide +kernel), by decide⟩
set_option maxRecDepth 100000 in
theorem ok6 : ClOk 6 (RX6, TX6, 13) := ⟨all_gw (by decide +kernel), tyX6_ok, nmX6, in_gw (by decide +kernel), in_gw (by decide +kernel), by decide⟩
set_option maxRecDepth 100000 in
theorem ok7 : ClOk 7 (RX7, TX7, 3) := ⟨all_gw (by decide +kernel), tyX7_ok, nmX7, in_gw (by decide +kernel), in_gw (by decide +kernel), by decide⟩
set_option maxRecDepth 100000 in
theorem ok8 : ClOk 8 (RX8, TX8, 5) := ⟨all_gw (by decide +kernel), tyX8_ok, nmX8, in_gw (by decide +kernel), in_gw (by decide +kernel), by decide⟩
set_option maxRecDepth 100000 in
theorem ok9 : ClOk 9 (RX9, TX9, 2) := ⟨all_gw (by decide +kernel), tyX9_ok, nmX9, in_gw (by decide +kernel), in_gw (by decide +kernel), by decide⟩
set_option maxRecDepth 100000 in
theorem ok10 : ClOk 10 (RX10, TX10, 3) := ⟨all_gw (by decide +kernel), tyX10_ok, nmX10, in_gw (by decide +kernel), in_gw (by decide +kernel), by decide⟩
set_option maxRecDepth 100000 in
theorem ok11 : ClOk 11 (RX11, TX11, 9) := ⟨all_gw (by decide +kernel), tyX11_ok, nmX11, in_gw (by decide +kernel), in_gw (by decide +kernel), by decide⟩
set_option maxRecDepth 100000 in
theorem ok12 : ClOk 12 (RX12, TX12, 60) := ⟨all_gw (by decide +kernel), tyX12_ok, nmX12, in_gw (by decide +kernel), in_gw (by decide +kernel), by decide⟩
theorem clOk : ∀ (ci : Nat) (q : vw_C), vwCl[ci]? = some q → ClOk ci q := by
  intro ci q h
  match ci, h with
  | 0, h => cases h; exact ok0
  | 1, h => cases h; exact ok1
  | 2, h => cases h; exact ok2
  | 3, h => cases h; exact ok3
  | 4, h => cases h; exact ok4
  | 5, h => cases h; exact ok5
  | 6, h => cases h; exact ok6
  | 7, h => cases h; exact ok7
  | 8, h => cases h; exact ok8
  | 9, h => cases h; exact ok9
  | 10, h => cases h; exact ok10
  | 11, h => cases h; exact ok11
  | 12, h => cases h; exact ok12
  | k + 13, h => simp [vwCl] at h
