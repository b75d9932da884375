/-! ===== empty, chains, chain on both sides ===== -/
section BF
variable {d m car : Nat} {jo fr tt ord pos : Nat → Nat} {w : Nat → Nat → Nat} {H : PH} {Q : Option Value → PH → Prop}
abbrev Kc (H : PH) (jo : Nat → Nat) (m : Nat) : Nat := mkM (fun j => decide (hI H (jo j) 8 = 0)) m
/-- the class has BEST by key v -/
def hasB (H : PH) (m car : Nat) (jo fr tt ord : Nat → Nat) (w : Nat → Nat → Nat) (H' : PH) : Prop := ∃ v, isOpt (ckF fr tt ord w (folB H jo fr tt) m) car (Kc H jo m) v ∧ layAns (Kc H jo m) v H'
theorem c_X4_refreshC (hF : Fix H) (hJ : JS H m jo fr tt) (hO : ∀ t, t < m → hI H 8 t = nI (ord t) ∧ ord t < m) (hw : WY H w) (hcar : hI H 5 4 = nI car) (hc1 : 1 ≤ car) (hc6 : car ≤ 6) (hl0 : hL H 11 0 = 0) (hC : hI H 9 4 = hI H 5 5 → hasB H m car jo fr tt ord w H)
    (hq : ∀ H', eqZ H H' → hL H' 11 0 = 0 → hI H' 9 4 = hI H 5 5 → hasB H m car jo fr tt ord w H' → Q none H') : Wp mX4_refresh (d + 5) 0 0 0 [some (.ref 9), none, none, none] [] H Q :=
  c_X4_refresh hF hJ hO hw hcar hc1 hc6 hl0 (fun h => hq H eqZ_rfl hl0 h (hC h)) (fun _ H' v h1 h2 h3 h4 h5 => hq H' h1 h2 h3 ⟨v, h4, h5⟩)
theorem c_X11_empty (hF : Fix H) (hJ : JS H m jo fr tt) (hO : ∀ t, t < m → hI H 8 t = nI (ord t) ∧ ord t < m) (hw : WY H w) (hcar : hI H 5 4 = nI car) (hc1 : 1 ≤ car) (hc6 : car ≤ 6) (hl0 : hL H 11 0 = 0) (hC : hI H 9 4 = hI H 5 5 → hasB H m car jo fr tt ord w H)
    (hq : ∀ H', eqZ H H' → hL H' 11 0 = 0 → hI H' 9 4 = hI H 5 5 → hasB H m car jo fr tt ord w H' → Q (some (.int (hI H' 9 5))) H') : Wp mX11_empty (d + 6) 0 0 0 [some (.ref 1)] [] H Q := by
  refine wp_aload_n dX11_empty_0 rfl ?_
  refine wp_geta dX11_empty_1 fl_RX11_28 rfl (fk_1 hF) (fr_1_2 hF) ?_
  refine wp_callv0 (ci := 4) dX11_empty_4 lk_RX11_156 ok_X4_refresh im_X4_refresh se_X4_refresh rfl rfl (fk_9 hF) (Nat.le_of_ble_eq_true rfl) (Nat.le_of_ble_eq_true rfl) ?_
  refine c_X4_refreshC (d := d) hF hJ hO hw hcar hc1 hc6 hl0 hC (fun H' h1 h2 h3 h4 => ?_)
  have hF1 := Fix_eqZ h1 hF
  refine wp_aload_n dX11_empty_7 rfl ?_
  refine wp_geta dX11_empty_8 fl_RX11_28 rfl (fk_1 hF1) (fr_1_2 hF1) ?_
  refine wp_geti dX11_empty_11 fl_RX11_159 rfl (fk_9 hF1) ?_
  refine wp_ireturn rfl dX11_empty_14 ?_
  exact hq H' h1 h2 h3 h4
theorem c_X11_chains (hF : Fix H) (hJ : JS H m jo fr tt) (hO : ∀ t, t < m → hI H 8 t = nI (ord t) ∧ ord t < m) (hw : WY H w) (hcar : hI H 5 4 = nI car) (hc1 : 1 ≤ car) (hc6 : car ≤ 6) (hl0 : hL H 11 0 = 0) (hC : hI H 9 4 = hI H 5 5 → hasB H m car jo fr tt ord w H)
    (hq : ∀ H', eqZ H H' → hL H' 11 0 = 0 → hI H' 9 4 = hI H 5 5 → hasB H m car jo fr tt ord w H' → Q (some (.int (hI H' 9 6))) H') : Wp mX11_chains (d + 6) 0 0 0 [some (.ref 1)] [] H Q := by
  refine wp_aload_n dX11_chains_0 rfl ?_
  refine wp_geta dX11_chains_1 fl_RX11_28 rfl (fk_1 hF) (fr_1_2 hF) ?_
  refine wp_callv0 (ci := 4) dX11_chains_4 lk_RX11_156 ok_X4_refresh im_X4_refresh se_X4_refresh rfl rfl (fk_9 hF) (Nat.le_of_ble_eq_true rfl) (Nat.le_of_ble_eq_true rfl) ?_
  refine c_X4_refreshC (d := d) hF hJ hO hw hcar hc1 hc6 hl0 hC (fun H' h1 h2 h3 h4 => ?_)
  have hF1 := Fix_eqZ h1 hF
  refine wp_aload_n dX11_chains_7 rfl ?_
  refine wp_geta dX11_chains_8 fl_RX11_28 rfl (fk_1 hF1) (fr_1_2 hF1) ?_
  refine wp_geti dX11_chains_11 fl_RX11_162 rfl (fk_9 hF1) ?_
  refine wp_ireturn rfl dX11_chains_14 ?_
  exact hq H' h1 h2 h3 h4
theorem c_X11_chain {x : Int32} (hF : Fix H) (hJ : JS H m jo fr tt) (hO : ∀ t, t < m → hI H 8 t = nI (ord t) ∧ ord t < m) (hw : WY H w) (hcar : hI H 5 4 = nI car) (hc1 : 1 ≤ car) (hc6 : car ≤ 6) (hl0 : hL H 11 0 = 0) (hC : hI H 9 4 = hI H 5 5 → hasB H m car jo fr tt ord w H)
    (hq1 : ∀ H', eqZ H H' → hL H' 11 0 = 0 → hI H' 9 4 = hI H 5 5 → hasB H m car jo fr tt ord w H' → ∀ j, j < 10 → x = nI j → Q (some (.int (hI H' 12 j))) H') (hq2 : ∀ H', eqZ H H' → hL H' 11 0 = 0 → hI H' 9 4 = hI H 5 5 → hasB H m car jo fr tt ord w H' → ¬ (0 ≤ x ∧ x < 10) → Q (some (.int (-1))) H') : Wp mX11_chain (d + 6) 0 0 0 [some (.ref 1), some (.int x)] [] H Q := by
  refine wp_aload_n dX11_chain_0 rfl ?_
  refine wp_geta dX11_chain_1 fl_RX11_28 rfl (fk_1 hF) (fr_1_2 hF) ?_
  refine wp_callv0 (ci := 4) dX11_chain_4 lk_RX11_156 ok_X4_refresh im_X4_refresh se_X4_refresh rfl rfl (fk_9 hF) (Nat.le_of_ble_eq_true rfl) (Nat.le_of_ble_eq_true rfl) ?_
  refine c_X4_refreshC (d := d) hF hJ hO hw hcar hc1 hc6 hl0 hC (fun H' h1 h2 h3 h4 => ?_)
  have hF1 := Fix_eqZ h1 hF
  refine wp_aload_n dX11_chain_7 rfl ?_
  refine wp_geta dX11_chain_8 fl_RX11_28 rfl (fk_1 hF1) (fr_1_2 hF1) ?_
  refine wp_iload_n dX11_chain_11 rfl ?_
  refine wp_callv1 (ci := 4) dX11_chain_12 lk_RX11_165 ok_X4_chainNumber im_X4_chainNumber se_X4_chainNumber rfl rfl (fk_9 hF1) (Nat.le_of_ble_eq_true rfl) (Nat.le_of_ble_eq_true rfl) ?_
  refine c_X4_chainNumber hF1 (fun j hj hx => ?_) (fun hx => ?_)
  · refine wp_ireturn rfl dX11_chain_15 ?_
    first | exact hq1 H' h1 h2 h3 h4 j hj hx | exact hq2 H' h1 h2 h3 h4 hx
  · refine wp_ireturn rfl dX11_chain_15 ?_
    first | exact hq1 H' h1 h2 h3 h4 j hj hx | exact hq2 H' h1 h2 h3 h4 hx
/-- what the reference has behind lay -/
def hasM (H : PH) (m car : Nat) (fr tt ord : Nat → Nat) (w : Nat → Nat → Nat) (H' : PH) : Prop := ∃ b, BSt H m (fb_ct (kpB H) m) fr tt ord w b H' ∧ OptD (kqF H m fr tt ord w) (fb_ct (kpB H) m) car (fun _ => True) b
theorem c_X12_empty (hF : Fix H) (hM : MJ H m fr tt) (hw : MWY H w) (hO : OP H m ord pos) (hcar : hI H 33 3 = nI car) (hc6 : car ≤ 6) (hq : ∀ H', eqX isLy H H' → hasM H m car fr tt ord w H' → Q (some (.int (if 0 ≤ hI H' 33 25 then hI H' 33 25 else -2))) H') : Wp mX12_empty (d + 6) 0 0 0 [some (.ref 33)] [] H Q := by
  refine wp_aload_n dX12_empty_0 rfl ?_
  refine wp_callv0 (ci := 12) dX12_empty_1 lk_RX12_201 ok_X12_lay im_X12_lay se_X12_lay rfl rfl (fk_33 hF) (Nat.le_of_ble_eq_true rfl) (Nat.le_of_ble_eq_true rfl) ?_
  refine c_X12_lay (d := d) hF hM hw hO hcar hc6 (fun b H' h1 h2 h3 => ?_)
  have hF1 := Fix_eqX h1 hF
  have h9 := hq H' h1 ⟨b, h2, h3⟩
  refine wp_aload_n dX12_empty_4 rfl ?_
  refine wp_geti dX12_empty_5 fl_RX12_191 rfl (fk_33 hF1) ?_
  refine wp_if_ge (tgt := 16) dX12_empty_8 (by decide) (fun h8 => ?_) (fun h8 => ?_)
  · refine wp_aload_n dX12_empty_16 rfl ?_
    refine wp_geti dX12_empty_17 fl_RX12_191 rfl (fk_33 hF1) ?_
    refine wp_ireturn rfl dX12_empty_20 ?_
    first | (rw [if_pos h8] at h9; exact h9) | (rw [if_neg h8] at h9; exact h9)
  · refine wp_bipush (v := -2) dX12_empty_11 (by decide) ?_
    refine wp_goto (tgt := 20) dX12_empty_13 (by decide) ?_
    refine wp_ireturn rfl dX12_empty_20 ?_
    first | (rw [if_pos h8] at h9; exact h9) | (rw [if_neg h8] at h9; exact h9)
theorem c_X12_chains (hF : Fix H) (hM : MJ H m fr tt) (hw : MWY H w) (hO : OP H m ord pos) (hcar : hI H 33 3 = nI car) (hc6 : car ≤ 6) (hq : ∀ H', eqX isLy H H' → hasM H m car fr tt ord w H' → Q (some (.int (if 0 ≤ hI H' 33 25 then hI H' 33 26 else -2))) H') : Wp mX12_chains (d + 6) 0 0 0 [some (.ref 33)] [] H Q := by
  refine wp_aload_n dX12_chains_0 rfl ?_
  refine wp_callv0 (ci := 12) dX12_chains_1 lk_RX12_201 ok_X12_lay im_X12_lay se_X12_lay rfl rfl (fk_33 hF) (Nat.le_of_ble_eq_true rfl) (Nat.le_of_ble_eq_true rfl) ?_
  refine c_X12_lay (d := d) hF hM hw hO hcar hc6 (fun b H' h1 h2 h3 => ?_)
  have hF1 := Fix_eqX h1 hF
  have h9 := hq H' h1 ⟨b, h2, h3⟩
  refine wp_aload_n dX12_chains_4 rfl ?_
  refine wp_geti dX12_chains_5 fl_RX12_191 rfl (fk_33 hF1) ?_
  refine wp_if_ge (tgt := 16) dX12_chains_8 (by decide) (fun h8 => ?_) (fun h8 => ?_)
  · refine wp_aload_n dX12_chains_16 rfl ?_
    refine wp_geti dX12_chains_17 fl_RX12_194 rfl (fk_33 hF1) ?_
    refine wp_ireturn rfl dX12_chains_20 ?_
    first | (rw [if_pos h8] at h9; exact h9) | (rw [if_neg h8] at h9; exact h9)
  · refine wp_bipush (v := -2) dX12_chains_11 (by decide) ?_
    refine wp_goto (tgt := 20) dX12_chains_13 (by decide) ?_
    refine wp_ireturn rfl dX12_chains_20 ?_
    first | (rw [if_pos h8] at h9; exact h9) | (rw [if_neg h8] at h9; exact h9)
theorem c_X12_chain {x : Int32} (hF : Fix H) (hM : MJ H m fr tt) (hw : MWY H w) (hO : OP H m ord pos) (hcar : hI H 33 3 = nI car) (hc6 : car ≤ 6) (hq1 : ∀ H', eqX isLy H H' → hasM H m car fr tt ord w H' → ∀ j, j < m → x = nI j → hI H 47 j = 0 → Q (some (.int (hI H' 55 j))) H') (hq2 : ¬ mOn H m x → Q (some (.int (-1))) H) : Wp mX12_chain (d + 6) 0 0 0 [some (.ref 33), some (.int x)] [] H Q := by
  have h10 := hM.2.1
  refine wp_aload_n dX12_chain_0 rfl ?_
  refine wp_iload_n dX12_chain_1 rfl ?_
  refine wp_callv1 (ci := 12) dX12_chain_2 lk_RX12_169 ok_X12_isOn im_X12_isOn se_X12_isOn rfl rfl (fk_33 hF) (Nat.le_of_ble_eq_true rfl) (Nat.le_of_ble_eq_true rfl) ?_
  refine c_X12_isOn hF hM.1 hM.2.1 ?_
  refine wp_ifb_ne (tgt := 10) dX12_chain_5 (by decide) (fun h5 => ?_) (fun h5 => ?_)
  · obtain ⟨j, hj, rfl, hd⟩ := h5
    refine wp_aload_n dX12_chain_10 rfl ?_
    refine wp_callv0 (ci := 12) dX12_chain_11 lk_RX12_201 ok_X12_lay im_X12_lay se_X12_lay rfl rfl (fk_33 hF) (Nat.le_of_ble_eq_true rfl) (Nat.le_of_ble_eq_true rfl) ?_
    refine c_X12_lay (d := d) hF hM hw hO hcar hc6 (fun b H' h1 h2 h3 => ?_)
    have hF1 := Fix_eqX h1 hF
    refine wp_aload_n dX12_chain_14 rfl ?_
    refine wp_geta dX12_chain_15 fl_RX12_84 rfl (fk_33 hF1) (fr_33_30 hF1) ?_
    refine wp_iload_n dX12_chain_18 rfl ?_
    refine wp_ialoadN dX12_chain_19 (fk_55 hF1) (by omega) (by decide) ?_
    refine wp_ireturn rfl dX12_chain_20 ?_
    exact hq1 H' h1 ⟨b, h2, h3⟩ j hj rfl hd
  · refine wp_iconst (v := -1) dX12_chain_8 (by decide) ?_
    refine wp_ireturn rfl dX12_chain_9 ?_
    exact hq2 h5
/-- both answer the same of BEST -/
theorem best_ans {H1 H2 : PH} (h10 : m ≤ 10) (hc6 : car ≤ 6) (hK : Kc H jo m = Kof H m) (hck : ckF fr tt ord w (folB H jo fr tt) m = fun S => keyO S (mco H fr tt ord w m S)) (hc : hasB H m car jo fr tt ord w H1) (hm : hasM H m car fr tt ord w H2) :
    hI H1 9 5 = (if 0 ≤ hI H2 33 25 then hI H2 33 25 else -2) ∧ hI H1 9 6 = (if 0 ≤ hI H2 33 25 then hI H2 33 26 else -2) ∧ (∀ j, j < m → kpB H j = true → hI H1 12 j = hI H2 55 j) ∧ ∀ j, j < 10 → ¬ (j < m ∧ kpB H j = true) → hI H1 12 j = -1 := by
  obtain ⟨v, v1, v2⟩ := hc
  obtain ⟨b, b1, b2⟩ := hm
  rw [hK] at v1 v2
  rw [hck] at v1
  rcases best_say h10 hc6 v1 b2 with ⟨rfl, hv⟩ | ⟨s, rfl, hv, e1, e2, e3⟩
  · obtain ⟨a1, a2, a3⟩ := v2.1 hv
    have hneg : ¬ (0 : Int32) ≤ hI H2 33 25 := by rw [b1.1]; decide
    rw [if_neg hneg, if_neg hneg]
    exact ⟨a1, a2, fun j hj _ => by rw [a3 j (by omega), b1.2 j (by omega)], fun j hj _ => a3 j hj⟩
  · obtain ⟨a1, a2, a3⟩ := v2.2 hv
    have hlt : v / 2 ^ 40 < 2 ^ 31 := by omega
    have hpos : (0 : Int32) ≤ hI H2 33 25 := by rw [b1.1, ← e1]; exact nI_pos' hlt
    rw [if_pos hpos, if_pos hpos]
    refine ⟨by rw [a1, b1.1, e1], by rw [a2, e3, b1.2.1], fun j hj hk => ?_, fun j hj hk => ?_⟩
    · rw [a3 _ e2 j (by omega), if_pos (Kof_i hj hk), b1.2.2.1 j hj hk]
    · rw [a3 _ e2 j hj, if_neg (fun z => hk (Kof_t z))]
end BF
