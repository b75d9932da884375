/-! ===== small methods of the JDK; CarriageHire$Stable ===== -/
def absI (x : Int32) : Int32 := if 0 ≤ x then x else -x
def maxI (a b : Int32) : Int32 := if a < b then b else a
def minI (a b : Int32) : Int32 := if b < a then b else a
theorem c_J9_abs_0f7a4 {d : Nat} {x : Int32} {H : PH} {Q : Option Value → PH → Prop} (hq : Q (some (.int (absI x))) H) : Wp mJ9_abs_0f7a4 d 0 0 0 [some (.int x)] [] H Q := by
  refine wp_iload_n dJ9_abs_0f7a4_0 rfl ?_
  refine wp_if_ge (tgt := 9) dJ9_abs_0f7a4_1 (by decide) (fun h1 => ?_) (fun h1 => ?_)
  · refine wp_iload_n dJ9_abs_0f7a4_9 rfl ?_
    refine wp_ireturn rfl dJ9_abs_0f7a4_10 ?_
    first | (rw [absI, if_pos h1] at hq; exact hq) | (rw [absI, if_neg h1] at hq; exact hq)
  · refine wp_iload_n dJ9_abs_0f7a4_4 rfl ?_
    refine wp_ineg dJ9_abs_0f7a4_5 ?_
    refine wp_goto (tgt := 10) dJ9_abs_0f7a4_6 (by decide) ?_
    refine wp_ireturn rfl dJ9_abs_0f7a4_10 ?_
    first | (rw [absI, if_pos h1] at hq; exact hq) | (rw [absI, if_neg h1] at hq; exact hq)
theorem c_J9_max_7cf53 {d : Nat} {x z : Int32} {H : PH} {Q : Option Value → PH → Prop} (hq : Q (some (.int (maxI x z))) H) : Wp mJ9_max_7cf53 d 0 0 0 [some (.int x), some (.int z)] [] H Q := by
  refine wp_iload_n dJ9_max_7cf53_0 rfl ?_
  refine wp_iload_n dJ9_max_7cf53_1 rfl ?_
  refine wp_icmp_lt (tgt := 9) dJ9_max_7cf53_2 (by decide) (fun h2 => ?_) (fun h2 => ?_)
  · refine wp_iload_n dJ9_max_7cf53_9 rfl ?_
    refine wp_ireturn rfl dJ9_max_7cf53_10 ?_
    first | (rw [maxI, if_pos h2] at hq; exact hq) | (rw [maxI, if_neg h2] at hq; exact hq)
  · refine wp_iload_n dJ9_max_7cf53_5 rfl ?_
    refine wp_goto (tgt := 10) dJ9_max_7cf53_6 (by decide) ?_
    refine wp_ireturn rfl dJ9_max_7cf53_10 ?_
    first | (rw [maxI, if_pos h2] at hq; exact hq) | (rw [maxI, if_neg h2] at hq; exact hq)
theorem c_J9_min_7cf53 {d : Nat} {x z : Int32} {H : PH} {Q : Option Value → PH → Prop} (hq : Q (some (.int (minI x z))) H) : Wp mJ9_min_7cf53 d 0 0 0 [some (.int x), some (.int z)] [] H Q := by
  refine wp_iload_n dJ9_min_7cf53_0 rfl ?_
  refine wp_iload_n dJ9_min_7cf53_1 rfl ?_
  refine wp_icmp_gt (tgt := 9) dJ9_min_7cf53_2 (by decide) (fun h2 => ?_) (fun h2 => ?_)
  · refine wp_iload_n dJ9_min_7cf53_9 rfl ?_
    refine wp_ireturn rfl dJ9_min_7cf53_10 ?_
    first | (rw [minI, if_pos h2] at hq; exact hq) | (rw [minI, if_neg h2] at hq; exact hq)
  · refine wp_iload_n dJ9_min_7cf53_5 rfl ?_
    refine wp_goto (tgt := 10) dJ9_min_7cf53_6 (by decide) ?_
    refine wp_ireturn rfl dJ9_min_7cf53_10 ?_
    first | (rw [minI, if_pos h2] at hq; exact hq) | (rw [minI, if_neg h2] at hq; exact hq)
abbrev hb (x : Int32) (i : Nat) : Prop := ¬ ((x.toUInt32 >>> ((nI i).toUInt32 &&& Int32.toUInt32 31)).toInt32 &&& 1) = 0
theorem c_X11_hasBit {d i : Nat} {x : Int32} {H : PH} {Q : Option Value → PH → Prop} (hq : Q (some (.int (bI (hb x i)))) H) : Wp mX11_hasBit d 0 0 0 [some (.int x), some (.int (nI i))] [] H Q := by
  refine wp_iload_n dX11_hasBit_0 rfl ?_
  refine wp_iload_n dX11_hasBit_1 rfl ?_
  refine wp_iushr dX11_hasBit_2 ?_
  refine wp_iconst (v := 1) dX11_hasBit_3 (by decide) ?_
  refine wp_iand dX11_hasBit_4 ?_
  refine wp_if_eq (tgt := 12) dX11_hasBit_5 (by decide) (fun h5 => ?_) (fun h5 => ?_)
  · refine wp_iconst (v := 0) dX11_hasBit_12 (by decide) ?_
    refine wp_zreturn rfl (Or.inl rfl) dX11_hasBit_13 ?_
    first | exact bq_t hq h5 | exact bq_f hq (fun q => q h5)
  · refine wp_iconst (v := 1) dX11_hasBit_8 (by decide) ?_
    refine wp_goto (tgt := 13) dX11_hasBit_9 (by decide) ?_
    refine wp_zreturn rfl (Or.inr rfl) dX11_hasBit_13 ?_
    first | exact bq_t hq h5 | exact bq_f hq (fun q => q h5)
theorem c_X2_init {d a : Nat} {c h p s : Int32} {H : PH} {Q : Option Value → PH → Prop} (hk : hK H a = (3, 5)) (hq : Q none (sI (sI (sI (sI H a 0 c) a 1 h) a 2 p) a 3 s)) : Wp mX2_init (d + 1) 0 0 0 [some (.ref a), some (.int c), some (.int h), some (.int p), some (.int s)] [] H Q := by
  refine wp_aload_n dX2_init_0 rfl ?_
  refine wp_super dX2_init_1 lo_RX2_1 oi_in oi_co (Nat.le_of_ble_eq_true rfl) ?_
  refine wp_aload_n dX2_init_4 rfl ?_
  refine wp_iload_n dX2_init_5 rfl ?_
  refine wp_puti dX2_init_6 fl_RX2_7 mf_RX2_7 rfl (hk) ?_
  refine wp_aload_n dX2_init_9 rfl ?_
  refine wp_iload_n dX2_init_10 rfl ?_
  refine wp_puti dX2_init_11 fl_RX2_13 mf_RX2_13 rfl (hk) ?_
  refine wp_aload_n dX2_init_14 rfl ?_
  refine wp_iload_n dX2_init_15 rfl ?_
  refine wp_puti dX2_init_16 fl_RX2_16 mf_RX2_16 rfl (hk) ?_
  refine wp_aload_n dX2_init_19 rfl ?_
  refine wp_iload dX2_init_20 rfl ?_
  refine wp_puti dX2_init_22 fl_RX2_19 mf_RX2_19 rfl (hk) ?_
  refine wp_return rfl dX2_init_25 ?_
  exact hq
/-- n HORSES, at the cells ho 0, ho 1, .. -/
def HS (H : PH) (n : Nat) (ho : Nat → Nat) : Prop := hI H 2 2 = nI n ∧ n ≤ 16 ∧ (∀ i, i < n → hR H 3 i = some (ho i)) ∧ (∀ i, i < n → hK H (ho i) = (3, 5)) ∧ (∀ i, i < n → 69 < ho i) ∧ ∀ i j, i < n → j < n → ho i = ho j → i = j
theorem c_X8_has {d n : Nat} {x : Int32} {H : PH} {Q : Option Value → PH → Prop} (hF : Fix H) (hn : hI H 2 2 = nI n) (hq : Q (some (.int (bI (0 ≤ x ∧ x < nI n)))) H) : Wp mX8_has d 0 0 0 [some (.ref 2), some (.int x)] [] H Q := by
  refine wp_iload_n dX8_has_0 rfl ?_
  refine wp_if_lt (tgt := 16) dX8_has_1 (by decide) (fun h1 => ?_) (fun h1 => ?_)
  · refine wp_iconst (v := 0) dX8_has_16 (by decide) ?_
    refine wp_zreturn rfl (Or.inl rfl) dX8_has_17 ?_
    first | exact bq_t hq ⟨Int32.not_lt.mp h1, Int32.not_le.mp h9⟩ | exact bq_f hq (fun q => absurd h1 (Int32.not_lt.mpr q.1)) | exact bq_f hq (fun q => absurd h9 (Int32.not_le.mpr q.2))
  · refine wp_iload_n dX8_has_4 rfl ?_
    refine wp_aload_n dX8_has_5 rfl ?_
    refine wp_geti dX8_has_6 fl_RX8_32 rfl (fk_2 hF) ?_
    rw [hn]
    refine wp_icmp_ge (tgt := 16) dX8_has_9 (by decide) (fun h9 => ?_) (fun h9 => ?_)
    · refine wp_iconst (v := 0) dX8_has_16 (by decide) ?_
      refine wp_zreturn rfl (Or.inl rfl) dX8_has_17 ?_
      first | exact bq_t hq ⟨Int32.not_lt.mp h1, Int32.not_le.mp h9⟩ | exact bq_f hq (fun q => absurd h1 (Int32.not_lt.mpr q.1)) | exact bq_f hq (fun q => absurd h9 (Int32.not_le.mpr q.2))
    · refine wp_iconst (v := 1) dX8_has_12 (by decide) ?_
      refine wp_goto (tgt := 17) dX8_has_13 (by decide) ?_
      refine wp_zreturn rfl (Or.inr rfl) dX8_has_17 ?_
      first | exact bq_t hq ⟨Int32.not_lt.mp h1, Int32.not_le.mp h9⟩ | exact bq_f hq (fun q => absurd h1 (Int32.not_lt.mpr q.1)) | exact bq_f hq (fun q => absurd h9 (Int32.not_le.mpr q.2))
abbrev hall (x : Int32) (n : Nat) : Prop := (x.toUInt32 >>> ((nI n).toUInt32 &&& Int32.toUInt32 31)).toInt32 = 0
theorem c_X8_hasAll {d n : Nat} {x : Int32} {H : PH} {Q : Option Value → PH → Prop} (hF : Fix H) (hn : hI H 2 2 = nI n) (hq : Q (some (.int (bI (hall x n)))) H) : Wp mX8_hasAll d 0 0 0 [some (.ref 2), some (.int x)] [] H Q := by
  refine wp_iload_n dX8_hasAll_0 rfl ?_
  refine wp_aload_n dX8_hasAll_1 rfl ?_
  refine wp_geti dX8_hasAll_2 fl_RX8_32 rfl (fk_2 hF) ?_
  rw [hn]
  refine wp_iushr dX8_hasAll_5 ?_
  refine wp_if_ne (tgt := 13) dX8_hasAll_6 (by decide) (fun h6 => ?_) (fun h6 => ?_)
  · refine wp_iconst (v := 0) dX8_hasAll_13 (by decide) ?_
    refine wp_zreturn rfl (Or.inl rfl) dX8_hasAll_14 ?_
    first | exact bq_t hq h6 | exact bq_f hq h6
  · refine wp_iconst (v := 1) dX8_hasAll_9 (by decide) ?_
    refine wp_goto (tgt := 14) dX8_hasAll_10 (by decide) ?_
    refine wp_zreturn rfl (Or.inr rfl) dX8_hasAll_14 ?_
    first | exact bq_t hq h6 | exact bq_f hq h6
theorem in_of {x : Int32} {n : Nat} (hn : n < 2 ^ 31) (h : 0 ≤ x ∧ x < nI n) : ∃ j, j < n ∧ x = nI j := by
  rcases pk_ix x (n := n) hn with q | q | q
  · exact absurd h.1 (Int32.not_le.mpr q)
  · exact absurd h.2 (Int32.not_lt.mpr q)
  · exact q
theorem c_X8_setLame {d n : Nat} {ho : Nat → Nat} {x z : Int32} {H : PH} {Q : Option Value → PH → Prop} (hF : Fix H) (hS : HS H n ho) (hz : z = 0 ∨ z = 1) (hq1 : ∀ j, j < n → x = nI j → Q (some (.int 1)) (sI H (ho j) 4 z)) (hq2 : ¬ (0 ≤ x ∧ x < nI n) → Q (some (.int 0)) H) : Wp mX8_setLame (d + 1) 0 0 0 [some (.ref 2), some (.int x), some (.int z)] [] H Q := by
  obtain ⟨hn, h16, hr, hk, hl, hi⟩ := hS
  refine wp_aload_n dX8_setLame_0 rfl ?_
  refine wp_iload_n dX8_setLame_1 rfl ?_
  refine wp_callv1 (ci := 8) dX8_setLame_2 lk_RX8_38 ok_X8_has im_X8_has se_X8_has rfl rfl (fk_2 hF) (Nat.le_of_ble_eq_true rfl) (Nat.le_of_ble_eq_true rfl) ?_
  refine c_X8_has hF hn ?_
  refine wp_ifb_ne (tgt := 10) dX8_setLame_5 (by decide) (fun h5 => ?_) (fun h5 => ?_)
  · obtain ⟨j, hj, rfl⟩ := in_of (by omega) h5
    refine wp_aload_n dX8_setLame_10 rfl ?_
    refine wp_geta dX8_setLame_11 fl_RX8_11 rfl (fk_2 hF) (fr_2_0 hF) ?_
    refine wp_iload_n dX8_setLame_14 rfl ?_
    refine wp_aaloadA dX8_setLame_15 (fk_3 hF) (by decide) (by omega) (by decide) (hr j hj) ?_
    refine wp_iload_n dX8_setLame_16 rfl ?_
    refine wp_putz dX8_setLame_17 fl_RX8_42 (mp_2_4 _ _) rfl (hz) (hk j hj) ?_
    refine wp_iconst (v := 1) dX8_setLame_20 (by decide) ?_
    refine wp_zreturn rfl (Or.inr rfl) dX8_setLame_21 ?_
    exact hq1 j hj rfl
  · refine wp_iconst (v := 0) dX8_setLame_8 (by decide) ?_
    refine wp_zreturn rfl (Or.inl rfl) dX8_setLame_9 ?_
    exact hq2 h5
theorem c_X8_setSpans {d : Nat} {x z : Int32} {H : PH} {Q : Option Value → PH → Prop} (hF : Fix H) (hq1 : (0 ≤ x ∧ x ≤ 50) → (0 ≤ z ∧ z ≤ 10) → Q (some (.int 1)) (sI (sI H 2 3 x) 2 4 z)) (hq2 : ¬ ((0 ≤ x ∧ x ≤ 50) ∧ (0 ≤ z ∧ z ≤ 10)) → Q (some (.int 0)) H) : Wp mX8_setSpans (d + 1) 0 0 0 [some (.ref 2), some (.int x), some (.int z)] [] H Q := by
  refine wp_iload_n dX8_setSpans_0 rfl ?_
  refine wp_iconst (v := 0) dX8_setSpans_1 (by decide) ?_
  refine wp_bipush (v := 50) dX8_setSpans_2 (by decide) ?_
  refine wp_calls3 dX8_setSpans_4 lk_RX8_28 ok_X11_within st_X11_within (Nat.le_of_ble_eq_true rfl) (Nat.le_of_ble_eq_true rfl) ?_
  refine c_X11_within ?_
  refine wp_ifb_eq (tgt := 20) dX8_setSpans_7 (by decide) (fun h7 => ?_) (fun h7 => ?_)
  · refine wp_iconst (v := 0) dX8_setSpans_20 (by decide) ?_
    refine wp_zreturn rfl (Or.inl rfl) dX8_setSpans_21 ?_
    first | exact hq2 (fun q => h7 q.1) | exact hq2 (fun q => h17 q.2)
  · refine wp_iload_n dX8_setSpans_10 rfl ?_
    refine wp_iconst (v := 0) dX8_setSpans_11 (by decide) ?_
    refine wp_bipush (v := 10) dX8_setSpans_12 (by decide) ?_
    refine wp_calls3 dX8_setSpans_14 lk_RX8_28 ok_X11_within st_X11_within (Nat.le_of_ble_eq_true rfl) (Nat.le_of_ble_eq_true rfl) ?_
    refine c_X11_within ?_
    refine wp_ifb_ne (tgt := 22) dX8_setSpans_17 (by decide) (fun h17 => ?_) (fun h17 => ?_)
    · refine wp_aload_n dX8_setSpans_22 rfl ?_
      refine wp_iload_n dX8_setSpans_23 rfl ?_
      refine wp_puti dX8_setSpans_24 fl_RX8_21 (mp_8_3 _ _) rfl (fk_2 hF) ?_
      refine wp_aload_n dX8_setSpans_27 rfl ?_
      refine wp_iload_n dX8_setSpans_28 rfl ?_
      refine wp_puti dX8_setSpans_29 fl_RX8_25 (mp_8_4 _ _) rfl (fk_2 (Fix_sI hF)) ?_
      refine wp_iconst (v := 1) dX8_setSpans_32 (by decide) ?_
      refine wp_zreturn rfl (Or.inr rfl) dX8_setSpans_33 ?_
      exact hq1 h7 h17
    · refine wp_iconst (v := 0) dX8_setSpans_20 (by decide) ?_
      refine wp_zreturn rfl (Or.inl rfl) dX8_setSpans_21 ?_
      first | exact hq2 (fun q => h7 q.1) | exact hq2 (fun q => h17 q.2)
theorem c_X8_firstStrength {d n : Nat} {ho : Nat → Nat} {x : Int32} {H : PH} {Q : Option Value → PH → Prop} (hF : Fix H) (hS : HS H n ho) (hq1 : ∀ j, j < n → x = nI j → Q (some (.int (hI H (ho j) 3))) H) (hq2 : ¬ (0 ≤ x ∧ x < nI n) → Q (some (.int 0)) H) : Wp mX8_firstStrength (d + 1) 0 0 0 [some (.ref 2), some (.int x)] [] H Q := by
  obtain ⟨hn, h16, hr, hk, hl, hi⟩ := hS
  refine wp_aload_n dX8_firstStrength_0 rfl ?_
  refine wp_iload_n dX8_firstStrength_1 rfl ?_
  refine wp_callv1 (ci := 8) dX8_firstStrength_2 lk_RX8_38 ok_X8_has im_X8_has se_X8_has rfl rfl (fk_2 hF) (Nat.le_of_ble_eq_true rfl) (Nat.le_of_ble_eq_true rfl) ?_
  refine c_X8_has hF hn ?_
  refine wp_ifb_eq (tgt := 20) dX8_firstStrength_5 (by decide) (fun h5 => ?_) (fun h5 => ?_)
  · refine wp_iconst (v := 0) dX8_firstStrength_20 (by decide) ?_
    refine wp_ireturn rfl dX8_firstStrength_21 ?_
    first | exact hq1 j hj rfl | exact hq2 h5
  · obtain ⟨j, hj, rfl⟩ := in_of (by omega) h5
    refine wp_aload_n dX8_firstStrength_8 rfl ?_
    refine wp_geta dX8_firstStrength_9 fl_RX8_11 rfl (fk_2 hF) (fr_2_0 hF) ?_
    refine wp_iload_n dX8_firstStrength_12 rfl ?_
    refine wp_aaloadA dX8_firstStrength_13 (fk_3 hF) (by decide) (by omega) (by decide) (hr j hj) ?_
    refine wp_geti dX8_firstStrength_14 fl_RX8_46 rfl (hk j hj) ?_
    refine wp_goto (tgt := 21) dX8_firstStrength_17 (by decide) ?_
    refine wp_ireturn rfl dX8_firstStrength_21 ?_
    first | exact hq1 j hj rfl | exact hq2 h5
def dif (H : PH) (ho : Nat → Nat) (i j : Nat) : Int32 := absI (hI H (ho i) 1 - hI H (ho j) 1) + 5 * absI (hI H (ho i) 2 - hI H (ho j) 2)
theorem c_X8_difference {d n i j : Nat} {ho : Nat → Nat} {H : PH} {Q : Option Value → PH → Prop} (hF : Fix H) (hS : HS H n ho) (hi : i < n) (hj : j < n) (hq : Q (some (.int (dif H ho i j))) H) : Wp mX8_difference (d + 1) 0 0 0 [some (.ref 2), some (.int (nI i)), some (.int (nI j))] [] H Q := by
  obtain ⟨hn, h16, hr, hk, hl, -⟩ := hS
  have gi : 0 ≤ nI i ∧ nI i < nI n := ⟨nI_pos' (by omega), nI_lt hi (by omega)⟩
  have gj : 0 ≤ nI j ∧ nI j < nI n := ⟨nI_pos' (by omega), nI_lt hj (by omega)⟩
  refine wp_aload_n dX8_difference_0 rfl ?_
  refine wp_iload_n dX8_difference_1 rfl ?_
  refine wp_callv1 (ci := 8) dX8_difference_2 lk_RX8_38 ok_X8_has im_X8_has se_X8_has rfl rfl (fk_2 hF) (Nat.le_of_ble_eq_true rfl) (Nat.le_of_ble_eq_true rfl) ?_
  refine c_X8_has hF hn ?_
  refine wp_ifb_eq (tgt := 16) dX8_difference_5 (by decide) (fun h5 => absurd h5 (fun q => q gi)) (fun _ => ?_)
  refine wp_aload_n dX8_difference_8 rfl ?_
  refine wp_iload_n dX8_difference_9 rfl ?_
  refine wp_callv1 (ci := 8) dX8_difference_10 lk_RX8_38 ok_X8_has im_X8_has se_X8_has rfl rfl (fk_2 hF) (Nat.le_of_ble_eq_true rfl) (Nat.le_of_ble_eq_true rfl) ?_
  refine c_X8_has hF hn ?_
  refine wp_ifb_ne (tgt := 18) dX8_difference_13 (by decide) (fun _ => ?_) (fun h13 => absurd h13 (fun q => q gj))
  refine wp_aload_n dX8_difference_18 rfl ?_
  refine wp_geta dX8_difference_19 fl_RX8_11 rfl (fk_2 hF) (fr_2_0 hF) ?_
  refine wp_iload_n dX8_difference_22 rfl ?_
  refine wp_aaloadA dX8_difference_23 (fk_3 hF) (by decide) (by omega) (by decide) (hr i hi) ?_
  refine wp_geti dX8_difference_24 fl_RX8_49 rfl (hk i hi) ?_
  refine wp_aload_n dX8_difference_27 rfl ?_
  refine wp_geta dX8_difference_28 fl_RX8_11 rfl (fk_2 hF) (fr_2_0 hF) ?_
  refine wp_iload_n dX8_difference_31 rfl ?_
  refine wp_aaloadA dX8_difference_32 (fk_3 hF) (by decide) (by omega) (by decide) (hr j hj) ?_
  refine wp_geti dX8_difference_33 fl_RX8_49 rfl (hk j hj) ?_
  refine wp_isub dX8_difference_36 ?_
  refine wp_calls1 dX8_difference_37 lk_RX8_52 ok_J9_abs_0f7a4 st_J9_abs_0f7a4 (Nat.le_of_ble_eq_true rfl) (Nat.le_of_ble_eq_true rfl) ?_
  refine c_J9_abs_0f7a4 ?_
  refine wp_iconst (v := 5) dX8_difference_40 (by decide) ?_
  refine wp_aload_n dX8_difference_41 rfl ?_
  refine wp_geta dX8_difference_42 fl_RX8_11 rfl (fk_2 hF) (fr_2_0 hF) ?_
  refine wp_iload_n dX8_difference_45 rfl ?_
  refine wp_aaloadA dX8_difference_46 (fk_3 hF) (by decide) (by omega) (by decide) (hr i hi) ?_
  refine wp_geti dX8_difference_47 fl_RX8_58 rfl (hk i hi) ?_
  refine wp_aload_n dX8_difference_50 rfl ?_
  refine wp_geta dX8_difference_51 fl_RX8_11 rfl (fk_2 hF) (fr_2_0 hF) ?_
  refine wp_iload_n dX8_difference_54 rfl ?_
  refine wp_aaloadA dX8_difference_55 (fk_3 hF) (by decide) (by omega) (by decide) (hr j hj) ?_
  refine wp_geti dX8_difference_56 fl_RX8_58 rfl (hk j hj) ?_
  refine wp_isub dX8_difference_59 ?_
  refine wp_calls1 dX8_difference_60 lk_RX8_52 ok_J9_abs_0f7a4 st_J9_abs_0f7a4 (Nat.le_of_ble_eq_true rfl) (Nat.le_of_ble_eq_true rfl) ?_
  refine c_J9_abs_0f7a4 ?_
  refine wp_imul dX8_difference_63 ?_
  refine wp_iadd dX8_difference_64 ?_
  refine wp_ireturn rfl dX8_difference_65 ?_
  exact hq
abbrev alk (H : PH) (ho : Nat → Nat) (i j : Nat) : Prop := hI H (ho i) 0 = hI H (ho j) 0 ∧ absI (hI H (ho i) 1 - hI H (ho j) 1) ≤ hI H 2 3 ∧ absI (hI H (ho i) 2 - hI H (ho j) 2) ≤ hI H 2 4
theorem c_X8_alike {d i j : Nat} {ho : Nat → Nat} {H : PH} {Q : Option Value → PH → Prop} (hF : Fix H) (hi : hK H (ho i) = (3, 5)) (hj : hK H (ho j) = (3, 5)) (hq : Q (some (.int (bI (alk H ho i j)))) H) : Wp mX8_alike (d + 1) 0 0 0 [some (.ref 2), some (.ref (ho i)), some (.ref (ho j))] [] H Q := by
  refine wp_aload_n dX8_alike_0 rfl ?_
  refine wp_geti dX8_alike_1 fl_RX8_69 rfl (hi) ?_
  refine wp_aload_n dX8_alike_4 rfl ?_
  refine wp_geti dX8_alike_5 fl_RX8_69 rfl (hj) ?_
  refine wp_icmp_ne (tgt := 53) dX8_alike_8 (by decide) (fun h8 => ?_) (fun h8 => ?_)
  · refine wp_iconst (v := 0) dX8_alike_53 (by decide) ?_
    refine wp_zreturn rfl (Or.inl rfl) dX8_alike_54 ?_
    first | exact bq_t hq ⟨h8, Int32.not_lt.mp h27, Int32.not_lt.mp h46⟩ | exact bq_f hq (fun q => h8 q.1) | exact bq_f hq (fun q => absurd h27 (Int32.not_lt.mpr q.2.1)) | exact bq_f hq (fun q => absurd h46 (Int32.not_lt.mpr q.2.2))
  · refine wp_aload_n dX8_alike_11 rfl ?_
    refine wp_geti dX8_alike_12 fl_RX8_49 rfl (hi) ?_
    refine wp_aload_n dX8_alike_15 rfl ?_
    refine wp_geti dX8_alike_16 fl_RX8_49 rfl (hj) ?_
    refine wp_isub dX8_alike_19 ?_
    refine wp_calls1 dX8_alike_20 lk_RX8_52 ok_J9_abs_0f7a4 st_J9_abs_0f7a4 (Nat.le_of_ble_eq_true rfl) (Nat.le_of_ble_eq_true rfl) ?_
    refine c_J9_abs_0f7a4 ?_
    refine wp_aload_n dX8_alike_23 rfl ?_
    refine wp_geti dX8_alike_24 fl_RX8_21 rfl (fk_2 hF) ?_
    refine wp_icmp_gt (tgt := 53) dX8_alike_27 (by decide) (fun h27 => ?_) (fun h27 => ?_)
    · refine wp_iconst (v := 0) dX8_alike_53 (by decide) ?_
      refine wp_zreturn rfl (Or.inl rfl) dX8_alike_54 ?_
      first | exact bq_t hq ⟨h8, Int32.not_lt.mp h27, Int32.not_lt.mp h46⟩ | exact bq_f hq (fun q => h8 q.1) | exact bq_f hq (fun q => absurd h27 (Int32.not_lt.mpr q.2.1)) | exact bq_f hq (fun q => absurd h46 (Int32.not_lt.mpr q.2.2))
    · refine wp_aload_n dX8_alike_30 rfl ?_
      refine wp_geti dX8_alike_31 fl_RX8_58 rfl (hi) ?_
      refine wp_aload_n dX8_alike_34 rfl ?_
      refine wp_geti dX8_alike_35 fl_RX8_58 rfl (hj) ?_
      refine wp_isub dX8_alike_38 ?_
      refine wp_calls1 dX8_alike_39 lk_RX8_52 ok_J9_abs_0f7a4 st_J9_abs_0f7a4 (Nat.le_of_ble_eq_true rfl) (Nat.le_of_ble_eq_true rfl) ?_
      refine c_J9_abs_0f7a4 ?_
      refine wp_aload_n dX8_alike_42 rfl ?_
      refine wp_geti dX8_alike_43 fl_RX8_25 rfl (fk_2 hF) ?_
      refine wp_icmp_gt (tgt := 53) dX8_alike_46 (by decide) (fun h46 => ?_) (fun h46 => ?_)
      · refine wp_iconst (v := 0) dX8_alike_53 (by decide) ?_
        refine wp_zreturn rfl (Or.inl rfl) dX8_alike_54 ?_
        first | exact bq_t hq ⟨h8, Int32.not_lt.mp h27, Int32.not_lt.mp h46⟩ | exact bq_f hq (fun q => h8 q.1) | exact bq_f hq (fun q => absurd h27 (Int32.not_lt.mpr q.2.1)) | exact bq_f hq (fun q => absurd h46 (Int32.not_lt.mpr q.2.2))
      · refine wp_iconst (v := 1) dX8_alike_49 (by decide) ?_
        refine wp_goto (tgt := 54) dX8_alike_50 (by decide) ?_
        refine wp_zreturn rfl (Or.inr rfl) dX8_alike_54 ?_
        first | exact bq_t hq ⟨h8, Int32.not_lt.mp h27, Int32.not_lt.mp h46⟩ | exact bq_f hq (fun q => h8 q.1) | exact bq_f hq (fun q => absurd h27 (Int32.not_lt.mpr q.2.1)) | exact bq_f hq (fun q => absurd h46 (Int32.not_lt.mpr q.2.2))
