/-! ===== the reference's WAYS and JOBS ===== -/
theorem sw_3 (x : Int32) : x = 0 ∨ x = 1 ∨ x = 2 ∨ x = 3 ∨ (x.toInt < 0 ∨ 3 < x.toInt) := by
  by_cases h : x.toInt < 0 ∨ 3 < x.toInt
  · exact Or.inr (Or.inr (Or.inr (Or.inr h)))
  · have h0 : x.toInt = 0 ∨ x.toInt = 1 ∨ x.toInt = 2 ∨ x.toInt = 3 := by omega
    rcases h0 with h | h | h | h
    · exact Or.inl (Int32.toInt_inj.mp h)
    · exact Or.inr (Or.inl (Int32.toInt_inj.mp h))
    · exact Or.inr (Or.inr (Or.inl (Int32.toInt_inj.mp h)))
    · exact Or.inr (Or.inr (Or.inr (Or.inl (Int32.toInt_inj.mp h))))
theorem c_X12_isPlace {d : Nat} {a : Int32} {H : PH} {Q : Option Value → PH → Prop} (hq : Q (some (.int (bI (0 ≤ a ∧ a < 8)))) H) : Wp mX12_isPlace d 0 0 0 [some (.int a)] [] H Q := by
  refine wp_iload_n dX12_isPlace_0 rfl ?_
  refine wp_if_lt (tgt := 14) dX12_isPlace_1 (by decide) (fun h1 => ?_) (fun h1 => ?_)
  · refine wp_iconst (v := 0) dX12_isPlace_14 (by decide) ?_
    refine wp_zreturn rfl (Or.inl rfl) dX12_isPlace_15 ?_
    first | exact bq_t hq ⟨Int32.not_lt.mp h1, Int32.not_le.mp h7⟩ | exact bq_f hq (fun q => absurd h1 (Int32.not_lt.mpr q.1)) | exact bq_f hq (fun q => absurd h7 (Int32.not_le.mpr q.2))
  · refine wp_iload_n dX12_isPlace_4 rfl ?_
    refine wp_bipush (v := 8) dX12_isPlace_5 (by decide) ?_
    refine wp_icmp_ge (tgt := 14) dX12_isPlace_7 (by decide) (fun h7 => ?_) (fun h7 => ?_)
    · refine wp_iconst (v := 0) dX12_isPlace_14 (by decide) ?_
      refine wp_zreturn rfl (Or.inl rfl) dX12_isPlace_15 ?_
      first | exact bq_t hq ⟨Int32.not_lt.mp h1, Int32.not_le.mp h7⟩ | exact bq_f hq (fun q => absurd h1 (Int32.not_lt.mpr q.1)) | exact bq_f hq (fun q => absurd h7 (Int32.not_le.mpr q.2))
    · refine wp_iconst (v := 1) dX12_isPlace_10 (by decide) ?_
      refine wp_goto (tgt := 15) dX12_isPlace_11 (by decide) ?_
      refine wp_zreturn rfl (Or.inr rfl) dX12_isPlace_15 ?_
      first | exact bq_t hq ⟨Int32.not_lt.mp h1, Int32.not_le.mp h7⟩ | exact bq_f hq (fun q => absurd h1 (Int32.not_lt.mpr q.1)) | exact bq_f hq (fun q => absurd h7 (Int32.not_le.mpr q.2))
theorem pl_of' {a : Int32} (h : 0 ≤ a ∧ a < 8) : ∃ j, j < 8 ∧ a = nI j := in_of (n := 8) (by decide) h
def mwy (H : PH) (a b : Nat) : Int32 := hI H 39 (a * 8 + b)
theorem c_X12_wayOf {d a b : Nat} {H : PH} {Q : Option Value → PH → Prop} (hF : Fix H) (ha : a < 8) (hb : b < 8) (hq : Q (some (.int (mwy H a b))) H) : Wp mX12_wayOf d 0 0 0 [some (.ref 33), some (.int (nI a)), some (.int (nI b))] [] H Q := by
  refine wp_aload_n dX12_wayOf_0 rfl ?_
  refine wp_geta dX12_wayOf_1 fl_RX12_36 rfl (fk_33 hF) (fr_33_10 hF) ?_
  refine wp_bipush (v := 8) dX12_wayOf_4 (by decide) ?_
  refine wp_iload_n dX12_wayOf_6 rfl ?_
  refine wp_imul dX12_wayOf_7 ?_
  refine wp_iload_n dX12_wayOf_8 rfl ?_
  refine wp_iadd dX12_wayOf_9 ?_
  rw [nI_8']
  refine wp_ialoadN dX12_wayOf_10 (fk_39 hF) (by omega) (by decide) ?_
  refine wp_ireturn rfl dX12_wayOf_11 ?_
  exact hq
def mwNew (H : PH) (a b : Nat) (v : Int32) : PH := sI (sI H 39 (a * 8 + b) v) 39 (b * 8 + a) v
theorem c_X12_way {d : Nat} {a b v : Int32} {H : PH} {Q : Option Value → PH → Prop} (hF : Fix H)
    (hq1 : ∀ i j, i < 8 → j < 8 → i ≠ j → a = nI i → b = nI j → (0 ≤ v ∧ v ≤ 300) → Q (some (.int 1)) (mwNew H i j v))
    (hq2 : ¬ ((0 ≤ a ∧ a < 8) ∧ (0 ≤ b ∧ b < 8) ∧ a ≠ b ∧ (0 ≤ v ∧ v ≤ 300)) → Q (some (.int 0)) H) : Wp mX12_way (d + 1) 0 0 0 [some (.ref 33), some (.int a), some (.int b), some (.int v)] [] H Q := by
  refine wp_iload_n dX12_way_0 rfl ?_
  refine wp_calls1 dX12_way_1 lk_RX12_139 ok_X12_isPlace st_X12_isPlace (Nat.le_of_ble_eq_true rfl) (Nat.le_of_ble_eq_true rfl) ?_
  refine c_X12_isPlace ?_
  refine wp_ifb_eq (tgt := 30) dX12_way_4 (by decide) (fun h4 => ?_) (fun h4 => ?_)
  · refine wp_iconst (v := 0) dX12_way_30 (by decide) ?_
    refine wp_zreturn rfl (Or.inl rfl) dX12_way_31 ?_
    refine hq2 (fun q => ?_)
    first | exact h4 q.1 | exact h11 q.2.1 | exact q.2.2.1 h16 | exact absurd h20 (Int32.not_lt.mpr q.2.2.2.1) | exact absurd q.2.2.2.2 h27
  · refine wp_iload_n dX12_way_7 rfl ?_
    refine wp_calls1 dX12_way_8 lk_RX12_139 ok_X12_isPlace st_X12_isPlace (Nat.le_of_ble_eq_true rfl) (Nat.le_of_ble_eq_true rfl) ?_
    refine c_X12_isPlace ?_
    refine wp_ifb_eq (tgt := 30) dX12_way_11 (by decide) (fun h11 => ?_) (fun h11 => ?_)
    · refine wp_iconst (v := 0) dX12_way_30 (by decide) ?_
      refine wp_zreturn rfl (Or.inl rfl) dX12_way_31 ?_
      refine hq2 (fun q => ?_)
      first | exact h4 q.1 | exact h11 q.2.1 | exact q.2.2.1 h16 | exact absurd h20 (Int32.not_lt.mpr q.2.2.2.1) | exact absurd q.2.2.2.2 h27
    · refine wp_iload_n dX12_way_14 rfl ?_
      refine wp_iload_n dX12_way_15 rfl ?_
      refine wp_icmp_eq (tgt := 30) dX12_way_16 (by decide) (fun h16 => ?_) (fun h16 => ?_)
      · refine wp_iconst (v := 0) dX12_way_30 (by decide) ?_
        refine wp_zreturn rfl (Or.inl rfl) dX12_way_31 ?_
        refine hq2 (fun q => ?_)
        first | exact h4 q.1 | exact h11 q.2.1 | exact q.2.2.1 h16 | exact absurd h20 (Int32.not_lt.mpr q.2.2.2.1) | exact absurd q.2.2.2.2 h27
      · refine wp_iload_n dX12_way_19 rfl ?_
        refine wp_if_lt (tgt := 30) dX12_way_20 (by decide) (fun h20 => ?_) (fun h20 => ?_)
        · refine wp_iconst (v := 0) dX12_way_30 (by decide) ?_
          refine wp_zreturn rfl (Or.inl rfl) dX12_way_31 ?_
          refine hq2 (fun q => ?_)
          first | exact h4 q.1 | exact h11 q.2.1 | exact q.2.2.1 h16 | exact absurd h20 (Int32.not_lt.mpr q.2.2.2.1) | exact absurd q.2.2.2.2 h27
        · refine wp_iload_n dX12_way_23 rfl ?_
          refine wp_sipush (v := 300) dX12_way_24 (by decide) ?_
          refine wp_icmp_le (tgt := 32) dX12_way_27 (by decide) (fun h27 => ?_) (fun h27 => ?_)
          · obtain ⟨i, hi, rfl⟩ := pl_of' h4
            obtain ⟨j, hj, rfl⟩ := pl_of' h11
            refine wp_aload_n dX12_way_32 rfl ?_
            refine wp_geta dX12_way_33 fl_RX12_36 rfl (fk_33 hF) (fr_33_10 hF) ?_
            refine wp_bipush (v := 8) dX12_way_36 (by decide) ?_
            refine wp_iload_n dX12_way_38 rfl ?_
            refine wp_imul dX12_way_39 ?_
            refine wp_iload_n dX12_way_40 rfl ?_
            refine wp_iadd dX12_way_41 ?_
            rw [nI_8']
            refine wp_iload_n dX12_way_42 rfl ?_
            refine wp_iastoreN dX12_way_43 (fk_39 hF) (by omega) (by decide) ?_
            refine wp_aload_n dX12_way_44 rfl ?_
            refine wp_geta dX12_way_45 fl_RX12_36 rfl (fk_33 (Fix_sI hF)) (fr_33_10 (Fix_sI hF)) ?_
            refine wp_bipush (v := 8) dX12_way_48 (by decide) ?_
            refine wp_iload_n dX12_way_50 rfl ?_
            refine wp_imul dX12_way_51 ?_
            refine wp_iload_n dX12_way_52 rfl ?_
            refine wp_iadd dX12_way_53 ?_
            rw [nI_8']
            refine wp_iload_n dX12_way_54 rfl ?_
            refine wp_iastoreN dX12_way_55 (fk_39 (Fix_sI hF)) (by omega) (by decide) ?_
            refine wp_iconst (v := 1) dX12_way_56 (by decide) ?_
            refine wp_zreturn rfl (Or.inr rfl) dX12_way_57 ?_
            exact hq1 i j hi hj (fun q => h16 (by rw [q])) rfl rfl ⟨Int32.not_lt.mp h20, h27⟩
          · refine wp_iconst (v := 0) dX12_way_30 (by decide) ?_
            refine wp_zreturn rfl (Or.inl rfl) dX12_way_31 ?_
            refine hq2 (fun q => ?_)
            first | exact h4 q.1 | exact h11 q.2.1 | exact q.2.2.1 h16 | exact absurd h20 (Int32.not_lt.mpr q.2.2.2.1) | exact absurd q.2.2.2.2 h27
theorem c_X12_carriages {d : Nat} {a : Int32} {H : PH} {Q : Option Value → PH → Prop} (hF : Fix H) (hq1 : (1 ≤ a ∧ a ≤ 6) → Q (some (.int 1)) (sI H 33 3 a)) (hq2 : ¬ (1 ≤ a ∧ a ≤ 6) → Q (some (.int 0)) H) : Wp mX12_carriages d 0 0 0 [some (.ref 33), some (.int a)] [] H Q := by
  refine wp_iload_n dX12_carriages_0 rfl ?_
  refine wp_iconst (v := 1) dX12_carriages_1 (by decide) ?_
  refine wp_icmp_lt (tgt := 11) dX12_carriages_2 (by decide) (fun h2 => ?_) (fun h2 => ?_)
  · refine wp_iconst (v := 0) dX12_carriages_11 (by decide) ?_
    refine wp_zreturn rfl (Or.inl rfl) dX12_carriages_12 ?_
    first | exact hq2 (fun q => absurd h2 (Int32.not_lt.mpr q.1)) | exact hq2 (fun q => h8 q.2)
  · refine wp_iload_n dX12_carriages_5 rfl ?_
    refine wp_bipush (v := 6) dX12_carriages_6 (by decide) ?_
    refine wp_icmp_le (tgt := 13) dX12_carriages_8 (by decide) (fun h8 => ?_) (fun h8 => ?_)
    · refine wp_aload_n dX12_carriages_13 rfl ?_
      refine wp_iload_n dX12_carriages_14 rfl ?_
      refine wp_puti dX12_carriages_15 fl_RX12_16 (mp_12_3 _ _) rfl (fk_33 hF) ?_
      refine wp_iconst (v := 1) dX12_carriages_18 (by decide) ?_
      refine wp_zreturn rfl (Or.inr rfl) dX12_carriages_19 ?_
      exact hq1 ⟨Int32.not_lt.mp h2, h8⟩
    · refine wp_iconst (v := 0) dX12_carriages_11 (by decide) ?_
      refine wp_zreturn rfl (Or.inl rfl) dX12_carriages_12 ?_
      first | exact hq2 (fun q => absurd h2 (Int32.not_lt.mpr q.1)) | exact hq2 (fun q => h8 q.2)
theorem c_X12_need {d : Nat} {a : Int32} {H : PH} {Q : Option Value → PH → Prop} (hF : Fix H) (hq1 : (0 ≤ a ∧ a ≤ 500) → Q (some (.int 1)) (sI H 33 4 a)) (hq2 : ¬ (0 ≤ a ∧ a ≤ 500) → Q (some (.int 0)) H) : Wp mX12_need d 0 0 0 [some (.ref 33), some (.int a)] [] H Q := by
  refine wp_iload_n dX12_need_0 rfl ?_
  refine wp_if_lt (tgt := 11) dX12_need_1 (by decide) (fun h1 => ?_) (fun h1 => ?_)
  · refine wp_iconst (v := 0) dX12_need_11 (by decide) ?_
    refine wp_zreturn rfl (Or.inl rfl) dX12_need_12 ?_
    first | exact hq2 (fun q => absurd h1 (Int32.not_lt.mpr q.1)) | exact hq2 (fun q => h8 q.2)
  · refine wp_iload_n dX12_need_4 rfl ?_
    refine wp_sipush (v := 500) dX12_need_5 (by decide) ?_
    refine wp_icmp_le (tgt := 13) dX12_need_8 (by decide) (fun h8 => ?_) (fun h8 => ?_)
    · refine wp_aload_n dX12_need_13 rfl ?_
      refine wp_iload_n dX12_need_14 rfl ?_
      refine wp_puti dX12_need_15 fl_RX12_142 (mp_12_4 _ _) rfl (fk_33 hF) ?_
      refine wp_iconst (v := 1) dX12_need_18 (by decide) ?_
      refine wp_zreturn rfl (Or.inr rfl) dX12_need_19 ?_
      exact hq1 ⟨Int32.not_lt.mp h1, h8⟩
    · refine wp_iconst (v := 0) dX12_need_11 (by decide) ?_
      refine wp_zreturn rfl (Or.inl rfl) dX12_need_12 ?_
      first | exact hq2 (fun q => absurd h1 (Int32.not_lt.mpr q.1)) | exact hq2 (fun q => h8 q.2)
/-- the reference's JOBS -/
def MJ (H : PH) (m : Nat) (fr tt : Nat → Nat) : Prop := hI H 33 11 = nI m ∧ m ≤ 10 ∧ (∀ i, i < m → hI H 41 i = nI (fr i) ∧ fr i < 8) ∧ ∀ i, i < m → hI H 42 i = nI (tt i) ∧ tt i < 8
theorem c_X12_isJob {d m : Nat} {x : Int32} {H : PH} {Q : Option Value → PH → Prop} (hF : Fix H) (hn : hI H 33 11 = nI m) (hq : Q (some (.int (bI (0 ≤ x ∧ x < nI m)))) H) : Wp mX12_isJob d 0 0 0 [some (.ref 33), some (.int x)] [] H Q := by
  refine wp_iload_n dX12_isJob_0 rfl ?_
  refine wp_if_lt (tgt := 16) dX12_isJob_1 (by decide) (fun h1 => ?_) (fun h1 => ?_)
  · refine wp_iconst (v := 0) dX12_isJob_16 (by decide) ?_
    refine wp_zreturn rfl (Or.inl rfl) dX12_isJob_17 ?_
    first | exact bq_t hq ⟨Int32.not_lt.mp h1, Int32.not_le.mp h9⟩ | exact bq_f hq (fun q => absurd h1 (Int32.not_lt.mpr q.1)) | exact bq_f hq (fun q => absurd h9 (Int32.not_le.mpr q.2))
  · refine wp_iload_n dX12_isJob_4 rfl ?_
    refine wp_aload_n dX12_isJob_5 rfl ?_
    refine wp_geti dX12_isJob_6 fl_RX12_159 rfl (fk_33 hF) ?_
    rw [hn]
    refine wp_icmp_ge (tgt := 16) dX12_isJob_9 (by decide) (fun h9 => ?_) (fun h9 => ?_)
    · refine wp_iconst (v := 0) dX12_isJob_16 (by decide) ?_
      refine wp_zreturn rfl (Or.inl rfl) dX12_isJob_17 ?_
      first | exact bq_t hq ⟨Int32.not_lt.mp h1, Int32.not_le.mp h9⟩ | exact bq_f hq (fun q => absurd h1 (Int32.not_lt.mpr q.1)) | exact bq_f hq (fun q => absurd h9 (Int32.not_le.mpr q.2))
    · refine wp_iconst (v := 1) dX12_isJob_12 (by decide) ?_
      refine wp_goto (tgt := 17) dX12_isJob_13 (by decide) ?_
      refine wp_zreturn rfl (Or.inr rfl) dX12_isJob_17 ?_
      first | exact bq_t hq ⟨Int32.not_lt.mp h1, Int32.not_le.mp h9⟩ | exact bq_f hq (fun q => absurd h1 (Int32.not_lt.mpr q.1)) | exact bq_f hq (fun q => absurd h9 (Int32.not_le.mpr q.2))
def mOn (H : PH) (m : Nat) (x : Int32) : Prop := ∃ j, j < m ∧ x = nI j ∧ hI H 47 j = 0
theorem c_X12_isOn {d m : Nat} {x : Int32} {H : PH} {Q : Option Value → PH → Prop} (hF : Fix H) (hn : hI H 33 11 = nI m) (h10 : m ≤ 10) (hq : Q (some (.int (bI (mOn H m x)))) H) : Wp mX12_isOn (d + 1) 0 0 0 [some (.ref 33), some (.int x)] [] H Q := by
  refine wp_aload_n dX12_isOn_0 rfl ?_
  refine wp_iload_n dX12_isOn_1 rfl ?_
  refine wp_callv1 (ci := 12) dX12_isOn_2 lk_RX12_166 ok_X12_isJob im_X12_isJob se_X12_isJob rfl rfl (fk_33 hF) (Nat.le_of_ble_eq_true rfl) (Nat.le_of_ble_eq_true rfl) ?_
  refine c_X12_isJob hF hn ?_
  refine wp_ifb_eq (tgt := 21) dX12_isOn_5 (by decide) (fun h5 => ?_) (fun h5 => ?_)
  · refine wp_iconst (v := 0) dX12_isOn_21 (by decide) ?_
    refine wp_zreturn rfl (Or.inl rfl) dX12_isOn_22 ?_
    first
        | exact bq_t hq ⟨j, hj, rfl, h14⟩
        | exact bq_f hq (fun ⟨j', q1, q2, q3⟩ => by
            have e9 : j' = j := (nI_eq (by omega) (by omega)).mp q2.symm
            subst e9; exact h14 q3)
        | exact bq_f hq (fun ⟨j', q1, q2, q3⟩ => h5 ⟨by rw [q2]; exact nI_pos' (by omega), by rw [q2]; exact nI_lt q1 (by omega)⟩)
  · obtain ⟨j, hj, rfl⟩ := in_of (n := m) (by omega) h5
    refine wp_aload_n dX12_isOn_8 rfl ?_
    refine wp_geta dX12_isOn_9 fl_RX12_60 rfl (fk_33 hF) (fr_33_19 hF) ?_
    refine wp_iload_n dX12_isOn_12 rfl ?_
    refine wp_baloadN dX12_isOn_13 (fk_47 hF) (by decide) (by omega) (by decide) ?_
    refine wp_if_ne (tgt := 21) dX12_isOn_14 (by decide) (fun h14 => ?_) (fun h14 => ?_)
    · refine wp_iconst (v := 0) dX12_isOn_21 (by decide) ?_
      refine wp_zreturn rfl (Or.inl rfl) dX12_isOn_22 ?_
      first
          | exact bq_t hq ⟨j, hj, rfl, h14⟩
          | exact bq_f hq (fun ⟨j', q1, q2, q3⟩ => by
              have e9 : j' = j := (nI_eq (by omega) (by omega)).mp q2.symm
              subst e9; exact h14 q3)
          | exact bq_f hq (fun ⟨j', q1, q2, q3⟩ => h5 ⟨by rw [q2]; exact nI_pos' (by omega), by rw [q2]; exact nI_lt q1 (by omega)⟩)
    · refine wp_iconst (v := 1) dX12_isOn_17 (by decide) ?_
      refine wp_goto (tgt := 22) dX12_isOn_18 (by decide) ?_
      refine wp_zreturn rfl (Or.inr rfl) dX12_isOn_22 ?_
      first
          | exact bq_t hq ⟨j, hj, rfl, h14⟩
          | exact bq_f hq (fun ⟨j', q1, q2, q3⟩ => by
              have e9 : j' = j := (nI_eq (by omega) (by omega)).mp q2.symm
              subst e9; exact h14 q3)
          | exact bq_f hq (fun ⟨j', q1, q2, q3⟩ => h5 ⟨by rw [q2]; exact nI_pos' (by omega), by rw [q2]; exact nI_lt q1 (by omega)⟩)
theorem c_X12_drop {d m : Nat} {x : Int32} {H : PH} {Q : Option Value → PH → Prop} (hF : Fix H) (hn : hI H 33 11 = nI m) (h10 : m ≤ 10) (hq1 : ∀ j, j < m → x = nI j → hI H 47 j = 0 → Q (some (.int 1)) (sI H 47 j 1)) (hq2 : ¬ mOn H m x → Q (some (.int 0)) H) : Wp mX12_drop (d + 2) 0 0 0 [some (.ref 33), some (.int x)] [] H Q := by
  refine wp_aload_n dX12_drop_0 rfl ?_
  refine wp_iload_n dX12_drop_1 rfl ?_
  refine wp_callv1 (ci := 12) dX12_drop_2 lk_RX12_169 ok_X12_isOn im_X12_isOn se_X12_isOn rfl rfl (fk_33 hF) (Nat.le_of_ble_eq_true rfl) (Nat.le_of_ble_eq_true rfl) ?_
  refine c_X12_isOn hF hn h10 ?_
  refine wp_ifb_ne (tgt := 10) dX12_drop_5 (by decide) (fun h5 => ?_) (fun h5 => ?_)
  · obtain ⟨j, hj, rfl, hd⟩ := h5
    refine wp_aload_n dX12_drop_10 rfl ?_
    refine wp_geta dX12_drop_11 fl_RX12_60 rfl (fk_33 hF) (fr_33_19 hF) ?_
    refine wp_iload_n dX12_drop_14 rfl ?_
    refine wp_iconst (v := 1) dX12_drop_15 (by decide) ?_
    refine wp_zastoreN dX12_drop_16 (fk_47 hF) (Or.inr rfl) (by omega) (by decide) ?_
    refine wp_iconst (v := 1) dX12_drop_17 (by decide) ?_
    refine wp_zreturn rfl (Or.inr rfl) dX12_drop_18 ?_
    exact hq1 j hj rfl hd
  · refine wp_iconst (v := 0) dX12_drop_8 (by decide) ?_
    refine wp_zreturn rfl (Or.inl rfl) dX12_drop_9 ?_
    exact hq2 h5
theorem c_X12_drive {d m i : Nat} {fr tt : Nat → Nat} {H : PH} {Q : Option Value → PH → Prop} (hF : Fix H) (hM : MJ H m fr tt) (hi : i < m) (hq : Q (some (.int (mwy H (fr i) (tt i)))) H) : Wp mX12_drive (d + 1) 0 0 0 [some (.ref 33), some (.int (nI i))] [] H Q := by
  obtain ⟨hn, h10, hf, ht⟩ := hM
  refine wp_aload_n dX12_drive_0 rfl ?_
  refine wp_aload_n dX12_drive_1 rfl ?_
  refine wp_geta dX12_drive_2 fl_RX12_42 rfl (fk_33 hF) (fr_33_13 hF) ?_
  refine wp_iload_n dX12_drive_5 rfl ?_
  refine wp_ialoadN dX12_drive_6 (fk_41 hF) (by omega) (by decide) ?_
  rw [(hf i hi).1]
  refine wp_aload_n dX12_drive_7 rfl ?_
  refine wp_geta dX12_drive_8 fl_RX12_45 rfl (fk_33 hF) (fr_33_14 hF) ?_
  refine wp_iload_n dX12_drive_11 rfl ?_
  refine wp_ialoadN dX12_drive_12 (fk_42 hF) (by omega) (by decide) ?_
  rw [(ht i hi).1]
  refine wp_callv2 (ci := 12) dX12_drive_13 lk_RX12_172 ok_X12_wayOf im_X12_wayOf se_X12_wayOf rfl rfl (fk_33 hF) (Nat.le_of_ble_eq_true rfl) (Nat.le_of_ble_eq_true rfl) ?_
  refine c_X12_wayOf hF (hf i hi).2 (ht i hi).2 ?_
  refine wp_ireturn rfl dX12_drive_16 ?_
  exact hq
def mEnd (H : PH) (fr tt : Nat → Nat) (i : Nat) : Int32 := hI H 43 i + mwy H (fr i) (tt i) + hI H 44 i
theorem c_X12_endOf {d m i : Nat} {fr tt : Nat → Nat} {H : PH} {Q : Option Value → PH → Prop} (hF : Fix H) (hM : MJ H m fr tt) (hi : i < m) (hq : Q (some (.int (mEnd H fr tt i))) H) : Wp mX12_endOf (d + 2) 0 0 0 [some (.ref 33), some (.int (nI i))] [] H Q := by
  have h10 := hM.2.1
  refine wp_aload_n dX12_endOf_0 rfl ?_
  refine wp_geta dX12_endOf_1 fl_RX12_48 rfl (fk_33 hF) (fr_33_15 hF) ?_
  refine wp_iload_n dX12_endOf_4 rfl ?_
  refine wp_ialoadN dX12_endOf_5 (fk_43 hF) (by omega) (by decide) ?_
  refine wp_aload_n dX12_endOf_6 rfl ?_
  refine wp_iload_n dX12_endOf_7 rfl ?_
  refine wp_callv1 (ci := 12) dX12_endOf_8 lk_RX12_175 ok_X12_drive im_X12_drive se_X12_drive rfl rfl (fk_33 hF) (Nat.le_of_ble_eq_true rfl) (Nat.le_of_ble_eq_true rfl) ?_
  refine c_X12_drive hF hM hi ?_
  refine wp_iadd dX12_endOf_11 ?_
  refine wp_aload_n dX12_endOf_12 rfl ?_
  refine wp_geta dX12_endOf_13 fl_RX12_51 rfl (fk_33 hF) (fr_33_16 hF) ?_
  refine wp_iload_n dX12_endOf_16 rfl ?_
  refine wp_ialoadN dX12_endOf_17 (fk_44 hF) (by omega) (by decide) ?_
  refine wp_iadd dX12_endOf_18 ?_
  refine wp_ireturn rfl dX12_endOf_19 ?_
  exact hq
abbrev mFol (H : PH) (fr tt : Nat → Nat) (i j : Nat) : Prop := mEnd H fr tt i + mwy H (tt i) (fr j) ≤ hI H 43 j
theorem c_X12_isBehind {d m i j : Nat} {fr tt : Nat → Nat} {H : PH} {Q : Option Value → PH → Prop} (hF : Fix H) (hM : MJ H m fr tt) (hi : i < m) (hj : j < m) (hq : Q (some (.int (bI (i ≠ j ∧ mFol H fr tt i j)))) H) : Wp mX12_isBehind (d + 3) 0 0 0 [some (.ref 33), some (.int (nI i)), some (.int (nI j))] [] H Q := by
  have hM0 := hM
  obtain ⟨hn, h10, hf, ht⟩ := hM
  refine wp_iload_n dX12_isBehind_0 rfl ?_
  refine wp_iload_n dX12_isBehind_1 rfl ?_
  refine wp_icmp_eq (tgt := 40) dX12_isBehind_2 (by decide) (fun h2 => ?_) (fun h2 => ?_)
  · refine wp_iconst (v := 0) dX12_isBehind_40 (by decide) ?_
    refine wp_zreturn rfl (Or.inl rfl) dX12_isBehind_41 ?_
    first | exact bq_t hq ⟨fun q => h2 (by rw [q]), Int32.not_lt.mp h33⟩ | exact bq_f hq (fun q => q.1 ((nI_eq (by omega) (by omega)).mp h2)) | exact bq_f hq (fun q => absurd q.2 (Int32.not_le.mpr h33))
  · refine wp_aload_n dX12_isBehind_5 rfl ?_
    refine wp_iload_n dX12_isBehind_6 rfl ?_
    refine wp_callv1 (ci := 12) dX12_isBehind_7 lk_RX12_178 ok_X12_endOf im_X12_endOf se_X12_endOf rfl rfl (fk_33 hF) (Nat.le_of_ble_eq_true rfl) (Nat.le_of_ble_eq_true rfl) ?_
    refine c_X12_endOf hF hM0 hi ?_
    refine wp_aload_n dX12_isBehind_10 rfl ?_
    refine wp_aload_n dX12_isBehind_11 rfl ?_
    refine wp_geta dX12_isBehind_12 fl_RX12_45 rfl (fk_33 hF) (fr_33_14 hF) ?_
    refine wp_iload_n dX12_isBehind_15 rfl ?_
    refine wp_ialoadN dX12_isBehind_16 (fk_42 hF) (by omega) (by decide) ?_
    rw [(ht i hi).1]
    refine wp_aload_n dX12_isBehind_17 rfl ?_
    refine wp_geta dX12_isBehind_18 fl_RX12_42 rfl (fk_33 hF) (fr_33_13 hF) ?_
    refine wp_iload_n dX12_isBehind_21 rfl ?_
    refine wp_ialoadN dX12_isBehind_22 (fk_41 hF) (by omega) (by decide) ?_
    rw [(hf j hj).1]
    refine wp_callv2 (ci := 12) dX12_isBehind_23 lk_RX12_172 ok_X12_wayOf im_X12_wayOf se_X12_wayOf rfl rfl (fk_33 hF) (Nat.le_of_ble_eq_true rfl) (Nat.le_of_ble_eq_true rfl) ?_
    refine c_X12_wayOf hF (ht i hi).2 (hf j hj).2 ?_
    refine wp_iadd dX12_isBehind_26 ?_
    refine wp_aload_n dX12_isBehind_27 rfl ?_
    refine wp_geta dX12_isBehind_28 fl_RX12_48 rfl (fk_33 hF) (fr_33_15 hF) ?_
    refine wp_iload_n dX12_isBehind_31 rfl ?_
    refine wp_ialoadN dX12_isBehind_32 (fk_43 hF) (by omega) (by decide) ?_
    refine wp_icmp_gt (tgt := 40) dX12_isBehind_33 (by decide) (fun h33 => ?_) (fun h33 => ?_)
    · refine wp_iconst (v := 0) dX12_isBehind_40 (by decide) ?_
      refine wp_zreturn rfl (Or.inl rfl) dX12_isBehind_41 ?_
      first | exact bq_t hq ⟨fun q => h2 (by rw [q]), Int32.not_lt.mp h33⟩ | exact bq_f hq (fun q => q.1 ((nI_eq (by omega) (by omega)).mp h2)) | exact bq_f hq (fun q => absurd q.2 (Int32.not_le.mpr h33))
    · refine wp_iconst (v := 1) dX12_isBehind_36 (by decide) ?_
      refine wp_goto (tgt := 41) dX12_isBehind_37 (by decide) ?_
      refine wp_zreturn rfl (Or.inr rfl) dX12_isBehind_41 ?_
      first | exact bq_t hq ⟨fun q => h2 (by rw [q]), Int32.not_lt.mp h33⟩ | exact bq_f hq (fun q => q.1 ((nI_eq (by omega) (by omega)).mp h2)) | exact bq_f hq (fun q => absurd q.2 (Int32.not_le.mpr h33))
theorem c_X12_behind {d m : Nat} {fr tt : Nat → Nat} {x z : Int32} {H : PH} {Q : Option Value → PH → Prop} (hF : Fix H) (hM : MJ H m fr tt) (hq1 : ∀ i j, i < m → j < m → x = nI i → z = nI j → hI H 47 i = 0 → hI H 47 j = 0 → Q (some (.int (bI (i ≠ j ∧ mFol H fr tt i j)))) H) (hq2 : ¬ (mOn H m x ∧ mOn H m z) → Q (some (.int 0)) H) : Wp mX12_behind (d + 4) 0 0 0 [some (.ref 33), some (.int x), some (.int z)] [] H Q := by
  refine wp_aload_n dX12_behind_0 rfl ?_
  refine wp_iload_n dX12_behind_1 rfl ?_
  refine wp_callv1 (ci := 12) dX12_behind_2 lk_RX12_169 ok_X12_isOn im_X12_isOn se_X12_isOn rfl rfl (fk_33 hF) (Nat.le_of_ble_eq_true rfl) (Nat.le_of_ble_eq_true rfl) ?_
  refine c_X12_isOn hF hM.1 hM.2.1 ?_
  refine wp_ifb_eq (tgt := 29) dX12_behind_5 (by decide) (fun h5 => ?_) (fun h5 => ?_)
  · refine wp_iconst (v := 0) dX12_behind_29 (by decide) ?_
    refine wp_zreturn rfl (Or.inl rfl) dX12_behind_30 ?_
    first
        | exact bq_t (hq1 i j hi hj rfl rfl hdi hdj) h22
        | exact bq_f (hq1 i j hi hj rfl rfl hdi hdj) h22
        | exact hq2 (fun q => h5 q.1)
        | exact hq2 (fun q => h13 q.2)
  · refine wp_aload_n dX12_behind_8 rfl ?_
    refine wp_iload_n dX12_behind_9 rfl ?_
    refine wp_callv1 (ci := 12) dX12_behind_10 lk_RX12_169 ok_X12_isOn im_X12_isOn se_X12_isOn rfl rfl (fk_33 hF) (Nat.le_of_ble_eq_true rfl) (Nat.le_of_ble_eq_true rfl) ?_
    refine c_X12_isOn hF hM.1 hM.2.1 ?_
    refine wp_ifb_eq (tgt := 29) dX12_behind_13 (by decide) (fun h13 => ?_) (fun h13 => ?_)
    · refine wp_iconst (v := 0) dX12_behind_29 (by decide) ?_
      refine wp_zreturn rfl (Or.inl rfl) dX12_behind_30 ?_
      first
          | exact bq_t (hq1 i j hi hj rfl rfl hdi hdj) h22
          | exact bq_f (hq1 i j hi hj rfl rfl hdi hdj) h22
          | exact hq2 (fun q => h5 q.1)
          | exact hq2 (fun q => h13 q.2)
    · obtain ⟨i, hi, rfl, hdi⟩ := h5
      obtain ⟨j, hj, rfl, hdj⟩ := h13
      refine wp_aload_n dX12_behind_16 rfl ?_
      refine wp_iload_n dX12_behind_17 rfl ?_
      refine wp_iload_n dX12_behind_18 rfl ?_
      refine wp_callv2 (ci := 12) dX12_behind_19 lk_RX12_181 ok_X12_isBehind im_X12_isBehind se_X12_isBehind rfl rfl (fk_33 hF) (Nat.le_of_ble_eq_true rfl) (Nat.le_of_ble_eq_true rfl) ?_
      refine c_X12_isBehind hF hM hi hj ?_
      refine wp_ifb_eq (tgt := 29) dX12_behind_22 (by decide) (fun h22 => ?_) (fun h22 => ?_)
      · refine wp_iconst (v := 0) dX12_behind_29 (by decide) ?_
        refine wp_zreturn rfl (Or.inl rfl) dX12_behind_30 ?_
        first
            | exact bq_t (hq1 i j hi hj rfl rfl hdi hdj) h22
            | exact bq_f (hq1 i j hi hj rfl rfl hdi hdj) h22
            | exact hq2 (fun q => h5 q.1)
            | exact hq2 (fun q => h13 q.2)
      · refine wp_iconst (v := 1) dX12_behind_25 (by decide) ?_
        refine wp_goto (tgt := 30) dX12_behind_26 (by decide) ?_
        refine wp_zreturn rfl (Or.inr rfl) dX12_behind_30 ?_
        first
            | exact bq_t (hq1 i j hi hj rfl rfl hdi hdj) h22
            | exact bq_f (hq1 i j hi hj rfl rfl hdi hdj) h22
            | exact hq2 (fun q => h5 q.1)
            | exact hq2 (fun q => h13 q.2)
abbrev mAhd (H : PH) (i j : Nat) : Prop := hI H 43 i < hI H 43 j ∨ (hI H 43 i = hI H 43 j ∧ i < j)
theorem c_X12_isAhead {d i j : Nat} {H : PH} {Q : Option Value → PH → Prop} (hF : Fix H) (hi : i < 10) (hj : j < 10) (hq : Q (some (.int (bI (mAhd H i j)))) H) : Wp mX12_isAhead d 0 0 0 [some (.ref 33), some (.int (nI i)), some (.int (nI j))] [] H Q := by
  refine wp_aload_n dX12_isAhead_0 rfl ?_
  refine wp_geta dX12_isAhead_1 fl_RX12_48 rfl (fk_33 hF) (fr_33_15 hF) ?_
  refine wp_iload_n dX12_isAhead_4 rfl ?_
  refine wp_ialoadN dX12_isAhead_5 (fk_43 hF) (by omega) (by decide) ?_
  refine wp_aload_n dX12_isAhead_6 rfl ?_
  refine wp_geta dX12_isAhead_7 fl_RX12_48 rfl (fk_33 hF) (fr_33_15 hF) ?_
  refine wp_iload_n dX12_isAhead_10 rfl ?_
  refine wp_ialoadN dX12_isAhead_11 (fk_43 hF) (by omega) (by decide) ?_
  refine wp_icmp_lt (tgt := 35) dX12_isAhead_12 (by decide) (fun h12 => ?_) (fun h12 => ?_)
  · refine wp_iconst (v := 1) dX12_isAhead_35 (by decide) ?_
    refine wp_goto (tgt := 40) dX12_isAhead_36 (by decide) ?_
    refine wp_zreturn rfl (Or.inr rfl) dX12_isAhead_40 ?_
    first
        | exact bq_t hq (Or.inl h12)
        | exact bq_t hq (Or.inr ⟨h27, by rcases Nat.lt_or_ge i j with q | q; exact q; exact absurd (nI_le q (by omega)) h32⟩)
        | exact bq_f hq (fun q => q.elim h12 (fun q => h27 q.1))
        | exact bq_f hq (fun q => q.elim h12 (fun q => absurd h32 (nI_ge q.2 (by omega))))
  · refine wp_aload_n dX12_isAhead_15 rfl ?_
    refine wp_geta dX12_isAhead_16 fl_RX12_48 rfl (fk_33 hF) (fr_33_15 hF) ?_
    refine wp_iload_n dX12_isAhead_19 rfl ?_
    refine wp_ialoadN dX12_isAhead_20 (fk_43 hF) (by omega) (by decide) ?_
    refine wp_aload_n dX12_isAhead_21 rfl ?_
    refine wp_geta dX12_isAhead_22 fl_RX12_48 rfl (fk_33 hF) (fr_33_15 hF) ?_
    refine wp_iload_n dX12_isAhead_25 rfl ?_
    refine wp_ialoadN dX12_isAhead_26 (fk_43 hF) (by omega) (by decide) ?_
    refine wp_icmp_ne (tgt := 39) dX12_isAhead_27 (by decide) (fun h27 => ?_) (fun h27 => ?_)
    · refine wp_iconst (v := 0) dX12_isAhead_39 (by decide) ?_
      refine wp_zreturn rfl (Or.inl rfl) dX12_isAhead_40 ?_
      first
          | exact bq_t hq (Or.inl h12)
          | exact bq_t hq (Or.inr ⟨h27, by rcases Nat.lt_or_ge i j with q | q; exact q; exact absurd (nI_le q (by omega)) h32⟩)
          | exact bq_f hq (fun q => q.elim h12 (fun q => h27 q.1))
          | exact bq_f hq (fun q => q.elim h12 (fun q => absurd h32 (nI_ge q.2 (by omega))))
    · refine wp_iload_n dX12_isAhead_30 rfl ?_
      refine wp_iload_n dX12_isAhead_31 rfl ?_
      refine wp_icmp_ge (tgt := 39) dX12_isAhead_32 (by decide) (fun h32 => ?_) (fun h32 => ?_)
      · refine wp_iconst (v := 0) dX12_isAhead_39 (by decide) ?_
        refine wp_zreturn rfl (Or.inl rfl) dX12_isAhead_40 ?_
        first
            | exact bq_t hq (Or.inl h12)
            | exact bq_t hq (Or.inr ⟨h27, by rcases Nat.lt_or_ge i j with q | q; exact q; exact absurd (nI_le q (by omega)) h32⟩)
            | exact bq_f hq (fun q => q.elim h12 (fun q => h27 q.1))
            | exact bq_f hq (fun q => q.elim h12 (fun q => absurd h32 (nI_ge q.2 (by omega))))
      · refine wp_iconst (v := 1) dX12_isAhead_35 (by decide) ?_
        refine wp_goto (tgt := 40) dX12_isAhead_36 (by decide) ?_
        refine wp_zreturn rfl (Or.inr rfl) dX12_isAhead_40 ?_
        first
            | exact bq_t hq (Or.inl h12)
            | exact bq_t hq (Or.inr ⟨h27, by rcases Nat.lt_or_ge i j with q | q; exact q; exact absurd (nI_le q (by omega)) h32⟩)
            | exact bq_f hq (fun q => q.elim h12 (fun q => h27 q.1))
            | exact bq_f hq (fun q => q.elim h12 (fun q => absurd h32 (nI_ge q.2 (by omega))))
def mCost (H : PH) (fr tt : Nat → Nat) (i : Nat) : Int32 := (if hI H 40 i = 2 then 3 else 2) * mwy H (fr i) (tt i) + hI H 44 i / 2
theorem c_X12_costOf {d m i : Nat} {fr tt : Nat → Nat} {H : PH} {Q : Option Value → PH → Prop} (hF : Fix H) (hM : MJ H m fr tt) (hi : i < m) (hq : Q (some (.int (mCost H fr tt i))) H) : Wp mX12_costOf (d + 2) 0 0 0 [some (.ref 33), some (.int (nI i))] [] H Q := by
  have h10 := hM.2.1
  refine wp_aload_n dX12_costOf_0 rfl ?_
  refine wp_geta dX12_costOf_1 fl_RX12_39 rfl (fk_33 hF) (fr_33_12 hF) ?_
  refine wp_iload_n dX12_costOf_4 rfl ?_
  refine wp_ialoadN dX12_costOf_5 (fk_40 hF) (by omega) (by decide) ?_
  refine wp_iconst (v := 2) dX12_costOf_6 (by decide) ?_
  refine wp_icmp_ne (tgt := 14) dX12_costOf_7 (by decide) (fun h7 => ?_) (fun h7 => ?_)
  · refine wp_iconst (v := 2) dX12_costOf_14 (by decide) ?_
    refine wp_aload_n dX12_costOf_15 rfl ?_
    refine wp_iload_n dX12_costOf_16 rfl ?_
    refine wp_callv1 (ci := 12) dX12_costOf_17 lk_RX12_175 ok_X12_drive im_X12_drive se_X12_drive rfl rfl (fk_33 hF) (Nat.le_of_ble_eq_true rfl) (Nat.le_of_ble_eq_true rfl) ?_
    refine c_X12_drive hF hM hi ?_
    refine wp_imul dX12_costOf_20 ?_
    refine wp_aload_n dX12_costOf_21 rfl ?_
    refine wp_geta dX12_costOf_22 fl_RX12_51 rfl (fk_33 hF) (fr_33_16 hF) ?_
    refine wp_iload_n dX12_costOf_25 rfl ?_
    refine wp_ialoadN dX12_costOf_26 (fk_44 hF) (by omega) (by decide) ?_
    refine wp_iconst (v := 2) dX12_costOf_27 (by decide) ?_
    refine wp_idiv dX12_costOf_28 (by decide) ?_
    refine wp_iadd dX12_costOf_29 ?_
    refine wp_ireturn rfl dX12_costOf_30 ?_
    unfold mCost at hq
    first | (rw [if_pos h7] at hq; exact hq) | (rw [if_neg h7] at hq; exact hq)
  · refine wp_iconst (v := 3) dX12_costOf_10 (by decide) ?_
    refine wp_goto (tgt := 15) dX12_costOf_11 (by decide) ?_
    refine wp_aload_n dX12_costOf_15 rfl ?_
    refine wp_iload_n dX12_costOf_16 rfl ?_
    refine wp_callv1 (ci := 12) dX12_costOf_17 lk_RX12_175 ok_X12_drive im_X12_drive se_X12_drive rfl rfl (fk_33 hF) (Nat.le_of_ble_eq_true rfl) (Nat.le_of_ble_eq_true rfl) ?_
    refine c_X12_drive hF hM hi ?_
    refine wp_imul dX12_costOf_20 ?_
    refine wp_aload_n dX12_costOf_21 rfl ?_
    refine wp_geta dX12_costOf_22 fl_RX12_51 rfl (fk_33 hF) (fr_33_16 hF) ?_
    refine wp_iload_n dX12_costOf_25 rfl ?_
    refine wp_ialoadN dX12_costOf_26 (fk_44 hF) (by omega) (by decide) ?_
    refine wp_iconst (v := 2) dX12_costOf_27 (by decide) ?_
    refine wp_idiv dX12_costOf_28 (by decide) ?_
    refine wp_iadd dX12_costOf_29 ?_
    refine wp_ireturn rfl dX12_costOf_30 ?_
    unfold mCost at hq
    first | (rw [if_pos h7] at hq; exact hq) | (rw [if_neg h7] at hq; exact hq)
theorem c_X12_team {d m n : Nat} {x z : Int32} {H : PH} {Q : Option Value → PH → Prop} (hF : Fix H) (hm : hI H 33 11 = nI m) (h10 : m ≤ 10) (hn : hI H 33 0 = nI n) (hq1 : ∀ j, j < m → x = nI j → hI H 47 j = 0 → isSetP n z → (z = 0 ∨ mny z 16 = hI H 45 j) → Q (some (.int 1)) (sI H 46 j z)) (hq2 : (¬ ∃ j, j < m ∧ x = nI j ∧ hI H 47 j = 0 ∧ isSetP n z ∧ (z = 0 ∨ mny z 16 = hI H 45 j)) → Q (some (.int 0)) H) : Wp mX12_team (d + 2) 0 0 0 [some (.ref 33), some (.int x), some (.int z)] [] H Q := by
  refine wp_aload_n dX12_team_0 rfl ?_
  refine wp_iload_n dX12_team_1 rfl ?_
  refine wp_callv1 (ci := 12) dX12_team_2 lk_RX12_169 ok_X12_isOn im_X12_isOn se_X12_isOn rfl rfl (fk_33 hF) (Nat.le_of_ble_eq_true rfl) (Nat.le_of_ble_eq_true rfl) ?_
  refine c_X12_isOn hF hm h10 ?_
  refine wp_ifb_eq (tgt := 33) dX12_team_5 (by decide) (fun h5 => ?_) (fun h5 => ?_)
  · refine wp_iconst (v := 0) dX12_team_33 (by decide) ?_
    refine wp_zreturn rfl (Or.inl rfl) dX12_team_34 ?_
    refine hq2 (fun ⟨j', q1, q2, q3, q4, q5⟩ => ?_)
    first
      | exact h5 ⟨j', q1, q2, q3⟩
      | exact h13 q4
      | (have e9 : j' = j := (nI_eq (by omega) (by omega)).mp q2.symm
         subst e9; exact q5.elim h17 h30)
  · refine wp_aload_n dX12_team_8 rfl ?_
    refine wp_iload_n dX12_team_9 rfl ?_
    refine wp_callv1 (ci := 12) dX12_team_10 lk_RX12_149 ok_X12_isSet im_X12_isSet se_X12_isSet rfl rfl (fk_33 hF) (Nat.le_of_ble_eq_true rfl) (Nat.le_of_ble_eq_true rfl) ?_
    refine c_X12_isSet hF hn ?_
    refine wp_ifb_eq (tgt := 33) dX12_team_13 (by decide) (fun h13 => ?_) (fun h13 => ?_)
    · refine wp_iconst (v := 0) dX12_team_33 (by decide) ?_
      refine wp_zreturn rfl (Or.inl rfl) dX12_team_34 ?_
      refine hq2 (fun ⟨j', q1, q2, q3, q4, q5⟩ => ?_)
      first
        | exact h5 ⟨j', q1, q2, q3⟩
        | exact h13 q4
        | (have e9 : j' = j := (nI_eq (by omega) (by omega)).mp q2.symm
           subst e9; exact q5.elim h17 h30)
    · obtain ⟨j, hj, rfl, hd⟩ := h5
      refine wp_iload_n dX12_team_16 rfl ?_
      refine wp_if_eq (tgt := 35) dX12_team_17 (by decide) (fun h17 => ?_) (fun h17 => ?_)
      · refine wp_aload_n dX12_team_35 rfl ?_
        refine wp_geta dX12_team_36 fl_RX12_57 rfl (fk_33 hF) (fr_33_18 hF) ?_
        refine wp_iload_n dX12_team_39 rfl ?_
        refine wp_iload_n dX12_team_40 rfl ?_
        refine wp_iastoreN dX12_team_41 (fk_46 hF) (by omega) (by decide) ?_
        refine wp_iconst (v := 1) dX12_team_42 (by decide) ?_
        refine wp_zreturn rfl (Or.inr rfl) dX12_team_43 ?_
        exact hq1 j hj rfl hd h13 (by first | exact Or.inl h17 | exact Or.inr h30)
      · refine wp_iload_n dX12_team_20 rfl ?_
        refine wp_calls1 dX12_team_21 lk_RX12_152 ok_X12_many st_X12_many (Nat.le_of_ble_eq_true rfl) (Nat.le_of_ble_eq_true rfl) ?_
        refine c_X12_many ?_
        refine wp_aload_n dX12_team_24 rfl ?_
        refine wp_geta dX12_team_25 fl_RX12_54 rfl (fk_33 hF) (fr_33_17 hF) ?_
        refine wp_iload_n dX12_team_28 rfl ?_
        refine wp_ialoadN dX12_team_29 (fk_45 hF) (by omega) (by decide) ?_
        refine wp_icmp_eq (tgt := 35) dX12_team_30 (by decide) (fun h30 => ?_) (fun h30 => ?_)
        · refine wp_aload_n dX12_team_35 rfl ?_
          refine wp_geta dX12_team_36 fl_RX12_57 rfl (fk_33 hF) (fr_33_18 hF) ?_
          refine wp_iload_n dX12_team_39 rfl ?_
          refine wp_iload_n dX12_team_40 rfl ?_
          refine wp_iastoreN dX12_team_41 (fk_46 hF) (by omega) (by decide) ?_
          refine wp_iconst (v := 1) dX12_team_42 (by decide) ?_
          refine wp_zreturn rfl (Or.inr rfl) dX12_team_43 ?_
          exact hq1 j hj rfl hd h13 (by first | exact Or.inl h17 | exact Or.inr h30)
        · refine wp_iconst (v := 0) dX12_team_33 (by decide) ?_
          refine wp_zreturn rfl (Or.inl rfl) dX12_team_34 ?_
          refine hq2 (fun ⟨j', q1, q2, q3, q4, q5⟩ => ?_)
          first
            | exact h5 ⟨j', q1, q2, q3⟩
            | exact h13 q4
            | (have e9 : j' = j := (nI_eq (by omega) (by omega)).mp q2.symm
               subst e9; exact q5.elim h17 h30)
theorem c_X12_of {d m : Nat} {fr tt : Nat → Nat} {x w : Int32} {H : PH} {Q : Option Value → PH → Prop} (hF : Fix H) (hM : MJ H m fr tt)
    (hq1 : ∀ j, j < m → x = nI j → Q (some (.int (if w = 0 then mEnd H fr tt j else if w = 1 then hI H 46 j else if w = 2 then (if hI H 47 j = 0 then 0 else 1) else if w = 3 then hI H 51 j else -1))) H) (hq2 : ¬ (0 ≤ x ∧ x < nI m) → Q (some (.int (-1))) H) : Wp mX12_of (d + 3) 0 0 0 [some (.ref 33), some (.int x), some (.int w)] [] H Q := by
  have h10 := hM.2.1
  refine wp_aload_n dX12_of_0 rfl ?_
  refine wp_iload_n dX12_of_1 rfl ?_
  refine wp_callv1 (ci := 12) dX12_of_2 lk_RX12_166 ok_X12_isJob im_X12_isJob se_X12_isJob rfl rfl (fk_33 hF) (Nat.le_of_ble_eq_true rfl) (Nat.le_of_ble_eq_true rfl) ?_
  refine c_X12_isJob hF hM.1 ?_
  refine wp_ifb_ne (tgt := 10) dX12_of_5 (by decide) (fun h5 => ?_) (fun h5 => ?_)
  · obtain ⟨j, hj, rfl⟩ := in_of (n := m) (by omega) h5
    have hqj := hq1 j hj rfl
    refine wp_iload_n dX12_of_10 rfl ?_
    rcases sw_3 w with rfl | rfl | rfl | rfl | h11
    · refine wp_tableIn (tgt := 40) dX12_of_11 (by decide) (by decide) rfl (by decide) ?_
      refine wp_aload_n dX12_of_40 rfl ?_
      refine wp_iload_n dX12_of_41 rfl ?_
      refine wp_callv1 (ci := 12) dX12_of_42 lk_RX12_178 ok_X12_endOf im_X12_endOf se_X12_endOf rfl rfl (fk_33 hF) (Nat.le_of_ble_eq_true rfl) (Nat.le_of_ble_eq_true rfl) ?_
      refine c_X12_endOf hF hM hj ?_
      refine wp_ireturn rfl dX12_of_45 ?_
      exact hqj
    · refine wp_tableIn (tgt := 46) dX12_of_11 (by decide) (by decide) rfl (by decide) ?_
      refine wp_aload_n dX12_of_46 rfl ?_
      refine wp_geta dX12_of_47 fl_RX12_57 rfl (fk_33 hF) (fr_33_18 hF) ?_
      refine wp_iload_n dX12_of_50 rfl ?_
      refine wp_ialoadN dX12_of_51 (fk_46 hF) (by omega) (by decide) ?_
      refine wp_ireturn rfl dX12_of_52 ?_
      exact hqj
    · refine wp_tableIn (tgt := 53) dX12_of_11 (by decide) (by decide) rfl (by decide) ?_
      refine wp_aload_n dX12_of_53 rfl ?_
      refine wp_geta dX12_of_54 fl_RX12_60 rfl (fk_33 hF) (fr_33_19 hF) ?_
      refine wp_iload_n dX12_of_57 rfl ?_
      refine wp_baloadN dX12_of_58 (fk_47 hF) (by decide) (by omega) (by decide) ?_
      refine wp_if_eq (tgt := 66) dX12_of_59 (by decide) (fun h59 => ?_) (fun h59 => ?_)
      · refine wp_iconst (v := 0) dX12_of_66 (by decide) ?_
        refine wp_ireturn rfl dX12_of_67 ?_
        first | (rw [if_neg (by decide), if_neg (by decide), if_pos rfl, if_pos h59] at hqj; exact hqj) | (rw [if_neg (by decide), if_neg (by decide), if_pos rfl, if_neg h59] at hqj; exact hqj)
      · refine wp_iconst (v := 1) dX12_of_62 (by decide) ?_
        refine wp_goto (tgt := 67) dX12_of_63 (by decide) ?_
        refine wp_ireturn rfl dX12_of_67 ?_
        first | (rw [if_neg (by decide), if_neg (by decide), if_pos rfl, if_pos h59] at hqj; exact hqj) | (rw [if_neg (by decide), if_neg (by decide), if_pos rfl, if_neg h59] at hqj; exact hqj)
    · refine wp_tableIn (tgt := 68) dX12_of_11 (by decide) (by decide) rfl (by decide) ?_
      refine wp_aload_n dX12_of_68 rfl ?_
      refine wp_geta dX12_of_69 fl_RX12_72 rfl (fk_33 hF) (fr_33_23 hF) ?_
      refine wp_iload_n dX12_of_72 rfl ?_
      refine wp_ialoadN dX12_of_73 (fk_51 hF) (by omega) (by decide) ?_
      refine wp_ireturn rfl dX12_of_74 ?_
      exact hqj
    · refine wp_tableOut (tgt := 75) dX12_of_11 h11 (by decide) ?_
      refine wp_iconst (v := -1) dX12_of_75 (by decide) ?_
      refine wp_ireturn rfl dX12_of_76 ?_
      rw [if_neg (fun q => by subst q; revert h11; decide), if_neg (fun q => by subst q; revert h11; decide), if_neg (fun q => by subst q; revert h11; decide), if_neg (fun q => by subst q; revert h11; decide)] at hqj
      exact hqj
  · refine wp_iconst (v := -1) dX12_of_8 (by decide) ?_
    refine wp_ireturn rfl dX12_of_9 ?_
    exact hq2 h5
