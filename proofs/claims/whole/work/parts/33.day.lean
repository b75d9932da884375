/-! ===== CarriageHire$Job, $PriceList, $Day ===== -/
theorem c_X1_isPlace {d : Nat} {a : Int32} {H : PH} {Q : Option Value → PH → Prop} (hq : Q (some (.int (bI (0 ≤ a ∧ a ≤ 7)))) H) : Wp mX1_isPlace (d + 1) 0 0 0 [some (.int a)] [] H Q := by
  refine wp_iload_n dX1_isPlace_0 rfl ?_
  refine wp_iconst (v := 0) dX1_isPlace_1 (by decide) ?_
  refine wp_bipush (v := 7) dX1_isPlace_2 (by decide) ?_
  refine wp_calls3 dX1_isPlace_4 lk_RX1_32 ok_X11_within st_X11_within (Nat.le_of_ble_eq_true rfl) (Nat.le_of_ble_eq_true rfl) ?_
  refine c_X11_within ?_
  refine wp_zreturn rfl (bI_01 _) dX1_isPlace_7 ?_
  exact hq
def wy (H : PH) (a b : Nat) : Int32 := hI H 6 (a * 8 + b)
theorem nI_8 (a b : Nat) : nI a * 8 + nI b = nI (a * 8 + b) := by rw [← nI_add, ← pk_mul]; rfl
theorem nI_8' (a b : Nat) : 8 * nI a + nI b = nI (a * 8 + b) := by rw [show a * 8 = 8 * a by omega, ← nI_add, ← pk_mul]; rfl
theorem c_X1_minutesBetween {d a b : Nat} {H : PH} {Q : Option Value → PH → Prop} (hF : Fix H) (ha : a < 8) (hb : b < 8) (hq : Q (some (.int (wy H a b))) H) : Wp mX1_minutesBetween d 0 0 0 [some (.ref 5), some (.int (nI a)), some (.int (nI b)), none] [] H Q := by
  refine wp_iload_n dX1_minutesBetween_0 rfl ?_
  refine wp_bipush (v := 8) dX1_minutesBetween_1 (by decide) ?_
  refine wp_imul dX1_minutesBetween_3 ?_
  refine wp_iload_n dX1_minutesBetween_4 rfl ?_
  refine wp_iadd dX1_minutesBetween_5 ?_
  rw [nI_8]
  refine wp_istore_n dX1_minutesBetween_6 (by decide) ?_
  refine wp_iload_n dX1_minutesBetween_7 rfl ?_
  refine wp_if_lt (tgt := 29) dX1_minutesBetween_8 (by decide) (fun h8 => absurd h8 (nI_pos (by omega))) (fun _ => ?_)
  refine wp_iload_n dX1_minutesBetween_11 rfl ?_
  refine wp_aload_n dX1_minutesBetween_12 rfl ?_
  refine wp_geta dX1_minutesBetween_13 fl_RX1_9 rfl (fk_5 hF) (fr_5_0 hF) ?_
  refine wp_alen dX1_minutesBetween_16 (fk_6 hF) (by simp) ?_
  refine wp_icmp_ge (tgt := 29) dX1_minutesBetween_17 (by decide) (fun h17 => absurd h17 (nI_ge (a := a * 8 + b) (b := 64) (by omega) (by decide))) (fun _ => ?_)
  refine wp_aload_n dX1_minutesBetween_20 rfl ?_
  refine wp_geta dX1_minutesBetween_21 fl_RX1_9 rfl (fk_5 hF) (fr_5_0 hF) ?_
  refine wp_iload_n dX1_minutesBetween_24 rfl ?_
  refine wp_ialoadN dX1_minutesBetween_25 (fk_6 hF) (by omega) (by decide) ?_
  refine wp_goto (tgt := 30) dX1_minutesBetween_26 (by decide) ?_
  refine wp_ireturn rfl dX1_minutesBetween_30 ?_
  exact hq
theorem pl_of {a : Int32} (h : 0 ≤ a ∧ a ≤ 7) : ∃ j, j < 8 ∧ a = nI j := by
  obtain ⟨j, hj, e⟩ := nI_of2 (M := 7) (n := 7) (by decide) (Int32.not_lt.mpr h.1) h.2
  exact ⟨j, by omega, e⟩
def wNew (H : PH) (a b : Nat) (v : Int32) : PH := sI (sI (sI H 6 (a * 8 + b) v) 6 (b * 8 + a) v) 5 5 (hI H 5 5 + 1)
theorem c_X1_setWay {d : Nat} {a b v : Int32} {H : PH} {Q : Option Value → PH → Prop} (hF : Fix H)
    (hq1 : ∀ i j, i < 8 → j < 8 → i ≠ j → a = nI i → b = nI j → (0 ≤ v ∧ v ≤ 300) → Q (some (.int 1)) (wNew H i j v))
    (hq2 : ¬ ((0 ≤ a ∧ a ≤ 7) ∧ (0 ≤ b ∧ b ≤ 7) ∧ a ≠ b ∧ (0 ≤ v ∧ v ≤ 300)) → Q (some (.int 0)) H) : Wp mX1_setWay (d + 2) 0 0 0 [some (.ref 5), some (.int a), some (.int b), some (.int v)] [] H Q := by
  refine wp_iload_n dX1_setWay_0 rfl ?_
  refine wp_calls1 dX1_setWay_1 lk_RX1_28 ok_X1_isPlace st_X1_isPlace (Nat.le_of_ble_eq_true rfl) (Nat.le_of_ble_eq_true rfl) ?_
  refine c_X1_isPlace ?_
  refine wp_ifb_eq (tgt := 30) dX1_setWay_4 (by decide) (fun h4 => ?_) (fun h4 => ?_)
  · refine wp_iconst (v := 0) dX1_setWay_30 (by decide) ?_
    refine wp_zreturn rfl (Or.inl rfl) dX1_setWay_31 ?_
    refine hq2 (fun q => ?_)
    first | exact h4 q.1 | exact h11 q.2.1 | exact q.2.2.1 h16 | exact h27 q.2.2.2
  · refine wp_iload_n dX1_setWay_7 rfl ?_
    refine wp_calls1 dX1_setWay_8 lk_RX1_28 ok_X1_isPlace st_X1_isPlace (Nat.le_of_ble_eq_true rfl) (Nat.le_of_ble_eq_true rfl) ?_
    refine c_X1_isPlace ?_
    refine wp_ifb_eq (tgt := 30) dX1_setWay_11 (by decide) (fun h11 => ?_) (fun h11 => ?_)
    · refine wp_iconst (v := 0) dX1_setWay_30 (by decide) ?_
      refine wp_zreturn rfl (Or.inl rfl) dX1_setWay_31 ?_
      refine hq2 (fun q => ?_)
      first | exact h4 q.1 | exact h11 q.2.1 | exact q.2.2.1 h16 | exact h27 q.2.2.2
    · refine wp_iload_n dX1_setWay_14 rfl ?_
      refine wp_iload_n dX1_setWay_15 rfl ?_
      refine wp_icmp_eq (tgt := 30) dX1_setWay_16 (by decide) (fun h16 => ?_) (fun h16 => ?_)
      · refine wp_iconst (v := 0) dX1_setWay_30 (by decide) ?_
        refine wp_zreturn rfl (Or.inl rfl) dX1_setWay_31 ?_
        refine hq2 (fun q => ?_)
        first | exact h4 q.1 | exact h11 q.2.1 | exact q.2.2.1 h16 | exact h27 q.2.2.2
      · refine wp_iload_n dX1_setWay_19 rfl ?_
        refine wp_iconst (v := 0) dX1_setWay_20 (by decide) ?_
        refine wp_sipush (v := 300) dX1_setWay_21 (by decide) ?_
        refine wp_calls3 dX1_setWay_24 lk_RX1_32 ok_X11_within st_X11_within (Nat.le_of_ble_eq_true rfl) (Nat.le_of_ble_eq_true rfl) ?_
        refine c_X11_within ?_
        refine wp_ifb_ne (tgt := 32) dX1_setWay_27 (by decide) (fun h27 => ?_) (fun h27 => ?_)
        · obtain ⟨i, hi, rfl⟩ := pl_of h4
          obtain ⟨j, hj, rfl⟩ := pl_of h11
          refine wp_aload_n dX1_setWay_32 rfl ?_
          refine wp_geta dX1_setWay_33 fl_RX1_9 rfl (fk_5 hF) (fr_5_0 hF) ?_
          refine wp_iload_n dX1_setWay_36 rfl ?_
          refine wp_bipush (v := 8) dX1_setWay_37 (by decide) ?_
          refine wp_imul dX1_setWay_39 ?_
          refine wp_iload_n dX1_setWay_40 rfl ?_
          refine wp_iadd dX1_setWay_41 ?_
          rw [nI_8]
          refine wp_iload_n dX1_setWay_42 rfl ?_
          refine wp_iastoreN dX1_setWay_43 (fk_6 hF) (by omega) (by decide) ?_
          refine wp_aload_n dX1_setWay_44 rfl ?_
          refine wp_geta dX1_setWay_45 fl_RX1_9 rfl (fk_5 (Fix_sI hF)) (fr_5_0 (Fix_sI hF)) ?_
          refine wp_iload_n dX1_setWay_48 rfl ?_
          refine wp_bipush (v := 8) dX1_setWay_49 (by decide) ?_
          refine wp_imul dX1_setWay_51 ?_
          refine wp_iload_n dX1_setWay_52 rfl ?_
          refine wp_iadd dX1_setWay_53 ?_
          rw [nI_8]
          refine wp_iload_n dX1_setWay_54 rfl ?_
          refine wp_iastoreN dX1_setWay_55 (fk_6 (Fix_sI hF)) (by omega) (by decide) ?_
          refine wp_aload_n dX1_setWay_56 rfl ?_
          refine wp_dup dX1_setWay_57 rfl ?_
          refine wp_geti dX1_setWay_58 fl_RX1_36 rfl (fk_5 (Fix_sI (Fix_sI hF))) ?_
          simp only [hI_sI', Nat.reduceEqDiff, false_and, ↓reduceIte]
          refine wp_iconst (v := 1) dX1_setWay_61 (by decide) ?_
          refine wp_iadd dX1_setWay_62 ?_
          refine wp_puti dX1_setWay_63 fl_RX1_36 (mp_1_5 _ _) rfl (fk_5 (Fix_sI (Fix_sI hF))) ?_
          refine wp_iconst (v := 1) dX1_setWay_66 (by decide) ?_
          refine wp_zreturn rfl (Or.inr rfl) dX1_setWay_67 ?_
          exact hq1 i j hi hj (fun q => h16 (by rw [q])) rfl rfl h27
        · refine wp_iconst (v := 0) dX1_setWay_30 (by decide) ?_
          refine wp_zreturn rfl (Or.inl rfl) dX1_setWay_31 ?_
          refine hq2 (fun q => ?_)
          first | exact h4 q.1 | exact h11 q.2.1 | exact q.2.2.1 h16 | exact h27 q.2.2.2
theorem c_X1_setCarriages {d : Nat} {a : Int32} {H : PH} {Q : Option Value → PH → Prop} (hF : Fix H)
    (hq1 : (1 ≤ a ∧ a ≤ 6) → Q (some (.int 1)) (sI (sI H 5 4 a) 5 5 (hI H 5 5 + 1))) (hq2 : ¬ (1 ≤ a ∧ a ≤ 6) → Q (some (.int 0)) H) : Wp mX1_setCarriages (d + 1) 0 0 0 [some (.ref 5), some (.int a)] [] H Q := by
  refine wp_iload_n dX1_setCarriages_0 rfl ?_
  refine wp_iconst (v := 1) dX1_setCarriages_1 (by decide) ?_
  refine wp_bipush (v := 6) dX1_setCarriages_2 (by decide) ?_
  refine wp_calls3 dX1_setCarriages_4 lk_RX1_32 ok_X11_within st_X11_within (Nat.le_of_ble_eq_true rfl) (Nat.le_of_ble_eq_true rfl) ?_
  refine c_X11_within ?_
  refine wp_ifb_ne (tgt := 12) dX1_setCarriages_7 (by decide) (fun h7 => ?_) (fun h7 => ?_)
  · refine wp_aload_n dX1_setCarriages_12 rfl ?_
    refine wp_iload_n dX1_setCarriages_13 rfl ?_
    refine wp_puti dX1_setCarriages_14 fl_RX1_24 (mp_1_4 _ _) rfl (fk_5 hF) ?_
    refine wp_aload_n dX1_setCarriages_17 rfl ?_
    refine wp_dup dX1_setCarriages_18 rfl ?_
    refine wp_geti dX1_setCarriages_19 fl_RX1_36 rfl (fk_5 (Fix_sI hF)) ?_
    simp only [hI_sI', Nat.reduceEqDiff, and_false, ↓reduceIte]
    refine wp_iconst (v := 1) dX1_setCarriages_22 (by decide) ?_
    refine wp_iadd dX1_setCarriages_23 ?_
    refine wp_puti dX1_setCarriages_24 fl_RX1_36 (mp_1_5 _ _) rfl (fk_5 (Fix_sI hF)) ?_
    refine wp_iconst (v := 1) dX1_setCarriages_27 (by decide) ?_
    refine wp_zreturn rfl (Or.inr rfl) dX1_setCarriages_28 ?_
    exact hq1 h7
  · refine wp_iconst (v := 0) dX1_setCarriages_10 (by decide) ?_
    refine wp_zreturn rfl (Or.inl rfl) dX1_setCarriages_11 ?_
    exact hq2 h7
/-- m JOBS at the cells jo 0, jo 1, .., FROM and TO as numbers -/
def JS (H : PH) (m : Nat) (jo fr tt : Nat → Nat) : Prop := hI H 5 3 = nI m ∧ m ≤ 10 ∧ (∀ i, i < m → hR H 7 i = some (jo i)) ∧ (∀ i, i < m → hK H (jo i) = (4, 9)) ∧ (∀ i, i < m → 69 < jo i) ∧ (∀ i j, i < m → j < m → jo i = jo j → i = j) ∧ (∀ i, i < m → hI H (jo i) 1 = nI (fr i) ∧ fr i < 8) ∧ ∀ i, i < m → hI H (jo i) 2 = nI (tt i) ∧ tt i < 8
theorem c_X1_find {d m : Nat} {jo fr tt : Nat → Nat} {x : Int32} {H : PH} {Q : Option Value → PH → Prop} (hF : Fix H) (hJ : JS H m jo fr tt) (hq1 : ∀ j, j < m → x = nI j → Q (some (.ref (jo j))) H) (hq2 : ¬ (0 ≤ x ∧ x < nI m) → Q (some .null) H) : Wp mX1_find d 0 0 0 [some (.ref 5), some (.int x)] [] H Q := by
  obtain ⟨hn, h10, hr, -⟩ := hJ
  refine wp_iload_n dX1_find_0 rfl ?_
  refine wp_if_lt (tgt := 21) dX1_find_1 (by decide) (fun h1 => ?_) (fun h1 => ?_)
  · refine wp_aconst_null dX1_find_21 ?_
    refine wp_areturn (r := none) rfl (by simp) dX1_find_22 ?_
    first | exact hq1 j hj rfl | exact hq2 (fun q => absurd h1 (Int32.not_lt.mpr q.1)) | exact hq2 (fun q => absurd h9 (Int32.not_le.mpr q.2))
  · refine wp_iload_n dX1_find_4 rfl ?_
    refine wp_aload_n dX1_find_5 rfl ?_
    refine wp_geti dX1_find_6 fl_RX1_39 rfl (fk_5 hF) ?_
    rw [hn]
    refine wp_icmp_ge (tgt := 21) dX1_find_9 (by decide) (fun h9 => ?_) (fun h9 => ?_)
    · refine wp_aconst_null dX1_find_21 ?_
      refine wp_areturn (r := none) rfl (by simp) dX1_find_22 ?_
      first | exact hq1 j hj rfl | exact hq2 (fun q => absurd h1 (Int32.not_lt.mpr q.1)) | exact hq2 (fun q => absurd h9 (Int32.not_le.mpr q.2))
    · obtain ⟨j, hj, rfl⟩ := in_of (n := m) (by omega) ⟨Int32.not_lt.mp h1, Int32.not_le.mp h9⟩
      refine wp_aload_n dX1_find_12 rfl ?_
      refine wp_geta dX1_find_13 fl_RX1_17 rfl (fk_5 hF) (fr_5_1 hF) ?_
      refine wp_iload_n dX1_find_16 rfl ?_
      refine wp_aaloadA dX1_find_17 (fk_7 hF) (by decide) (by omega) (by decide) (hr j hj) ?_
      refine wp_goto (tgt := 22) dX1_find_18 (by decide) ?_
      refine wp_areturn (r := some _) rfl (by simp) dX1_find_22 ?_
      first | exact hq1 j hj rfl | exact hq2 (fun q => absurd h1 (Int32.not_lt.mpr q.1)) | exact hq2 (fun q => absurd h9 (Int32.not_le.mpr q.2))
def kept (H : PH) (m : Nat) (jo : Nat → Nat) (x : Int32) : Prop := ∃ j, j < m ∧ x = nI j ∧ hI H (jo j) 8 = 0
theorem c_X1_findKept {d m : Nat} {jo fr tt : Nat → Nat} {x : Int32} {H : PH} {Q : Option Value → PH → Prop} (hF : Fix H) (hJ : JS H m jo fr tt) (hq1 : ∀ j, j < m → x = nI j → hI H (jo j) 8 = 0 → Q (some (.ref (jo j))) H) (hq2 : ¬ kept H m jo x → Q (some .null) H) : Wp mX1_findKept (d + 1) 0 0 0 [some (.ref 5), some (.int x), none] [] H Q := by
  have hJ0 := hJ
  obtain ⟨hn, h10, hr, hk, -⟩ := hJ
  refine wp_aload_n dX1_findKept_0 rfl ?_
  refine wp_iload_n dX1_findKept_1 rfl ?_
  refine wp_callv1 (ci := 1) dX1_findKept_2 lk_RX1_60 ok_X1_find im_X1_find se_X1_find rfl rfl (fk_5 hF) (Nat.le_of_ble_eq_true rfl) (Nat.le_of_ble_eq_true rfl) ?_
  refine c_X1_find hF hJ0 (fun j hj hxj => ?_) (fun hx => ?_)
  · refine wp_astore_n dX1_findKept_5 (by decide) ?_
    refine wp_aload_n dX1_findKept_6 rfl ?_
    refine wp_ifnull (r := some _) (tgt := 17) dX1_findKept_7 (by decide) (fun h => by cases h) (fun _ _ => ?_)
    refine wp_aload_n dX1_findKept_10 rfl ?_
    refine wp_geti dX1_findKept_11 fl_RX1_56 rfl (hk j hj) ?_
    refine wp_if_eq (tgt := 21) dX1_findKept_14 (by decide) (fun h14 => ?_) (fun h14 => ?_)
    · refine wp_aload_n dX1_findKept_21 rfl ?_
      refine wp_areturn (r := some _) rfl (by simp) dX1_findKept_22 ?_
      first
          | exact hq1 j hj hxj h14
          | exact hq2 (fun ⟨j', q1, q2, q3⟩ => by
              have e9 : j' = j := (nI_eq (by omega) (by omega)).mp (q2.symm.trans hxj)
              subst e9; exact h14 q3)
          | exact hq2 (fun ⟨j', q1, q2, q3⟩ => hx ⟨by rw [q2]; exact nI_pos' (by omega), by rw [q2]; exact nI_lt q1 (by omega)⟩)
    · refine wp_aconst_null dX1_findKept_17 ?_
      refine wp_goto (tgt := 22) dX1_findKept_18 (by decide) ?_
      refine wp_areturn (r := none) rfl (by simp) dX1_findKept_22 ?_
      first
          | exact hq1 j hj hxj h14
          | exact hq2 (fun ⟨j', q1, q2, q3⟩ => by
              have e9 : j' = j := (nI_eq (by omega) (by omega)).mp (q2.symm.trans hxj)
              subst e9; exact h14 q3)
          | exact hq2 (fun ⟨j', q1, q2, q3⟩ => hx ⟨by rw [q2]; exact nI_pos' (by omega), by rw [q2]; exact nI_lt q1 (by omega)⟩)
  · refine wp_astore_nN dX1_findKept_5 (by decide) ?_
    refine wp_aload_nN dX1_findKept_6 rfl ?_
    refine wp_ifnull (r := none) (tgt := 17) dX1_findKept_7 (by decide) (fun _ => ?_) (fun _ h => by cases h)
    refine wp_aconst_null dX1_findKept_17 ?_
    refine wp_goto (tgt := 22) dX1_findKept_18 (by decide) ?_
    refine wp_areturn (r := none) rfl (by simp) dX1_findKept_22 ?_
    first
        | exact hq1 j hj hxj h14
        | exact hq2 (fun ⟨j', q1, q2, q3⟩ => by
            have e9 : j' = j := (nI_eq (by omega) (by omega)).mp (q2.symm.trans hxj)
            subst e9; exact h14 q3)
        | exact hq2 (fun ⟨j', q1, q2, q3⟩ => hx ⟨by rw [q2]; exact nI_pos' (by omega), by rw [q2]; exact nI_lt q1 (by omega)⟩)
theorem c_X1_cancel {d m : Nat} {jo fr tt : Nat → Nat} {x : Int32} {H : PH} {Q : Option Value → PH → Prop} (hF : Fix H) (hJ : JS H m jo fr tt) (hq1 : ∀ j, j < m → x = nI j → hI H (jo j) 8 = 0 → Q (some (.int 1)) (sI (sI H (jo j) 8 1) 5 5 (hI H 5 5 + 1))) (hq2 : ¬ kept H m jo x → Q (some (.int 0)) H) : Wp mX1_cancel (d + 2) 0 0 0 [some (.ref 5), some (.int x), none] [] H Q := by
  have hJ0 := hJ
  obtain ⟨hn, h10, hr, hk, hl, -⟩ := hJ
  refine wp_aload_n dX1_cancel_0 rfl ?_
  refine wp_iload_n dX1_cancel_1 rfl ?_
  refine wp_callv1 (ci := 1) dX1_cancel_2 lk_RX1_52 ok_X1_findKept im_X1_findKept se_X1_findKept rfl rfl (fk_5 hF) (Nat.le_of_ble_eq_true rfl) (Nat.le_of_ble_eq_true rfl) ?_
  refine c_X1_findKept hF hJ0 (fun j hj hxj hdj => ?_) (fun hx => ?_)
  · refine wp_astore_n dX1_cancel_5 (by decide) ?_
    refine wp_aload_n dX1_cancel_6 rfl ?_
    refine wp_ifnonnull (r := some _) (tgt := 12) dX1_cancel_7 (by decide) (fun h => by cases h) (fun _ _ => ?_)
    refine wp_aload_n dX1_cancel_12 rfl ?_
    refine wp_iconst (v := 1) dX1_cancel_13 (by decide) ?_
    refine wp_putz dX1_cancel_14 fl_RX1_56 (mp_3_8 _ _) rfl (Or.inr rfl) (hk j hj) ?_
    refine wp_aload_n dX1_cancel_17 rfl ?_
    refine wp_dup dX1_cancel_18 rfl ?_
    refine wp_geti dX1_cancel_19 fl_RX1_36 rfl (fk_5 (Fix_sI hF)) ?_
    rw [hI_sI', if_neg (fun q => by have := hl j hj; omega)]
    refine wp_iconst (v := 1) dX1_cancel_22 (by decide) ?_
    refine wp_iadd dX1_cancel_23 ?_
    refine wp_puti dX1_cancel_24 fl_RX1_36 (mp_1_5 _ _) rfl (fk_5 (Fix_sI hF)) ?_
    refine wp_iconst (v := 1) dX1_cancel_27 (by decide) ?_
    refine wp_zreturn rfl (Or.inr rfl) dX1_cancel_28 ?_
    exact hq1 j hj hxj hdj
  · refine wp_astore_nN dX1_cancel_5 (by decide) ?_
    refine wp_aload_nN dX1_cancel_6 rfl ?_
    refine wp_ifnonnull (r := none) (tgt := 12) dX1_cancel_7 (by decide) (fun _ => ?_) (fun _ h => by cases h)
    refine wp_iconst (v := 0) dX1_cancel_10 (by decide) ?_
    refine wp_zreturn rfl (Or.inl rfl) dX1_cancel_11 ?_
    exact hq2 hx
theorem c_X1_numberInOrder {d m i : Nat} {H : PH} {Q : Option Value → PH → Prop} (hF : Fix H) (hn : hI H 5 3 = nI m) (h10 : m ≤ 10) (hi : i < m) (hq : Q (some (.int (hI H 8 i))) H) : Wp mX1_numberInOrder d 0 0 0 [some (.ref 5), some (.int (nI i))] [] H Q := by
  refine wp_iload_n dX1_numberInOrder_0 rfl ?_
  refine wp_if_lt (tgt := 21) dX1_numberInOrder_1 (by decide) (fun h1 => absurd h1 (nI_pos (by omega))) (fun _ => ?_)
  refine wp_iload_n dX1_numberInOrder_4 rfl ?_
  refine wp_aload_n dX1_numberInOrder_5 rfl ?_
  refine wp_geti dX1_numberInOrder_6 fl_RX1_39 rfl (fk_5 hF) ?_
  rw [hn]
  refine wp_icmp_ge (tgt := 21) dX1_numberInOrder_9 (by decide) (fun h9 => absurd h9 (nI_ge hi (by omega))) (fun _ => ?_)
  refine wp_aload_n dX1_numberInOrder_12 rfl ?_
  refine wp_geta dX1_numberInOrder_13 fl_RX1_21 rfl (fk_5 hF) (fr_5_2 hF) ?_
  refine wp_iload_n dX1_numberInOrder_16 rfl ?_
  refine wp_ialoadN dX1_numberInOrder_17 (fk_8 hF) (by omega) (by decide) ?_
  refine wp_goto (tgt := 22) dX1_numberInOrder_18 (by decide) ?_
  refine wp_ireturn rfl dX1_numberInOrder_22 ?_
  exact hq
def cEnd (H : PH) (jo fr tt : Nat → Nat) (i : Nat) : Int32 := hI H (jo i) 3 + wy H (fr i) (tt i) + hI H (jo i) 4
theorem c_X1_endOf {d m i : Nat} {jo fr tt : Nat → Nat} {H : PH} {Q : Option Value → PH → Prop} (hF : Fix H) (hJ : JS H m jo fr tt) (hi : i < m) (hq : Q (some (.int (cEnd H jo fr tt i))) H) : Wp mX1_endOf (d + 1) 0 0 0 [some (.ref 5), some (.ref (jo i))] [] H Q := by
  obtain ⟨hn, h10, hr, hk, hl, -, hf, ht⟩ := hJ
  refine wp_aload_n dX1_endOf_0 rfl ?_
  refine wp_geti dX1_endOf_1 fl_RX1_49 rfl (hk i hi) ?_
  refine wp_aload_n dX1_endOf_4 rfl ?_
  refine wp_aload_n dX1_endOf_5 rfl ?_
  refine wp_geti dX1_endOf_6 fl_RX1_63 rfl (hk i hi) ?_
  rw [(hf i hi).1]
  refine wp_aload_n dX1_endOf_9 rfl ?_
  refine wp_geti dX1_endOf_10 fl_RX1_66 rfl (hk i hi) ?_
  rw [(ht i hi).1]
  refine wp_callv2 (ci := 1) dX1_endOf_13 lk_RX1_69 ok_X1_minutesBetween im_X1_minutesBetween se_X1_minutesBetween rfl rfl (fk_5 hF) (Nat.le_of_ble_eq_true rfl) (Nat.le_of_ble_eq_true rfl) ?_
  refine c_X1_minutesBetween hF (hf i hi).2 (ht i hi).2 ?_
  refine wp_iadd dX1_endOf_16 ?_
  refine wp_aload_n dX1_endOf_17 rfl ?_
  refine wp_geti dX1_endOf_18 fl_RX1_73 rfl (hk i hi) ?_
  refine wp_iadd dX1_endOf_21 ?_
  refine wp_ireturn rfl dX1_endOf_22 ?_
  exact hq
abbrev cFol (H : PH) (jo fr tt : Nat → Nat) (i j : Nat) : Prop := cEnd H jo fr tt i + wy H (tt i) (fr j) ≤ hI H (jo j) 3
theorem c_X1_mayFollow {d m i j : Nat} {jo fr tt : Nat → Nat} {H : PH} {Q : Option Value → PH → Prop} (hF : Fix H) (hJ : JS H m jo fr tt) (hi : i < m) (hj : j < m) (hq : Q (some (.int (bI (cFol H jo fr tt i j)))) H) : Wp mX1_mayFollow (d + 2) 0 0 0 [some (.ref 5), some (.ref (jo i)), some (.ref (jo j))] [] H Q := by
  have hJ0 := hJ
  obtain ⟨hn, h10, hr, hk, hl, -, hf, ht⟩ := hJ
  refine wp_aload_n dX1_mayFollow_0 rfl ?_
  refine wp_aload_n dX1_mayFollow_1 rfl ?_
  refine wp_callv1 (ci := 1) dX1_mayFollow_2 lk_RX1_76 ok_X1_endOf im_X1_endOf se_X1_endOf rfl rfl (fk_5 hF) (Nat.le_of_ble_eq_true rfl) (Nat.le_of_ble_eq_true rfl) ?_
  refine c_X1_endOf hF hJ0 hi ?_
  refine wp_aload_n dX1_mayFollow_5 rfl ?_
  refine wp_aload_n dX1_mayFollow_6 rfl ?_
  refine wp_geti dX1_mayFollow_7 fl_RX1_66 rfl (hk i hi) ?_
  rw [(ht i hi).1]
  refine wp_aload_n dX1_mayFollow_10 rfl ?_
  refine wp_geti dX1_mayFollow_11 fl_RX1_63 rfl (hk j hj) ?_
  rw [(hf j hj).1]
  refine wp_callv2 (ci := 1) dX1_mayFollow_14 lk_RX1_69 ok_X1_minutesBetween im_X1_minutesBetween se_X1_minutesBetween rfl rfl (fk_5 hF) (Nat.le_of_ble_eq_true rfl) (Nat.le_of_ble_eq_true rfl) ?_
  refine c_X1_minutesBetween hF (ht i hi).2 (hf j hj).2 ?_
  refine wp_iadd dX1_mayFollow_17 ?_
  refine wp_aload_n dX1_mayFollow_18 rfl ?_
  refine wp_geti dX1_mayFollow_19 fl_RX1_49 rfl (hk j hj) ?_
  refine wp_icmp_gt (tgt := 29) dX1_mayFollow_22 (by decide) (fun h22 => ?_) (fun h22 => ?_)
  · refine wp_iconst (v := 0) dX1_mayFollow_29 (by decide) ?_
    refine wp_zreturn rfl (Or.inl rfl) dX1_mayFollow_30 ?_
    first | exact bq_t hq (Int32.not_lt.mp h22) | exact bq_f hq (Int32.not_le.mpr h22)
  · refine wp_iconst (v := 1) dX1_mayFollow_25 (by decide) ?_
    refine wp_goto (tgt := 30) dX1_mayFollow_26 (by decide) ?_
    refine wp_zreturn rfl (Or.inr rfl) dX1_mayFollow_30 ?_
    first | exact bq_t hq (Int32.not_lt.mp h22) | exact bq_f hq (Int32.not_le.mpr h22)
def cCost (H : PH) (jo fr tt : Nat → Nat) (i : Nat) : Int32 := (if hI H (jo i) 0 = 2 then 3 else 2) * wy H (fr i) (tt i) + hI H (jo i) 4 / 2
theorem c_X1_costOf {d m i : Nat} {jo fr tt : Nat → Nat} {H : PH} {Q : Option Value → PH → Prop} (hF : Fix H) (hJ : JS H m jo fr tt) (hi : i < m) (hq : Q (some (.int (cCost H jo fr tt i))) H) : Wp mX1_costOf (d + 1) 0 0 0 [some (.ref 5), some (.ref (jo i)), none] [] H Q := by
  obtain ⟨hn, h10, hr, hk, hl, -, hf, ht⟩ := hJ
  refine wp_aload_n dX1_costOf_0 rfl ?_
  refine wp_geti dX1_costOf_1 fl_RX1_80 rfl (hk i hi) ?_
  refine wp_iconst (v := 2) dX1_costOf_4 (by decide) ?_
  refine wp_icmp_ne (tgt := 12) dX1_costOf_5 (by decide) (fun h5 => ?_) (fun h5 => ?_)
  · refine wp_iconst (v := 2) dX1_costOf_12 (by decide) ?_
    refine wp_istore_n dX1_costOf_13 (by decide) ?_
    refine wp_iload_n dX1_costOf_14 rfl ?_
    refine wp_aload_n dX1_costOf_15 rfl ?_
    refine wp_aload_n dX1_costOf_16 rfl ?_
    refine wp_geti dX1_costOf_17 fl_RX1_63 rfl (hk i hi) ?_
    rw [(hf i hi).1]
    refine wp_aload_n dX1_costOf_20 rfl ?_
    refine wp_geti dX1_costOf_21 fl_RX1_66 rfl (hk i hi) ?_
    rw [(ht i hi).1]
    refine wp_callv2 (ci := 1) dX1_costOf_24 lk_RX1_69 ok_X1_minutesBetween im_X1_minutesBetween se_X1_minutesBetween rfl rfl (fk_5 hF) (Nat.le_of_ble_eq_true rfl) (Nat.le_of_ble_eq_true rfl) ?_
    refine c_X1_minutesBetween hF (hf i hi).2 (ht i hi).2 ?_
    refine wp_imul dX1_costOf_27 ?_
    refine wp_aload_n dX1_costOf_28 rfl ?_
    refine wp_geti dX1_costOf_29 fl_RX1_73 rfl (hk i hi) ?_
    refine wp_iconst (v := 2) dX1_costOf_32 (by decide) ?_
    refine wp_idiv dX1_costOf_33 (by decide) ?_
    refine wp_iadd dX1_costOf_34 ?_
    refine wp_ireturn rfl dX1_costOf_35 ?_
    unfold cCost at hq
    first | (rw [if_pos h5] at hq; exact hq) | (rw [if_neg h5] at hq; exact hq)
  · refine wp_iconst (v := 3) dX1_costOf_8 (by decide) ?_
    refine wp_goto (tgt := 13) dX1_costOf_9 (by decide) ?_
    refine wp_istore_n dX1_costOf_13 (by decide) ?_
    refine wp_iload_n dX1_costOf_14 rfl ?_
    refine wp_aload_n dX1_costOf_15 rfl ?_
    refine wp_aload_n dX1_costOf_16 rfl ?_
    refine wp_geti dX1_costOf_17 fl_RX1_63 rfl (hk i hi) ?_
    rw [(hf i hi).1]
    refine wp_aload_n dX1_costOf_20 rfl ?_
    refine wp_geti dX1_costOf_21 fl_RX1_66 rfl (hk i hi) ?_
    rw [(ht i hi).1]
    refine wp_callv2 (ci := 1) dX1_costOf_24 lk_RX1_69 ok_X1_minutesBetween im_X1_minutesBetween se_X1_minutesBetween rfl rfl (fk_5 hF) (Nat.le_of_ble_eq_true rfl) (Nat.le_of_ble_eq_true rfl) ?_
    refine c_X1_minutesBetween hF (hf i hi).2 (ht i hi).2 ?_
    refine wp_imul dX1_costOf_27 ?_
    refine wp_aload_n dX1_costOf_28 rfl ?_
    refine wp_geti dX1_costOf_29 fl_RX1_73 rfl (hk i hi) ?_
    refine wp_iconst (v := 2) dX1_costOf_32 (by decide) ?_
    refine wp_idiv dX1_costOf_33 (by decide) ?_
    refine wp_iadd dX1_costOf_34 ?_
    refine wp_ireturn rfl dX1_costOf_35 ?_
    unfold cCost at hq
    first | (rw [if_pos h5] at hq; exact hq) | (rw [if_neg h5] at hq; exact hq)
