/-! ===== CarriageHire$Teams ===== -/
def ush (x k : Int32) : Int32 := (x.toUInt32 >>> (k.toUInt32 &&& Int32.toUInt32 31)).toInt32
def bc1 (x : Int32) : Int32 := x - (ush x 1 &&& 1431655765)
def bc2 (x : Int32) : Int32 := (x &&& 858993459) + (ush x 2 &&& 858993459)
def bc3 (x : Int32) : Int32 := (x + ush x 4) &&& 252645135
def bc4 (x : Int32) : Int32 := x + ush x 8
def bc5 (x : Int32) : Int32 := x + ush x 16
def bcI (x : Int32) : Int32 := bc5 (bc4 (bc3 (bc2 (bc1 x)))) &&& 63
theorem c_J6_bitCount_0f7a4 {d : Nat} {x : Int32} {H : PH} {Q : Option Value → PH → Prop} (hq : Q (some (.int (bcI x))) H) : Wp mJ6_bitCount_0f7a4 d 0 0 0 [some (.int x)] [] H Q := by
  have s1 : ∀ y : Int32, (y.toUInt32 >>> ((1 : Int32).toUInt32 &&& Int32.toUInt32 31)).toInt32 = ush y 1 := fun _ => rfl
  refine wp_iload_n dJ6_bitCount_0f7a4_0 rfl ?_
  refine wp_iload_n dJ6_bitCount_0f7a4_1 rfl ?_
  refine wp_iconst (v := 1) dJ6_bitCount_0f7a4_2 (by decide) ?_
  refine wp_iushr dJ6_bitCount_0f7a4_3 ?_
  refine wp_ldc_w dJ6_bitCount_0f7a4_4 co_RJ6_265 ?_
  refine wp_iand dJ6_bitCount_0f7a4_7 ?_
  refine wp_isub dJ6_bitCount_0f7a4_8 ?_
  change Wp _ _ _ _ _ _ [Value.int (bc1 x)] H Q
  generalize hx1 : bc1 x = x1
  refine wp_istore_n dJ6_bitCount_0f7a4_9 (by decide) ?_
  refine wp_iload_n dJ6_bitCount_0f7a4_10 rfl ?_
  refine wp_ldc_w dJ6_bitCount_0f7a4_11 co_RJ6_266 ?_
  refine wp_iand dJ6_bitCount_0f7a4_14 ?_
  refine wp_iload_n dJ6_bitCount_0f7a4_15 rfl ?_
  refine wp_iconst (v := 2) dJ6_bitCount_0f7a4_16 (by decide) ?_
  refine wp_iushr dJ6_bitCount_0f7a4_17 ?_
  refine wp_ldc_w dJ6_bitCount_0f7a4_18 co_RJ6_266 ?_
  refine wp_iand dJ6_bitCount_0f7a4_21 ?_
  refine wp_iadd dJ6_bitCount_0f7a4_22 ?_
  change Wp _ _ _ _ _ _ [Value.int (bc2 x1)] H Q
  generalize hx2 : bc2 x1 = x2
  refine wp_istore_n dJ6_bitCount_0f7a4_23 (by decide) ?_
  refine wp_iload_n dJ6_bitCount_0f7a4_24 rfl ?_
  refine wp_iload_n dJ6_bitCount_0f7a4_25 rfl ?_
  refine wp_iconst (v := 4) dJ6_bitCount_0f7a4_26 (by decide) ?_
  refine wp_iushr dJ6_bitCount_0f7a4_27 ?_
  refine wp_iadd dJ6_bitCount_0f7a4_28 ?_
  refine wp_ldc_w dJ6_bitCount_0f7a4_29 co_RJ6_267 ?_
  refine wp_iand dJ6_bitCount_0f7a4_32 ?_
  change Wp _ _ _ _ _ _ [Value.int (bc3 x2)] H Q
  generalize hx3 : bc3 x2 = x3
  refine wp_istore_n dJ6_bitCount_0f7a4_33 (by decide) ?_
  refine wp_iload_n dJ6_bitCount_0f7a4_34 rfl ?_
  refine wp_iload_n dJ6_bitCount_0f7a4_35 rfl ?_
  refine wp_bipush (v := 8) dJ6_bitCount_0f7a4_36 (by decide) ?_
  refine wp_iushr dJ6_bitCount_0f7a4_38 ?_
  refine wp_iadd dJ6_bitCount_0f7a4_39 ?_
  change Wp _ _ _ _ _ _ [Value.int (bc4 x3)] H Q
  generalize hx4 : bc4 x3 = x4
  refine wp_istore_n dJ6_bitCount_0f7a4_40 (by decide) ?_
  refine wp_iload_n dJ6_bitCount_0f7a4_41 rfl ?_
  refine wp_iload_n dJ6_bitCount_0f7a4_42 rfl ?_
  refine wp_bipush (v := 16) dJ6_bitCount_0f7a4_43 (by decide) ?_
  refine wp_iushr dJ6_bitCount_0f7a4_45 ?_
  refine wp_iadd dJ6_bitCount_0f7a4_46 ?_
  change Wp _ _ _ _ _ _ [Value.int (bc5 x4)] H Q
  generalize hx5 : bc5 x4 = x5
  refine wp_istore_n dJ6_bitCount_0f7a4_47 (by decide) ?_
  refine wp_iload_n dJ6_bitCount_0f7a4_48 rfl ?_
  refine wp_bipush (v := 63) dJ6_bitCount_0f7a4_49 (by decide) ?_
  refine wp_iand dJ6_bitCount_0f7a4_51 ?_
  refine wp_ireturn rfl dJ6_bitCount_0f7a4_52 ?_
  rw [bcI, hx1, hx2, hx3, hx4, hx5] at hq; exact hq
theorem c_X10_setLeast {d : Nat} {a : Int32} {H : PH} {Q : Option Value → PH → Prop} (hF : Fix H) (hq1 : (0 ≤ a ∧ a ≤ 500) → Q (some (.int 1)) (sI H 13 2 a)) (hq2 : ¬ (0 ≤ a ∧ a ≤ 500) → Q (some (.int 0)) H) : Wp mX10_setLeast (d + 1) 0 0 0 [some (.ref 13), some (.int a)] [] H Q := by
  refine wp_iload_n dX10_setLeast_0 rfl ?_
  refine wp_iconst (v := 0) dX10_setLeast_1 (by decide) ?_
  refine wp_sipush (v := 500) dX10_setLeast_2 (by decide) ?_
  refine wp_calls3 dX10_setLeast_5 lk_RX10_19 ok_X11_within st_X11_within (Nat.le_of_ble_eq_true rfl) (Nat.le_of_ble_eq_true rfl) ?_
  refine c_X11_within ?_
  refine wp_ifb_ne (tgt := 13) dX10_setLeast_8 (by decide) (fun h8 => ?_) (fun h8 => ?_)
  · refine wp_aload_n dX10_setLeast_13 rfl ?_
    refine wp_iload_n dX10_setLeast_14 rfl ?_
    refine wp_puti dX10_setLeast_15 fl_RX10_23 (mp_10_2 _ _) rfl (fk_13 hF) ?_
    refine wp_iconst (v := 1) dX10_setLeast_18 (by decide) ?_
    refine wp_zreturn rfl (Or.inr rfl) dX10_setLeast_19 ?_
    exact hq1 h8
  · refine wp_iconst (v := 0) dX10_setLeast_11 (by decide) ?_
    refine wp_zreturn rfl (Or.inl rfl) dX10_setLeast_12 ?_
    exact hq2 h8
theorem c_X1_findKeptN {d m e : Nat} {jo fr tt : Nat → Nat} {H : PH} {Q : Option Value → PH → Prop} (hF : Fix H) (hJ : JS H m jo fr tt) (he : e < m) (hq1 : hI H (jo e) 8 = 0 → Q (some (.ref (jo e))) H) (hq2 : ¬ hI H (jo e) 8 = 0 → Q (some .null) H) : Wp mX1_findKept (d + 1) 0 0 0 [some (.ref 5), some (.int (nI e)), none] [] H Q := by
  have h10 := hJ.2.1
  refine c_X1_findKept hF hJ (fun j hj hxj hd => ?_) (fun hx => ?_)
  · have e9 : j = e := (nI_eq (by omega) (by omega)).mp hxj.symm
    subst e9; exact hq1 hd
  · exact hq2 (fun q => hx ⟨e, he, rfl, q⟩)
theorem c_X10_harness {d m n : Nat} {jo fr tt : Nat → Nat} {x z : Int32} {H : PH} {Q : Option Value → PH → Prop} (hF : Fix H) (hJ : JS H m jo fr tt) (hn : hI H 2 2 = nI n)
    (hq1 : ∀ j, j < m → x = nI j → hI H (jo j) 8 = 0 → hall z n → (z = 0 ∨ bcI z = hI H (jo j) 5) → Q (some (.int 1)) (sI H (jo j) 7 z))
    (hq2 : (¬ ∃ j, j < m ∧ x = nI j ∧ hI H (jo j) 8 = 0 ∧ hall z n ∧ (z = 0 ∨ bcI z = hI H (jo j) 5)) → Q (some (.int 0)) H) : Wp mX10_harness (d + 2) 0 0 0 [some (.ref 13), some (.int x), some (.int z), none, none] [] H Q := by
  have hJ0 := hJ
  obtain ⟨-, h10, -, hk, -⟩ := hJ
  refine wp_aload_n dX10_harness_0 rfl ?_
  refine wp_geta dX10_harness_1 fl_RX10_15 rfl (fk_13 hF) (fr_13_1 hF) ?_
  refine wp_iload_n dX10_harness_4 rfl ?_
  refine wp_callv1 (ci := 1) dX10_harness_5 lk_RX10_27 ok_X1_findKept im_X1_findKept se_X1_findKept rfl rfl (fk_5 hF) (Nat.le_of_ble_eq_true rfl) (Nat.le_of_ble_eq_true rfl) ?_
  refine c_X1_findKept hF hJ0 (fun j hj hxj hd => ?_) (fun hx => ?_)
  · refine wp_astore_n dX10_harness_8 (by decide) ?_
    refine wp_aload_n dX10_harness_9 rfl ?_
    refine wp_ifnull (r := some _) (tgt := 43) dX10_harness_10 (by decide) (fun h => by cases h) (fun _ _ => ?_)
    refine wp_aload_n dX10_harness_13 rfl ?_
    refine wp_geta dX10_harness_14 fl_RX10_9 rfl (fk_13 hF) (fr_13_0 hF) ?_
    refine wp_iload_n dX10_harness_17 rfl ?_
    refine wp_callv1 (ci := 8) dX10_harness_18 lk_RX10_33 ok_X8_hasAll im_X8_hasAll se_X8_hasAll rfl rfl (fk_2 hF) (Nat.le_of_ble_eq_true rfl) (Nat.le_of_ble_eq_true rfl) ?_
    refine c_X8_hasAll hF hn ?_
    refine wp_ifb_eq (tgt := 43) dX10_harness_21 (by decide) (fun h21 => ?_) (fun h21 => ?_)
    · refine wp_iconst (v := 0) dX10_harness_43 (by decide) ?_
      refine wp_istore dX10_harness_44 (by decide) ?_
      refine wp_iload dX10_harness_46 rfl ?_
      refine wp_if_eq (tgt := 56) dX10_harness_48 (by decide) (fun _ => ?_) (fun h48 => absurd rfl h48)
      refine wp_iload dX10_harness_56 rfl ?_
      refine wp_zreturn rfl (Or.inl rfl) dX10_harness_58 ?_
      first
          | exact hq1 j hj hxj hd h21 (by first | exact Or.inl h25 | exact Or.inr h36)
          | (refine hq2 (fun ⟨j', q1, q2, q3, q4, q5⟩ => ?_)
             first
               | exact hx ⟨j', q1, q2, q3⟩
               | exact h21 q4
               | (have e9 : j' = j := (nI_eq (by omega) (by omega)).mp (q2.symm.trans hxj)
                  subst e9; exact q5.elim h25 h36))
          | exact absurd h48 (by decide)
          | exact absurd rfl h48
    · refine wp_iload_n dX10_harness_24 rfl ?_
      refine wp_if_eq (tgt := 39) dX10_harness_25 (by decide) (fun h25 => ?_) (fun h25 => ?_)
      · refine wp_iconst (v := 1) dX10_harness_39 (by decide) ?_
        refine wp_goto (tgt := 44) dX10_harness_40 (by decide) ?_
        refine wp_istore dX10_harness_44 (by decide) ?_
        refine wp_iload dX10_harness_46 rfl ?_
        refine wp_if_eq (tgt := 56) dX10_harness_48 (by decide) (fun h48 => absurd h48 (by decide)) (fun _ => ?_)
        refine wp_aload_n dX10_harness_51 rfl ?_
        refine wp_iload_n dX10_harness_52 rfl ?_
        refine wp_puti dX10_harness_53 fl_RX10_50 (mp_3_7 _ _) rfl (hk j hj) ?_
        refine wp_iload dX10_harness_56 rfl ?_
        refine wp_zreturn rfl (Or.inr rfl) dX10_harness_58 ?_
        first
            | exact hq1 j hj hxj hd h21 (by first | exact Or.inl h25 | exact Or.inr h36)
            | (refine hq2 (fun ⟨j', q1, q2, q3, q4, q5⟩ => ?_)
               first
                 | exact hx ⟨j', q1, q2, q3⟩
                 | exact h21 q4
                 | (have e9 : j' = j := (nI_eq (by omega) (by omega)).mp (q2.symm.trans hxj)
                    subst e9; exact q5.elim h25 h36))
            | exact absurd h48 (by decide)
            | exact absurd rfl h48
      · refine wp_iload_n dX10_harness_28 rfl ?_
        refine wp_calls1 dX10_harness_29 lk_RX10_39 ok_J6_bitCount_0f7a4 st_J6_bitCount_0f7a4 (Nat.le_of_ble_eq_true rfl) (Nat.le_of_ble_eq_true rfl) ?_
        refine c_J6_bitCount_0f7a4 ?_
        refine wp_aload_n dX10_harness_32 rfl ?_
        refine wp_geti dX10_harness_33 fl_RX10_45 rfl (hk j hj) ?_
        refine wp_icmp_ne (tgt := 43) dX10_harness_36 (by decide) (fun h36 => ?_) (fun h36 => ?_)
        · refine wp_iconst (v := 0) dX10_harness_43 (by decide) ?_
          refine wp_istore dX10_harness_44 (by decide) ?_
          refine wp_iload dX10_harness_46 rfl ?_
          refine wp_if_eq (tgt := 56) dX10_harness_48 (by decide) (fun _ => ?_) (fun h48 => absurd rfl h48)
          refine wp_iload dX10_harness_56 rfl ?_
          refine wp_zreturn rfl (Or.inl rfl) dX10_harness_58 ?_
          first
              | exact hq1 j hj hxj hd h21 (by first | exact Or.inl h25 | exact Or.inr h36)
              | (refine hq2 (fun ⟨j', q1, q2, q3, q4, q5⟩ => ?_)
                 first
                   | exact hx ⟨j', q1, q2, q3⟩
                   | exact h21 q4
                   | (have e9 : j' = j := (nI_eq (by omega) (by omega)).mp (q2.symm.trans hxj)
                      subst e9; exact q5.elim h25 h36))
              | exact absurd h48 (by decide)
              | exact absurd rfl h48
        · refine wp_iconst (v := 1) dX10_harness_39 (by decide) ?_
          refine wp_goto (tgt := 44) dX10_harness_40 (by decide) ?_
          refine wp_istore dX10_harness_44 (by decide) ?_
          refine wp_iload dX10_harness_46 rfl ?_
          refine wp_if_eq (tgt := 56) dX10_harness_48 (by decide) (fun h48 => absurd h48 (by decide)) (fun _ => ?_)
          refine wp_aload_n dX10_harness_51 rfl ?_
          refine wp_iload_n dX10_harness_52 rfl ?_
          refine wp_puti dX10_harness_53 fl_RX10_50 (mp_3_7 _ _) rfl (hk j hj) ?_
          refine wp_iload dX10_harness_56 rfl ?_
          refine wp_zreturn rfl (Or.inr rfl) dX10_harness_58 ?_
          first
              | exact hq1 j hj hxj hd h21 (by first | exact Or.inl h25 | exact Or.inr h36)
              | (refine hq2 (fun ⟨j', q1, q2, q3, q4, q5⟩ => ?_)
                 first
                   | exact hx ⟨j', q1, q2, q3⟩
                   | exact h21 q4
                   | (have e9 : j' = j := (nI_eq (by omega) (by omega)).mp (q2.symm.trans hxj)
                      subst e9; exact q5.elim h25 h36))
              | exact absurd h48 (by decide)
              | exact absurd rfl h48
  · refine wp_astore_nN dX10_harness_8 (by decide) ?_
    refine wp_aload_nN dX10_harness_9 rfl ?_
    refine wp_ifnull (r := none) (tgt := 43) dX10_harness_10 (by decide) (fun _ => ?_) (fun _ h => by cases h)
    refine wp_iconst (v := 0) dX10_harness_43 (by decide) ?_
    refine wp_istore dX10_harness_44 (by decide) ?_
    refine wp_iload dX10_harness_46 rfl ?_
    refine wp_if_eq (tgt := 56) dX10_harness_48 (by decide) (fun _ => ?_) (fun h48 => absurd rfl h48)
    refine wp_iload dX10_harness_56 rfl ?_
    refine wp_zreturn rfl (Or.inl rfl) dX10_harness_58 ?_
    first
        | exact hq1 j hj hxj hd h21 (by first | exact Or.inl h25 | exact Or.inr h36)
        | (refine hq2 (fun ⟨j', q1, q2, q3, q4, q5⟩ => ?_)
           first
             | exact hx ⟨j', q1, q2, q3⟩
             | exact h21 q4
             | (have e9 : j' = j := (nI_eq (by omega) (by omega)).mp (q2.symm.trans hxj)
                subst e9; exact q5.elim h25 h36))
        | exact absurd h48 (by decide)
        | exact absurd rfl h48
theorem c_X10_isHarnessed {d m n : Nat} {jo fr tt : Nat → Nat} {x z : Int32} {H : PH} {Q : Option Value → PH → Prop} (hF : Fix H) (hJ : JS H m jo fr tt) (hn : hI H 2 2 = nI n) (hn16 : n ≤ 16) (hq : Q (some (.int (bI (∃ j h, j < m ∧ h < n ∧ x = nI j ∧ z = nI h ∧ hI H (jo j) 8 = 0 ∧ hb (hI H (jo j) 7) h)))) H) : Wp mX10_isHarnessed (d + 2) 0 0 0 [some (.ref 13), some (.int x), some (.int z), none] [] H Q := by
  have hJ0 := hJ
  obtain ⟨-, h10, -, hk, -⟩ := hJ
  refine wp_aload_n dX10_isHarnessed_0 rfl ?_
  refine wp_geta dX10_isHarnessed_1 fl_RX10_15 rfl (fk_13 hF) (fr_13_1 hF) ?_
  refine wp_iload_n dX10_isHarnessed_4 rfl ?_
  refine wp_callv1 (ci := 1) dX10_isHarnessed_5 lk_RX10_27 ok_X1_findKept im_X1_findKept se_X1_findKept rfl rfl (fk_5 hF) (Nat.le_of_ble_eq_true rfl) (Nat.le_of_ble_eq_true rfl) ?_
  refine c_X1_findKept hF hJ0 (fun j hj hxj hd => ?_) (fun hx => ?_)
  · refine wp_astore_n dX10_isHarnessed_8 (by decide) ?_
    refine wp_aload_n dX10_isHarnessed_9 rfl ?_
    refine wp_ifnull (r := some _) (tgt := 39) dX10_isHarnessed_10 (by decide) (fun h => by cases h) (fun _ _ => ?_)
    refine wp_aload_n dX10_isHarnessed_13 rfl ?_
    refine wp_geta dX10_isHarnessed_14 fl_RX10_9 rfl (fk_13 hF) (fr_13_0 hF) ?_
    refine wp_iload_n dX10_isHarnessed_17 rfl ?_
    refine wp_callv1 (ci := 8) dX10_isHarnessed_18 lk_RX10_53 ok_X8_has im_X8_has se_X8_has rfl rfl (fk_2 hF) (Nat.le_of_ble_eq_true rfl) (Nat.le_of_ble_eq_true rfl) ?_
    refine c_X8_has hF hn ?_
    refine wp_ifb_eq (tgt := 39) dX10_isHarnessed_21 (by decide) (fun h21 => ?_) (fun h21 => ?_)
    · refine wp_iconst (v := 0) dX10_isHarnessed_39 (by decide) ?_
      refine wp_zreturn rfl (Or.inl rfl) dX10_isHarnessed_40 ?_
      first
          | exact bq_t hq ⟨j, hh, hj, hhn, hxj, rfl, hd, h32⟩
          | (refine bq_f hq (fun ⟨j', h', q1, q2, q3, q4, q5, q6⟩ => ?_)
             first
               | exact hx ⟨j', q1, q3, q5⟩
               | exact h21 ⟨by rw [q4]; exact nI_pos' (by omega), by rw [q4]; exact nI_lt q2 (by omega)⟩
               | (have e9 : j' = j := (nI_eq (by omega) (by omega)).mp (q3.symm.trans hxj)
                  have e8 : h' = hh := (nI_eq (by omega) (by omega)).mp q4.symm
                  subst e9; subst e8; exact h32 q6))
    · obtain ⟨hh, hhn, rfl⟩ := in_of (n := n) (by omega) h21
      refine wp_aload_n dX10_isHarnessed_24 rfl ?_
      refine wp_geti dX10_isHarnessed_25 fl_RX10_50 rfl (hk j hj) ?_
      refine wp_iload_n dX10_isHarnessed_28 rfl ?_
      refine wp_calls2 dX10_isHarnessed_29 lk_RX10_56 ok_X11_hasBit st_X11_hasBit (Nat.le_of_ble_eq_true rfl) (Nat.le_of_ble_eq_true rfl) ?_
      refine c_X11_hasBit ?_
      refine wp_ifb_eq (tgt := 39) dX10_isHarnessed_32 (by decide) (fun h32 => ?_) (fun h32 => ?_)
      · refine wp_iconst (v := 0) dX10_isHarnessed_39 (by decide) ?_
        refine wp_zreturn rfl (Or.inl rfl) dX10_isHarnessed_40 ?_
        first
            | exact bq_t hq ⟨j, hh, hj, hhn, hxj, rfl, hd, h32⟩
            | (refine bq_f hq (fun ⟨j', h', q1, q2, q3, q4, q5, q6⟩ => ?_)
               first
                 | exact hx ⟨j', q1, q3, q5⟩
                 | exact h21 ⟨by rw [q4]; exact nI_pos' (by omega), by rw [q4]; exact nI_lt q2 (by omega)⟩
                 | (have e9 : j' = j := (nI_eq (by omega) (by omega)).mp (q3.symm.trans hxj)
                    have e8 : h' = hh := (nI_eq (by omega) (by omega)).mp q4.symm
                    subst e9; subst e8; exact h32 q6))
      · refine wp_iconst (v := 1) dX10_isHarnessed_35 (by decide) ?_
        refine wp_goto (tgt := 40) dX10_isHarnessed_36 (by decide) ?_
        refine wp_zreturn rfl (Or.inr rfl) dX10_isHarnessed_40 ?_
        first
            | exact bq_t hq ⟨j, hh, hj, hhn, hxj, rfl, hd, h32⟩
            | (refine bq_f hq (fun ⟨j', h', q1, q2, q3, q4, q5, q6⟩ => ?_)
               first
                 | exact hx ⟨j', q1, q3, q5⟩
                 | exact h21 ⟨by rw [q4]; exact nI_pos' (by omega), by rw [q4]; exact nI_lt q2 (by omega)⟩
                 | (have e9 : j' = j := (nI_eq (by omega) (by omega)).mp (q3.symm.trans hxj)
                    have e8 : h' = hh := (nI_eq (by omega) (by omega)).mp q4.symm
                    subst e9; subst e8; exact h32 q6))
  · refine wp_astore_nN dX10_isHarnessed_8 (by decide) ?_
    refine wp_aload_nN dX10_isHarnessed_9 rfl ?_
    refine wp_ifnull (r := none) (tgt := 39) dX10_isHarnessed_10 (by decide) (fun _ => ?_) (fun _ h => by cases h)
    refine wp_iconst (v := 0) dX10_isHarnessed_39 (by decide) ?_
    refine wp_zreturn rfl (Or.inl rfl) dX10_isHarnessed_40 ?_
    first
        | exact bq_t hq ⟨j, hh, hj, hhn, hxj, rfl, hd, h32⟩
        | (refine bq_f hq (fun ⟨j', h', q1, q2, q3, q4, q5, q6⟩ => ?_)
           first
             | exact hx ⟨j', q1, q3, q5⟩
             | exact h21 ⟨by rw [q4]; exact nI_pos' (by omega), by rw [q4]; exact nI_lt q2 (by omega)⟩
             | (have e9 : j' = j := (nI_eq (by omega) (by omega)).mp (q3.symm.trans hxj)
                have e8 : h' = hh := (nI_eq (by omega) (by omega)).mp q4.symm
                subst e9; subst e8; exact h32 q6))
def els (H : PH) (m : Nat) (jo fr tt : Nat → Nat) (i : Nat) (z : Int32) : Prop := ∃ e, e < m ∧ hI H (jo e) 8 = 0 ∧ e ≠ i ∧ ¬ (hI H (jo e) 7 &&& z) = 0 ∧ ¬ cFol H jo fr tt i e ∧ ¬ cFol H jo fr tt e i
theorem l_X10_isElsewhere {d m i : Nat} {jo fr tt : Nat → Nat} {z : Int32} {H : PH} {Q : Option Value → PH → Prop} (hF : Fix H) (hJ : JS H m jo fr tt) (hi : i < m) (hq : Q (some (.int (bI (els H m jo fr tt i z)))) H) : ∀ (f e : Nat), m - e = f → e ≤ m → (∀ g, g < e → ¬ (hI H (jo g) 8 = 0 ∧ g ≠ i ∧ ¬ (hI H (jo g) 7 &&& z) = 0 ∧ ¬ cFol H jo fr tt i g ∧ ¬ cFol H jo fr tt g i)) → Wp mX10_isElsewhere (d + 3) 0 0 3 [some (.ref 13), some (.int (nI i)), some (.ref (jo i)), some (.int z), some (.int (nI e)), none] [] H Q := by
  have hJ0 := hJ
  obtain ⟨hm, h10, -, hk, -⟩ := hJ
  intro f
  induction f with
  | zero =>
    intro e hf he hbb
    have hin : e = m := by omega
    subst hin
    refine wp_iload dX10_isElsewhere_3 rfl ?_
    refine wp_aload_n dX10_isElsewhere_5 rfl ?_
    refine wp_geta dX10_isElsewhere_6 fl_RX10_15 rfl (fk_13 hF) (fr_13_1 hF) ?_
    refine wp_geti dX10_isElsewhere_9 fl_RX10_77 rfl (fk_5 hF) ?_
    refine wp_icmp_ge (tgt := 81) dX10_isElsewhere_12 (by decide) (fun _ => ?_) (fun h12 => absurd h12 (by rw [hm]; exact fun h => h (nI_le (Nat.le_refl _) (by omega))))
    refine wp_iconst (v := 0) dX10_isElsewhere_81 (by decide) ?_
    refine wp_zreturn rfl (Or.inl rfl) dX10_isElsewhere_82 ?_
    exact bq_f hq (fun ⟨g, q1, q2⟩ => hbb g q1 q2)
  | succ f ih =>
    intro e hf he hbb
    have hlt : e < m := by omega
    refine wp_iload dX10_isElsewhere_3 rfl ?_
    refine wp_aload_n dX10_isElsewhere_5 rfl ?_
    refine wp_geta dX10_isElsewhere_6 fl_RX10_15 rfl (fk_13 hF) (fr_13_1 hF) ?_
    refine wp_geti dX10_isElsewhere_9 fl_RX10_77 rfl (fk_5 hF) ?_
    refine wp_icmp_ge (tgt := 81) dX10_isElsewhere_12 (by decide) (fun h12 => absurd h12 (by rw [hm]; exact nI_ge (by omega) (by omega))) (fun _ => ?_)
    refine wp_aload_n dX10_isElsewhere_15 rfl ?_
    refine wp_geta dX10_isElsewhere_16 fl_RX10_15 rfl (fk_13 hF) (fr_13_1 hF) ?_
    refine wp_iload dX10_isElsewhere_19 rfl ?_
    refine wp_callv1 (ci := 1) dX10_isElsewhere_21 lk_RX10_27 ok_X1_findKept im_X1_findKept se_X1_findKept rfl rfl (fk_5 hF) (Nat.le_of_ble_eq_true rfl) (Nat.le_of_ble_eq_true rfl) ?_
    refine c_X1_findKeptN hF hJ0 hlt (fun hd => ?_) (fun hd => ?_)
    · refine wp_astore dX10_isElsewhere_24 (by decide) ?_
      refine wp_aload dX10_isElsewhere_26 rfl ?_
      refine wp_ifnull (r := some _) (tgt := 75) dX10_isElsewhere_28 (by decide) (fun h => by cases h) (fun _ _ => ?_)
      refine wp_iload dX10_isElsewhere_31 rfl ?_
      refine wp_iload_n dX10_isElsewhere_33 rfl ?_
      refine wp_icmp_eq (tgt := 75) dX10_isElsewhere_34 (by decide) (fun h34 => ?_) (fun h34 => ?_)
      · refine wp_incN dX10_isElsewhere_75 rfl (by decide) ?_
        refine wp_goto (tgt := 3) dX10_isElsewhere_78 (by decide) ?_
        refine wp_forget 5 (ih (e + 1) (by omega) (by omega) (fun g hg => ?_))
        rcases Nat.lt_succ_iff_lt_or_eq.mp hg with q | q
        · exact hbb g q
        · subst q
          rintro ⟨q1, q2, q3, q4, q5⟩
          first
            | exact hd q1
            | exact q2 ((nI_eq (by omega) (by omega)).mp h34)
            | exact q3 h44
            | exact q4 h57
            | exact q5 h70
      · refine wp_aload dX10_isElsewhere_37 rfl ?_
        refine wp_geti dX10_isElsewhere_39 fl_RX10_50 rfl (hk e hlt) ?_
        refine wp_iload_n dX10_isElsewhere_42 rfl ?_
        refine wp_iand dX10_isElsewhere_43 ?_
        refine wp_if_eq (tgt := 75) dX10_isElsewhere_44 (by decide) (fun h44 => ?_) (fun h44 => ?_)
        · refine wp_incN dX10_isElsewhere_75 rfl (by decide) ?_
          refine wp_goto (tgt := 3) dX10_isElsewhere_78 (by decide) ?_
          refine wp_forget 5 (ih (e + 1) (by omega) (by omega) (fun g hg => ?_))
          rcases Nat.lt_succ_iff_lt_or_eq.mp hg with q | q
          · exact hbb g q
          · subst q
            rintro ⟨q1, q2, q3, q4, q5⟩
            first
              | exact hd q1
              | exact q2 ((nI_eq (by omega) (by omega)).mp h34)
              | exact q3 h44
              | exact q4 h57
              | exact q5 h70
        · refine wp_aload_n dX10_isElsewhere_47 rfl ?_
          refine wp_geta dX10_isElsewhere_48 fl_RX10_15 rfl (fk_13 hF) (fr_13_1 hF) ?_
          refine wp_aload_n dX10_isElsewhere_51 rfl ?_
          refine wp_aload dX10_isElsewhere_52 rfl ?_
          refine wp_callv2 (ci := 1) dX10_isElsewhere_54 lk_RX10_80 ok_X1_mayFollow im_X1_mayFollow se_X1_mayFollow rfl rfl (fk_5 hF) (Nat.le_of_ble_eq_true rfl) (Nat.le_of_ble_eq_true rfl) ?_
          refine c_X1_mayFollow hF hJ0 hi hlt ?_
          refine wp_ifb_ne (tgt := 75) dX10_isElsewhere_57 (by decide) (fun h57 => ?_) (fun h57 => ?_)
          · refine wp_incN dX10_isElsewhere_75 rfl (by decide) ?_
            refine wp_goto (tgt := 3) dX10_isElsewhere_78 (by decide) ?_
            refine wp_forget 5 (ih (e + 1) (by omega) (by omega) (fun g hg => ?_))
            rcases Nat.lt_succ_iff_lt_or_eq.mp hg with q | q
            · exact hbb g q
            · subst q
              rintro ⟨q1, q2, q3, q4, q5⟩
              first
                | exact hd q1
                | exact q2 ((nI_eq (by omega) (by omega)).mp h34)
                | exact q3 h44
                | exact q4 h57
                | exact q5 h70
          · refine wp_aload_n dX10_isElsewhere_60 rfl ?_
            refine wp_geta dX10_isElsewhere_61 fl_RX10_15 rfl (fk_13 hF) (fr_13_1 hF) ?_
            refine wp_aload dX10_isElsewhere_64 rfl ?_
            refine wp_aload_n dX10_isElsewhere_66 rfl ?_
            refine wp_callv2 (ci := 1) dX10_isElsewhere_67 lk_RX10_80 ok_X1_mayFollow im_X1_mayFollow se_X1_mayFollow rfl rfl (fk_5 hF) (Nat.le_of_ble_eq_true rfl) (Nat.le_of_ble_eq_true rfl) ?_
            refine c_X1_mayFollow hF hJ0 hlt hi ?_
            refine wp_ifb_ne (tgt := 75) dX10_isElsewhere_70 (by decide) (fun h70 => ?_) (fun h70 => ?_)
            · refine wp_incN dX10_isElsewhere_75 rfl (by decide) ?_
              refine wp_goto (tgt := 3) dX10_isElsewhere_78 (by decide) ?_
              refine wp_forget 5 (ih (e + 1) (by omega) (by omega) (fun g hg => ?_))
              rcases Nat.lt_succ_iff_lt_or_eq.mp hg with q | q
              · exact hbb g q
              · subst q
                rintro ⟨q1, q2, q3, q4, q5⟩
                first
                  | exact hd q1
                  | exact q2 ((nI_eq (by omega) (by omega)).mp h34)
                  | exact q3 h44
                  | exact q4 h57
                  | exact q5 h70
            · refine wp_iconst (v := 1) dX10_isElsewhere_73 (by decide) ?_
              refine wp_zreturn rfl (Or.inr rfl) dX10_isElsewhere_74 ?_
              exact bq_t hq ⟨e, hlt, hd, fun q => h34 (by rw [q]), h44, h57, h70⟩
    · refine wp_astoreN dX10_isElsewhere_24 (by decide) ?_
      refine wp_aloadN dX10_isElsewhere_26 rfl ?_
      refine wp_ifnull (r := none) (tgt := 75) dX10_isElsewhere_28 (by decide) (fun _ => ?_) (fun _ h => by cases h)
      refine wp_incN dX10_isElsewhere_75 rfl (by decide) ?_
      refine wp_goto (tgt := 3) dX10_isElsewhere_78 (by decide) ?_
      refine wp_forget 5 (ih (e + 1) (by omega) (by omega) (fun g hg => ?_))
      rcases Nat.lt_succ_iff_lt_or_eq.mp hg with q | q
      · exact hbb g q
      · subst q
        rintro ⟨q1, q2, q3, q4, q5⟩
        first
          | exact hd q1
          | exact q2 ((nI_eq (by omega) (by omega)).mp h34)
          | exact q3 h44
          | exact q4 h57
          | exact q5 h70
theorem c_X10_isElsewhere {d m i : Nat} {jo fr tt : Nat → Nat} {z : Int32} {H : PH} {Q : Option Value → PH → Prop} (hF : Fix H) (hJ : JS H m jo fr tt) (hi : i < m) (hq : Q (some (.int (bI (els H m jo fr tt i z)))) H) : Wp mX10_isElsewhere (d + 3) 0 0 0 [some (.ref 13), some (.int (nI i)), some (.ref (jo i)), some (.int z), none, none] [] H Q := by
  refine wp_iconst (v := 0) dX10_isElsewhere_0 (by decide) ?_
  refine wp_istore dX10_isElsewhere_1 (by decide) ?_
  exact l_X10_isElsewhere hF hJ hi hq m 0 (by omega) (by omega) (fun g hg => absurd hg (Nat.not_lt_zero g))
