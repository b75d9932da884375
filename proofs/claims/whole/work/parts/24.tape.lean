/-! ===== the tape: class and reference ===== -/
def bt8 (v s : Int32) : Int32 := (v.toUInt32 >>> (s.toUInt32 &&& Int32.toUInt32 31)).toInt32.toInt8.toInt32.toInt8.toInt32
def ap1 (H : PH) (L : Nat) (b : Int32) : PH := sI (sI H 15 L b) 14 1 (nI (L + 1))
def apd (H : PH) (L : Nat) (v : Int32) : PH := ap1 (ap1 (ap1 (ap1 H L (bt8 v 24)) (L + 1) (bt8 v 16)) (L + 2) (bt8 v 8)) (L + 3) (bt8 v 0)
theorem Fix_ap1 {H : PH} {L : Nat} {b : Int32} (h : Fix H) : Fix (ap1 H L b) := h
theorem Fix_apd {H : PH} {L : Nat} {b : Int32} (h : Fix H) : Fix (apd H L b) := Fix_ap1 (Fix_ap1 (Fix_ap1 (Fix_ap1 h)))
theorem ap1_len (H : PH) (L : Nat) (b : Int32) : hI (ap1 H L b) 14 1 = nI (L + 1) := by simp [ap1, hI_sI']
theorem s_X9_append {d L : Nat} {v s : Int32} {H : PH} {Q : Option Value → PH → Prop} (hF : Fix H) (hn : hI H 14 1 = nI L) (hL : L < 600) (hs : ¬ s < 0) (k : Wp mX9_append d 0 0 3 [some (.ref 14), some (.int v), some (.int (s + -8))] [] (ap1 H L (bt8 v s)) Q) : Wp mX9_append d 0 0 3 [some (.ref 14), some (.int v), some (.int s)] [] H Q := by
  refine wp_iload_n dX9_append_3 rfl ?_
  refine wp_if_lt (tgt := 48) dX9_append_4 (by decide) (fun h4 => absurd h4 (hs)) (fun _ => ?_)
  refine wp_aload_n dX9_append_7 rfl ?_
  refine wp_geti dX9_append_8 fl_RX9_15 rfl (fk_14 hF) ?_
  refine wp_aload_n dX9_append_11 rfl ?_
  refine wp_geta dX9_append_12 fl_RX9_9 rfl (fk_14 hF) (fr_14_0 hF) ?_
  refine wp_alen dX9_append_15 (fk_15 hF) (by simp) ?_
  refine wp_icmp_ge (tgt := 48) dX9_append_16 (by decide) (fun h16 => absurd h16 (by rw [hn]; exact nI_ge (a := L) (b := 600) hL (by decide))) (fun _ => ?_)
  refine wp_aload_n dX9_append_19 rfl ?_
  refine wp_geta dX9_append_20 fl_RX9_9 rfl (fk_14 hF) (fr_14_0 hF) ?_
  refine wp_aload_n dX9_append_23 rfl ?_
  refine wp_geti dX9_append_24 fl_RX9_15 rfl (fk_14 hF) ?_
  rw [hn]
  refine wp_iload_n dX9_append_27 rfl ?_
  refine wp_iload_n dX9_append_28 rfl ?_
  refine wp_iushr dX9_append_29 ?_
  refine wp_i2b dX9_append_30 ?_
  refine wp_bastoreN dX9_append_31 (fk_15 hF) (by omega) (by decide) ?_
  refine wp_aload_n dX9_append_32 rfl ?_
  refine wp_dup dX9_append_33 rfl ?_
  refine wp_geti dX9_append_34 fl_RX9_15 rfl (fk_14 (Fix_sI hF)) ?_
  simp only [hI_sI', Nat.reduceEqDiff, false_and, ↓reduceIte, hn]
  refine wp_iconst (v := 1) dX9_append_37 (by decide) ?_
  refine wp_iadd dX9_append_38 ?_
  rw [nI_1]
  refine wp_puti dX9_append_39 fl_RX9_15 (mp_9_1 _ _) rfl (fk_14 (Fix_sI hF)) ?_
  refine wp_inc (c := -8) dX9_append_42 rfl (by decide) (by decide) ?_
  refine wp_goto (tgt := 3) dX9_append_45 (by decide) ?_
  exact k
theorem c_X9_append {d L : Nat} {v : Int32} {H : PH} {Q : Option Value → PH → Prop} (hF : Fix H) (hn : hI H 14 1 = nI L) (hL : L + 4 ≤ 600) (hq : Q none (apd H L v)) : Wp mX9_append d 0 0 0 [some (.ref 14), some (.int v), none] [] H Q := by
  refine wp_bipush (v := 24) dX9_append_0 (by decide) ?_
  refine wp_istore_n dX9_append_2 (by decide) ?_
  refine s_X9_append hF hn (by omega) (by decide) ?_
  refine s_X9_append (H := ap1 H L (bt8 v 24)) (Fix_ap1 hF) (ap1_len _ _ _) (by omega) (by decide) ?_
  refine s_X9_append (H := ap1 (ap1 H L (bt8 v 24)) (L + 1) (bt8 v 16)) (Fix_ap1 (Fix_ap1 hF)) (ap1_len _ _ _) (by omega) (by decide) ?_
  refine s_X9_append (H := ap1 (ap1 (ap1 H L (bt8 v 24)) (L + 1) (bt8 v 16)) (L + 2) (bt8 v 8)) (Fix_ap1 (Fix_ap1 (Fix_ap1 hF))) (ap1_len _ _ _) (by omega) (by decide) ?_
  refine wp_iload_n dX9_append_3 rfl ?_
  refine wp_if_lt (tgt := 48) dX9_append_4 (by decide) (fun _ => ?_) (fun h4 => absurd h4 (by decide))
  refine wp_return rfl dX9_append_48 ?_
  exact hq
theorem apd_len (H : PH) (L : Nat) (v : Int32) : hI (apd H L v) 14 1 = nI (L + 4) := ap1_len _ _ _
def apA (H : PH) (L : Nat) (a b c e f : Int32) : PH := apd (apd (apd (apd (apd H L a) (L + 4) b) (L + 8) c) (L + 12) e) (L + 16) f
theorem c_X9_appendAll {d L : Nat} {a b c e f : Int32} {H : PH} {Q : Option Value → PH → Prop} (hF : Fix H) (hn : hI H 14 1 = nI L) (hL : L ≤ 600) (hq1 : L + 20 ≤ 600 → Q (some (.int (nI (L + 20)))) (apA H L a b c e f)) (hq2 : ¬ L + 20 ≤ 600 → Q (some (.int (-1))) H) : Wp mX9_appendAll (d + 1) 0 0 0 [some (.ref 14), some (.int a), some (.int b), some (.int c), some (.int e), some (.int f)] [] H Q := by
  refine wp_aload_n dX9_appendAll_0 rfl ?_
  refine wp_geti dX9_appendAll_1 fl_RX9_15 rfl (fk_14 hF) ?_
  rw [hn]
  refine wp_bipush (v := 20) dX9_appendAll_4 (by decide) ?_
  refine wp_iadd dX9_appendAll_6 ?_
  refine wp_sipush (v := 600) dX9_appendAll_7 (by decide) ?_
  refine wp_icmp_le (tgt := 15) dX9_appendAll_10 (by decide) (fun h10 => ?_) (fun h10 => ?_)
  · have hle : L + 20 ≤ 600 := (nI_leI (a := L + 20) (b := 600) (by omega) (by omega)).mp (by rw [← nI_add]; exact h10)
    refine wp_aload_n dX9_appendAll_15 rfl ?_
    refine wp_iload_n dX9_appendAll_16 rfl ?_
    refine wp_callv1 (ci := 9) dX9_appendAll_17 lk_RX9_19 ok_X9_append im_X9_append se_X9_append rfl rfl (fk_14 hF) (Nat.le_of_ble_eq_true rfl) (Nat.le_of_ble_eq_true rfl) ?_
    refine c_X9_append hF hn (by omega) ?_
    refine wp_aload_n dX9_appendAll_20 rfl ?_
    refine wp_iload_n dX9_appendAll_21 rfl ?_
    refine wp_callv1 (ci := 9) dX9_appendAll_22 lk_RX9_19 ok_X9_append im_X9_append se_X9_append rfl rfl (fk_14 (Fix_apd hF)) (Nat.le_of_ble_eq_true rfl) (Nat.le_of_ble_eq_true rfl) ?_
    refine c_X9_append (L := L + 4) (Fix_apd hF) (apd_len _ _ _) (by omega) ?_
    refine wp_aload_n dX9_appendAll_25 rfl ?_
    refine wp_iload_n dX9_appendAll_26 rfl ?_
    refine wp_callv1 (ci := 9) dX9_appendAll_27 lk_RX9_19 ok_X9_append im_X9_append se_X9_append rfl rfl (fk_14 (Fix_apd (Fix_apd hF))) (Nat.le_of_ble_eq_true rfl) (Nat.le_of_ble_eq_true rfl) ?_
    refine c_X9_append (L := L + 8) (Fix_apd (Fix_apd hF)) (apd_len _ _ _) (by omega) ?_
    refine wp_aload_n dX9_appendAll_30 rfl ?_
    refine wp_iload dX9_appendAll_31 rfl ?_
    refine wp_callv1 (ci := 9) dX9_appendAll_33 lk_RX9_19 ok_X9_append im_X9_append se_X9_append rfl rfl (fk_14 (Fix_apd (Fix_apd (Fix_apd hF)))) (Nat.le_of_ble_eq_true rfl) (Nat.le_of_ble_eq_true rfl) ?_
    refine c_X9_append (L := L + 12) (Fix_apd (Fix_apd (Fix_apd hF))) (apd_len _ _ _) (by omega) ?_
    refine wp_aload_n dX9_appendAll_36 rfl ?_
    refine wp_iload dX9_appendAll_37 rfl ?_
    refine wp_callv1 (ci := 9) dX9_appendAll_39 lk_RX9_19 ok_X9_append im_X9_append se_X9_append rfl rfl (fk_14 (Fix_apd (Fix_apd (Fix_apd (Fix_apd hF))))) (Nat.le_of_ble_eq_true rfl) (Nat.le_of_ble_eq_true rfl) ?_
    refine c_X9_append (L := L + 16) (Fix_apd (Fix_apd (Fix_apd (Fix_apd hF)))) (apd_len _ _ _) (by omega) ?_
    refine wp_aload_n dX9_appendAll_42 rfl ?_
    refine wp_geti dX9_appendAll_43 fl_RX9_15 rfl (fk_14 (Fix_apd (Fix_apd (Fix_apd (Fix_apd (Fix_apd hF)))))) ?_
    rw [apd_len]
    refine wp_ireturn rfl dX9_appendAll_46 ?_
    exact hq1 hle
  · refine wp_iconst (v := -1) dX9_appendAll_13 (by decide) ?_
    refine wp_ireturn rfl dX9_appendAll_14 ?_
    exact hq2 (fun q => h10 (by have := nI_le (a := L + 20) (b := 600) q (by decide); rw [← nI_add] at this; exact this))
theorem c_X9_cutTo {d L : Nat} {a : Int32} {H : PH} {Q : Option Value → PH → Prop} (hF : Fix H) (hn : hI H 14 1 = nI L) (hq1 : (0 ≤ a ∧ a ≤ nI L) → Q (some (.int a)) (sI H 14 1 a)) (hq2 : ¬ (0 ≤ a ∧ a ≤ nI L) → Q (some (.int (-1))) H) : Wp mX9_cutTo (d + 1) 0 0 0 [some (.ref 14), some (.int a)] [] H Q := by
  refine wp_iload_n dX9_cutTo_0 rfl ?_
  refine wp_iconst (v := 0) dX9_cutTo_1 (by decide) ?_
  refine wp_aload_n dX9_cutTo_2 rfl ?_
  refine wp_geti dX9_cutTo_3 fl_RX9_15 rfl (fk_14 hF) ?_
  rw [hn]
  refine wp_calls3 dX9_cutTo_6 lk_RX9_23 ok_X11_within st_X11_within (Nat.le_of_ble_eq_true rfl) (Nat.le_of_ble_eq_true rfl) ?_
  refine c_X11_within ?_
  refine wp_ifb_ne (tgt := 14) dX9_cutTo_9 (by decide) (fun h9 => ?_) (fun h9 => ?_)
  · refine wp_aload_n dX9_cutTo_14 rfl ?_
    refine wp_iload_n dX9_cutTo_15 rfl ?_
    refine wp_puti dX9_cutTo_16 fl_RX9_15 (mp_9_1 _ _) rfl (fk_14 hF) ?_
    refine wp_iload_n dX9_cutTo_19 rfl ?_
    refine wp_ireturn rfl dX9_cutTo_20 ?_
    exact hq1 h9
  · refine wp_iconst (v := -1) dX9_cutTo_12 (by decide) ?_
    refine wp_ireturn rfl dX9_cutTo_13 ?_
    exact hq2 h9
theorem c_X9_byteAt {d L : Nat} {a : Int32} {H : PH} {Q : Option Value → PH → Prop} (hF : Fix H) (hn : hI H 14 1 = nI L) (hL : L ≤ 600) (hq1 : ∀ j, j < L → a = nI j → Q (some (.int (hI H 15 j &&& 255))) H) (hq2 : (¬ ∃ j, j < L ∧ a = nI j) → Q (some (.int (-1))) H) : Wp mX9_byteAt d 0 0 0 [some (.ref 14), some (.int a)] [] H Q := by
  refine wp_iload_n dX9_byteAt_0 rfl ?_
  refine wp_if_lt (tgt := 25) dX9_byteAt_1 (by decide) (fun h1 => ?_) (fun h1 => ?_)
  · refine wp_iconst (v := -1) dX9_byteAt_25 (by decide) ?_
    refine wp_ireturn rfl dX9_byteAt_26 ?_
    first
        | exact hq1 j0 hj0 rfl
        | exact hq2 (by rintro ⟨j, q1, rfl⟩; exact absurd h1 (nI_pos (by omega)))
        | exact hq2 (by rintro ⟨j, q1, rfl⟩; exact absurd h9 (nI_ge q1 (by omega)))
  · refine wp_iload_n dX9_byteAt_4 rfl ?_
    refine wp_aload_n dX9_byteAt_5 rfl ?_
    refine wp_geti dX9_byteAt_6 fl_RX9_15 rfl (fk_14 hF) ?_
    rw [hn]
    refine wp_icmp_ge (tgt := 25) dX9_byteAt_9 (by decide) (fun h9 => ?_) (fun h9 => ?_)
    · refine wp_iconst (v := -1) dX9_byteAt_25 (by decide) ?_
      refine wp_ireturn rfl dX9_byteAt_26 ?_
      first
          | exact hq1 j0 hj0 rfl
          | exact hq2 (by rintro ⟨j, q1, rfl⟩; exact absurd h1 (nI_pos (by omega)))
          | exact hq2 (by rintro ⟨j, q1, rfl⟩; exact absurd h9 (nI_ge q1 (by omega)))
    · obtain ⟨j0, hj0, rfl⟩ : ∃ j, j < L ∧ a = nI j := by
          rcases pk_ix a (n := L) (by omega) with q | q | q
          · exact absurd q h1
          · exact absurd q h9
          · exact q
      refine wp_aload_n dX9_byteAt_12 rfl ?_
      refine wp_geta dX9_byteAt_13 fl_RX9_9 rfl (fk_14 hF) (fr_14_0 hF) ?_
      refine wp_iload_n dX9_byteAt_16 rfl ?_
      refine wp_baloadN dX9_byteAt_17 (fk_15 hF) (by decide) (by omega) (by decide) ?_
      refine wp_sipush (v := 255) dX9_byteAt_18 (by decide) ?_
      refine wp_iand dX9_byteAt_21 ?_
      refine wp_goto (tgt := 26) dX9_byteAt_22 (by decide) ?_
      refine wp_ireturn rfl dX9_byteAt_26 ?_
      first
          | exact hq1 j0 hj0 rfl
          | exact hq2 (by rintro ⟨j, q1, rfl⟩; exact absurd h1 (nI_pos (by omega)))
          | exact hq2 (by rintro ⟨j, q1, rfl⟩; exact absurd h9 (nI_ge q1 (by omega)))
def bt9 (v s : Int32) : Int32 := v >>> (s &&& 31) &&& 255
def mp1 (H : PH) (L : Nat) (b : Int32) : PH := sI (sI H 61 L b) 33 40 (nI (L + 1))
def mpd (H : PH) (L : Nat) (v : Int32) : PH := mp1 (mp1 (mp1 (mp1 H L (bt9 v 24)) (L + 1) (bt9 v 16)) (L + 2) (bt9 v 8)) (L + 3) (bt9 v 0)
theorem Fix_mp1 {H : PH} {L : Nat} {b : Int32} (h : Fix H) : Fix (mp1 H L b) := h
theorem Fix_mpd {H : PH} {L : Nat} {b : Int32} (h : Fix H) : Fix (mpd H L b) := Fix_mp1 (Fix_mp1 (Fix_mp1 (Fix_mp1 h)))
theorem mp1_len (H : PH) (L : Nat) (b : Int32) : hI (mp1 H L b) 33 40 = nI (L + 1) := by simp [mp1, hI_sI']
theorem s_X12_four {d L : Nat} {v s : Int32} {H : PH} {Q : Option Value → PH → Prop} (hF : Fix H) (hn : hI H 33 40 = nI L) (hL : L < 600) (hs : ¬ s < 0) (k : Wp mX12_four d 0 0 3 [some (.ref 33), some (.int v), some (.int (s + -8))] [] (mp1 H L (bt9 v s)) Q) : Wp mX12_four d 0 0 3 [some (.ref 33), some (.int v), some (.int s)] [] H Q := by
  refine wp_iload_n dX12_four_3 rfl ?_
  refine wp_if_lt (tgt := 39) dX12_four_4 (by decide) (fun h4 => absurd h4 (hs)) (fun _ => ?_)
  refine wp_aload_n dX12_four_7 rfl ?_
  refine wp_geta dX12_four_8 fl_RX12_102 rfl (fk_33 hF) (fr_33_39 hF) ?_
  refine wp_aload_n dX12_four_11 rfl ?_
  refine wp_geti dX12_four_12 fl_RX12_213 rfl (fk_33 hF) ?_
  rw [hn]
  refine wp_iload_n dX12_four_15 rfl ?_
  refine wp_iload_n dX12_four_16 rfl ?_
  refine wp_ishr dX12_four_17 ?_
  refine wp_sipush (v := 255) dX12_four_18 (by decide) ?_
  refine wp_iand dX12_four_21 ?_
  refine wp_iastoreN dX12_four_22 (fk_61 hF) (by omega) (by decide) ?_
  refine wp_aload_n dX12_four_23 rfl ?_
  refine wp_dup dX12_four_24 rfl ?_
  refine wp_geti dX12_four_25 fl_RX12_213 rfl (fk_33 (Fix_sI hF)) ?_
  simp only [hI_sI', Nat.reduceEqDiff, false_and, ↓reduceIte, hn]
  refine wp_iconst (v := 1) dX12_four_28 (by decide) ?_
  refine wp_iadd dX12_four_29 ?_
  rw [nI_1]
  refine wp_puti dX12_four_30 fl_RX12_213 (mp_12_40 _ _) rfl (fk_33 (Fix_sI hF)) ?_
  refine wp_inc (c := -8) dX12_four_33 rfl (by decide) (by decide) ?_
  refine wp_goto (tgt := 3) dX12_four_36 (by decide) ?_
  exact k
theorem c_X12_four {d L : Nat} {v : Int32} {H : PH} {Q : Option Value → PH → Prop} (hF : Fix H) (hn : hI H 33 40 = nI L) (hL : L + 4 ≤ 600) (hq : Q none (mpd H L v)) : Wp mX12_four d 0 0 0 [some (.ref 33), some (.int v), none] [] H Q := by
  refine wp_bipush (v := 24) dX12_four_0 (by decide) ?_
  refine wp_istore_n dX12_four_2 (by decide) ?_
  refine s_X12_four hF hn (by omega) (by decide) ?_
  refine s_X12_four (H := mp1 H L (bt9 v 24)) (Fix_mp1 hF) (mp1_len _ _ _) (by omega) (by decide) ?_
  refine s_X12_four (H := mp1 (mp1 H L (bt9 v 24)) (L + 1) (bt9 v 16)) (Fix_mp1 (Fix_mp1 hF)) (mp1_len _ _ _) (by omega) (by decide) ?_
  refine s_X12_four (H := mp1 (mp1 (mp1 H L (bt9 v 24)) (L + 1) (bt9 v 16)) (L + 2) (bt9 v 8)) (Fix_mp1 (Fix_mp1 (Fix_mp1 hF))) (mp1_len _ _ _) (by omega) (by decide) ?_
  refine wp_iload_n dX12_four_3 rfl ?_
  refine wp_if_lt (tgt := 39) dX12_four_4 (by decide) (fun _ => ?_) (fun h4 => absurd h4 (by decide))
  refine wp_return rfl dX12_four_39 ?_
  exact hq
theorem mpd_len (H : PH) (L : Nat) (v : Int32) : hI (mpd H L v) 33 40 = nI (L + 4) := mp1_len _ _ _
def mpA (H : PH) (L : Nat) (a b c e f : Int32) : PH := mpd (mpd (mpd (mpd (mpd H L a) (L + 4) b) (L + 8) c) (L + 12) e) (L + 16) f
theorem c_X12_feed {d L : Nat} {a b c e f : Int32} {H : PH} {Q : Option Value → PH → Prop} (hF : Fix H) (hn : hI H 33 40 = nI L) (hL : L ≤ 600) (hq1 : L + 20 ≤ 600 → Q (some (.int (nI (L + 20)))) (mpA H L a b c e f)) (hq2 : ¬ L + 20 ≤ 600 → Q (some (.int (-1))) H) : Wp mX12_feed (d + 1) 0 0 0 [some (.ref 33), some (.int a), some (.int b), some (.int c), some (.int e), some (.int f)] [] H Q := by
  refine wp_aload_n dX12_feed_0 rfl ?_
  refine wp_geti dX12_feed_1 fl_RX12_213 rfl (fk_33 hF) ?_
  rw [hn]
  refine wp_bipush (v := 20) dX12_feed_4 (by decide) ?_
  refine wp_iadd dX12_feed_6 ?_
  refine wp_sipush (v := 600) dX12_feed_7 (by decide) ?_
  refine wp_icmp_le (tgt := 15) dX12_feed_10 (by decide) (fun h10 => ?_) (fun h10 => ?_)
  · have hle : L + 20 ≤ 600 := (nI_leI (a := L + 20) (b := 600) (by omega) (by omega)).mp (by rw [← nI_add]; exact h10)
    refine wp_aload_n dX12_feed_15 rfl ?_
    refine wp_iload_n dX12_feed_16 rfl ?_
    refine wp_callv1 (ci := 12) dX12_feed_17 lk_RX12_216 ok_X12_four im_X12_four se_X12_four rfl rfl (fk_33 hF) (Nat.le_of_ble_eq_true rfl) (Nat.le_of_ble_eq_true rfl) ?_
    refine c_X12_four hF hn (by omega) ?_
    refine wp_aload_n dX12_feed_20 rfl ?_
    refine wp_iload_n dX12_feed_21 rfl ?_
    refine wp_callv1 (ci := 12) dX12_feed_22 lk_RX12_216 ok_X12_four im_X12_four se_X12_four rfl rfl (fk_33 (Fix_mpd hF)) (Nat.le_of_ble_eq_true rfl) (Nat.le_of_ble_eq_true rfl) ?_
    refine c_X12_four (L := L + 4) (Fix_mpd hF) (mpd_len _ _ _) (by omega) ?_
    refine wp_aload_n dX12_feed_25 rfl ?_
    refine wp_iload_n dX12_feed_26 rfl ?_
    refine wp_callv1 (ci := 12) dX12_feed_27 lk_RX12_216 ok_X12_four im_X12_four se_X12_four rfl rfl (fk_33 (Fix_mpd (Fix_mpd hF))) (Nat.le_of_ble_eq_true rfl) (Nat.le_of_ble_eq_true rfl) ?_
    refine c_X12_four (L := L + 8) (Fix_mpd (Fix_mpd hF)) (mpd_len _ _ _) (by omega) ?_
    refine wp_aload_n dX12_feed_30 rfl ?_
    refine wp_iload dX12_feed_31 rfl ?_
    refine wp_callv1 (ci := 12) dX12_feed_33 lk_RX12_216 ok_X12_four im_X12_four se_X12_four rfl rfl (fk_33 (Fix_mpd (Fix_mpd (Fix_mpd hF)))) (Nat.le_of_ble_eq_true rfl) (Nat.le_of_ble_eq_true rfl) ?_
    refine c_X12_four (L := L + 12) (Fix_mpd (Fix_mpd (Fix_mpd hF))) (mpd_len _ _ _) (by omega) ?_
    refine wp_aload_n dX12_feed_36 rfl ?_
    refine wp_iload dX12_feed_37 rfl ?_
    refine wp_callv1 (ci := 12) dX12_feed_39 lk_RX12_216 ok_X12_four im_X12_four se_X12_four rfl rfl (fk_33 (Fix_mpd (Fix_mpd (Fix_mpd (Fix_mpd hF))))) (Nat.le_of_ble_eq_true rfl) (Nat.le_of_ble_eq_true rfl) ?_
    refine c_X12_four (L := L + 16) (Fix_mpd (Fix_mpd (Fix_mpd (Fix_mpd hF)))) (mpd_len _ _ _) (by omega) ?_
    refine wp_aload_n dX12_feed_42 rfl ?_
    refine wp_geti dX12_feed_43 fl_RX12_213 rfl (fk_33 (Fix_mpd (Fix_mpd (Fix_mpd (Fix_mpd (Fix_mpd hF)))))) ?_
    rw [mpd_len]
    refine wp_ireturn rfl dX12_feed_46 ?_
    exact hq1 hle
  · refine wp_iconst (v := -1) dX12_feed_13 (by decide) ?_
    refine wp_ireturn rfl dX12_feed_14 ?_
    exact hq2 (fun q => h10 (by have := nI_le (a := L + 20) (b := 600) q (by decide); rw [← nI_add] at this; exact this))
theorem c_X12_end {d L : Nat} {a : Int32} {H : PH} {Q : Option Value → PH → Prop} (hF : Fix H) (hn : hI H 33 40 = nI L) (hq1 : (0 ≤ a ∧ a ≤ nI L) → Q (some (.int a)) (sI H 33 40 a)) (hq2 : ¬ (0 ≤ a ∧ a ≤ nI L) → Q (some (.int (-1))) H) : Wp mX12_end d 0 0 0 [some (.ref 33), some (.int a)] [] H Q := by
  refine wp_iload_n dX12_end_0 rfl ?_
  refine wp_if_lt (tgt := 12) dX12_end_1 (by decide) (fun h1 => ?_) (fun h1 => ?_)
  · refine wp_iconst (v := -1) dX12_end_12 (by decide) ?_
    refine wp_ireturn rfl dX12_end_13 ?_
    first | exact hq2 (fun q => absurd h1 (Int32.not_lt.mpr q.1)) | exact hq2 (fun q => h9 q.2)
  · refine wp_iload_n dX12_end_4 rfl ?_
    refine wp_aload_n dX12_end_5 rfl ?_
    refine wp_geti dX12_end_6 fl_RX12_213 rfl (fk_33 hF) ?_
    rw [hn]
    refine wp_icmp_le (tgt := 14) dX12_end_9 (by decide) (fun h9 => ?_) (fun h9 => ?_)
    · refine wp_aload_n dX12_end_14 rfl ?_
      refine wp_iload_n dX12_end_15 rfl ?_
      refine wp_puti dX12_end_16 fl_RX12_213 (mp_12_40 _ _) rfl (fk_33 hF) ?_
      refine wp_iload_n dX12_end_19 rfl ?_
      refine wp_ireturn rfl dX12_end_20 ?_
      exact hq1 ⟨Int32.not_lt.mp h1, h9⟩
    · refine wp_iconst (v := -1) dX12_end_12 (by decide) ?_
      refine wp_ireturn rfl dX12_end_13 ?_
      first | exact hq2 (fun q => absurd h1 (Int32.not_lt.mpr q.1)) | exact hq2 (fun q => h9 q.2)
