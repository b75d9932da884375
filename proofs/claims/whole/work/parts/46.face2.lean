/-! ===== the class's face: the other calls but BEST and PRICES ===== -/
theorem sw_5 (x : Int32) : x = 0 ∨ x = 1 ∨ x = 2 ∨ x = 3 ∨ x = 4 ∨ x = 5 ∨ (x.toInt < 0 ∨ 5 < x.toInt) := by
  by_cases h : x.toInt < 0 ∨ 5 < x.toInt
  · exact Or.inr (Or.inr (Or.inr (Or.inr (Or.inr (Or.inr h)))))
  · have h0 : x.toInt = 0 ∨ x.toInt = 1 ∨ x.toInt = 2 ∨ x.toInt = 3 ∨ x.toInt = 4 ∨ x.toInt = 5 := by omega
    rcases h0 with h | h | h | h | h | h
    · exact Or.inl (Int32.toInt_inj.mp h)
    · exact Or.inr (Or.inl (Int32.toInt_inj.mp h))
    · exact Or.inr (Or.inr (Or.inl (Int32.toInt_inj.mp h)))
    · exact Or.inr (Or.inr (Or.inr (Or.inl (Int32.toInt_inj.mp h))))
    · exact Or.inr (Or.inr (Or.inr (Or.inr (Or.inl (Int32.toInt_inj.mp h)))))
    · exact Or.inr (Or.inr (Or.inr (Or.inr (Or.inr (Or.inl (Int32.toInt_inj.mp h))))))
theorem c_X11_job {d pl : Nat} {a1 a2 a3 a4 a5 a6 : Int32} {H : PH} {Q : Option Value → PH → Prop} (hF : Fix H) (hs : hR H 1 8 = some pl) (k : Wp mX1_book d 1 9 0 [some (.ref 5), some (.int a1), some (.int a2), some (.int a3), some (.int a4), some (.int a5), some (.int a6), some (.ref pl), none] [] H Q) : Wp mX11_job (d + 1) 1 9 0 [some (.ref 1), some (.int a1), some (.int a2), some (.int a3), some (.int a4), some (.int a5), some (.int a6)] [] H Q := by
  refine wp_aload_n dX11_job_0 rfl ?_
  refine wp_geta dX11_job_1 fl_RX11_19 rfl (fk_1 hF) (fr_1_1 hF) ?_
  refine wp_iload_n dX11_job_4 rfl ?_
  refine wp_iload_n dX11_job_5 rfl ?_
  refine wp_iload_n dX11_job_6 rfl ?_
  refine wp_iload dX11_job_7 rfl ?_
  refine wp_iload dX11_job_9 rfl ?_
  refine wp_iload dX11_job_11 rfl ?_
  refine wp_aload_n dX11_job_13 rfl ?_
  refine wp_geta dX11_job_14 fl_RX11_76 rfl (fk_1 hF) (hs) ?_
  refine wp_callv7n (kc := 0) (ks := 0) (mc := 1) (ms := 9) (ci := 1) dX11_job_17 lk_RX11_118 ok_X1_book im_X1_book se_X1_book rfl rfl (fk_5 hF) (Nat.le_of_ble_eq_true rfl) (Nat.le_of_ble_eq_true rfl) ?_
  refine wp_post (fun v H' hv => ?_) (wp_int rfl k)
  obtain ⟨x, rfl, hx⟩ := hv
  refine wp_ireturn rfl dX11_job_20 ?_
  exact hx
theorem c_X11_of {d m : Nat} {jo fr tt bk ln : Nat → Nat} {x w : Int32} {H : PH} {Q : Option Value → PH → Prop} (hF : Fix H) (hJ : JS H m jo fr tt) (hb : ∀ j, j < m → hR H (jo j) 6 = some (bk j) ∧ ∃ p q r c, PL H (bk j) p q r c (ln j))
    (hq1 : ∀ j, j < m → x = nI j → Q (some (.int (if w = 0 then cEnd H jo fr tt j else if w = 1 then hI H (jo j) 7 else if w = 2 then (if hI H (jo j) 8 = 0 then 0 else 1) else if w = 3 then nI (ln j) else -1))) H) (hq2 : ¬ (0 ≤ x ∧ x < nI m) → Q (some (.int (-1))) H) : Wp mX11_of (d + 2) 0 0 0 [some (.ref 1), some (.int x), some (.int w), none] [] H Q := by
  have hk := hJ.2.2.2.1
  refine wp_aload_n dX11_of_0 rfl ?_
  refine wp_geta dX11_of_1 fl_RX11_19 rfl (fk_1 hF) (fr_1_1 hF) ?_
  refine wp_iload_n dX11_of_4 rfl ?_
  refine wp_callv1 (ci := 1) dX11_of_5 lk_RX11_124 ok_X1_find im_X1_find se_X1_find rfl rfl (fk_5 hF) (Nat.le_of_ble_eq_true rfl) (Nat.le_of_ble_eq_true rfl) ?_
  refine c_X1_find hF hJ (fun j hj hxj => ?_) (fun hx => ?_)
  · refine wp_astore_n dX11_of_8 (by decide) ?_
    refine wp_aload_n dX11_of_9 rfl ?_
    refine wp_ifnonnull (r := some _) (tgt := 15) dX11_of_10 (by decide) (fun h => by cases h) (fun _ _ => ?_)
    have hqj := hq1 j hj hxj
    obtain ⟨hbj, p, q, r, c, hpl⟩ := hb j hj
    refine wp_iload_n dX11_of_15 rfl ?_
    rcases sw_3 w with rfl | rfl | rfl | rfl | h16
    · refine wp_tableIn (tgt := 48) dX11_of_16 (by decide) (by decide) rfl (by decide) ?_
      refine wp_aload_n dX11_of_48 rfl ?_
      refine wp_geta dX11_of_49 fl_RX11_19 rfl (fk_1 hF) (fr_1_1 hF) ?_
      refine wp_aload_n dX11_of_52 rfl ?_
      refine wp_callv1 (ci := 1) dX11_of_53 lk_RX11_128 ok_X1_endOf im_X1_endOf se_X1_endOf rfl rfl (fk_5 hF) (Nat.le_of_ble_eq_true rfl) (Nat.le_of_ble_eq_true rfl) ?_
      refine c_X1_endOf hF hJ hj ?_
      refine wp_ireturn rfl dX11_of_56 ?_
      exact hqj
    · refine wp_tableIn (tgt := 57) dX11_of_16 (by decide) (by decide) rfl (by decide) ?_
      refine wp_aload_n dX11_of_57 rfl ?_
      refine wp_geti dX11_of_58 fl_RX11_132 rfl (hk j hj) ?_
      refine wp_ireturn rfl dX11_of_61 ?_
      exact hqj
    · refine wp_tableIn (tgt := 62) dX11_of_16 (by decide) (by decide) rfl (by decide) ?_
      refine wp_aload_n dX11_of_62 rfl ?_
      refine wp_geti dX11_of_63 fl_RX11_138 rfl (hk j hj) ?_
      refine wp_if_eq (tgt := 73) dX11_of_66 (by decide) (fun h66 => ?_) (fun h66 => ?_)
      · refine wp_iconst (v := 0) dX11_of_73 (by decide) ?_
        refine wp_ireturn rfl dX11_of_74 ?_
        first | (rw [if_neg (by decide), if_neg (by decide), if_pos rfl, if_pos h66] at hqj; exact hqj) | (rw [if_neg (by decide), if_neg (by decide), if_pos rfl, if_neg h66] at hqj; exact hqj)
      · refine wp_iconst (v := 1) dX11_of_69 (by decide) ?_
        refine wp_goto (tgt := 74) dX11_of_70 (by decide) ?_
        refine wp_ireturn rfl dX11_of_74 ?_
        first | (rw [if_neg (by decide), if_neg (by decide), if_pos rfl, if_pos h66] at hqj; exact hqj) | (rw [if_neg (by decide), if_neg (by decide), if_pos rfl, if_neg h66] at hqj; exact hqj)
    · refine wp_tableIn (tgt := 75) dX11_of_16 (by decide) (by decide) rfl (by decide) ?_
      refine wp_aload_n dX11_of_75 rfl ?_
      refine wp_geta dX11_of_76 fl_RX11_142 rfl (hk j hj) (hbj) ?_
      refine wp_callv0 (ci := 5) dX11_of_79 lk_RX11_145 ok_X5_countLines im_X5_countLines se_X5_countLines rfl rfl (hpl.1) (Nat.le_of_ble_eq_true rfl) (Nat.le_of_ble_eq_true rfl) ?_
      refine c_X5_countLines hpl ?_
      refine wp_ireturn rfl dX11_of_82 ?_
      exact hqj
    · refine wp_tableOut (tgt := 83) dX11_of_16 h16 (by decide) ?_
      refine wp_iconst (v := -1) dX11_of_83 (by decide) ?_
      refine wp_ireturn rfl dX11_of_84 ?_
      rw [if_neg (fun q => by subst q; revert h16; decide), if_neg (fun q => by subst q; revert h16; decide), if_neg (fun q => by subst q; revert h16; decide), if_neg (fun q => by subst q; revert h16; decide)] at hqj
      exact hqj
  · refine wp_astore_nN dX11_of_8 (by decide) ?_
    refine wp_aload_nN dX11_of_9 rfl ?_
    refine wp_ifnonnull (r := none) (tgt := 15) dX11_of_10 (by decide) (fun _ => ?_) (fun _ h => by cases h)
    refine wp_iconst (v := -1) dX11_of_13 (by decide) ?_
    refine wp_ireturn rfl dX11_of_14 ?_
    exact hq2 hx
theorem c_X11_behind {d m : Nat} {jo fr tt : Nat → Nat} {x z : Int32} {H : PH} {Q : Option Value → PH → Prop} (hF : Fix H) (hJ : JS H m jo fr tt) (hq1 : ∀ i j, i < m → j < m → x = nI i → z = nI j → hI H (jo i) 8 = 0 → hI H (jo j) 8 = 0 → Q (some (.int (bI (i ≠ j ∧ cFol H jo fr tt i j)))) H) (hq2 : ¬ (kept H m jo x ∧ kept H m jo z) → Q (some (.int 0)) H) : Wp mX11_behind (d + 3) 0 0 0 [some (.ref 1), some (.int x), some (.int z), none, none] [] H Q := by
  have hk := hJ.2.2.2.1
  have h10' := hJ.2.1
  refine wp_aload_n dX11_behind_0 rfl ?_
  refine wp_geta dX11_behind_1 fl_RX11_19 rfl (fk_1 hF) (fr_1_1 hF) ?_
  refine wp_iload_n dX11_behind_4 rfl ?_
  refine wp_callv1 (ci := 1) dX11_behind_5 lk_RX11_149 ok_X1_findKept im_X1_findKept se_X1_findKept rfl rfl (fk_5 hF) (Nat.le_of_ble_eq_true rfl) (Nat.le_of_ble_eq_true rfl) ?_
  refine c_X1_findKept hF hJ (fun i hi hxi hdi => ?_) (fun hx => ?_)
  · refine wp_astore_n dX11_behind_8 (by decide) ?_
    refine wp_aload_n dX11_behind_9 rfl ?_
    refine wp_geta dX11_behind_10 fl_RX11_19 rfl (fk_1 hF) (fr_1_1 hF) ?_
    refine wp_iload_n dX11_behind_13 rfl ?_
    refine wp_callv1 (ci := 1) dX11_behind_14 lk_RX11_149 ok_X1_findKept im_X1_findKept se_X1_findKept rfl rfl (fk_5 hF) (Nat.le_of_ble_eq_true rfl) (Nat.le_of_ble_eq_true rfl) ?_
    refine c_X1_findKept hF hJ (fun j hj hzj hdj => ?_) (fun hz => ?_)
    · refine wp_astore dX11_behind_17 (by decide) ?_
      refine wp_iload_n dX11_behind_19 rfl ?_
      refine wp_iload_n dX11_behind_20 rfl ?_
      refine wp_icmp_eq (tgt := 50) dX11_behind_21 (by decide) (fun h21 => ?_) (fun h21 => ?_)
      · refine wp_iconst (v := 0) dX11_behind_50 (by decide) ?_
        refine wp_zreturn rfl (Or.inl rfl) dX11_behind_51 ?_
        first
            | exact hq2 (fun q => hx q.1)
            | exact hq2 (fun q => hz q.2)
            | exact bq_t (hq1 i j hi hj hxi hzj hdi hdj) ⟨fun q => h21 (by rw [hxi, hzj, q]), h43⟩
            | exact bq_f (hq1 i j hi hj hxi hzj hdi hdj) (fun q => h43 q.2)
            | exact bq_f (hq1 i j hi hj hxi hzj hdi hdj) (fun q => q.1 ((nI_eq (by omega) (by omega)).mp (by rw [← hxi, ← hzj]; exact h21)))
      · refine wp_aload_n dX11_behind_24 rfl ?_
        refine wp_ifnull (r := some _) (tgt := 50) dX11_behind_25 (by decide) (fun h => by cases h) (fun _ _ => ?_)
        refine wp_aload dX11_behind_28 rfl ?_
        refine wp_ifnull (r := some _) (tgt := 50) dX11_behind_30 (by decide) (fun h => by cases h) (fun _ _ => ?_)
        refine wp_aload_n dX11_behind_33 rfl ?_
        refine wp_geta dX11_behind_34 fl_RX11_19 rfl (fk_1 hF) (fr_1_1 hF) ?_
        refine wp_aload_n dX11_behind_37 rfl ?_
        refine wp_aload dX11_behind_38 rfl ?_
        refine wp_callv2 (ci := 1) dX11_behind_40 lk_RX11_152 ok_X1_mayFollow im_X1_mayFollow se_X1_mayFollow rfl rfl (fk_5 hF) (Nat.le_of_ble_eq_true rfl) (Nat.le_of_ble_eq_true rfl) ?_
        refine c_X1_mayFollow hF hJ hi hj ?_
        refine wp_ifb_eq (tgt := 50) dX11_behind_43 (by decide) (fun h43 => ?_) (fun h43 => ?_)
        · refine wp_iconst (v := 0) dX11_behind_50 (by decide) ?_
          refine wp_zreturn rfl (Or.inl rfl) dX11_behind_51 ?_
          first
              | exact hq2 (fun q => hx q.1)
              | exact hq2 (fun q => hz q.2)
              | exact bq_t (hq1 i j hi hj hxi hzj hdi hdj) ⟨fun q => h21 (by rw [hxi, hzj, q]), h43⟩
              | exact bq_f (hq1 i j hi hj hxi hzj hdi hdj) (fun q => h43 q.2)
              | exact bq_f (hq1 i j hi hj hxi hzj hdi hdj) (fun q => q.1 ((nI_eq (by omega) (by omega)).mp (by rw [← hxi, ← hzj]; exact h21)))
        · refine wp_iconst (v := 1) dX11_behind_46 (by decide) ?_
          refine wp_goto (tgt := 51) dX11_behind_47 (by decide) ?_
          refine wp_zreturn rfl (Or.inr rfl) dX11_behind_51 ?_
          first
              | exact hq2 (fun q => hx q.1)
              | exact hq2 (fun q => hz q.2)
              | exact bq_t (hq1 i j hi hj hxi hzj hdi hdj) ⟨fun q => h21 (by rw [hxi, hzj, q]), h43⟩
              | exact bq_f (hq1 i j hi hj hxi hzj hdi hdj) (fun q => h43 q.2)
              | exact bq_f (hq1 i j hi hj hxi hzj hdi hdj) (fun q => q.1 ((nI_eq (by omega) (by omega)).mp (by rw [← hxi, ← hzj]; exact h21)))
    · refine wp_astoreN dX11_behind_17 (by decide) ?_
      refine wp_iload_n dX11_behind_19 rfl ?_
      refine wp_iload_n dX11_behind_20 rfl ?_
      refine wp_icmp_eq (tgt := 50) dX11_behind_21 (by decide) (fun h21 => ?_) (fun h21 => ?_)
      · refine wp_iconst (v := 0) dX11_behind_50 (by decide) ?_
        refine wp_zreturn rfl (Or.inl rfl) dX11_behind_51 ?_
        first
            | exact hq2 (fun q => hx q.1)
            | exact hq2 (fun q => hz q.2)
            | exact bq_t (hq1 i j hi hj hxi hzj hdi hdj) ⟨fun q => h21 (by rw [hxi, hzj, q]), h43⟩
            | exact bq_f (hq1 i j hi hj hxi hzj hdi hdj) (fun q => h43 q.2)
            | exact bq_f (hq1 i j hi hj hxi hzj hdi hdj) (fun q => q.1 ((nI_eq (by omega) (by omega)).mp (by rw [← hxi, ← hzj]; exact h21)))
      · refine wp_aload_n dX11_behind_24 rfl ?_
        refine wp_ifnull (r := some _) (tgt := 50) dX11_behind_25 (by decide) (fun h => by cases h) (fun _ _ => ?_)
        refine wp_aloadN dX11_behind_28 rfl ?_
        refine wp_ifnull (r := none) (tgt := 50) dX11_behind_30 (by decide) (fun _ => ?_) (fun _ h => by cases h)
        refine wp_iconst (v := 0) dX11_behind_50 (by decide) ?_
        refine wp_zreturn rfl (Or.inl rfl) dX11_behind_51 ?_
        first
            | exact hq2 (fun q => hx q.1)
            | exact hq2 (fun q => hz q.2)
            | exact bq_t (hq1 i j hi hj hxi hzj hdi hdj) ⟨fun q => h21 (by rw [hxi, hzj, q]), h43⟩
            | exact bq_f (hq1 i j hi hj hxi hzj hdi hdj) (fun q => h43 q.2)
            | exact bq_f (hq1 i j hi hj hxi hzj hdi hdj) (fun q => q.1 ((nI_eq (by omega) (by omega)).mp (by rw [← hxi, ← hzj]; exact h21)))
  · refine wp_astore_nN dX11_behind_8 (by decide) ?_
    refine wp_aload_n dX11_behind_9 rfl ?_
    refine wp_geta dX11_behind_10 fl_RX11_19 rfl (fk_1 hF) (fr_1_1 hF) ?_
    refine wp_iload_n dX11_behind_13 rfl ?_
    refine wp_callv1 (ci := 1) dX11_behind_14 lk_RX11_149 ok_X1_findKept im_X1_findKept se_X1_findKept rfl rfl (fk_5 hF) (Nat.le_of_ble_eq_true rfl) (Nat.le_of_ble_eq_true rfl) ?_
    refine c_X1_findKept hF hJ (fun j hj hzj hdj => ?_) (fun hz => ?_)
    · refine wp_astore dX11_behind_17 (by decide) ?_
      refine wp_iload_n dX11_behind_19 rfl ?_
      refine wp_iload_n dX11_behind_20 rfl ?_
      refine wp_icmp_eq (tgt := 50) dX11_behind_21 (by decide) (fun h21 => ?_) (fun h21 => ?_)
      · refine wp_iconst (v := 0) dX11_behind_50 (by decide) ?_
        refine wp_zreturn rfl (Or.inl rfl) dX11_behind_51 ?_
        first
            | exact hq2 (fun q => hx q.1)
            | exact hq2 (fun q => hz q.2)
            | exact bq_t (hq1 i j hi hj hxi hzj hdi hdj) ⟨fun q => h21 (by rw [hxi, hzj, q]), h43⟩
            | exact bq_f (hq1 i j hi hj hxi hzj hdi hdj) (fun q => h43 q.2)
            | exact bq_f (hq1 i j hi hj hxi hzj hdi hdj) (fun q => q.1 ((nI_eq (by omega) (by omega)).mp (by rw [← hxi, ← hzj]; exact h21)))
      · refine wp_aload_nN dX11_behind_24 rfl ?_
        refine wp_ifnull (r := none) (tgt := 50) dX11_behind_25 (by decide) (fun _ => ?_) (fun _ h => by cases h)
        refine wp_iconst (v := 0) dX11_behind_50 (by decide) ?_
        refine wp_zreturn rfl (Or.inl rfl) dX11_behind_51 ?_
        first
            | exact hq2 (fun q => hx q.1)
            | exact hq2 (fun q => hz q.2)
            | exact bq_t (hq1 i j hi hj hxi hzj hdi hdj) ⟨fun q => h21 (by rw [hxi, hzj, q]), h43⟩
            | exact bq_f (hq1 i j hi hj hxi hzj hdi hdj) (fun q => h43 q.2)
            | exact bq_f (hq1 i j hi hj hxi hzj hdi hdj) (fun q => q.1 ((nI_eq (by omega) (by omega)).mp (by rw [← hxi, ← hzj]; exact h21)))
    · refine wp_astoreN dX11_behind_17 (by decide) ?_
      refine wp_iload_n dX11_behind_19 rfl ?_
      refine wp_iload_n dX11_behind_20 rfl ?_
      refine wp_icmp_eq (tgt := 50) dX11_behind_21 (by decide) (fun h21 => ?_) (fun h21 => ?_)
      · refine wp_iconst (v := 0) dX11_behind_50 (by decide) ?_
        refine wp_zreturn rfl (Or.inl rfl) dX11_behind_51 ?_
        first
            | exact hq2 (fun q => hx q.1)
            | exact hq2 (fun q => hz q.2)
            | exact bq_t (hq1 i j hi hj hxi hzj hdi hdj) ⟨fun q => h21 (by rw [hxi, hzj, q]), h43⟩
            | exact bq_f (hq1 i j hi hj hxi hzj hdi hdj) (fun q => h43 q.2)
            | exact bq_f (hq1 i j hi hj hxi hzj hdi hdj) (fun q => q.1 ((nI_eq (by omega) (by omega)).mp (by rw [← hxi, ← hzj]; exact h21)))
      · refine wp_aload_nN dX11_behind_24 rfl ?_
        refine wp_ifnull (r := none) (tgt := 50) dX11_behind_25 (by decide) (fun _ => ?_) (fun _ h => by cases h)
        refine wp_iconst (v := 0) dX11_behind_50 (by decide) ?_
        refine wp_zreturn rfl (Or.inl rfl) dX11_behind_51 ?_
        first
            | exact hq2 (fun q => hx q.1)
            | exact hq2 (fun q => hz q.2)
            | exact bq_t (hq1 i j hi hj hxi hzj hdi hdj) ⟨fun q => h21 (by rw [hxi, hzj, q]), h43⟩
            | exact bq_f (hq1 i j hi hj hxi hzj hdi hdj) (fun q => h43 q.2)
            | exact bq_f (hq1 i j hi hj hxi hzj hdi hdj) (fun q => q.1 ((nI_eq (by omega) (by omega)).mp (by rw [← hxi, ← hzj]; exact h21)))
theorem c_X11_match {d n : Nat} {ho : Nat → Nat} {x : Int32} {H : PH} {Q : Option Value → PH → Prop} (hF : Fix H) (hS : HS H n ho) (hq : Q (some (.int (bI (2 ≤ bcI x ∧ hall x n ∧ allA H ho n x)))) H) : Wp mX11_match (d + 3) 0 0 0 [some (.ref 1), some (.int x)] [] H Q := by
  refine wp_iload_n dX11_match_0 rfl ?_
  refine wp_calls1 dX11_match_1 lk_RX11_103 ok_J6_bitCount_0f7a4 st_J6_bitCount_0f7a4 (Nat.le_of_ble_eq_true rfl) (Nat.le_of_ble_eq_true rfl) ?_
  refine c_J6_bitCount_0f7a4 ?_
  refine wp_iconst (v := 2) dX11_match_4 (by decide) ?_
  refine wp_icmp_lt (tgt := 34) dX11_match_5 (by decide) (fun h5 => ?_) (fun h5 => ?_)
  · refine wp_iconst (v := 0) dX11_match_34 (by decide) ?_
    refine wp_zreturn rfl (Or.inl rfl) dX11_match_35 ?_
    first | exact bq_t hq ⟨Int32.not_lt.mp h5, h16, h27⟩ | exact bq_f hq (fun q => absurd h5 (Int32.not_lt.mpr q.1)) | exact bq_f hq (fun q => h16 q.2.1) | exact bq_f hq (fun q => h27 q.2.2)
  · refine wp_aload_n dX11_match_8 rfl ?_
    refine wp_geta dX11_match_9 fl_RX11_10 rfl (fk_1 hF) (fr_1_0 hF) ?_
    refine wp_iload_n dX11_match_12 rfl ?_
    refine wp_callv1 (ci := 8) dX11_match_13 lk_RX11_109 ok_X8_hasAll im_X8_hasAll se_X8_hasAll rfl rfl (fk_2 hF) (Nat.le_of_ble_eq_true rfl) (Nat.le_of_ble_eq_true rfl) ?_
    refine c_X8_hasAll hF hS.1 ?_
    refine wp_ifb_eq (tgt := 34) dX11_match_16 (by decide) (fun h16 => ?_) (fun h16 => ?_)
    · refine wp_iconst (v := 0) dX11_match_34 (by decide) ?_
      refine wp_zreturn rfl (Or.inl rfl) dX11_match_35 ?_
      first | exact bq_t hq ⟨Int32.not_lt.mp h5, h16, h27⟩ | exact bq_f hq (fun q => absurd h5 (Int32.not_lt.mpr q.1)) | exact bq_f hq (fun q => h16 q.2.1) | exact bq_f hq (fun q => h27 q.2.2)
    · refine wp_aload_n dX11_match_19 rfl ?_
      refine wp_geta dX11_match_20 fl_RX11_10 rfl (fk_1 hF) (fr_1_0 hF) ?_
      refine wp_iload_n dX11_match_23 rfl ?_
      refine wp_callv1 (ci := 8) dX11_match_24 lk_RX11_112 ok_X8_allAlike im_X8_allAlike se_X8_allAlike rfl rfl (fk_2 hF) (Nat.le_of_ble_eq_true rfl) (Nat.le_of_ble_eq_true rfl) ?_
      refine c_X8_allAlike hF hS ?_
      refine wp_ifb_eq (tgt := 34) dX11_match_27 (by decide) (fun h27 => ?_) (fun h27 => ?_)
      · refine wp_iconst (v := 0) dX11_match_34 (by decide) ?_
        refine wp_zreturn rfl (Or.inl rfl) dX11_match_35 ?_
        first | exact bq_t hq ⟨Int32.not_lt.mp h5, h16, h27⟩ | exact bq_f hq (fun q => absurd h5 (Int32.not_lt.mpr q.1)) | exact bq_f hq (fun q => h16 q.2.1) | exact bq_f hq (fun q => h27 q.2.2)
      · refine wp_iconst (v := 1) dX11_match_30 (by decide) ?_
        refine wp_goto (tgt := 35) dX11_match_31 (by decide) ?_
        refine wp_zreturn rfl (Or.inr rfl) dX11_match_35 ?_
        first | exact bq_t hq ⟨Int32.not_lt.mp h5, h16, h27⟩ | exact bq_f hq (fun q => absurd h5 (Int32.not_lt.mpr q.1)) | exact bq_f hq (fun q => h16 q.2.1) | exact bq_f hq (fun q => h27 q.2.2)
theorem c_X11_strength {d m n : Nat} {jo fr tt ord ho : Nat → Nat} {x z : Int32} {H : PH} {Q : Option Value → PH → Prop} (hF : Fix H) (hJ : JS H m jo fr tt) (hO : ∀ t, t < m → hI H 8 t = nI (ord t) ∧ ord t < m) (hS : HS H n ho)
    (hq1 : ∀ j h, j < m → h < n → x = nI j → z = nI h → hI H (jo j) 8 = 0 → hb (hI H (jo j) 7) h → Q (some (.int (strC H jo fr tt ord ho m j h))) H)
    (hq2 : (¬ ∃ j h, j < m ∧ h < n ∧ x = nI j ∧ z = nI h ∧ hI H (jo j) 8 = 0 ∧ hb (hI H (jo j) 7) h) → Q (some (.int (-1))) H) : Wp mX11_strength (d + 4) 0 0 0 [some (.ref 1), some (.int x), some (.int z)] [] H Q := by
  refine wp_aload_n dX11_strength_0 rfl ?_
  refine wp_geta dX11_strength_1 fl_RX11_37 rfl (fk_1 hF) (fr_1_3 hF) ?_
  refine wp_iload_n dX11_strength_4 rfl ?_
  refine wp_iload_n dX11_strength_5 rfl ?_
  refine wp_callv2 (ci := 10) dX11_strength_6 lk_RX11_174 ok_X10_isHarnessed im_X10_isHarnessed se_X10_isHarnessed rfl rfl (fk_13 hF) (Nat.le_of_ble_eq_true rfl) (Nat.le_of_ble_eq_true rfl) ?_
  refine c_X10_isHarnessed hF hJ hS.1 hS.2.1 ?_
  refine wp_ifb_eq (tgt := 24) dX11_strength_9 (by decide) (fun h9 => ?_) (fun h9 => ?_)
  · refine wp_iconst (v := -1) dX11_strength_24 (by decide) ?_
    refine wp_ireturn rfl dX11_strength_25 ?_
    first | exact hq1 j h hj hh rfl rfl hd hbb | exact hq2 h9
  · obtain ⟨j, h, hj, hh, rfl, rfl, hd, hbb⟩ := h9
    refine wp_aload_n dX11_strength_12 rfl ?_
    refine wp_geta dX11_strength_13 fl_RX11_37 rfl (fk_1 hF) (fr_1_3 hF) ?_
    refine wp_iload_n dX11_strength_16 rfl ?_
    refine wp_iload_n dX11_strength_17 rfl ?_
    refine wp_callv2 (ci := 10) dX11_strength_18 lk_RX11_177 ok_X10_strengthAt im_X10_strengthAt se_X10_strengthAt rfl rfl (fk_13 hF) (Nat.le_of_ble_eq_true rfl) (Nat.le_of_ble_eq_true rfl) ?_
    refine c_X10_strengthAt hF hJ hO hS hj hh ?_
    refine wp_goto (tgt := 25) dX11_strength_21 (by decide) ?_
    refine wp_ireturn rfl dX11_strength_25 ?_
    first | exact hq1 j h hj hh rfl rfl hd hbb | exact hq2 h9
theorem c_X11_standIn {d m n : Nat} {jo fr tt ord ho : Nat → Nat} {x z : Int32} {H : PH} {Q : Option Value → PH → Prop} (hF : Fix H) (hJ : JS H m jo fr tt) (hO : ∀ t, t < m → hI H 8 t = nI (ord t) ∧ ord t < m) (hS : HS H n ho)
    (hq1 : ∀ j h, j < m → h < n → x = nI j → z = nI h → hI H (jo j) 8 = 0 → hb (hI H (jo j) 7) h → ∀ o, siV (okC H jo fr tt ord ho m n j h) (fun e => dif H ho e h) n o → Q (some (.int (befV o))) H)
    (hq2 : (¬ ∃ j h, j < m ∧ h < n ∧ x = nI j ∧ z = nI h ∧ hI H (jo j) 8 = 0 ∧ hb (hI H (jo j) 7) h) → Q (some (.int (-1))) H) : Wp mX11_standIn (d + 7) 0 0 0 [some (.ref 1), some (.int x), some (.int z)] [] H Q := by
  refine wp_aload_n dX11_standIn_0 rfl ?_
  refine wp_geta dX11_standIn_1 fl_RX11_37 rfl (fk_1 hF) (fr_1_3 hF) ?_
  refine wp_iload_n dX11_standIn_4 rfl ?_
  refine wp_iload_n dX11_standIn_5 rfl ?_
  refine wp_callv2 (ci := 10) dX11_standIn_6 lk_RX11_174 ok_X10_isHarnessed im_X10_isHarnessed se_X10_isHarnessed rfl rfl (fk_13 hF) (Nat.le_of_ble_eq_true rfl) (Nat.le_of_ble_eq_true rfl) ?_
  refine c_X10_isHarnessed hF hJ hS.1 hS.2.1 ?_
  refine wp_ifb_eq (tgt := 24) dX11_standIn_9 (by decide) (fun h9 => ?_) (fun h9 => ?_)
  · refine wp_iconst (v := -1) dX11_standIn_24 (by decide) ?_
    refine wp_ireturn rfl dX11_standIn_25 ?_
    first | exact hq1 j h hj hh rfl rfl hd hbb o hso | exact hq2 h9
  · obtain ⟨j, h, hj, hh, rfl, rfl, hd, hbb⟩ := h9
    refine wp_aload_n dX11_standIn_12 rfl ?_
    refine wp_geta dX11_standIn_13 fl_RX11_37 rfl (fk_1 hF) (fr_1_3 hF) ?_
    refine wp_iload_n dX11_standIn_16 rfl ?_
    refine wp_iload_n dX11_standIn_17 rfl ?_
    refine wp_callv2 (ci := 10) dX11_standIn_18 lk_RX11_181 ok_X10_bestStandIn im_X10_bestStandIn se_X10_bestStandIn rfl rfl (fk_13 hF) (Nat.le_of_ble_eq_true rfl) (Nat.le_of_ble_eq_true rfl) ?_
    refine c_X10_bestStandIn hF hJ hO hS hj hd hh (fun o hso => ?_)
    refine wp_goto (tgt := 25) dX11_standIn_21 (by decide) ?_
    refine wp_ireturn rfl dX11_standIn_25 ?_
    first | exact hq1 j h hj hh rfl rfl hd hbb o hso | exact hq2 h9
theorem c_X11_about {d pl p q r c n : Nat} {w : Int32} {H : PH} {Q : Option Value → PH → Prop} (hF : Fix H) (hs : hR H 1 8 = some pl) (hP : PL H pl p q r c n)
    (hq : Q (some (.int (if w = 0 then hI H 2 2 else if w = 1 then hI H 5 3 else if w = 2 then hI H 5 4 else if w = 3 then nI n else if w = 4 then hI H 23 5 else if w = 5 then hI H 14 1 else -1))) H) : Wp mX11_about (d + 2) 0 0 0 [some (.ref 1), some (.int w)] [] H Q := by
  refine wp_iload_n dX11_about_0 rfl ?_
  rcases sw_5 w with rfl | rfl | rfl | rfl | rfl | rfl | h1
  · refine wp_tableIn (tgt := 40) dX11_about_1 (by decide) (by decide) rfl (by decide) ?_
    refine wp_aload_n dX11_about_40 rfl ?_
    refine wp_geta dX11_about_41 fl_RX11_10 rfl (fk_1 hF) (fr_1_0 hF) ?_
    refine wp_geti dX11_about_44 fl_RX11_230 rfl (fk_2 hF) ?_
    refine wp_ireturn rfl dX11_about_47 ?_
    exact hq
  · refine wp_tableIn (tgt := 48) dX11_about_1 (by decide) (by decide) rfl (by decide) ?_
    refine wp_aload_n dX11_about_48 rfl ?_
    refine wp_geta dX11_about_49 fl_RX11_19 rfl (fk_1 hF) (fr_1_1 hF) ?_
    refine wp_geti dX11_about_52 fl_RX11_233 rfl (fk_5 hF) ?_
    refine wp_ireturn rfl dX11_about_55 ?_
    exact hq
  · refine wp_tableIn (tgt := 56) dX11_about_1 (by decide) (by decide) rfl (by decide) ?_
    refine wp_aload_n dX11_about_56 rfl ?_
    refine wp_geta dX11_about_57 fl_RX11_19 rfl (fk_1 hF) (fr_1_1 hF) ?_
    refine wp_geti dX11_about_60 fl_RX11_234 rfl (fk_5 hF) ?_
    refine wp_ireturn rfl dX11_about_63 ?_
    exact hq
  · refine wp_tableIn (tgt := 64) dX11_about_1 (by decide) (by decide) rfl (by decide) ?_
    refine wp_aload_n dX11_about_64 rfl ?_
    refine wp_geta dX11_about_65 fl_RX11_76 rfl (fk_1 hF) (hs) ?_
    refine wp_callv0 (ci := 5) dX11_about_68 lk_RX11_145 ok_X5_countLines im_X5_countLines se_X5_countLines rfl rfl (hP.1) (Nat.le_of_ble_eq_true rfl) (Nat.le_of_ble_eq_true rfl) ?_
    refine c_X5_countLines hP ?_
    refine wp_ireturn rfl dX11_about_71 ?_
    exact hq
  · refine wp_tableIn (tgt := 72) dX11_about_1 (by decide) (by decide) rfl (by decide) ?_
    refine wp_aload_n dX11_about_72 rfl ?_
    refine wp_geta dX11_about_73 fl_RX11_67 rfl (fk_1 hF) (fr_1_7 hF) ?_
    refine wp_geti dX11_about_76 fl_RX11_237 rfl (fk_23 hF) ?_
    refine wp_ireturn rfl dX11_about_79 ?_
    exact hq
  · refine wp_tableIn (tgt := 80) dX11_about_1 (by decide) (by decide) rfl (by decide) ?_
    refine wp_aload_n dX11_about_80 rfl ?_
    refine wp_geta dX11_about_81 fl_RX11_44 rfl (fk_1 hF) (fr_1_4 hF) ?_
    refine wp_geti dX11_about_84 fl_RX11_238 rfl (fk_14 hF) ?_
    refine wp_ireturn rfl dX11_about_87 ?_
    exact hq
  · refine wp_tableOut (tgt := 88) dX11_about_1 h1 (by decide) ?_
    refine wp_iconst (v := -1) dX11_about_88 (by decide) ?_
    refine wp_ireturn rfl dX11_about_89 ?_
    rw [if_neg (fun q => by subst q; revert h1; decide), if_neg (fun q => by subst q; revert h1; decide), if_neg (fun q => by subst q; revert h1; decide), if_neg (fun q => by subst q; revert h1; decide), if_neg (fun q => by subst q; revert h1; decide), if_neg (fun q => by subst q; revert h1; decide)] at hq
    exact hq
theorem c_X12_about {d : Nat} {w : Int32} {H : PH} {Q : Option Value → PH → Prop} (hF : Fix H)
    (hq : Q (some (.int (if w = 0 then hI H 33 0 else if w = 1 then hI H 33 11 else if w = 2 then hI H 33 3 else if w = 3 then hI H 51 10 else if w = 4 then hI H 33 54 else if w = 5 then hI H 33 40 else -1))) H) : Wp mX12_about d 0 0 0 [some (.ref 33), some (.int w)] [] H Q := by
  refine wp_iload_n dX12_about_0 rfl ?_
  rcases sw_5 w with rfl | rfl | rfl | rfl | rfl | rfl | h1
  · refine wp_tableIn (tgt := 40) dX12_about_1 (by decide) (by decide) rfl (by decide) ?_
    refine wp_aload_n dX12_about_40 rfl ?_
    refine wp_geti dX12_about_41 fl_RX12_132 rfl (fk_33 hF) ?_
    refine wp_ireturn rfl dX12_about_44 ?_
    exact hq
  · refine wp_tableIn (tgt := 45) dX12_about_1 (by decide) (by decide) rfl (by decide) ?_
    refine wp_aload_n dX12_about_45 rfl ?_
    refine wp_geti dX12_about_46 fl_RX12_159 rfl (fk_33 hF) ?_
    refine wp_ireturn rfl dX12_about_49 ?_
    exact hq
  · refine wp_tableIn (tgt := 50) dX12_about_1 (by decide) (by decide) rfl (by decide) ?_
    refine wp_aload_n dX12_about_50 rfl ?_
    refine wp_geti dX12_about_51 fl_RX12_16 rfl (fk_33 hF) ?_
    refine wp_ireturn rfl dX12_about_54 ?_
    exact hq
  · refine wp_tableIn (tgt := 55) dX12_about_1 (by decide) (by decide) rfl (by decide) ?_
    refine wp_aload_n dX12_about_55 rfl ?_
    refine wp_geta dX12_about_56 fl_RX12_72 rfl (fk_33 hF) (fr_33_23 hF) ?_
    refine wp_bipush (v := 10) dX12_about_59 (by decide) ?_
    rw [show (10 : Int32) = nI 10 from rfl]
    refine wp_ialoadN dX12_about_61 (fk_51 hF) (by omega) (by decide) ?_
    refine wp_ireturn rfl dX12_about_62 ?_
    exact hq
  · refine wp_tableIn (tgt := 63) dX12_about_1 (by decide) (by decide) rfl (by decide) ?_
    refine wp_aload_n dX12_about_63 rfl ?_
    refine wp_geti dX12_about_64 fl_RX12_337 rfl (fk_33 hF) ?_
    refine wp_ireturn rfl dX12_about_67 ?_
    exact hq
  · refine wp_tableIn (tgt := 68) dX12_about_1 (by decide) (by decide) rfl (by decide) ?_
    refine wp_aload_n dX12_about_68 rfl ?_
    refine wp_geti dX12_about_69 fl_RX12_213 rfl (fk_33 hF) ?_
    refine wp_ireturn rfl dX12_about_72 ?_
    exact hq
  · refine wp_tableOut (tgt := 73) dX12_about_1 h1 (by decide) ?_
    refine wp_iconst (v := -1) dX12_about_73 (by decide) ?_
    refine wp_ireturn rfl dX12_about_74 ?_
    rw [if_neg (fun q => by subst q; revert h1; decide), if_neg (fun q => by subst q; revert h1; decide), if_neg (fun q => by subst q; revert h1; decide), if_neg (fun q => by subst q; revert h1; decide), if_neg (fun q => by subst q; revert h1; decide), if_neg (fun q => by subst q; revert h1; decide)] at hq
    exact hq
theorem c_X12_fault {d : Nat} {w : Int32} {H : PH} {Q : Option Value → PH → Prop} (hF : Fix H) (hq : Q (some (.int (if w = 0 then hI H 33 41 else if w = 1 then hI H 33 42 else -1))) H) : Wp mX12_fault d 0 0 0 [some (.ref 33), some (.int w)] [] H Q := by
  refine wp_iload_n dX12_fault_0 rfl ?_
  refine wp_if_ne (tgt := 11) dX12_fault_1 (by decide) (fun h1 => ?_) (fun h1 => ?_)
  · refine wp_iload_n dX12_fault_11 rfl ?_
    refine wp_iconst (v := 1) dX12_fault_12 (by decide) ?_
    refine wp_icmp_ne (tgt := 23) dX12_fault_13 (by decide) (fun h13 => ?_) (fun h13 => ?_)
    · refine wp_iconst (v := -1) dX12_fault_23 (by decide) ?_
      refine wp_ireturn rfl dX12_fault_24 ?_
      first
          | (rw [if_pos h1] at hq; exact hq)
          | (rw [if_neg h1, if_pos h13] at hq; exact hq)
          | (rw [if_neg h1, if_neg h13] at hq; exact hq)
    · refine wp_aload_n dX12_fault_16 rfl ?_
      refine wp_geti dX12_fault_17 fl_RX12_105 rfl (fk_33 hF) ?_
      refine wp_goto (tgt := 24) dX12_fault_20 (by decide) ?_
      refine wp_ireturn rfl dX12_fault_24 ?_
      first
          | (rw [if_pos h1] at hq; exact hq)
          | (rw [if_neg h1, if_pos h13] at hq; exact hq)
          | (rw [if_neg h1, if_neg h13] at hq; exact hq)
  · refine wp_aload_n dX12_fault_4 rfl ?_
    refine wp_geti dX12_fault_5 fl_RX12_250 rfl (fk_33 hF) ?_
    refine wp_goto (tgt := 24) dX12_fault_8 (by decide) ?_
    refine wp_ireturn rfl dX12_fault_24 ?_
    first
        | (rw [if_pos h1] at hq; exact hq)
        | (rw [if_neg h1, if_pos h13] at hq; exact hq)
        | (rw [if_neg h1, if_neg h13] at hq; exact hq)
