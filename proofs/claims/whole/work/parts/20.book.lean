/-! ===== CarriageHire$Book ===== -/
abbrev bkHold (H : PH) (c k : Int32) (i : Nat) : Prop := hI H 24 i = c ∧ hI H 27 i ≤ k ∧ (hI H 28 i = -1 ∨ k < hI H 28 i)
abbrev bkHit (H : PH) (c m k : Int32) (i : Nat) : Prop := bkHold H c k i ∧ hI H 25 i ≤ m ∧ m < hI H 26 i
theorem c_X0_isCarriage {d : Nat} {a : Int32} {H : PH} {Q : Option Value → PH → Prop} (hq : Q (some (.int (bI (0 ≤ a ∧ a ≤ 5)))) H) : Wp mX0_isCarriage (d + 1) 0 0 0 [some (.int a)] [] H Q := by
  refine wp_iload_n dX0_isCarriage_0 rfl ?_
  refine wp_iconst (v := 0) dX0_isCarriage_1 (by decide) ?_
  refine wp_iconst (v := 5) dX0_isCarriage_2 (by decide) ?_
  refine wp_calls3 dX0_isCarriage_3 lk_RX0_31 ok_X11_within st_X11_within (Nat.le_of_ble_eq_true rfl) (Nat.le_of_ble_eq_true rfl) ?_
  refine c_X11_within ?_
  refine wp_zreturn rfl (bI_01 _) dX0_isCarriage_6 ?_
  exact hq
theorem c_X0_holds {d : Nat} {i : Nat} {c k : Int32} {H : PH} {Q : Option Value → PH → Prop} (hF : Fix H) (hi : i < 40) (hq : Q (some (.int (bI (bkHold H c k i)))) H) : Wp mX0_holds d 0 0 0 [some (.ref 23), some (.int (nI i)), some (.int c), some (.int k)] [] H Q := by
  refine wp_aload_n dX0_holds_0 rfl ?_
  refine wp_geta dX0_holds_1 fl_RX0_11 rfl (fk_23 hF) (fr_23_0 hF) ?_
  refine wp_iload_n dX0_holds_4 rfl ?_
  refine wp_ialoadN dX0_holds_5 (fk_24 hF) (by omega) (by decide) ?_
  refine wp_iload_n dX0_holds_6 rfl ?_
  refine wp_icmp_ne (tgt := 44) dX0_holds_7 (by decide) (fun h7 => ?_) (fun h7 => ?_)
  · refine wp_iconst (v := 0) dX0_holds_44 (by decide) ?_
    refine wp_zreturn rfl (Or.inl rfl) dX0_holds_45 ?_
    first | exact bq_t hq ⟨h7, Int32.not_lt.mp h17, Or.inl h27⟩ | exact bq_t hq ⟨h7, Int32.not_lt.mp h17, Or.inr (Int32.not_le.mp h37)⟩ | exact bq_f hq (fun q => h7 q.1) | exact bq_f hq (fun q => absurd q.2.1 (Int32.not_le.mpr h17)) | exact bq_f hq (fun q => q.2.2.elim (fun q => h27 q) (fun q => absurd h37 (Int32.not_le.mpr q)))
  · refine wp_aload_n dX0_holds_10 rfl ?_
    refine wp_geta dX0_holds_11 fl_RX0_21 rfl (fk_23 hF) (fr_23_3 hF) ?_
    refine wp_iload_n dX0_holds_14 rfl ?_
    refine wp_ialoadN dX0_holds_15 (fk_27 hF) (by omega) (by decide) ?_
    refine wp_iload_n dX0_holds_16 rfl ?_
    refine wp_icmp_gt (tgt := 44) dX0_holds_17 (by decide) (fun h17 => ?_) (fun h17 => ?_)
    · refine wp_iconst (v := 0) dX0_holds_44 (by decide) ?_
      refine wp_zreturn rfl (Or.inl rfl) dX0_holds_45 ?_
      first | exact bq_t hq ⟨h7, Int32.not_lt.mp h17, Or.inl h27⟩ | exact bq_t hq ⟨h7, Int32.not_lt.mp h17, Or.inr (Int32.not_le.mp h37)⟩ | exact bq_f hq (fun q => h7 q.1) | exact bq_f hq (fun q => absurd q.2.1 (Int32.not_le.mpr h17)) | exact bq_f hq (fun q => q.2.2.elim (fun q => h27 q) (fun q => absurd h37 (Int32.not_le.mpr q)))
    · refine wp_aload_n dX0_holds_20 rfl ?_
      refine wp_geta dX0_holds_21 fl_RX0_24 rfl (fk_23 hF) (fr_23_4 hF) ?_
      refine wp_iload_n dX0_holds_24 rfl ?_
      refine wp_ialoadN dX0_holds_25 (fk_28 hF) (by omega) (by decide) ?_
      refine wp_iconst (v := -1) dX0_holds_26 (by decide) ?_
      refine wp_icmp_eq (tgt := 40) dX0_holds_27 (by decide) (fun h27 => ?_) (fun h27 => ?_)
      · refine wp_iconst (v := 1) dX0_holds_40 (by decide) ?_
        refine wp_goto (tgt := 45) dX0_holds_41 (by decide) ?_
        refine wp_zreturn rfl (Or.inr rfl) dX0_holds_45 ?_
        first | exact bq_t hq ⟨h7, Int32.not_lt.mp h17, Or.inl h27⟩ | exact bq_t hq ⟨h7, Int32.not_lt.mp h17, Or.inr (Int32.not_le.mp h37)⟩ | exact bq_f hq (fun q => h7 q.1) | exact bq_f hq (fun q => absurd q.2.1 (Int32.not_le.mpr h17)) | exact bq_f hq (fun q => q.2.2.elim (fun q => h27 q) (fun q => absurd h37 (Int32.not_le.mpr q)))
      · refine wp_aload_n dX0_holds_30 rfl ?_
        refine wp_geta dX0_holds_31 fl_RX0_24 rfl (fk_23 hF) (fr_23_4 hF) ?_
        refine wp_iload_n dX0_holds_34 rfl ?_
        refine wp_ialoadN dX0_holds_35 (fk_28 hF) (by omega) (by decide) ?_
        refine wp_iload_n dX0_holds_36 rfl ?_
        refine wp_icmp_le (tgt := 44) dX0_holds_37 (by decide) (fun h37 => ?_) (fun h37 => ?_)
        · refine wp_iconst (v := 0) dX0_holds_44 (by decide) ?_
          refine wp_zreturn rfl (Or.inl rfl) dX0_holds_45 ?_
          first | exact bq_t hq ⟨h7, Int32.not_lt.mp h17, Or.inl h27⟩ | exact bq_t hq ⟨h7, Int32.not_lt.mp h17, Or.inr (Int32.not_le.mp h37)⟩ | exact bq_f hq (fun q => h7 q.1) | exact bq_f hq (fun q => absurd q.2.1 (Int32.not_le.mpr h17)) | exact bq_f hq (fun q => q.2.2.elim (fun q => h27 q) (fun q => absurd h37 (Int32.not_le.mpr q)))
        · refine wp_iconst (v := 1) dX0_holds_40 (by decide) ?_
          refine wp_goto (tgt := 45) dX0_holds_41 (by decide) ?_
          refine wp_zreturn rfl (Or.inr rfl) dX0_holds_45 ?_
          first | exact bq_t hq ⟨h7, Int32.not_lt.mp h17, Or.inl h27⟩ | exact bq_t hq ⟨h7, Int32.not_lt.mp h17, Or.inr (Int32.not_le.mp h37)⟩ | exact bq_f hq (fun q => h7 q.1) | exact bq_f hq (fun q => absurd q.2.1 (Int32.not_le.mpr h17)) | exact bq_f hq (fun q => q.2.2.elim (fun q => h27 q) (fun q => absurd h37 (Int32.not_le.mpr q)))
theorem l_X0_wholeAt {d n : Nat} {c m k : Int32} {H : PH} {Q : Option Value → PH → Prop} (hF : Fix H) (hn : hI H 23 5 = nI n) (hn4 : n ≤ 40) (hq : Q (some (.int (bI (∀ i, i < n → ¬ bkHit H c m k i)))) H) : ∀ (j i : Nat), n - i = j → i ≤ n → (∀ e, e < i → ¬ bkHit H c m k e) → Wp mX0_wholeAt (d + 1) 0 0 12 [some (.ref 23), some (.int c), some (.int m), some (.int k), some (.int (nI i))] [] H Q := by
  intro j
  induction j with
  | zero =>
    intro i hj hi hb
    have hin : i = n := by omega
    subst hin
    refine wp_iload dX0_wholeAt_12 rfl ?_
    refine wp_aload_n dX0_wholeAt_14 rfl ?_
    refine wp_geti dX0_wholeAt_15 fl_RX0_35 rfl (fk_23 hF) ?_
    refine wp_icmp_ge (tgt := 62) dX0_wholeAt_18 (by decide) (fun _ => ?_) (fun h18 => absurd h18 (by rw [hn]; exact fun h => h (nI_le (Nat.le_refl _) (by omega))))
    refine wp_iconst (v := 1) dX0_wholeAt_62 (by decide) ?_
    refine wp_ireturn rfl dX0_wholeAt_63 ?_
    exact bq_t hq hb
  | succ j ih =>
    intro i hj hi hb
    refine wp_iload dX0_wholeAt_12 rfl ?_
    refine wp_aload_n dX0_wholeAt_14 rfl ?_
    refine wp_geti dX0_wholeAt_15 fl_RX0_35 rfl (fk_23 hF) ?_
    refine wp_icmp_ge (tgt := 62) dX0_wholeAt_18 (by decide) (fun h18 => absurd h18 (by rw [hn]; exact nI_ge (by omega) (by omega))) (fun _ => ?_)
    refine wp_aload_n dX0_wholeAt_21 rfl ?_
    refine wp_iload dX0_wholeAt_22 rfl ?_
    refine wp_iload_n dX0_wholeAt_24 rfl ?_
    refine wp_iload_n dX0_wholeAt_25 rfl ?_
    refine wp_callv3 (ci := 0) dX0_wholeAt_26 lk_RX0_39 ok_X0_holds im_X0_holds se_X0_holds rfl rfl (fk_23 hF) (Nat.le_of_ble_eq_true rfl) (Nat.le_of_ble_eq_true rfl) ?_
    refine c_X0_holds hF (by omega) ?_
    refine wp_ifb_eq (tgt := 56) dX0_wholeAt_29 (by decide) (fun h29 => ?_) (fun h29 => ?_)
    · refine wp_incN dX0_wholeAt_56 rfl (by decide) ?_
      refine wp_goto (tgt := 12) dX0_wholeAt_59 (by decide) ?_
      refine ih (i + 1) (by omega) (by omega) (fun e he => ?_)
      rcases Nat.lt_succ_iff_lt_or_eq.mp he with h | h
      · exact hb e h
      · subst h; first | exact fun q => h29 q.1 | exact fun q => absurd h40 (Int32.not_lt.mpr q.2.1) | exact fun q => absurd h51 (Int32.not_le.mpr q.2.2)
    · refine wp_aload_n dX0_wholeAt_32 rfl ?_
      refine wp_geta dX0_wholeAt_33 fl_RX0_15 rfl (fk_23 hF) (fr_23_1 hF) ?_
      refine wp_iload dX0_wholeAt_36 rfl ?_
      refine wp_ialoadN dX0_wholeAt_38 (fk_25 hF) (by omega) (by decide) ?_
      refine wp_iload_n dX0_wholeAt_39 rfl ?_
      refine wp_icmp_gt (tgt := 56) dX0_wholeAt_40 (by decide) (fun h40 => ?_) (fun h40 => ?_)
      · refine wp_incN dX0_wholeAt_56 rfl (by decide) ?_
        refine wp_goto (tgt := 12) dX0_wholeAt_59 (by decide) ?_
        refine ih (i + 1) (by omega) (by omega) (fun e he => ?_)
        rcases Nat.lt_succ_iff_lt_or_eq.mp he with h | h
        · exact hb e h
        · subst h; first | exact fun q => h29 q.1 | exact fun q => absurd h40 (Int32.not_lt.mpr q.2.1) | exact fun q => absurd h51 (Int32.not_le.mpr q.2.2)
      · refine wp_iload_n dX0_wholeAt_43 rfl ?_
        refine wp_aload_n dX0_wholeAt_44 rfl ?_
        refine wp_geta dX0_wholeAt_45 fl_RX0_18 rfl (fk_23 hF) (fr_23_2 hF) ?_
        refine wp_iload dX0_wholeAt_48 rfl ?_
        refine wp_ialoadN dX0_wholeAt_50 (fk_26 hF) (by omega) (by decide) ?_
        refine wp_icmp_ge (tgt := 56) dX0_wholeAt_51 (by decide) (fun h51 => ?_) (fun h51 => ?_)
        · refine wp_incN dX0_wholeAt_56 rfl (by decide) ?_
          refine wp_goto (tgt := 12) dX0_wholeAt_59 (by decide) ?_
          refine ih (i + 1) (by omega) (by omega) (fun e he => ?_)
          rcases Nat.lt_succ_iff_lt_or_eq.mp he with h | h
          · exact hb e h
          · subst h; first | exact fun q => h29 q.1 | exact fun q => absurd h40 (Int32.not_lt.mpr q.2.1) | exact fun q => absurd h51 (Int32.not_le.mpr q.2.2)
        · refine wp_iconst (v := 0) dX0_wholeAt_54 (by decide) ?_
          refine wp_ireturn rfl dX0_wholeAt_55 ?_
          exact bq_f hq (fun q => q i (by omega) ⟨h29, Int32.not_lt.mp h40, Int32.not_le.mp h51⟩)
theorem c_X0_wholeAt {d n : Nat} {c m k : Int32} {H : PH} {Q : Option Value → PH → Prop} (hF : Fix H) (hn : hI H 23 5 = nI n) (hn4 : n ≤ 40) (hq : Q (some (.int (if 0 ≤ c ∧ c ≤ 5 then bI (∀ i, i < n → ¬ bkHit H c m k i) else -1))) H) : Wp mX0_wholeAt (d + 2) 0 0 0 [some (.ref 23), some (.int c), some (.int m), some (.int k), none] [] H Q := by
  refine wp_iload_n dX0_wholeAt_0 rfl ?_
  refine wp_calls1 dX0_wholeAt_1 lk_RX0_27 ok_X0_isCarriage st_X0_isCarriage (Nat.le_of_ble_eq_true rfl) (Nat.le_of_ble_eq_true rfl) ?_
  refine c_X0_isCarriage ?_
  refine wp_ifb_ne (tgt := 9) dX0_wholeAt_4 (by decide) (fun h4 => ?_) (fun h4 => ?_)
  · refine wp_iconst (v := 0) dX0_wholeAt_9 (by decide) ?_
    refine wp_istore dX0_wholeAt_10 (by decide) ?_
    rw [if_pos h4] at hq
    exact l_X0_wholeAt hF hn hn4 hq n 0 (by omega) (by omega) (fun e he => by omega)
  · refine wp_iconst (v := -1) dX0_wholeAt_7 (by decide) ?_
    refine wp_ireturn rfl dX0_wholeAt_8 ?_
    rw [if_neg h4] at hq; exact hq
theorem hI_sI' (H : PH) (a k : Nat) (v : Int32) (a' k' : Nat) : hI (sI H a k v) a' k' = if a' = a ∧ k' = k then v else hI H a' k' := rfl
def bkNew (H : PH) (n : Nat) (c f t u : Int32) : PH := sI (sI (sI (sI (sI (sI H 24 n c) 25 n f) 26 n t) 27 n u) 28 n (-1)) 23 5 (nI (n + 1))
theorem c_X0_enter {d n : Nat} {c f t u : Int32} {H : PH} {Q : Option Value → PH → Prop} (hF : Fix H) (hn : hI H 23 5 = nI n) (hn4 : n ≤ 40)
    (hq1 : ((0 ≤ c ∧ c ≤ 5) ∧ (0 ≤ f ∧ f ≤ 2000) ∧ f < t ∧ t ≤ 3000 ∧ (0 ≤ u ∧ u ≤ 5000)) → n < 40 → Q (some (.int (nI n))) (bkNew H n c f t u))
    (hq2 : ¬ (((0 ≤ c ∧ c ≤ 5) ∧ (0 ≤ f ∧ f ≤ 2000) ∧ f < t ∧ t ≤ 3000 ∧ (0 ≤ u ∧ u ≤ 5000)) ∧ n < 40) → Q (some (.int (-1))) H) :
    Wp mX0_enter (d + 2) 0 0 0 [some (.ref 23), some (.int c), some (.int f), some (.int t), some (.int u), none] [] H Q := by
  have hbad : ¬ ((0 ≤ c ∧ c ≤ 5) ∧ (0 ≤ f ∧ f ≤ 2000) ∧ f < t ∧ t ≤ 3000 ∧ (0 ≤ u ∧ u ≤ 5000)) → Wp mX0_enter (d + 2) 0 0 46 [some (.ref 23), some (.int c), some (.int f), some (.int t), some (.int u), none] [] H Q := by
    intro hb
    refine wp_iconst (v := 0) dX0_enter_46 (by decide) ?_
    refine wp_istore dX0_enter_47 (by decide) ?_
    refine wp_iload dX0_enter_49 rfl ?_
    refine wp_if_eq (tgt := 63) dX0_enter_51 (by decide) (fun _ => ?_) (fun h51 => absurd h51 (fun h => h rfl))
    refine wp_iconst (v := -1) dX0_enter_63 (by decide) ?_
    refine wp_ireturn rfl dX0_enter_64 ?_
    exact hq2 (fun q => hb q.1)
  refine wp_iload_n dX0_enter_0 rfl ?_
  refine wp_calls1 dX0_enter_1 lk_RX0_27 ok_X0_isCarriage st_X0_isCarriage (Nat.le_of_ble_eq_true rfl) (Nat.le_of_ble_eq_true rfl) ?_
  refine c_X0_isCarriage ?_
  refine wp_ifb_eq (tgt := 46) dX0_enter_4 (by decide) (fun h4 => ?_) (fun h4 => ?_)
  · exact hbad (by first | exact fun q => h4 q.1 | exact fun q => h15 q.2.1 | exact fun q => absurd h20 (Int32.not_le.mpr q.2.2.1) | exact fun q => absurd h27 (Int32.not_lt.mpr q.2.2.2.1) | exact fun q => h39 q.2.2.2.2)
  · refine wp_iload_n dX0_enter_7 rfl ?_
    refine wp_iconst (v := 0) dX0_enter_8 (by decide) ?_
    refine wp_sipush (v := 2000) dX0_enter_9 (by decide) ?_
    refine wp_calls3 dX0_enter_12 lk_RX0_31 ok_X11_within st_X11_within (Nat.le_of_ble_eq_true rfl) (Nat.le_of_ble_eq_true rfl) ?_
    refine c_X11_within ?_
    refine wp_ifb_eq (tgt := 46) dX0_enter_15 (by decide) (fun h15 => ?_) (fun h15 => ?_)
    · exact hbad (by first | exact fun q => h4 q.1 | exact fun q => h15 q.2.1 | exact fun q => absurd h20 (Int32.not_le.mpr q.2.2.1) | exact fun q => absurd h27 (Int32.not_lt.mpr q.2.2.2.1) | exact fun q => h39 q.2.2.2.2)
    · refine wp_iload_n dX0_enter_18 rfl ?_
      refine wp_iload_n dX0_enter_19 rfl ?_
      refine wp_icmp_le (tgt := 46) dX0_enter_20 (by decide) (fun h20 => ?_) (fun h20 => ?_)
      · exact hbad (by first | exact fun q => h4 q.1 | exact fun q => h15 q.2.1 | exact fun q => absurd h20 (Int32.not_le.mpr q.2.2.1) | exact fun q => absurd h27 (Int32.not_lt.mpr q.2.2.2.1) | exact fun q => h39 q.2.2.2.2)
      · refine wp_iload_n dX0_enter_23 rfl ?_
        refine wp_sipush (v := 3000) dX0_enter_24 (by decide) ?_
        refine wp_icmp_gt (tgt := 46) dX0_enter_27 (by decide) (fun h27 => ?_) (fun h27 => ?_)
        · exact hbad (by first | exact fun q => h4 q.1 | exact fun q => h15 q.2.1 | exact fun q => absurd h20 (Int32.not_le.mpr q.2.2.1) | exact fun q => absurd h27 (Int32.not_lt.mpr q.2.2.2.1) | exact fun q => h39 q.2.2.2.2)
        · refine wp_iload dX0_enter_30 rfl ?_
          refine wp_iconst (v := 0) dX0_enter_32 (by decide) ?_
          refine wp_sipush (v := 5000) dX0_enter_33 (by decide) ?_
          refine wp_calls3 dX0_enter_36 lk_RX0_31 ok_X11_within st_X11_within (Nat.le_of_ble_eq_true rfl) (Nat.le_of_ble_eq_true rfl) ?_
          refine c_X11_within ?_
          refine wp_ifb_eq (tgt := 46) dX0_enter_39 (by decide) (fun h39 => ?_) (fun h39 => ?_)
          · exact hbad (by first | exact fun q => h4 q.1 | exact fun q => h15 q.2.1 | exact fun q => absurd h20 (Int32.not_le.mpr q.2.2.1) | exact fun q => absurd h27 (Int32.not_lt.mpr q.2.2.2.1) | exact fun q => h39 q.2.2.2.2)
          · refine wp_iconst (v := 1) dX0_enter_42 (by decide) ?_
            refine wp_goto (tgt := 47) dX0_enter_43 (by decide) ?_
            refine wp_istore dX0_enter_47 (by decide) ?_
            refine wp_iload dX0_enter_49 rfl ?_
            refine wp_if_eq (tgt := 63) dX0_enter_51 (by decide) (fun h51 => absurd h51 (by decide)) (fun _ => ?_)
            refine wp_aload_n dX0_enter_54 rfl ?_
            refine wp_geti dX0_enter_55 fl_RX0_35 rfl (fk_23 hF) ?_
            refine wp_bipush (v := 40) dX0_enter_58 (by decide) ?_
            refine wp_icmp_lt (tgt := 65) dX0_enter_60 (by decide) (fun h60 => ?_) (fun h60 => ?_)
            · have hn9 : n < 40 := Nat.lt_of_not_le (fun q => absurd h60 (by rw [hn]; exact nI_nlt q (by omega)))
              refine wp_aload_n dX0_enter_65 rfl ?_
              refine wp_geta dX0_enter_66 fl_RX0_11 rfl (fk_23 hF) (fr_23_0 hF) ?_
              refine wp_aload_n dX0_enter_69 rfl ?_
              refine wp_geti dX0_enter_70 fl_RX0_35 rfl (fk_23 hF) ?_
              rw [hn]
              refine wp_iload_n dX0_enter_73 rfl ?_
              refine wp_iastoreN dX0_enter_74 (fk_24 hF) (by omega) (by decide) ?_
              refine wp_aload_n dX0_enter_75 rfl ?_
              refine wp_geta dX0_enter_76 fl_RX0_15 rfl (fk_23 (Fix_sI hF)) (fr_23_1 (Fix_sI hF)) ?_
              refine wp_aload_n dX0_enter_79 rfl ?_
              refine wp_geti dX0_enter_80 fl_RX0_35 rfl (fk_23 (Fix_sI hF)) ?_
              simp only [hI_sI', Nat.reduceEqDiff, false_and, ↓reduceIte, hn]
              refine wp_iload_n dX0_enter_83 rfl ?_
              refine wp_iastoreN dX0_enter_84 (fk_25 (Fix_sI hF)) (by omega) (by decide) ?_
              refine wp_aload_n dX0_enter_85 rfl ?_
              refine wp_geta dX0_enter_86 fl_RX0_18 rfl (fk_23 (Fix_sI (Fix_sI hF))) (fr_23_2 (Fix_sI (Fix_sI hF))) ?_
              refine wp_aload_n dX0_enter_89 rfl ?_
              refine wp_geti dX0_enter_90 fl_RX0_35 rfl (fk_23 (Fix_sI (Fix_sI hF))) ?_
              simp only [hI_sI', Nat.reduceEqDiff, false_and, ↓reduceIte, hn]
              refine wp_iload_n dX0_enter_93 rfl ?_
              refine wp_iastoreN dX0_enter_94 (fk_26 (Fix_sI (Fix_sI hF))) (by omega) (by decide) ?_
              refine wp_aload_n dX0_enter_95 rfl ?_
              refine wp_geta dX0_enter_96 fl_RX0_21 rfl (fk_23 (Fix_sI (Fix_sI (Fix_sI hF)))) (fr_23_3 (Fix_sI (Fix_sI (Fix_sI hF)))) ?_
              refine wp_aload_n dX0_enter_99 rfl ?_
              refine wp_geti dX0_enter_100 fl_RX0_35 rfl (fk_23 (Fix_sI (Fix_sI (Fix_sI hF)))) ?_
              simp only [hI_sI', Nat.reduceEqDiff, false_and, ↓reduceIte, hn]
              refine wp_iload dX0_enter_103 rfl ?_
              refine wp_iastoreN dX0_enter_105 (fk_27 (Fix_sI (Fix_sI (Fix_sI hF)))) (by omega) (by decide) ?_
              refine wp_aload_n dX0_enter_106 rfl ?_
              refine wp_geta dX0_enter_107 fl_RX0_24 rfl (fk_23 (Fix_sI (Fix_sI (Fix_sI (Fix_sI hF))))) (fr_23_4 (Fix_sI (Fix_sI (Fix_sI (Fix_sI hF))))) ?_
              refine wp_aload_n dX0_enter_110 rfl ?_
              refine wp_geti dX0_enter_111 fl_RX0_35 rfl (fk_23 (Fix_sI (Fix_sI (Fix_sI (Fix_sI hF))))) ?_
              simp only [hI_sI', Nat.reduceEqDiff, false_and, ↓reduceIte, hn]
              refine wp_iconst (v := -1) dX0_enter_114 (by decide) ?_
              refine wp_iastoreN dX0_enter_115 (fk_28 (Fix_sI (Fix_sI (Fix_sI (Fix_sI hF))))) (by omega) (by decide) ?_
              refine wp_aload_n dX0_enter_116 rfl ?_
              refine wp_dup dX0_enter_117 rfl ?_
              refine wp_geti dX0_enter_118 fl_RX0_35 rfl (fk_23 (Fix_sI (Fix_sI (Fix_sI (Fix_sI (Fix_sI hF)))))) ?_
              simp only [hI_sI', Nat.reduceEqDiff, false_and, ↓reduceIte, hn]
              refine wp_iconst (v := 1) dX0_enter_121 (by decide) ?_
              refine wp_iadd dX0_enter_122 ?_
              refine wp_puti dX0_enter_123 fl_RX0_35 (mp_0_5 _ _) rfl (fk_23 (Fix_sI (Fix_sI (Fix_sI (Fix_sI (Fix_sI hF)))))) ?_
              refine wp_aload_n dX0_enter_126 rfl ?_
              refine wp_geti dX0_enter_127 fl_RX0_35 rfl (fk_23 (Fix_sI (Fix_sI (Fix_sI (Fix_sI (Fix_sI (Fix_sI hF))))))) ?_
              simp only [hI_sI', and_self, ↓reduceIte]
              refine wp_iconst (v := 1) dX0_enter_130 (by decide) ?_
              refine wp_isub dX0_enter_131 ?_
              refine wp_ireturn rfl dX0_enter_132 ?_
              rw [← nI_succ, nI_pred]
              exact hq1 ⟨h4, h15, Int32.not_le.mp h20, Int32.not_lt.mp h27, h39⟩ hn9
            · refine wp_iconst (v := -1) dX0_enter_63 (by decide) ?_
              refine wp_ireturn rfl dX0_enter_64 ?_
              exact hq2 (fun q => h60 (by rw [hn]; exact nI_lt q.2 (by decide)))
theorem c_X0_takeBack {d n : Nat} {e mi : Int32} {H : PH} {Q : Option Value → PH → Prop} (hF : Fix H) (hn : hI H 23 5 = nI n) (hn4 : n ≤ 40)
    (hq1 : ∀ j, j < n → e = nI j → hI H 28 j = -1 → (hI H 27 j ≤ mi ∧ mi ≤ 5000) → Q (some (.int 1)) (sI H 28 j mi))
    (hq2 : (¬ ∃ j, j < n ∧ e = nI j ∧ hI H 28 j = -1 ∧ (hI H 27 j ≤ mi ∧ mi ≤ 5000)) → Q (some (.int 0)) H) :
    Wp mX0_takeBack (d + 1) 0 0 0 [some (.ref 23), some (.int e), some (.int mi)] [] H Q := by
  have hbad : (¬ ∃ j, j < n ∧ e = nI j ∧ hI H 28 j = -1 ∧ (hI H 27 j ≤ mi ∧ mi ≤ 5000)) → Wp mX0_takeBack (d + 1) 0 0 38 [some (.ref 23), some (.int e), some (.int mi)] [] H Q := by
    intro hb
    refine wp_iconst (v := 0) dX0_takeBack_38 (by decide) ?_
    refine wp_zreturn rfl (Or.inl rfl) dX0_takeBack_39 ?_
    exact hq2 hb
  refine wp_iload_n dX0_takeBack_0 rfl ?_
  refine wp_if_lt (tgt := 38) dX0_takeBack_1 (by decide) (fun h1 => ?_) (fun h1 => ?_)
  · exact hbad (by
        rintro ⟨j, q1, q2, q3, q4⟩
        first
          | exact absurd h1 (by rw [q2]; exact nI_pos (by omega))
          | exact absurd h9 (by rw [q2, hn]; exact nI_ge q1 (by omega))
          | (have e9 : j = j0 := (nI_eq (by omega) (by omega)).mp q2.symm
             subst e9
             first | exact h19 q3 | exact h35 q4))
  · refine wp_iload_n dX0_takeBack_4 rfl ?_
    refine wp_aload_n dX0_takeBack_5 rfl ?_
    refine wp_geti dX0_takeBack_6 fl_RX0_35 rfl (fk_23 hF) ?_
    refine wp_icmp_ge (tgt := 38) dX0_takeBack_9 (by decide) (fun h9 => ?_) (fun h9 => ?_)
    · exact hbad (by
          rintro ⟨j, q1, q2, q3, q4⟩
          first
            | exact absurd h1 (by rw [q2]; exact nI_pos (by omega))
            | exact absurd h9 (by rw [q2, hn]; exact nI_ge q1 (by omega))
            | (have e9 : j = j0 := (nI_eq (by omega) (by omega)).mp q2.symm
               subst e9
               first | exact h19 q3 | exact h35 q4))
    · obtain ⟨j0, hj0, rfl⟩ : ∃ j, j < n ∧ e = nI j := by
          rcases pk_ix e (n := n) (by omega) with q | q | q
          · exact absurd q h1
          · exact absurd (by rw [hn]; exact q) h9
          · exact q
      refine wp_aload_n dX0_takeBack_12 rfl ?_
      refine wp_geta dX0_takeBack_13 fl_RX0_24 rfl (fk_23 hF) (fr_23_4 hF) ?_
      refine wp_iload_n dX0_takeBack_16 rfl ?_
      refine wp_ialoadN dX0_takeBack_17 (fk_28 hF) (by omega) (by decide) ?_
      refine wp_iconst (v := -1) dX0_takeBack_18 (by decide) ?_
      refine wp_icmp_ne (tgt := 38) dX0_takeBack_19 (by decide) (fun h19 => ?_) (fun h19 => ?_)
      · exact hbad (by
            rintro ⟨j, q1, q2, q3, q4⟩
            first
              | exact absurd h1 (by rw [q2]; exact nI_pos (by omega))
              | exact absurd h9 (by rw [q2, hn]; exact nI_ge q1 (by omega))
              | (have e9 : j = j0 := (nI_eq (by omega) (by omega)).mp q2.symm
                 subst e9
                 first | exact h19 q3 | exact h35 q4))
      · refine wp_iload_n dX0_takeBack_22 rfl ?_
        refine wp_aload_n dX0_takeBack_23 rfl ?_
        refine wp_geta dX0_takeBack_24 fl_RX0_21 rfl (fk_23 hF) (fr_23_3 hF) ?_
        refine wp_iload_n dX0_takeBack_27 rfl ?_
        refine wp_ialoadN dX0_takeBack_28 (fk_27 hF) (by omega) (by decide) ?_
        refine wp_sipush (v := 5000) dX0_takeBack_29 (by decide) ?_
        refine wp_calls3 dX0_takeBack_32 lk_RX0_31 ok_X11_within st_X11_within (Nat.le_of_ble_eq_true rfl) (Nat.le_of_ble_eq_true rfl) ?_
        refine c_X11_within ?_
        refine wp_ifb_ne (tgt := 40) dX0_takeBack_35 (by decide) (fun h35 => ?_) (fun h35 => ?_)
        · refine wp_aload_n dX0_takeBack_40 rfl ?_
          refine wp_geta dX0_takeBack_41 fl_RX0_24 rfl (fk_23 hF) (fr_23_4 hF) ?_
          refine wp_iload_n dX0_takeBack_44 rfl ?_
          refine wp_iload_n dX0_takeBack_45 rfl ?_
          refine wp_iastoreN dX0_takeBack_46 (fk_28 hF) (by omega) (by decide) ?_
          refine wp_iconst (v := 1) dX0_takeBack_47 (by decide) ?_
          refine wp_zreturn rfl (Or.inr rfl) dX0_takeBack_48 ?_
          exact hq1 j0 hj0 rfl h19 h35
        · exact hbad (by
              rintro ⟨j, q1, q2, q3, q4⟩
              first
                | exact absurd h1 (by rw [q2]; exact nI_pos (by omega))
                | exact absurd h9 (by rw [q2, hn]; exact nI_ge q1 (by omega))
                | (have e9 : j = j0 := (nI_eq (by omega) (by omega)).mp q2.symm
                   subst e9
                   first | exact h19 q3 | exact h35 q4))
