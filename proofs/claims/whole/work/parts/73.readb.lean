/-! ===== CarriageHire$PriceReader: behind a FAULT ===== -/
def isRx (a k : Nat) : Prop := (a = 16 ∧ k ≠ 5) ∨ a = 17
/-- the class reads: at the token at s, v operands, the items o -/
def CR (H : PH) (bf : Nat → Int32) (N s v : Nat) (o : OL) (H' : PH) : Prop := eqX isRx H H' ∧ CTp H' bf N ∧ cTok bf N s H' ∧ s ≤ N ∧ tkA bf N s ≠ 8 ∧ hI H' 16 6 = nI v ∧ v ≤ 100 ∧ hI H' 16 4 = nI o.length ∧ (∀ i x, o[i]? = some x → hI H' 17 i = encC x) ∧ hI H' 16 12 = -1
/-- .. or has come to a FAULT -/
def CB (H : PH) (f : FT) (H' : PH) : Prop := eqX isRx H H' ∧ hI H' 16 11 = nI f.1 ∧ 1 ≤ f.1 ∧ f.1 ≤ 3 ∧ hI H' 16 12 = nI f.2 ∧ hI H' 16 8 = 8 ∧ ∃ cc, cc ≤ 600 ∧ hI H' 16 4 = nI cc
theorem Fix_R {H H1 : PH} (he : eqX isRx H H1) (hF : Fix H) : Fix H1 := Fix_eqX he hF
section RB
variable {d : Nat} {f : FT} {H H1 : PH} {Q : Option Value → PH → Prop}
theorem CB_fix (hF : Fix H) (hb : CB H f H1) : Fix H1 := Fix_eqX hb.1 hF
theorem c_failB {k : Int32} (hF : Fix H) (hb : CB H f H1) (hq : ∀ H', CB H f H' → Q none H') : Wp mX6_fail d 0 0 0 [some (.ref 16), some (.int k)] [] H1 Q := by
  refine c_X6_fail (CB_fix hF hb) (fun h => ?_) (fun _ => hq _ ?_)
  · rw [hb.2.1] at h
    exact absurd ((nI_eq (b := 0) (by have := hb.2.2.2.1; omega) (by omega)).mp h) (by have := hb.2.2.1; omega)
  · obtain ⟨h1, h2, h3, h4, h5, h6, cc, h7, h8⟩ := hb
    exact ⟨eqX_sI h1 (Or.inl ⟨rfl, by decide⟩), by rw [hI_sI', if_neg (by omega)]; exact h2, h3, h4, by rw [hI_sI', if_neg (by omega)]; exact h5, by rw [hI_sI', if_pos ⟨rfl, rfl⟩], cc, h7, by rw [hI_sI', if_neg (by omega)]; exact h8⟩
theorem c_X6_emit {x : Int32} {cc : Nat} (hF : Fix H) (hc : hI H 16 4 = nI cc) (hcc : cc ≤ 600) (hq1 : cc < 600 → Q none (sI (sI H 17 cc x) 16 4 (nI (cc + 1)))) (hq2 : cc = 600 → Q none H) : Wp mX6_emit d 0 0 0 [some (.ref 16), some (.int x)] [] H Q := by
  rcases Nat.lt_or_ge cc 600 with h | h
  · have hlt := h
    refine wp_aload_n dX6_emit_0 rfl ?_
    refine wp_geti dX6_emit_1 fl_RX6_29 rfl (fk_16 hF) ?_
    rw [hc]
    refine wp_aload_n dX6_emit_4 rfl ?_
    refine wp_geta dX6_emit_5 fl_RX6_9 rfl (fk_16 hF) (fr_16_1 hF) ?_
    refine wp_alen dX6_emit_8 (fk_17 hF) (by simp) ?_
    refine wp_icmp_ge (tgt := 32) dX6_emit_9 (by decide) (fun h9 => absurd h9 (nI_ge (a := cc) (b := 600) h (by decide))) (fun _ => ?_)
    refine wp_aload_n dX6_emit_12 rfl ?_
    refine wp_geta dX6_emit_13 fl_RX6_9 rfl (fk_16 hF) (fr_16_1 hF) ?_
    refine wp_aload_n dX6_emit_16 rfl ?_
    refine wp_geti dX6_emit_17 fl_RX6_29 rfl (fk_16 hF) ?_
    rw [hc]
    refine wp_iload_n dX6_emit_20 rfl ?_
    refine wp_iastoreN dX6_emit_21 (fk_17 hF) (by omega) (by decide) ?_
    refine wp_aload_n dX6_emit_22 rfl ?_
    refine wp_dup dX6_emit_23 rfl ?_
    refine wp_geti dX6_emit_24 fl_RX6_29 rfl (fk_16 (Fix_sI hF)) ?_
    rw [hI_sI', if_neg (by omega), hc]
    refine wp_iconst (v := 1) dX6_emit_27 (by decide) ?_
    refine wp_iadd dX6_emit_28 ?_
    rw [nI_1]
    refine wp_puti dX6_emit_29 fl_RX6_29 (mp_6_4 _ _) rfl (fk_16 (Fix_sI hF)) ?_
    refine wp_return rfl dX6_emit_32 ?_
    exact hq1 h
  · have e : cc = 600 := by omega
    subst e
    refine wp_aload_n dX6_emit_0 rfl ?_
    refine wp_geti dX6_emit_1 fl_RX6_29 rfl (fk_16 hF) ?_
    rw [hc]
    refine wp_aload_n dX6_emit_4 rfl ?_
    refine wp_geta dX6_emit_5 fl_RX6_9 rfl (fk_16 hF) (fr_16_1 hF) ?_
    refine wp_alen dX6_emit_8 (fk_17 hF) (by simp) ?_
    refine wp_icmp_ge (tgt := 32) dX6_emit_9 (by decide) (fun _ => ?_) (fun h9 => absurd h9 (fun q => q (by decide)))
    refine wp_return rfl dX6_emit_32 ?_
    exact hq2 rfl
theorem c_emitB {x : Int32} (hF : Fix H) (hb : CB H f H1) (hq : ∀ H', CB H f H' → Q none H') : Wp mX6_emit d 0 0 0 [some (.ref 16), some (.int x)] [] H1 Q := by
  have hF1 := CB_fix hF hb
  obtain ⟨h1, h2, h3, h4, h5, h6, cc, h7, h8⟩ := hb
  refine c_X6_emit hF1 h8 h7 (fun h => hq _ ⟨eqX_sI (eqX_sI h1 (Or.inr rfl)) (Or.inl ⟨rfl, by decide⟩), ?_, h3, h4, ?_, ?_, cc + 1, by omega, ?_⟩) (fun _ => hq _ ⟨h1, h2, h3, h4, h5, h6, cc, h7, h8⟩)
  · rw [hI_sI', if_neg (by omega), hI_sI', if_neg (by omega)]; exact h2
  · rw [hI_sI', if_neg (by omega), hI_sI', if_neg (by omega)]; exact h5
  · rw [hI_sI', if_neg (by omega), hI_sI', if_neg (by omega)]; exact h6
  · rw [hI_sI', if_pos ⟨rfl, rfl⟩]
theorem c_deepB {x : Int32} (hF : Fix H) (hb : CB H f H1) (hq1 : ∀ H', CB H f H' → Q (some (.int 1)) H') (hq2 : Q (some (.int 0)) H1) : Wp mX6_isTooDeep (d + 1) 0 0 0 [some (.ref 16), some (.int x)] [] H1 Q := by
  have hF1 := CB_fix hF hb
  refine wp_iload_n dX6_isTooDeep_0 rfl ?_
  refine wp_bipush (v := 8) dX6_isTooDeep_1 (by decide) ?_
  refine wp_icmp_lt (tgt := 13) dX6_isTooDeep_3 (by decide) (fun h3 => ?_) (fun h3 => ?_)
  · refine wp_iconst (v := 0) dX6_isTooDeep_13 (by decide) ?_
    refine wp_zreturn rfl (Or.inl rfl) dX6_isTooDeep_14 ?_
    exact hq2
  · refine wp_aload_n dX6_isTooDeep_6 rfl ?_
    refine wp_iconst (v := 2) dX6_isTooDeep_7 (by decide) ?_
    refine wp_callv1 (ci := 6) dX6_isTooDeep_8 lk_RX6_64 ok_X6_fail im_X6_fail se_X6_fail rfl rfl (fk_16 hF1) (Nat.le_of_ble_eq_true rfl) (Nat.le_of_ble_eq_true rfl) ?_
    refine c_failB hF hb (fun H' hb' => ?_)
    refine wp_iconst (v := 1) dX6_isTooDeep_11 (by decide) ?_
    refine wp_zreturn rfl (Or.inr rfl) dX6_isTooDeep_12 ?_
    exact hq1 H' hb'
theorem c_expectB {x : Int32} (hx : ¬ (8 : Int32) = x) (hF : Fix H) (hb : CB H f H1) (hq : ∀ H', CB H f H' → Q none H') : Wp mX6_expect (d + 1) 0 0 0 [some (.ref 16), some (.int x)] [] H1 Q := by
  have hF1 := CB_fix hF hb
  have t8 := hb.2.2.2.2.2.1
  refine wp_aload_n dX6_expect_0 rfl ?_
  refine wp_geti dX6_expect_1 fl_RX6_47 rfl (fk_16 hF1) ?_
  rw [t8]
  refine wp_iload_n dX6_expect_4 rfl ?_
  refine wp_icmp_ne (tgt := 15) dX6_expect_5 (by decide) (fun _ => ?_) (fun h5 => absurd h5 (hx))
  refine wp_aload_n dX6_expect_15 rfl ?_
  refine wp_iconst (v := 2) dX6_expect_16 (by decide) ?_
  refine wp_callv1 (ci := 6) dX6_expect_17 lk_RX6_64 ok_X6_fail im_X6_fail se_X6_fail rfl rfl (fk_16 hF1) (Nat.le_of_ble_eq_true rfl) (Nat.le_of_ble_eq_true rfl) ?_
  refine c_failB hF hb (fun H' hb' => ?_)
  refine wp_return rfl dX6_expect_20 ?_
  exact hq H' hb'
theorem c_unitB {x : Int32} (hF : Fix H) (hb : CB H f H1) (hq : ∀ H', CB H f H' → Q none H') : Wp mX6_readUnit (d + 2) 0 0 0 [some (.ref 16), some (.int x)] [] H1 Q := by
  have hF1 := CB_fix hF hb
  have t8 := hb.2.2.2.2.2.1
  refine wp_aload_n dX6_readUnit_0 rfl ?_
  refine wp_iload_n dX6_readUnit_1 rfl ?_
  refine wp_callv1 (ci := 6) dX6_readUnit_2 lk_RX6_74 ok_X6_isTooDeep im_X6_isTooDeep se_X6_isTooDeep rfl rfl (fk_16 hF1) (Nat.le_of_ble_eq_true rfl) (Nat.le_of_ble_eq_true rfl) ?_
  refine c_deepB hF hb (fun H' hb' => ?_) ?_
  · refine wp_if_eq (tgt := 9) dX6_readUnit_5 (by decide) (fun h5 => absurd h5 (by decide)) (fun _ => ?_)
    refine wp_return rfl dX6_readUnit_8 ?_
    exact hq H' hb'
  · refine wp_if_eq (tgt := 9) dX6_readUnit_5 (by decide) (fun _ => ?_) (fun h5 => absurd rfl h5)
    refine wp_aload_n dX6_readUnit_9 rfl ?_
    refine wp_geti dX6_readUnit_10 fl_RX6_47 rfl (fk_16 hF1) ?_
    rw [t8]
    refine wp_bipush (v := 7) dX6_readUnit_13 (by decide) ?_
    refine wp_icmp_eq (tgt := 27) dX6_readUnit_15 (by decide) (fun h15 => absurd h15 (by decide)) (fun _ => ?_)
    refine wp_aload_n dX6_readUnit_18 rfl ?_
    refine wp_geti dX6_readUnit_19 fl_RX6_47 rfl (fk_16 hF1) ?_
    rw [t8]
    refine wp_bipush (v := 6) dX6_readUnit_22 (by decide) ?_
    refine wp_icmp_ne (tgt := 34) dX6_readUnit_24 (by decide) (fun _ => ?_) (fun h24 => absurd h24 (by decide))
    refine wp_aload_n dX6_readUnit_34 rfl ?_
    refine wp_geti dX6_readUnit_35 fl_RX6_47 rfl (fk_16 hF1) ?_
    rw [t8]
    refine wp_bipush (v := 40) dX6_readUnit_38 (by decide) ?_
    refine wp_icmp_ne (tgt := 63) dX6_readUnit_40 (by decide) (fun _ => ?_) (fun h40 => absurd h40 (by decide))
    refine wp_aload_n dX6_readUnit_63 rfl ?_
    refine wp_geti dX6_readUnit_64 fl_RX6_47 rfl (fk_16 hF1) ?_
    rw [t8]
    refine wp_bipush (v := 45) dX6_readUnit_67 (by decide) ?_
    refine wp_icmp_ne (tgt := 92) dX6_readUnit_69 (by decide) (fun _ => ?_) (fun h69 => absurd h69 (by decide))
    refine wp_aload_n dX6_readUnit_92 rfl ?_
    refine wp_iconst (v := 2) dX6_readUnit_93 (by decide) ?_
    refine wp_callv1 (ci := 6) dX6_readUnit_94 lk_RX6_64 ok_X6_fail im_X6_fail se_X6_fail rfl rfl (fk_16 hF1) (Nat.le_of_ble_eq_true rfl) (Nat.le_of_ble_eq_true rfl) ?_
    refine c_failB hF hb (fun H' hb' => ?_)
    refine wp_return rfl dX6_readUnit_97 ?_
    exact hq H' hb'
theorem c_termB7 {x : Int32} {lo3 : Option Value} (hF : Fix H) (hb : CB H f H1) (hq : ∀ H', CB H f H' → Q none H') {mo : Nat} : Wp mX6_readTerm d 0 0 7 [some (.ref 16), some (.int x), some (.int (nI mo)), lo3] [] H1 Q := by
  have hF1 := CB_fix hF hb
  have t8 := hb.2.2.2.2.2.1
  refine wp_iload_n dX6_readTerm_7 rfl ?_
  refine wp_sipush (v := 600) dX6_readTerm_8 (by decide) ?_
  refine wp_icmp_ge (tgt := 58) dX6_readTerm_11 (by decide) (fun h11 => ?_) (fun h11 => ?_)
  · refine wp_return rfl dX6_readTerm_58 ?_
    exact hq H1 hb
  · refine wp_aload_n dX6_readTerm_14 rfl ?_
    refine wp_geti dX6_readTerm_15 fl_RX6_47 rfl (fk_16 hF1) ?_
    rw [t8]
    refine wp_bipush (v := 42) dX6_readTerm_18 (by decide) ?_
    refine wp_icmp_eq (tgt := 32) dX6_readTerm_20 (by decide) (fun h20 => absurd h20 (by decide)) (fun _ => ?_)
    refine wp_aload_n dX6_readTerm_23 rfl ?_
    refine wp_geti dX6_readTerm_24 fl_RX6_47 rfl (fk_16 hF1) ?_
    rw [t8]
    refine wp_bipush (v := 47) dX6_readTerm_27 (by decide) ?_
    refine wp_icmp_ne (tgt := 58) dX6_readTerm_29 (by decide) (fun _ => ?_) (fun h29 => absurd h29 (by decide))
    refine wp_return rfl dX6_readTerm_58 ?_
    exact hq H1 hb
theorem c_termB46 {x sg : Int32} (hF : Fix H) (hb : CB H f H1) (hq : ∀ H', CB H f H' → Q none H') {mo : Nat} : Wp mX6_readTerm (d + 1) 0 0 46 [some (.ref 16), some (.int x), some (.int (nI mo)), some (.int sg)] [] H1 Q := by
  have hF1 := CB_fix hF hb
  refine wp_aload_n dX6_readTerm_46 rfl ?_
  refine wp_iload_n dX6_readTerm_47 rfl ?_
  refine wp_ineg dX6_readTerm_48 ?_
  refine wp_callv1 (ci := 6) dX6_readTerm_49 lk_RX6_81 ok_X6_emit im_X6_emit se_X6_emit rfl rfl (fk_16 hF1) (Nat.le_of_ble_eq_true rfl) (Nat.le_of_ble_eq_true rfl) ?_
  refine c_emitB hF hb (fun H' hb' => ?_)
  refine wp_incN dX6_readTerm_52 rfl (by decide) ?_
  refine wp_goto (tgt := 7) dX6_readTerm_55 (by decide) ?_
  exact c_termB7 hF hb' hq
theorem c_termB41 {x sg : Int32} (hF : Fix H) (hb : CB H f H1) (hq : ∀ H', CB H f H' → Q none H') {mo : Nat} : Wp mX6_readTerm (d + 3) 0 0 41 [some (.ref 16), some (.int x), some (.int (nI mo)), some (.int sg)] [] H1 Q := by
  have hF1 := CB_fix hF hb
  refine wp_aload_n dX6_readTerm_41 rfl ?_
  refine wp_iload_n dX6_readTerm_42 rfl ?_
  refine wp_callv1 (ci := 6) dX6_readTerm_43 lk_RX6_93 ok_X6_readUnit im_X6_readUnit se_X6_readUnit rfl rfl (fk_16 hF1) (Nat.le_of_ble_eq_true rfl) (Nat.le_of_ble_eq_true rfl) ?_
  refine c_unitB hF hb (fun H' hb' => ?_)
  exact c_termB46 hF hb' hq
theorem c_termB {x : Int32} (hF : Fix H) (hb : CB H f H1) (hq : ∀ H', CB H f H' → Q none H') : Wp mX6_readTerm (d + 3) 0 0 0 [some (.ref 16), some (.int x), none, none] [] H1 Q := by
  have hF1 := CB_fix hF hb
  refine wp_aload_n dX6_readTerm_0 rfl ?_
  refine wp_iload_n dX6_readTerm_1 rfl ?_
  refine wp_callv1 (ci := 6) dX6_readTerm_2 lk_RX6_93 ok_X6_readUnit im_X6_readUnit se_X6_readUnit rfl rfl (fk_16 hF1) (Nat.le_of_ble_eq_true rfl) (Nat.le_of_ble_eq_true rfl) ?_
  refine c_unitB hF hb (fun H' hb' => ?_)
  refine wp_iconst (v := 0) dX6_readTerm_5 (by decide) ?_
  refine wp_istore_n dX6_readTerm_6 (by decide) ?_
  exact c_termB7 hF hb' hq
theorem c_sumB7 {x : Int32} {lo3 : Option Value} (hF : Fix H) (hb : CB H f H1) (hq : ∀ H', CB H f H' → Q none H') {mo : Nat} : Wp mX6_readSum d 0 0 7 [some (.ref 16), some (.int x), some (.int (nI mo)), lo3] [] H1 Q := by
  have hF1 := CB_fix hF hb
  have t8 := hb.2.2.2.2.2.1
  refine wp_iload_n dX6_readSum_7 rfl ?_
  refine wp_sipush (v := 600) dX6_readSum_8 (by decide) ?_
  refine wp_icmp_ge (tgt := 58) dX6_readSum_11 (by decide) (fun h11 => ?_) (fun h11 => ?_)
  · refine wp_return rfl dX6_readSum_58 ?_
    exact hq H1 hb
  · refine wp_aload_n dX6_readSum_14 rfl ?_
    refine wp_geti dX6_readSum_15 fl_RX6_47 rfl (fk_16 hF1) ?_
    rw [t8]
    refine wp_bipush (v := 43) dX6_readSum_18 (by decide) ?_
    refine wp_icmp_eq (tgt := 32) dX6_readSum_20 (by decide) (fun h20 => absurd h20 (by decide)) (fun _ => ?_)
    refine wp_aload_n dX6_readSum_23 rfl ?_
    refine wp_geti dX6_readSum_24 fl_RX6_47 rfl (fk_16 hF1) ?_
    rw [t8]
    refine wp_bipush (v := 45) dX6_readSum_27 (by decide) ?_
    refine wp_icmp_ne (tgt := 58) dX6_readSum_29 (by decide) (fun _ => ?_) (fun h29 => absurd h29 (by decide))
    refine wp_return rfl dX6_readSum_58 ?_
    exact hq H1 hb
theorem c_sumB46 {x sg : Int32} (hF : Fix H) (hb : CB H f H1) (hq : ∀ H', CB H f H' → Q none H') {mo : Nat} : Wp mX6_readSum (d + 1) 0 0 46 [some (.ref 16), some (.int x), some (.int (nI mo)), some (.int sg)] [] H1 Q := by
  have hF1 := CB_fix hF hb
  refine wp_aload_n dX6_readSum_46 rfl ?_
  refine wp_iload_n dX6_readSum_47 rfl ?_
  refine wp_ineg dX6_readSum_48 ?_
  refine wp_callv1 (ci := 6) dX6_readSum_49 lk_RX6_81 ok_X6_emit im_X6_emit se_X6_emit rfl rfl (fk_16 hF1) (Nat.le_of_ble_eq_true rfl) (Nat.le_of_ble_eq_true rfl) ?_
  refine c_emitB hF hb (fun H' hb' => ?_)
  refine wp_incN dX6_readSum_52 rfl (by decide) ?_
  refine wp_goto (tgt := 7) dX6_readSum_55 (by decide) ?_
  exact c_sumB7 hF hb' hq
theorem c_sumB41 {x sg : Int32} (hF : Fix H) (hb : CB H f H1) (hq : ∀ H', CB H f H' → Q none H') {mo : Nat} : Wp mX6_readSum (d + 4) 0 0 41 [some (.ref 16), some (.int x), some (.int (nI mo)), some (.int sg)] [] H1 Q := by
  have hF1 := CB_fix hF hb
  refine wp_aload_n dX6_readSum_41 rfl ?_
  refine wp_iload_n dX6_readSum_42 rfl ?_
  refine wp_callv1 (ci := 6) dX6_readSum_43 lk_RX6_90 ok_X6_readTerm im_X6_readTerm se_X6_readTerm rfl rfl (fk_16 hF1) (Nat.le_of_ble_eq_true rfl) (Nat.le_of_ble_eq_true rfl) ?_
  refine c_termB hF hb (fun H' hb' => ?_)
  exact c_sumB46 hF hb' hq
theorem c_sumB {x : Int32} (hF : Fix H) (hb : CB H f H1) (hq : ∀ H', CB H f H' → Q none H') : Wp mX6_readSum (d + 4) 0 0 0 [some (.ref 16), some (.int x), none, none] [] H1 Q := by
  have hF1 := CB_fix hF hb
  refine wp_aload_n dX6_readSum_0 rfl ?_
  refine wp_iload_n dX6_readSum_1 rfl ?_
  refine wp_callv1 (ci := 6) dX6_readSum_2 lk_RX6_90 ok_X6_readTerm im_X6_readTerm se_X6_readTerm rfl rfl (fk_16 hF1) (Nat.le_of_ble_eq_true rfl) (Nat.le_of_ble_eq_true rfl) ?_
  refine c_termB hF hb (fun H' hb' => ?_)
  refine wp_iconst (v := 0) dX6_readSum_5 (by decide) ?_
  refine wp_istore_n dX6_readSum_6 (by decide) ?_
  exact c_sumB7 hF hb' hq
theorem c_oneB {x : Int32} (hF : Fix H) (hb : CB H f H1) (hq : ∀ H', CB H f H' → Q none H') : Wp mX6_readOne (d + 5) 0 0 0 [some (.ref 16), some (.int x), none] [] H1 Q := by
  have hF1 := CB_fix hF hb
  have t8 := hb.2.2.2.2.2.1
  refine wp_aload_n dX6_readOne_0 rfl ?_
  refine wp_iload_n dX6_readOne_1 rfl ?_
  refine wp_callv1 (ci := 6) dX6_readOne_2 lk_RX6_74 ok_X6_isTooDeep im_X6_isTooDeep se_X6_isTooDeep rfl rfl (fk_16 hF1) (Nat.le_of_ble_eq_true rfl) (Nat.le_of_ble_eq_true rfl) ?_
  refine c_deepB hF hb (fun H' hb' => ?_) ?_
  · refine wp_if_eq (tgt := 9) dX6_readOne_5 (by decide) (fun h5 => absurd h5 (by decide)) (fun _ => ?_)
    refine wp_return rfl dX6_readOne_8 ?_
    exact hq H' hb'
  · refine wp_if_eq (tgt := 9) dX6_readOne_5 (by decide) (fun _ => ?_) (fun h5 => absurd rfl h5)
    refine wp_aload_n dX6_readOne_9 rfl ?_
    refine wp_geti dX6_readOne_10 fl_RX6_47 rfl (fk_16 hF1) ?_
    rw [t8]
    refine wp_iconst (v := 5) dX6_readOne_13 (by decide) ?_
    refine wp_icmp_ne (tgt := 35) dX6_readOne_14 (by decide) (fun _ => ?_) (fun h14 => absurd h14 (by decide))
    refine wp_aload_n dX6_readOne_35 rfl ?_
    refine wp_iload_n dX6_readOne_36 rfl ?_
    refine wp_callv1 (ci := 6) dX6_readOne_37 lk_RX6_87 ok_X6_readSum im_X6_readSum se_X6_readSum rfl rfl (fk_16 hF1) (Nat.le_of_ble_eq_true rfl) (Nat.le_of_ble_eq_true rfl) ?_
    refine c_sumB hF hb (fun H2 hb2 => ?_)
    have hF2 := CB_fix hF hb2
    have t82 := hb2.2.2.2.2.2.1
    refine wp_aload_n dX6_readOne_40 rfl ?_
    refine wp_geti dX6_readOne_41 fl_RX6_47 rfl (fk_16 hF2) ?_
    rw [t82]
    refine wp_bipush (v := 60) dX6_readOne_44 (by decide) ?_
    refine wp_icmp_eq (tgt := 67) dX6_readOne_46 (by decide) (fun h46 => absurd h46 (by decide)) (fun _ => ?_)
    refine wp_aload_n dX6_readOne_49 rfl ?_
    refine wp_geti dX6_readOne_50 fl_RX6_47 rfl (fk_16 hF2) ?_
    rw [t82]
    refine wp_bipush (v := 62) dX6_readOne_53 (by decide) ?_
    refine wp_icmp_eq (tgt := 67) dX6_readOne_55 (by decide) (fun h55 => absurd h55 (by decide)) (fun _ => ?_)
    refine wp_aload_n dX6_readOne_58 rfl ?_
    refine wp_geti dX6_readOne_59 fl_RX6_47 rfl (fk_16 hF2) ?_
    rw [t82]
    refine wp_bipush (v := 61) dX6_readOne_62 (by decide) ?_
    refine wp_icmp_ne (tgt := 87) dX6_readOne_64 (by decide) (fun _ => ?_) (fun h64 => absurd h64 (by decide))
    refine wp_return rfl dX6_readOne_87 ?_
    exact hq H2 hb2
theorem c_bothB7 {x : Int32} (hF : Fix H) (hb : CB H f H1) (hq : ∀ H', CB H f H' → Q none H') {mo : Nat} : Wp mX6_readBoth d 0 0 7 [some (.ref 16), some (.int x), some (.int (nI mo))] [] H1 Q := by
  have hF1 := CB_fix hF hb
  have t8 := hb.2.2.2.2.2.1
  refine wp_iload_n dX6_readBoth_7 rfl ?_
  refine wp_sipush (v := 600) dX6_readBoth_8 (by decide) ?_
  refine wp_icmp_ge (tgt := 43) dX6_readBoth_11 (by decide) (fun h11 => ?_) (fun h11 => ?_)
  · refine wp_return rfl dX6_readBoth_43 ?_
    exact hq H1 hb
  · refine wp_aload_n dX6_readBoth_14 rfl ?_
    refine wp_geti dX6_readBoth_15 fl_RX6_47 rfl (fk_16 hF1) ?_
    rw [t8]
    refine wp_iconst (v := 4) dX6_readBoth_18 (by decide) ?_
    refine wp_icmp_ne (tgt := 43) dX6_readBoth_19 (by decide) (fun _ => ?_) (fun h19 => absurd h19 (by decide))
    refine wp_return rfl dX6_readBoth_43 ?_
    exact hq H1 hb
theorem c_bothB31 {x : Int32} (hF : Fix H) (hb : CB H f H1) (hq : ∀ H', CB H f H' → Q none H') {mo : Nat} : Wp mX6_readBoth (d + 1) 0 0 31 [some (.ref 16), some (.int x), some (.int (nI mo))] [] H1 Q := by
  have hF1 := CB_fix hF hb
  refine wp_aload_n dX6_readBoth_31 rfl ?_
  refine wp_bipush (v := -8) dX6_readBoth_32 (by decide) ?_
  refine wp_callv1 (ci := 6) dX6_readBoth_34 lk_RX6_81 ok_X6_emit im_X6_emit se_X6_emit rfl rfl (fk_16 hF1) (Nat.le_of_ble_eq_true rfl) (Nat.le_of_ble_eq_true rfl) ?_
  refine c_emitB hF hb (fun H' hb' => ?_)
  refine wp_incN dX6_readBoth_37 rfl (by decide) ?_
  refine wp_goto (tgt := 7) dX6_readBoth_40 (by decide) ?_
  exact c_bothB7 hF hb' hq
theorem c_bothB26 {x : Int32} (hF : Fix H) (hb : CB H f H1) (hq : ∀ H', CB H f H' → Q none H') {mo : Nat} : Wp mX6_readBoth (d + 6) 0 0 26 [some (.ref 16), some (.int x), some (.int (nI mo))] [] H1 Q := by
  have hF1 := CB_fix hF hb
  refine wp_aload_n dX6_readBoth_26 rfl ?_
  refine wp_iload_n dX6_readBoth_27 rfl ?_
  refine wp_callv1 (ci := 6) dX6_readBoth_28 lk_RX6_84 ok_X6_readOne im_X6_readOne se_X6_readOne rfl rfl (fk_16 hF1) (Nat.le_of_ble_eq_true rfl) (Nat.le_of_ble_eq_true rfl) ?_
  refine c_oneB hF hb (fun H' hb' => ?_)
  exact c_bothB31 hF hb' hq
theorem c_bothB {x : Int32} (hF : Fix H) (hb : CB H f H1) (hq : ∀ H', CB H f H' → Q none H') : Wp mX6_readBoth (d + 6) 0 0 0 [some (.ref 16), some (.int x), none] [] H1 Q := by
  have hF1 := CB_fix hF hb
  refine wp_aload_n dX6_readBoth_0 rfl ?_
  refine wp_iload_n dX6_readBoth_1 rfl ?_
  refine wp_callv1 (ci := 6) dX6_readBoth_2 lk_RX6_84 ok_X6_readOne im_X6_readOne se_X6_readOne rfl rfl (fk_16 hF1) (Nat.le_of_ble_eq_true rfl) (Nat.le_of_ble_eq_true rfl) ?_
  refine c_oneB hF hb (fun H' hb' => ?_)
  refine wp_iconst (v := 0) dX6_readBoth_5 (by decide) ?_
  refine wp_istore_n dX6_readBoth_6 (by decide) ?_
  exact c_bothB7 hF hb' hq
theorem c_eithB16 {x : Int32} (hF : Fix H) (hb : CB H f H1) (hq : ∀ H', CB H f H' → Q none H') {mo : Nat} : Wp mX6_readEither d 0 0 16 [some (.ref 16), some (.int x), some (.int (nI mo))] [] H1 Q := by
  have hF1 := CB_fix hF hb
  have t8 := hb.2.2.2.2.2.1
  refine wp_iload_n dX6_readEither_16 rfl ?_
  refine wp_sipush (v := 600) dX6_readEither_17 (by decide) ?_
  refine wp_icmp_ge (tgt := 52) dX6_readEither_20 (by decide) (fun h20 => ?_) (fun h20 => ?_)
  · refine wp_return rfl dX6_readEither_52 ?_
    exact hq H1 hb
  · refine wp_aload_n dX6_readEither_23 rfl ?_
    refine wp_geti dX6_readEither_24 fl_RX6_47 rfl (fk_16 hF1) ?_
    rw [t8]
    refine wp_iconst (v := 3) dX6_readEither_27 (by decide) ?_
    refine wp_icmp_ne (tgt := 52) dX6_readEither_28 (by decide) (fun _ => ?_) (fun h28 => absurd h28 (by decide))
    refine wp_return rfl dX6_readEither_52 ?_
    exact hq H1 hb
theorem c_eithB40 {x : Int32} (hF : Fix H) (hb : CB H f H1) (hq : ∀ H', CB H f H' → Q none H') {mo : Nat} : Wp mX6_readEither (d + 1) 0 0 40 [some (.ref 16), some (.int x), some (.int (nI mo))] [] H1 Q := by
  have hF1 := CB_fix hF hb
  refine wp_aload_n dX6_readEither_40 rfl ?_
  refine wp_bipush (v := -7) dX6_readEither_41 (by decide) ?_
  refine wp_callv1 (ci := 6) dX6_readEither_43 lk_RX6_81 ok_X6_emit im_X6_emit se_X6_emit rfl rfl (fk_16 hF1) (Nat.le_of_ble_eq_true rfl) (Nat.le_of_ble_eq_true rfl) ?_
  refine c_emitB hF hb (fun H' hb' => ?_)
  refine wp_incN dX6_readEither_46 rfl (by decide) ?_
  refine wp_goto (tgt := 16) dX6_readEither_49 (by decide) ?_
  exact c_eithB16 hF hb' hq
theorem c_eithB35 {x : Int32} (hF : Fix H) (hb : CB H f H1) (hq : ∀ H', CB H f H' → Q none H') {mo : Nat} : Wp mX6_readEither (d + 7) 0 0 35 [some (.ref 16), some (.int x), some (.int (nI mo))] [] H1 Q := by
  have hF1 := CB_fix hF hb
  refine wp_aload_n dX6_readEither_35 rfl ?_
  refine wp_iload_n dX6_readEither_36 rfl ?_
  refine wp_callv1 (ci := 6) dX6_readEither_37 lk_RX6_78 ok_X6_readBoth im_X6_readBoth se_X6_readBoth rfl rfl (fk_16 hF1) (Nat.le_of_ble_eq_true rfl) (Nat.le_of_ble_eq_true rfl) ?_
  refine c_bothB hF hb (fun H' hb' => ?_)
  exact c_eithB40 hF hb' hq
theorem c_eithB {x : Int32} (hF : Fix H) (hb : CB H f H1) (hq : ∀ H', CB H f H' → Q none H') : Wp mX6_readEither (d + 7) 0 0 0 [some (.ref 16), some (.int x), none] [] H1 Q := by
  have hF1 := CB_fix hF hb
  refine wp_aload_n dX6_readEither_0 rfl ?_
  refine wp_iload_n dX6_readEither_1 rfl ?_
  refine wp_callv1 (ci := 6) dX6_readEither_2 lk_RX6_74 ok_X6_isTooDeep im_X6_isTooDeep se_X6_isTooDeep rfl rfl (fk_16 hF1) (Nat.le_of_ble_eq_true rfl) (Nat.le_of_ble_eq_true rfl) ?_
  refine c_deepB hF hb (fun H' hb' => ?_) ?_
  · refine wp_if_eq (tgt := 9) dX6_readEither_5 (by decide) (fun h5 => absurd h5 (by decide)) (fun _ => ?_)
    refine wp_return rfl dX6_readEither_8 ?_
    exact hq H' hb'
  · refine wp_if_eq (tgt := 9) dX6_readEither_5 (by decide) (fun _ => ?_) (fun h5 => absurd rfl h5)
    refine wp_aload_n dX6_readEither_9 rfl ?_
    refine wp_iload_n dX6_readEither_10 rfl ?_
    refine wp_callv1 (ci := 6) dX6_readEither_11 lk_RX6_78 ok_X6_readBoth im_X6_readBoth se_X6_readBoth rfl rfl (fk_16 hF1) (Nat.le_of_ble_eq_true rfl) (Nat.le_of_ble_eq_true rfl) ?_
    refine c_bothB hF hb (fun H' hb' => ?_)
    refine wp_iconst (v := 0) dX6_readEither_14 (by decide) ?_
    refine wp_istore_n dX6_readEither_15 (by decide) ?_
    exact c_eithB16 hF hb' hq
end RB
