/-! ===== CarriageHire$PriceReader: what it reads, against the machine ===== -/
abbrev RT (bf : Nat → Int32) (N tm : Nat) (c : CF) (r : FT ⊕ CF) : Prop := RchE (tkA bf N) (nxtT bf N) (itmT bf N) (unkT bf N) tm c r
section RO
variable {d : Nat} {bf : Nat → Int32} {N s v : Nat} {o : OL} {H H1 : PH} {Q : Option Value → PH → Prop}
theorem CR_fix (hF : Fix H) (hC : CR H bf N s v o H1) : Fix H1 := Fix_eqX hC.1 hF
theorem tk62 (hB : BF bf N) (s : Nat) : tkA bf N s ≤ 62 := by
  have h := tk_srt hB (s := s)
  rcases Nat.lt_or_ge s N with z | z
  · by_cases hl : ltB (bf s) = true
    · have hw := wtk_in (wvI bf s (le bf N s - s))
      by_cases q : le bf N s - s ≤ 8
      · rw [((tk_word hB z hl).1 q).2.1]; omega
      · rw [((tk_word hB z hl).2 q).2]; decide
    · by_cases hd : dgB (bf s) = true
      · by_cases q : de bf N s - s ≤ 6 ∧ ltB (bf (de bf N s)) = false
        · rw [((tk_num hB z hl hd).1 q).2.1]; decide
        · rw [((tk_num hB z hl hd).2 q).2]; decide
      · by_cases q : sgB (bf s) = true
        · have := (tk_sign hB z hl hd).1 q; omega
        · rw [((tk_sign hB z hl hd).2 q).2]; decide
  · rw [(tk_end hB z).2.1]; decide
theorem tkI (hB : BF bf N) {k : Nat} (hk : k < 1000) : nI (tkA bf N s) = nI k ↔ tkA bf N s = k := nI_eq (by have := tk62 hB s; omega) (by omega)
theorem c_advO (hF : Fix H) (hC : CR H bf N s v o H1) (hol : o.length ≤ 600) (h0 : tkA bf N s ≠ 0) (hq1 : tkA bf N (nxtT bf N s) ≠ 8 → ∀ H', CR H bf N (nxtT bf N s) v o H' → Q none H') (hq2 : tkA bf N (nxtT bf N s) = 8 → ∀ H', CB H (1, nxtT bf N s) H' → Q none H') : Wp mX6_advance (d + 2) 0 0 0 [some (.ref 16), none] [] H1 Q := by
  have hF1 := CR_fix hF hC
  obtain ⟨h1, h2, h3, h4, h5, h6, h7, h8, h9, h10⟩ := hC
  obtain ⟨n1, n2, n3, n4⟩ := nxt_gt h2.1 h4 h0 h5
  have hx : ∀ H', eqX is16 H1 H' → eqX isRx H H' := fun H' he => eqX_trans h1 (eqX_mono (fun a k q => Or.inl ⟨q.1, by unfold is16 at q; omega⟩) he)
  refine c_X6_advance hF1 h2 n4 h3.1 h3.2.2.2.2 (fun hk H' he ht h12 => ?_) (fun hk H' hb => ?_)
  · refine hq1 hk H' ⟨hx H' he, CTp_16 he h2, ht, n3, hk, ?_, h7, ?_, fun i x hi => ?_, h12.trans h10⟩
    · rw [he.2.2.2.2 16 6 (by unfold is16; omega)]; exact h6
    · rw [he.2.2.2.2 16 4 (by unfold is16; omega)]; exact h8
    · rw [he.2.2.2.2 17 i (by unfold is16; omega)]; exact h9 i x hi
  · exact hq2 hk H' ⟨hx H' hb.1, hb.2.1, Nat.le_refl 1, (show 1 ≤ 3 by decide), hb.2.2.1, hb.2.2.2, o.length, hol, by rw [hb.1.2.2.2.2 16 4 (by unfold is16; omega)]; exact h8⟩
theorem c_failO {k : Nat} (hk1 : 1 ≤ k) (hk3 : k ≤ 3) (hF : Fix H) (hC : CR H bf N s v o H1) (hol : o.length ≤ 600) (hq : ∀ H', CB H (k, s) H' → Q none H') : Wp mX6_fail d 0 0 0 [some (.ref 16), some (.int (nI k))] [] H1 Q := by
  have hF1 := CR_fix hF hC
  obtain ⟨h1, h2, h3, h4, h5, h6, h7, h8, h9, h10⟩ := hC
  refine c_X6_fail hF1 (fun _ => hq _ ⟨eqX_sI (eqX_sI (eqX_sI h1 (Or.inl ⟨rfl, by decide⟩)) (Or.inl ⟨rfl, by decide⟩)) (Or.inl ⟨rfl, by decide⟩), ?_, hk1, hk3, ?_, ?_, o.length, hol, ?_⟩) (fun h => absurd h3.2.2.2.2 h)
  · rw [hI_sI', if_neg (by omega), hI_sI', if_neg (by omega), hI_sI', if_pos ⟨rfl, rfl⟩]
  · rw [hI_sI', if_neg (by omega), hI_sI', if_pos ⟨rfl, rfl⟩]; exact h3.2.2.1
  · rw [hI_sI', if_pos ⟨rfl, rfl⟩]
  · rw [hI_sI', if_neg (by omega), hI_sI', if_neg (by omega), hI_sI', if_neg (by omega)]; exact h8
theorem c_emitO {x : Nat × Nat} {e : Int32} (he : encC x = e) (hF : Fix H) (hC : CR H bf N s v o H1) (hol : o.length < 600) (hq : ∀ H', CR H bf N s v (o ++ [x]) H' → Q none H') : Wp mX6_emit d 0 0 0 [some (.ref 16), some (.int e)] [] H1 Q := by
  have hF1 := CR_fix hF hC
  obtain ⟨h1, h2, h3, h4, h5, h6, h7, h8, h9, h10⟩ := hC
  have q16 : ∀ k, k ≠ 4 → hI (sI (sI H1 17 o.length e) 16 4 (nI (o.length + 1))) 16 k = hI H1 16 k := fun k hk => by rw [hI_sI', if_neg (by omega), hI_sI', if_neg (by omega)]
  refine c_X6_emit hF1 h8 (Nat.le_of_lt hol) (fun _ => hq _ ⟨eqX_sI (eqX_sI h1 (Or.inr rfl)) (Or.inl ⟨rfl, by decide⟩), ⟨h2.1, ?_, fun j hj => ?_⟩, ⟨?_, ?_, ?_, fun z => ?_, ?_⟩, h4, h5, ?_, h7, ?_, fun i y hi => ?_, ?_⟩) (fun h => by omega)
  · rw [hI_sI', if_neg (by omega), hI_sI', if_neg (by omega)]; exact h2.2.1
  · rw [hI_sI', if_neg (by omega), hI_sI', if_neg (by omega)]; exact h2.2.2 j hj
  · rw [q16 7 (by decide)]; exact h3.1
  · rw [q16 8 (by decide)]; exact h3.2.1
  · rw [q16 9 (by decide)]; exact h3.2.2.1
  · rw [q16 10 (by decide)]; exact h3.2.2.2.1 z
  · rw [q16 11 (by decide)]; exact h3.2.2.2.2
  · rw [q16 6 (by decide)]; exact h6
  · rw [hI_sI', if_pos ⟨rfl, rfl⟩, List.length_append]; rfl
  · rw [hI_sI', if_neg (by omega), hI_sI']
    rcases Nat.lt_trichotomy i o.length with z | z | z
    · rw [if_neg (by omega)]
      rw [List.getElem?_append_left z] at hi
      exact h9 i y hi
    · subst z
      rw [if_pos ⟨rfl, rfl⟩]
      rw [List.getElem?_append_right (Nat.le_refl _), Nat.sub_self] at hi
      cases hi; exact he.symm
    · rw [List.getElem?_eq_none (by rw [List.length_append]; show o.length + 1 ≤ i; omega)] at hi; cases hi
  · rw [q16 12 (by decide)]; exact h10
theorem c_deepO {dd : Nat} (hdd : dd < 1000) (hF : Fix H) (hC : CR H bf N s v o H1) (hol : o.length ≤ 600) (hq1 : 8 ≤ dd → ∀ H', CB H (2, s) H' → Q (some (.int 1)) H') (hq2 : dd < 8 → Q (some (.int 0)) H1) : Wp mX6_isTooDeep (d + 1) 0 0 0 [some (.ref 16), some (.int (nI dd))] [] H1 Q := by
  have hF1 := CR_fix hF hC
  rcases Nat.lt_or_ge dd 8 with h | h
  · have hlt := h
    refine wp_iload_n dX6_isTooDeep_0 rfl ?_
    refine wp_bipush (v := 8) dX6_isTooDeep_1 (by decide) ?_
    refine wp_icmp_lt (tgt := 13) dX6_isTooDeep_3 (by decide) (fun _ => ?_) (fun h3 => absurd h3 (fun q => q (nI_lt (a := dd) (b := 8) h (by decide))))
    refine wp_iconst (v := 0) dX6_isTooDeep_13 (by decide) ?_
    refine wp_zreturn rfl (Or.inl rfl) dX6_isTooDeep_14 ?_
    exact hq2 h
  · have hge := h
    refine wp_iload_n dX6_isTooDeep_0 rfl ?_
    refine wp_bipush (v := 8) dX6_isTooDeep_1 (by decide) ?_
    refine wp_icmp_lt (tgt := 13) dX6_isTooDeep_3 (by decide) (fun h3 => absurd h3 (nI_nlt (a := dd) (b := 8) h (by omega))) (fun _ => ?_)
    refine wp_aload_n dX6_isTooDeep_6 rfl ?_
    refine wp_iconst (v := 2) dX6_isTooDeep_7 (by decide) ?_
    refine wp_callv1 (ci := 6) dX6_isTooDeep_8 lk_RX6_64 ok_X6_fail im_X6_fail se_X6_fail rfl rfl (fk_16 hF1) (Nat.le_of_ble_eq_true rfl) (Nat.le_of_ble_eq_true rfl) ?_
    refine c_failO (k := 2) (by decide) (by decide) hF hC hol (fun H' hb => ?_)
    refine wp_iconst (v := 1) dX6_isTooDeep_11 (by decide) ?_
    refine wp_zreturn rfl (Or.inr rfl) dX6_isTooDeep_12 ?_
    exact hq1 h H' hb
theorem c_expectO {t : Nat} (ht : t < 1000) (ht0 : t ≠ 0) (hF : Fix H) (hC : CR H bf N s v o H1) (hol : o.length ≤ 600) (hq1 : tkA bf N s = t → tkA bf N (nxtT bf N s) ≠ 8 → ∀ H', CR H bf N (nxtT bf N s) v o H' → Q none H') (hq2 : tkA bf N s = t → tkA bf N (nxtT bf N s) = 8 → ∀ H', CB H (1, nxtT bf N s) H' → Q none H') (hq3 : tkA bf N s ≠ t → ∀ H', CB H (2, s) H' → Q none H') : Wp mX6_expect (d + 3) 0 0 0 [some (.ref 16), some (.int (nI t))] [] H1 Q := by
  have hF1 := CR_fix hF hC
  have hB := hC.2.1.1
  have tk := hC.2.2.1.2.1
  by_cases h : tkA bf N s = t
  · have h' := h
    refine wp_aload_n dX6_expect_0 rfl ?_
    refine wp_geti dX6_expect_1 fl_RX6_47 rfl (fk_16 hF1) ?_
    rw [tk, h]
    refine wp_iload_n dX6_expect_4 rfl ?_
    refine wp_icmp_ne (tgt := 15) dX6_expect_5 (by decide) (fun h5 => absurd h5 (fun q => q rfl)) (fun _ => ?_)
    refine wp_aload_n dX6_expect_8 rfl ?_
    refine wp_callv0 (ci := 6) dX6_expect_9 lk_RX6_44 ok_X6_advance im_X6_advance se_X6_advance rfl rfl (fk_16 hF1) (Nat.le_of_ble_eq_true rfl) (Nat.le_of_ble_eq_true rfl) ?_
    refine c_advO (d := d) hF hC hol (by rw [h]; exact ht0) (fun hk H' hc => ?_) (fun hk H' hb => ?_)
    · refine wp_goto (tgt := 20) dX6_expect_12 (by decide) ?_
      refine wp_return rfl dX6_expect_20 ?_
      first | exact hq1 h hk H' hc | exact hq2 h hk H' hb
    · refine wp_goto (tgt := 20) dX6_expect_12 (by decide) ?_
      refine wp_return rfl dX6_expect_20 ?_
      first | exact hq1 h hk H' hc | exact hq2 h hk H' hb
  · have h' := h
    refine wp_aload_n dX6_expect_0 rfl ?_
    refine wp_geti dX6_expect_1 fl_RX6_47 rfl (fk_16 hF1) ?_
    rw [tk]
    refine wp_iload_n dX6_expect_4 rfl ?_
    refine wp_icmp_ne (tgt := 15) dX6_expect_5 (by decide) (fun _ => ?_) (fun h5 => absurd h5 (fun q => h ((tkI hB ht).mp q)))
    refine wp_aload_n dX6_expect_15 rfl ?_
    refine wp_iconst (v := 2) dX6_expect_16 (by decide) ?_
    refine wp_callv1 (ci := 6) dX6_expect_17 lk_RX6_64 ok_X6_fail im_X6_fail se_X6_fail rfl rfl (fk_16 hF1) (Nat.le_of_ble_eq_true rfl) (Nat.le_of_ble_eq_true rfl) ?_
    refine c_failO (k := 2) (by decide) (by decide) hF hC hol (fun H' hb => ?_)
    refine wp_return rfl dX6_expect_20 ?_
    exact hq3 h H' hb
theorem c_operandO (hF : Fix H) (hC : CR H bf N s v o H1) (hol : o.length < 600) (htk : tkA bf N s = 7 ∨ tkA bf N s = 6) (hq1 : v ≠ 100 → ¬ (tkA bf N s = 6 ∧ unkT bf N s = true) → tkA bf N (nxtT bf N s) ≠ 8 → ∀ H', CR H bf N (nxtT bf N s) (v + 1) (o ++ [itmT bf N s]) H' → Q none H') (hq2 : v ≠ 100 → ¬ (tkA bf N s = 6 ∧ unkT bf N s = true) → tkA bf N (nxtT bf N s) = 8 → ∀ H', CB H (1, nxtT bf N s) H' → Q none H') (hq3 : v = 100 → ∀ H', CB H (2, s) H' → Q none H') (hq4 : v ≠ 100 → (tkA bf N s = 6 ∧ unkT bf N s = true) → ∀ H', CB H (3, s) H' → Q none H') : Wp mX6_readOperand (d + 3) 0 0 0 [some (.ref 16)] [] H1 Q := by
  have hF1 := CR_fix hF hC
  have hB := hC.2.1.1
  have tk := hC.2.2.1.2.1
  have hv := hC.2.2.2.2.2.1
  have hv1 := hC.2.2.2.2.2.2.1
  have hcd : hI H1 16 10 = cdA bf N s := hC.2.2.1.2.2.2.1 (htk.elim Or.inr Or.inl)
  have hen : ¬ (tkA bf N s = 6 ∧ unkT bf N s = true) → encC (itmT bf N s) = cdA bf N s := fun h => by
    rcases htk with q | q
    · exact (num_cd hB q).2.2.2.symm
    · exact ((name_cd hB q).2 (by cases r : unkT bf N s with
        | false => rfl
        | true => exact absurd ⟨q, r⟩ h)).1.symm
  rcases Nat.lt_or_ge v 100 with hlt | hge
  · have go : ¬ (tkA bf N s = 6 ∧ unkT bf N s = true) → Wp mX6_readOperand (d + 3) 0 0 44 [some (.ref 16)] [] H1 Q := by
      intro hk
      refine wp_aload_n dX6_readOperand_44 rfl ?_
      refine wp_aload_n dX6_readOperand_45 rfl ?_
      refine wp_geti dX6_readOperand_46 fl_RX6_99 rfl (fk_16 hF1) ?_
      rw [hcd]
      refine wp_callv1 (ci := 6) dX6_readOperand_49 lk_RX6_81 ok_X6_emit im_X6_emit se_X6_emit rfl rfl (fk_16 hF1) (Nat.le_of_ble_eq_true rfl) (Nat.le_of_ble_eq_true rfl) ?_
      refine c_emitO (hen hk) hF hC hol (fun H2 hC2 => ?_)
      have hF2 := CR_fix hF hC2
      have hv2 := hC2.2.2.2.2.2.1
      have hC3 : CR H bf N s (v + 1) (o ++ [itmT bf N s]) (sI H2 16 6 (nI (v + 1))) := by
        obtain ⟨g1, g2, g3, g4, g5, g6, g7, g8, g9, g10⟩ := hC2
        exact ⟨eqX_sI g1 (Or.inl ⟨rfl, by decide⟩), ⟨g2.1, by rw [hI_sI', if_neg (by omega)]; exact g2.2.1, fun j hj => by rw [hI_sI', if_neg (by omega)]; exact g2.2.2 j hj⟩, ⟨by rw [hI_sI', if_neg (by omega)]; exact g3.1, by rw [hI_sI', if_neg (by omega)]; exact g3.2.1, by rw [hI_sI', if_neg (by omega)]; exact g3.2.2.1, fun z => by rw [hI_sI', if_neg (by omega)]; exact g3.2.2.2.1 z, by rw [hI_sI', if_neg (by omega)]; exact g3.2.2.2.2⟩, g4, g5, by rw [hI_sI', if_pos ⟨rfl, rfl⟩], by omega, by rw [hI_sI', if_neg (by omega)]; exact g8, fun i x hi => by rw [hI_sI', if_neg (by omega)]; exact g9 i x hi, by rw [hI_sI', if_neg (by omega)]; exact g10⟩
      refine wp_aload_n dX6_readOperand_52 rfl ?_
      refine wp_dup dX6_readOperand_53 rfl ?_
      refine wp_geti dX6_readOperand_54 fl_RX6_35 rfl (fk_16 hF2) ?_
      rw [hv2]
      refine wp_iconst (v := 1) dX6_readOperand_57 (by decide) ?_
      refine wp_iadd dX6_readOperand_58 ?_
      rw [nI_1]
      refine wp_puti dX6_readOperand_59 fl_RX6_35 (mp_6_6 _ _) rfl (fk_16 hF2) ?_
      refine wp_aload_n dX6_readOperand_62 rfl ?_
      refine wp_callv0 (ci := 6) dX6_readOperand_63 lk_RX6_44 ok_X6_advance im_X6_advance se_X6_advance rfl rfl (fk_16 (Fix_sI hF2)) (Nat.le_of_ble_eq_true rfl) (Nat.le_of_ble_eq_true rfl) ?_
      refine c_advO (d := d) hF hC3 (by rw [List.length_append]; show o.length + 1 ≤ 600; omega) (by omega) (fun hk8 H' hc => ?_) (fun hk8 H' hb => ?_)
      · refine wp_return rfl dX6_readOperand_66 ?_
        first | exact hq1 (by omega) hk hk8 H' hc | exact hq2 (by omega) hk hk8 H' hb
      · refine wp_return rfl dX6_readOperand_66 ?_
        first | exact hq1 (by omega) hk hk8 H' hc | exact hq2 (by omega) hk hk8 H' hb
    by_cases hu : tkA bf N s = 6 ∧ unkT bf N s = true
    · have hm : cdA bf N s = -1000 := (name_cd hB hu.1).1.mpr hu.2
      refine wp_aload_n dX6_readOperand_0 rfl ?_
      refine wp_geti dX6_readOperand_1 fl_RX6_35 rfl (fk_16 hF1) ?_
      rw [hv]
      refine wp_bipush (v := 100) dX6_readOperand_4 (by decide) ?_
      refine wp_icmp_lt (tgt := 17) dX6_readOperand_6 (by decide) (fun _ => ?_) (fun h6 => absurd h6 (fun q => q (nI_lt (a := v) (b := 100) hlt (by decide))))
      refine wp_aload_n dX6_readOperand_17 rfl ?_
      refine wp_geti dX6_readOperand_18 fl_RX6_47 rfl (fk_16 hF1) ?_
      rw [tk, hu.1]
      refine wp_bipush (v := 6) dX6_readOperand_21 (by decide) ?_
      refine wp_icmp_ne (tgt := 44) dX6_readOperand_23 (by decide) (fun h23 => absurd h23 (fun q => q rfl)) (fun _ => ?_)
      refine wp_aload_n dX6_readOperand_26 rfl ?_
      refine wp_geti dX6_readOperand_27 fl_RX6_99 rfl (fk_16 hF1) ?_
      rw [hcd, hm]
      refine wp_sipush (v := -1000) dX6_readOperand_30 (by decide) ?_
      refine wp_icmp_ne (tgt := 44) dX6_readOperand_33 (by decide) (fun h33 => absurd h33 (fun q => q rfl)) (fun _ => ?_)
      refine wp_aload_n dX6_readOperand_36 rfl ?_
      refine wp_iconst (v := 3) dX6_readOperand_37 (by decide) ?_
      refine wp_callv1 (ci := 6) dX6_readOperand_38 lk_RX6_64 ok_X6_fail im_X6_fail se_X6_fail rfl rfl (fk_16 hF1) (Nat.le_of_ble_eq_true rfl) (Nat.le_of_ble_eq_true rfl) ?_
      refine c_failO (k := 3) (by decide) (by decide) hF hC (Nat.le_of_lt hol) (fun H' hb => ?_)
      refine wp_goto (tgt := 66) dX6_readOperand_41 (by decide) ?_
      refine wp_return rfl dX6_readOperand_66 ?_
      exact hq4 (by omega) hu H' hb
    · have hu' := hu
      refine wp_aload_n dX6_readOperand_0 rfl ?_
      refine wp_geti dX6_readOperand_1 fl_RX6_35 rfl (fk_16 hF1) ?_
      rw [hv]
      refine wp_bipush (v := 100) dX6_readOperand_4 (by decide) ?_
      refine wp_icmp_lt (tgt := 17) dX6_readOperand_6 (by decide) (fun _ => ?_) (fun h6 => absurd h6 (fun q => q (nI_lt (a := v) (b := 100) hlt (by decide))))
      refine wp_aload_n dX6_readOperand_17 rfl ?_
      refine wp_geti dX6_readOperand_18 fl_RX6_47 rfl (fk_16 hF1) ?_
      rw [tk]
      refine wp_bipush (v := 6) dX6_readOperand_21 (by decide) ?_
      refine wp_icmp_ne (tgt := 44) dX6_readOperand_23 (by decide) (fun h23 => ?_) (fun h23 => ?_)
      · exact go hu
      · refine wp_aload_n dX6_readOperand_26 rfl ?_
        refine wp_geti dX6_readOperand_27 fl_RX6_99 rfl (fk_16 hF1) ?_
        rw [hcd]
        refine wp_sipush (v := -1000) dX6_readOperand_30 (by decide) ?_
        refine wp_icmp_ne (tgt := 44) dX6_readOperand_33 (by decide) (fun h33 => ?_) (fun h33 => ?_)
        · exact go hu
        · exact absurd ⟨(tkI hB (k := 6) (by decide)).mp h23, (name_cd hB ((tkI hB (k := 6) (by decide)).mp h23)).1.mp h33⟩ hu
  · have hv9 : v = 100 := by omega
    refine wp_aload_n dX6_readOperand_0 rfl ?_
    refine wp_geti dX6_readOperand_1 fl_RX6_35 rfl (fk_16 hF1) ?_
    rw [hv]
    refine wp_bipush (v := 100) dX6_readOperand_4 (by decide) ?_
    refine wp_icmp_lt (tgt := 17) dX6_readOperand_6 (by decide) (fun h6 => absurd h6 (nI_nlt (a := v) (b := 100) hge (by omega))) (fun _ => ?_)
    refine wp_aload_n dX6_readOperand_9 rfl ?_
    refine wp_iconst (v := 2) dX6_readOperand_10 (by decide) ?_
    refine wp_callv1 (ci := 6) dX6_readOperand_11 lk_RX6_64 ok_X6_fail im_X6_fail se_X6_fail rfl rfl (fk_16 hF1) (Nat.le_of_ble_eq_true rfl) (Nat.le_of_ble_eq_true rfl) ?_
    refine c_failO (k := 2) (by decide) (by decide) hF hC (Nat.le_of_lt hol) (fun H' hb => ?_)
    refine wp_goto (tgt := 66) dX6_readOperand_14 (by decide) ?_
    refine wp_return rfl dX6_readOperand_66 ?_
    exact hq3 hv9 H' hb
end RO
