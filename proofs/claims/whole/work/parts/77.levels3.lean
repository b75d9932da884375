/-! ===== CarriageHire$PriceReader: both, either, units; all levels ===== -/
section LW3
variable {bf : Nat → Int32} {N tm t : Nat} {H : PH}
theorem lr_both (hF : Fix H) (hU : SpO H bf N tm t) (hTM : ∀ s, tkA bf N s = tm → isMul (tkA bf N s) = false ∧ isSum (tkA bf N s) = false ∧ isCmp (tkA bf N s) = false ∧ tkA bf N s ≠ 3 ∧ tkA bf N s ≠ 4) {W : List Nat} {u0 s0 v0 : Nat} {o0 : OL} {Q : Option Value → PH → Prop} (hd : deepW W + t = 8) (hW : tpN pA W)
    (hq : ∀ (s' v' : Nat) (o' : OL) (W2 : List Nat) (o2 : OL) (H' : PH), CR H bf N s' v' o' H' → o'.length + W.length ≤ s' → s0 ≤ s' → RT bf N tm (u0, W, s0, v0, o0) (.inr (2, W2, s', v', o2)) → stp pA W2 o2 = stp pA W o' → CA bf N s' W2 o2 → Q none H') (hb : ∀ f H', RT bf N tm (u0, W, s0, v0, o0) (.inl f) → CB H f H' → Q none H') :
    ∀ (n s v mo : Nat) (o : OL) (W2 : List Nat) (o2 : OL) (H1 : PH), N - s ≤ n → mo ≤ s → CR H bf N s v o H1 → o.length + W.length ≤ s → s0 ≤ s → RT bf N tm (u0, W, s0, v0, o0) (.inr (2, W2, s, v, o2)) → stp pA W2 o2 = (W, o) → C1 bf N s W2 o2 →
    Wp mX6_readBoth (6 * t + 8) 0 0 7 [some (.ref 16), some (.int (nI (deepW W))), some (.int (nI mo))] [] H1 Q := by
  intro n
  induction n with
  | zero =>
    intro s v mo o W2 o2 H1 hn hmo hC hl hs hr hst hcm
    have hF1 := CR_fix hF hC
    have tk := hC.2.2.1.2.1
    have hB := hC.2.1.1
    have hbd := CR_bd hC
    have hend : tkA bf N s = 0 := (tk_end hB (by omega)).2.1
    refine wp_iload_n dX6_readBoth_7 rfl ?_
    refine wp_sipush (v := 600) dX6_readBoth_8 (by decide) ?_
    refine wp_icmp_ge (tgt := 43) dX6_readBoth_11 (by decide) (fun h11 => ?_) (fun h11 => ?_)
    · refine wp_return rfl dX6_readBoth_43 ?_
      exact hq s v o W2 o2 H1 hC hl hs hr (by rw [hst, stp_N hW]) ⟨hcm, by rw [hend]; decide⟩
    · refine wp_aload_n dX6_readBoth_14 rfl ?_
      refine wp_geti dX6_readBoth_15 fl_RX6_47 rfl (fk_16 hF1) ?_
      rw [tk, hend]
      refine wp_iconst (v := 4) dX6_readBoth_18 (by decide) ?_
      refine wp_icmp_ne (tgt := 43) dX6_readBoth_19 (by decide) (fun _ => ?_) (fun h19 => absurd h19 (by decide))
      refine wp_return rfl dX6_readBoth_43 ?_
      exact hq s v o W2 o2 H1 hC hl hs hr (by rw [hst, stp_N hW]) ⟨hcm, by rw [hend]; decide⟩
  | succ n ih =>
    intro s v mo o W2 o2 H1 hn hmo hC hl hs hr hst hcm
    have hF1 := CR_fix hF hC
    have tk := hC.2.2.1.2.1
    have hB := hC.2.1.1
    have hbd := CR_bd hC
    by_cases hx : tkA bf N s = 4
    · obtain ⟨n1, n2, n3, n4⟩ := nxt_gt hB hbd.1 (by omega) (by omega)
      have hdW : deepW (42 :: W) = deepW W := rfl
      have hstep : st1 (tkA bf N) (nxtT bf N) (itmT bf N) (unkT bf N) (2, W2, s, v, o2) = goN (tkA bf N) (nxtT bf N) 0 (42 :: W) s v o := by
        rw [st1_B, stB, if_neg (by rw [hx]; decide), if_neg (by rw [hx]; decide), if_neg (by rw [hx]; decide), if_pos hx, hst]
      have hnt : ¬ trm (tkA bf N) tm (2, W2, s, v, o2) := nt_tok (fun z => (hTM s z).2.2.2.2 hx)
      have hok : tkA bf N (nxtT bf N s) ≠ 8 → RT bf N tm (u0, W, s0, v0, o0) (.inr (0, 42 :: W, nxtT bf N s, v, o)) := fun h8 => RchE_trans hr (RchE_one hnt (by rw [hstep]; exact go_ok h8))
      have hba : tkA bf N (nxtT bf N s) = 8 → RT bf N tm (u0, W, s0, v0, o0) (.inl (1, nxtT bf N s)) := fun h8 => RchE_trans hr (RchE_bad hnt (by rw [hstep]; exact go_bad h8))
      have hlast : tkA bf N (nxtT bf N s) ≠ 8 → ∀ (s' v' : Nat) (o' : OL) (W3 : List Nat) (o3 : OL) (H3 : PH), CR H bf N s' v' o' H3 → o'.length + (42 :: W).length ≤ s' → nxtT bf N s ≤ s' → RT bf N tm (0, 42 :: W, nxtT bf N s, v, o) (.inr (2, W3, s', v', o3)) → stp p1 W3 o3 = stp p1 (42 :: W) o' → C1 bf N s' W3 o3 → Wp mX6_readBoth (6 * t + 8) 0 0 31 [some (.ref 16), some (.int (nI (deepW W))), some (.int (nI mo))] [] H3 Q := by
        intro h8 s' v' o' W3 o3 H3 hC3 hl3 hs3 hr3 hst3 hcl3
        have hF3 := CR_fix hF hC3
        have hbd3 := CR_bd hC3
        have hl3' : o'.length + (W.length + 1) ≤ s' := hl3
        refine wp_aload_n dX6_readBoth_31 rfl ?_
        refine wp_bipush (v := -8) dX6_readBoth_32 (by decide) ?_
        refine wp_callv1 (ci := 6) dX6_readBoth_34 lk_RX6_81 ok_X6_emit im_X6_emit se_X6_emit rfl rfl (fk_16 hF3) (Nat.le_of_ble_eq_true rfl) (Nat.le_of_ble_eq_true rfl) ?_
        refine c_emitO (x := (42, 0)) rfl hF hC3 (by omega) (fun H4 hC4 => ?_)
        refine wp_incN dX6_readBoth_37 rfl (by decide) ?_
        refine wp_goto (tgt := 7) dX6_readBoth_40 (by decide) ?_
        refine ih s' v' (mo + 1) (o' ++ [(42, 0)]) W3 o3 H4 (by omega) (by omega) hC4 (by rw [List.length_append]; show o'.length + 1 + W.length ≤ s'; omega) (by omega) (RchE_trans (hok h8) hr3) ?_ hcl3
        rw [stp_f (by decide)] at hst3
        rw [stp_up (p := p1) (p' := pA) p1_pA hst3, stp_t (by decide), stp_N hW]
      have hmid : tkA bf N (nxtT bf N s) ≠ 8 → ∀ H2, CR H bf N (nxtT bf N s) v o H2 → Wp mX6_readBoth (6 * t + 8) 0 0 26 [some (.ref 16), some (.int (nI (deepW W))), some (.int (nI mo))] [] H2 Q := by
        intro h8 H2 hC2
        have hF2 := CR_fix hF hC2
        have hcal := hU (42 :: W) 0 (nxtT bf N s) v o H2
        rw [hdW] at hcal
        refine wp_aload_n dX6_readBoth_26 rfl ?_
        refine wp_iload_n dX6_readBoth_27 rfl ?_
        refine wp_callv1 (ci := 6) dX6_readBoth_28 lk_RX6_84 ok_X6_readOne im_X6_readOne se_X6_readOne rfl rfl (fk_16 hF2) (Nat.le_of_ble_eq_true rfl) (Nat.le_of_ble_eq_true rfl) ?_
        refine hcal _ hd (by decide) rfl (fun x hx => by cases hx; decide) hC2 (by show o.length + (W.length + 1) ≤ _; omega) (fun s' v' o' W3 o3 H3 hC3 hl3 hs3 hr3 hst3 hcl3 => ?_) (fun f H3 hr3 hb3 => ?_)
        · first
              | exact c_bothB31 (d := 6 * t + 7) hF hb3 (fun H' hb' => hb _ H' (RchE_trans (hok h8) hr3) hb')
              | exact hlast h8 s' v' o' W3 o3 H3 hC3 hl3 hs3 hr3 hst3 hcl3
        · first
              | exact c_bothB31 (d := 6 * t + 7) hF hb3 (fun H' hb' => hb _ H' (RchE_trans (hok h8) hr3) hb')
              | exact hlast h8 s' v' o' W3 o3 H3 hC3 hl3 hs3 hr3 hst3 hcl3
      have hgo : Wp mX6_readBoth (6 * t + 8) 0 0 22 [some (.ref 16), some (.int (nI (deepW W))), some (.int (nI mo))] [] H1 Q := by
        refine wp_aload_n dX6_readBoth_22 rfl ?_
        refine wp_callv0 (ci := 6) dX6_readBoth_23 lk_RX6_44 ok_X6_advance im_X6_advance se_X6_advance rfl rfl (fk_16 hF1) (Nat.le_of_ble_eq_true rfl) (Nat.le_of_ble_eq_true rfl) ?_
        refine c_advO (d := 6 * t + 5) hF hC (by omega) (by omega) (fun h8 H2 hC2 => ?_) (fun h8 H2 hb2 => ?_)
        · first
              | exact c_bothB26 (d := 6 * t + 2) hF hb2 (fun H' hb' => hb _ H' (hba h8) hb')
              | exact hmid h8 H2 hC2
        · first
              | exact c_bothB26 (d := 6 * t + 2) hF hb2 (fun H' hb' => hb _ H' (hba h8) hb')
              | exact hmid h8 H2 hC2
      refine wp_iload_n dX6_readBoth_7 rfl ?_
      refine wp_sipush (v := 600) dX6_readBoth_8 (by decide) ?_
      refine wp_icmp_ge (tgt := 43) dX6_readBoth_11 (by decide) (fun h11 => absurd h11 (nI_ge (a := mo) (b := 600) (by omega) (by decide))) (fun _ => ?_)
      refine wp_aload_n dX6_readBoth_14 rfl ?_
      refine wp_geti dX6_readBoth_15 fl_RX6_47 rfl (fk_16 hF1) ?_
      rw [tk, hx]
      refine wp_iconst (v := 4) dX6_readBoth_18 (by decide) ?_
      refine wp_icmp_ne (tgt := 43) dX6_readBoth_19 (by decide) (fun h19 => absurd h19 (fun q => q rfl)) (fun _ => ?_)
      exact hgo
    · have hx' := hx
      refine wp_iload_n dX6_readBoth_7 rfl ?_
      refine wp_sipush (v := 600) dX6_readBoth_8 (by decide) ?_
      refine wp_icmp_ge (tgt := 43) dX6_readBoth_11 (by decide) (fun h11 => ?_) (fun h11 => ?_)
      · refine wp_return rfl dX6_readBoth_43 ?_
        exact hq s v o W2 o2 H1 hC hl hs hr (by rw [hst, stp_N hW]) ⟨hcm, hx⟩
      · refine wp_aload_n dX6_readBoth_14 rfl ?_
        refine wp_geti dX6_readBoth_15 fl_RX6_47 rfl (fk_16 hF1) ?_
        rw [tk]
        refine wp_iconst (v := 4) dX6_readBoth_18 (by decide) ?_
        refine wp_icmp_ne (tgt := 43) dX6_readBoth_19 (by decide) (fun _ => ?_) (fun h19 => absurd h19 (fun q => hx ((tkI hB (k := 4) (by decide)).mp q)))
        refine wp_return rfl dX6_readBoth_43 ?_
        exact hq s v o W2 o2 H1 hC hl hs hr (by rw [hst, stp_N hW]) ⟨hcm, hx⟩
theorem both_of (hF : Fix H) (hTM : ∀ s, tkA bf N s = tm → isMul (tkA bf N s) = false ∧ isSum (tkA bf N s) = false ∧ isCmp (tkA bf N s) = false ∧ tkA bf N s ≠ 3 ∧ tkA bf N s ≠ 4) (hU : SpO H bf N tm t) : SpA H bf N tm t := by
  intro W u s v o H1 Q hd hu hcu hW hC hl hq hb
  have hF1 := CR_fix hF hC
  have hbd := CR_bd hC
  have hW43 : tpN (pS 43) W := tpN_mono (fun x q => by unfold pS pA at *; rw [decide_eq_true_iff] at *; omega) hW
  have hW1 : tpN p1 W := tpN_mono p1_pA hW
  show Wp mX6_readBoth (6 * t + 8) 0 0 0 [some (.ref 16), some (.int (nI (deepW W))), none] [] H1 Q
  refine wp_aload_n dX6_readBoth_0 rfl ?_
  refine wp_iload_n dX6_readBoth_1 rfl ?_
  refine wp_callv1 (ci := 6) dX6_readBoth_2 lk_RX6_84 ok_X6_readOne im_X6_readOne se_X6_readOne rfl rfl (fk_16 hF1) (Nat.le_of_ble_eq_true rfl) (Nat.le_of_ble_eq_true rfl) ?_
  refine hU W u s v o H1 _ hd hu hcu hW43 hC hl (fun s' v' o' W2 o2 H' hC' hl' hs' hr hst hcl => ?_) (fun f H' hr hb' => ?_)
  · refine wp_iconst (v := 0) dX6_readBoth_5 (by decide) ?_
    refine wp_istore_n dX6_readBoth_6 (by decide) ?_
    first
        | exact c_bothB7 hF hb' (fun H'' hb'' => hb _ H'' hr hb'')
        | exact lr_both hF hU hTM hd hW hq hb (N - s') s' v' 0 o' W2 o2 H' (Nat.le_refl _) (Nat.zero_le _) hC' hl' hs' hr (by rw [stp_N hW1] at hst; rw [stp_up (p := p1) (p' := pA) p1_pA hst, stp_N hW]) hcl
  · refine wp_iconst (v := 0) dX6_readBoth_5 (by decide) ?_
    refine wp_istore_n dX6_readBoth_6 (by decide) ?_
    first
        | exact c_bothB7 hF hb' (fun H'' hb'' => hb _ H'' hr hb'')
        | exact lr_both hF hU hTM hd hW hq hb (N - s') s' v' 0 o' W2 o2 H' (Nat.le_refl _) (Nat.zero_le _) hC' hl' hs' hr (by rw [stp_N hW1] at hst; rw [stp_up (p := p1) (p' := pA) p1_pA hst, stp_N hW]) hcl
theorem lr_eith (hF : Fix H) (hU : SpA H bf N tm t) (hTM : ∀ s, tkA bf N s = tm → isMul (tkA bf N s) = false ∧ isSum (tkA bf N s) = false ∧ isCmp (tkA bf N s) = false ∧ tkA bf N s ≠ 3 ∧ tkA bf N s ≠ 4) {W : List Nat} {u0 s0 v0 : Nat} {o0 : OL} {Q : Option Value → PH → Prop} (hd : deepW W + t = 8) (hW : tpN (pS 0) W)
    (hq : ∀ (s' v' : Nat) (o' : OL) (W2 : List Nat) (o2 : OL) (H' : PH), CR H bf N s' v' o' H' → o'.length + W.length ≤ s' → s0 ≤ s' → RT bf N tm (u0, W, s0, v0, o0) (.inr (2, W2, s', v', o2)) → stp (pS 0) W2 o2 = stp (pS 0) W o' → CE bf N s' W2 o2 → Q none H') (hb : ∀ f H', RT bf N tm (u0, W, s0, v0, o0) (.inl f) → CB H f H' → Q none H') :
    ∀ (n s v mo : Nat) (o : OL) (W2 : List Nat) (o2 : OL) (H1 : PH), N - s ≤ n → mo ≤ s → CR H bf N s v o H1 → o.length + W.length ≤ s → s0 ≤ s → RT bf N tm (u0, W, s0, v0, o0) (.inr (2, W2, s, v, o2)) → stp (pS 0) W2 o2 = (W, o) → CA bf N s W2 o2 →
    Wp mX6_readEither (6 * t + 9) 0 0 16 [some (.ref 16), some (.int (nI (deepW W))), some (.int (nI mo))] [] H1 Q := by
  intro n
  induction n with
  | zero =>
    intro s v mo o W2 o2 H1 hn hmo hC hl hs hr hst hcm
    have hF1 := CR_fix hF hC
    have tk := hC.2.2.1.2.1
    have hB := hC.2.1.1
    have hbd := CR_bd hC
    have hend : tkA bf N s = 0 := (tk_end hB (by omega)).2.1
    refine wp_iload_n dX6_readEither_16 rfl ?_
    refine wp_sipush (v := 600) dX6_readEither_17 (by decide) ?_
    refine wp_icmp_ge (tgt := 52) dX6_readEither_20 (by decide) (fun h20 => ?_) (fun h20 => ?_)
    · refine wp_return rfl dX6_readEither_52 ?_
      exact hq s v o W2 o2 H1 hC hl hs hr (by rw [hst, stp_N hW]) ⟨hcm, by rw [hend]; decide⟩
    · refine wp_aload_n dX6_readEither_23 rfl ?_
      refine wp_geti dX6_readEither_24 fl_RX6_47 rfl (fk_16 hF1) ?_
      rw [tk, hend]
      refine wp_iconst (v := 3) dX6_readEither_27 (by decide) ?_
      refine wp_icmp_ne (tgt := 52) dX6_readEither_28 (by decide) (fun _ => ?_) (fun h28 => absurd h28 (by decide))
      refine wp_return rfl dX6_readEither_52 ?_
      exact hq s v o W2 o2 H1 hC hl hs hr (by rw [hst, stp_N hW]) ⟨hcm, by rw [hend]; decide⟩
  | succ n ih =>
    intro s v mo o W2 o2 H1 hn hmo hC hl hs hr hst hcm
    have hF1 := CR_fix hF hC
    have tk := hC.2.2.1.2.1
    have hB := hC.2.1.1
    have hbd := CR_bd hC
    by_cases hx : tkA bf N s = 3
    · obtain ⟨n1, n2, n3, n4⟩ := nxt_gt hB hbd.1 (by omega) (by omega)
      have hdW : deepW (41 :: W) = deepW W := rfl
      have hstep : st1 (tkA bf N) (nxtT bf N) (itmT bf N) (unkT bf N) (2, W2, s, v, o2) = goN (tkA bf N) (nxtT bf N) 0 (41 :: W) s v o := by
        rw [st1_B, stB, if_neg (by rw [hx]; decide), if_neg (by rw [hx]; decide), if_neg (by rw [hx]; decide), if_neg (by omega), if_pos hx, hst]
      have hnt : ¬ trm (tkA bf N) tm (2, W2, s, v, o2) := nt_tok (fun z => (hTM s z).2.2.2.1 hx)
      have hok : tkA bf N (nxtT bf N s) ≠ 8 → RT bf N tm (u0, W, s0, v0, o0) (.inr (0, 41 :: W, nxtT bf N s, v, o)) := fun h8 => RchE_trans hr (RchE_one hnt (by rw [hstep]; exact go_ok h8))
      have hba : tkA bf N (nxtT bf N s) = 8 → RT bf N tm (u0, W, s0, v0, o0) (.inl (1, nxtT bf N s)) := fun h8 => RchE_trans hr (RchE_bad hnt (by rw [hstep]; exact go_bad h8))
      have hlast : tkA bf N (nxtT bf N s) ≠ 8 → ∀ (s' v' : Nat) (o' : OL) (W3 : List Nat) (o3 : OL) (H3 : PH), CR H bf N s' v' o' H3 → o'.length + (41 :: W).length ≤ s' → nxtT bf N s ≤ s' → RT bf N tm (0, 41 :: W, nxtT bf N s, v, o) (.inr (2, W3, s', v', o3)) → stp pA W3 o3 = stp pA (41 :: W) o' → CA bf N s' W3 o3 → Wp mX6_readEither (6 * t + 9) 0 0 40 [some (.ref 16), some (.int (nI (deepW W))), some (.int (nI mo))] [] H3 Q := by
        intro h8 s' v' o' W3 o3 H3 hC3 hl3 hs3 hr3 hst3 hcl3
        have hF3 := CR_fix hF hC3
        have hbd3 := CR_bd hC3
        have hl3' : o'.length + (W.length + 1) ≤ s' := hl3
        refine wp_aload_n dX6_readEither_40 rfl ?_
        refine wp_bipush (v := -7) dX6_readEither_41 (by decide) ?_
        refine wp_callv1 (ci := 6) dX6_readEither_43 lk_RX6_81 ok_X6_emit im_X6_emit se_X6_emit rfl rfl (fk_16 hF3) (Nat.le_of_ble_eq_true rfl) (Nat.le_of_ble_eq_true rfl) ?_
        refine c_emitO (x := (41, 0)) rfl hF hC3 (by omega) (fun H4 hC4 => ?_)
        refine wp_incN dX6_readEither_46 rfl (by decide) ?_
        refine wp_goto (tgt := 16) dX6_readEither_49 (by decide) ?_
        refine ih s' v' (mo + 1) (o' ++ [(41, 0)]) W3 o3 H4 (by omega) (by omega) hC4 (by rw [List.length_append]; show o'.length + 1 + W.length ≤ s'; omega) (by omega) (RchE_trans (hok h8) hr3) ?_ hcl3
        rw [stp_f (by decide)] at hst3
        rw [stp_up (p := pA) (p' := (pS 0)) pA_p0 hst3, stp_t (by decide), stp_N hW]
      have hmid : tkA bf N (nxtT bf N s) ≠ 8 → ∀ H2, CR H bf N (nxtT bf N s) v o H2 → Wp mX6_readEither (6 * t + 9) 0 0 35 [some (.ref 16), some (.int (nI (deepW W))), some (.int (nI mo))] [] H2 Q := by
        intro h8 H2 hC2
        have hF2 := CR_fix hF hC2
        have hcal := hU (41 :: W) 0 (nxtT bf N s) v o H2
        rw [hdW] at hcal
        refine wp_aload_n dX6_readEither_35 rfl ?_
        refine wp_iload_n dX6_readEither_36 rfl ?_
        refine wp_callv1 (ci := 6) dX6_readEither_37 lk_RX6_78 ok_X6_readBoth im_X6_readBoth se_X6_readBoth rfl rfl (fk_16 hF2) (Nat.le_of_ble_eq_true rfl) (Nat.le_of_ble_eq_true rfl) ?_
        refine hcal _ hd (by decide) rfl (fun x hx => by cases hx; decide) hC2 (by show o.length + (W.length + 1) ≤ _; omega) (fun s' v' o' W3 o3 H3 hC3 hl3 hs3 hr3 hst3 hcl3 => ?_) (fun f H3 hr3 hb3 => ?_)
        · first
              | exact c_eithB40 (d := 6 * t + 8) hF hb3 (fun H' hb' => hb _ H' (RchE_trans (hok h8) hr3) hb')
              | exact hlast h8 s' v' o' W3 o3 H3 hC3 hl3 hs3 hr3 hst3 hcl3
        · first
              | exact c_eithB40 (d := 6 * t + 8) hF hb3 (fun H' hb' => hb _ H' (RchE_trans (hok h8) hr3) hb')
              | exact hlast h8 s' v' o' W3 o3 H3 hC3 hl3 hs3 hr3 hst3 hcl3
      have hgo : Wp mX6_readEither (6 * t + 9) 0 0 31 [some (.ref 16), some (.int (nI (deepW W))), some (.int (nI mo))] [] H1 Q := by
        refine wp_aload_n dX6_readEither_31 rfl ?_
        refine wp_callv0 (ci := 6) dX6_readEither_32 lk_RX6_44 ok_X6_advance im_X6_advance se_X6_advance rfl rfl (fk_16 hF1) (Nat.le_of_ble_eq_true rfl) (Nat.le_of_ble_eq_true rfl) ?_
        refine c_advO (d := 6 * t + 6) hF hC (by omega) (by omega) (fun h8 H2 hC2 => ?_) (fun h8 H2 hb2 => ?_)
        · first
              | exact c_eithB35 (d := 6 * t + 2) hF hb2 (fun H' hb' => hb _ H' (hba h8) hb')
              | exact hmid h8 H2 hC2
        · first
              | exact c_eithB35 (d := 6 * t + 2) hF hb2 (fun H' hb' => hb _ H' (hba h8) hb')
              | exact hmid h8 H2 hC2
      refine wp_iload_n dX6_readEither_16 rfl ?_
      refine wp_sipush (v := 600) dX6_readEither_17 (by decide) ?_
      refine wp_icmp_ge (tgt := 52) dX6_readEither_20 (by decide) (fun h20 => absurd h20 (nI_ge (a := mo) (b := 600) (by omega) (by decide))) (fun _ => ?_)
      refine wp_aload_n dX6_readEither_23 rfl ?_
      refine wp_geti dX6_readEither_24 fl_RX6_47 rfl (fk_16 hF1) ?_
      rw [tk, hx]
      refine wp_iconst (v := 3) dX6_readEither_27 (by decide) ?_
      refine wp_icmp_ne (tgt := 52) dX6_readEither_28 (by decide) (fun h28 => absurd h28 (fun q => q rfl)) (fun _ => ?_)
      exact hgo
    · have hx' := hx
      refine wp_iload_n dX6_readEither_16 rfl ?_
      refine wp_sipush (v := 600) dX6_readEither_17 (by decide) ?_
      refine wp_icmp_ge (tgt := 52) dX6_readEither_20 (by decide) (fun h20 => ?_) (fun h20 => ?_)
      · refine wp_return rfl dX6_readEither_52 ?_
        exact hq s v o W2 o2 H1 hC hl hs hr (by rw [hst, stp_N hW]) ⟨hcm, hx⟩
      · refine wp_aload_n dX6_readEither_23 rfl ?_
        refine wp_geti dX6_readEither_24 fl_RX6_47 rfl (fk_16 hF1) ?_
        rw [tk]
        refine wp_iconst (v := 3) dX6_readEither_27 (by decide) ?_
        refine wp_icmp_ne (tgt := 52) dX6_readEither_28 (by decide) (fun _ => ?_) (fun h28 => absurd h28 (fun q => hx ((tkI hB (k := 3) (by decide)).mp q)))
        refine wp_return rfl dX6_readEither_52 ?_
        exact hq s v o W2 o2 H1 hC hl hs hr (by rw [hst, stp_N hW]) ⟨hcm, hx⟩
theorem eith_of (hF : Fix H) (hTM : ∀ s, tkA bf N s = tm → isMul (tkA bf N s) = false ∧ isSum (tkA bf N s) = false ∧ isCmp (tkA bf N s) = false ∧ tkA bf N s ≠ 3 ∧ tkA bf N s ≠ 4) (hU : SpA H bf N tm (t + 1)) : SpE H bf N tm (t + 1) := by
  intro W u s v o H1 Q hd hu hcu hW hC hl hq hb
  have hF1 := CR_fix hF hC
  have hbd := CR_bd hC
  have hWA : tpN pA W := tpN_mono pA_p0 hW
  show Wp mX6_readEither (6 * (t + 1) + 9) 0 0 0 [some (.ref 16), some (.int (nI (deepW W))), none] [] H1 Q
  refine wp_aload_n dX6_readEither_0 rfl ?_
  refine wp_iload_n dX6_readEither_1 rfl ?_
  refine wp_callv1 (ci := 6) dX6_readEither_2 lk_RX6_74 ok_X6_isTooDeep im_X6_isTooDeep se_X6_isTooDeep rfl rfl (fk_16 hF1) (Nat.le_of_ble_eq_true rfl) (Nat.le_of_ble_eq_true rfl) ?_
  refine c_deepO (d := 6 * (t + 1) + 7) (by omega) hF hC (by omega) (fun h => absurd h (by omega)) (fun h => ?_)
  · refine wp_if_eq (tgt := 9) dX6_readEither_5 (by decide) (fun _ => ?_) (fun h5 => absurd rfl h5)
    refine wp_aload_n dX6_readEither_9 rfl ?_
    refine wp_iload_n dX6_readEither_10 rfl ?_
    refine wp_callv1 (ci := 6) dX6_readEither_11 lk_RX6_78 ok_X6_readBoth im_X6_readBoth se_X6_readBoth rfl rfl (fk_16 hF1) (Nat.le_of_ble_eq_true rfl) (Nat.le_of_ble_eq_true rfl) ?_
    refine hU W u s v o H1 _ hd hu hcu hWA hC hl (fun s' v' o' W2 o2 H' hC' hl' hs' hr hst hcl => ?_) (fun f H' hr hb' => ?_)
    · refine wp_iconst (v := 0) dX6_readEither_14 (by decide) ?_
      refine wp_istore_n dX6_readEither_15 (by decide) ?_
      first
          | exact c_eithB16 hF hb' (fun H'' hb'' => hb _ H'' hr hb'')
          | exact lr_eith hF hU hTM hd hW hq hb (N - s') s' v' 0 o' W2 o2 H' (Nat.le_refl _) (Nat.zero_le _) hC' hl' hs' hr (by rw [stp_N hWA] at hst; rw [stp_up (p := pA) (p' := pS 0) pA_p0 hst, stp_N hW]) hcl
    · refine wp_iconst (v := 0) dX6_readEither_14 (by decide) ?_
      refine wp_istore_n dX6_readEither_15 (by decide) ?_
      first
          | exact c_eithB16 hF hb' (fun H'' hb'' => hb _ H'' hr hb'')
          | exact lr_eith hF hU hTM hd hW hq hb (N - s') s' v' 0 o' W2 o2 H' (Nat.le_refl _) (Nat.zero_le _) hC' hl' hs' hr (by rw [stp_N hWA] at hst; rw [stp_up (p := pA) (p' := pS 0) pA_p0 hst, stp_N hW]) hcl
/-- a unit: an operand, an e in brackets, - and a unit -/
theorem unit_s (hF : Fix H) (hE : SpE H bf N tm t) (hU : SpU H bf N tm t) : SpU H bf N tm (t + 1) := by
  intro W u s v o H1 Q hd hu hcu _ hC hl hq hb
  have hF1 := CR_fix hF hC
  have hbd := CR_bd hC
  have hB := hC.2.1.1
  have tk := hC.2.2.1.2.1
  show Wp mX6_readUnit (6 * (t + 1) + 4) 0 0 0 [some (.ref 16), some (.int (nI (deepW W)))] [] H1 Q
  have hdp : ¬ 8 ≤ deepW W := by omega
  have rest : Wp mX6_readUnit (6 * (t + 1) + 4) 0 0 9 [some (.ref 16), some (.int (nI (deepW W)))] [] H1 Q := by
    by_cases h67 : tkA bf N s = 7 ∨ tkA bf N s = 6
    · obtain ⟨n1, n2, n3, n4⟩ := nxt_gt hB hbd.1 (by omega) (by omega)
      have hgo : Wp mX6_readUnit (6 * (t + 1) + 4) 0 0 27 [some (.ref 16), some (.int (nI (deepW W)))] [] H1 Q := by
        refine wp_aload_n dX6_readUnit_27 rfl ?_
        refine wp_callv0 (ci := 6) dX6_readUnit_28 lk_RX6_96 ok_X6_readOperand im_X6_readOperand se_X6_readOperand rfl rfl (fk_16 hF1) (Nat.le_of_ble_eq_true rfl) (Nat.le_of_ble_eq_true rfl) ?_
        refine c_operandO (d := 6 * (t + 1)) hF hC (by omega) h67 (fun g1 g2 g3 H' hC' => ?_) (fun g1 g2 g3 H' hb' => ?_) (fun g1 H' hb' => ?_) (fun g1 g2 H' hb' => ?_)
        · refine wp_goto (tgt := 97) dX6_readUnit_31 (by decide) ?_
          refine wp_return rfl dX6_readUnit_97 ?_
          first
              | exact hb _ H' (RchE_bad (nt_O hu) (by rw [st1_O hu, stO, if_neg hdp, if_pos h67, if_neg g1, if_neg g2]; exact go_bad g3)) hb'
              | exact hb _ H' (RchE_bad (nt_O hu) (by rw [st1_O hu, stO, if_neg hdp, if_pos h67, if_neg g1, if_pos g2])) hb'
              | exact hb _ H' (RchE_bad (nt_O hu) (by rw [st1_O hu, stO, if_neg hdp, if_pos h67, if_pos g1])) hb'
              | exact hq (nxtT bf N s) (v + 1) (o ++ [itmT bf N s]) (stp (pS 50) W (o ++ [itmT bf N s])).1 (stp (pS 50) W (o ++ [itmT bf N s])).2 H' hC' (by rw [List.length_append]; show o.length + 1 + W.length ≤ _; omega) (by omega) (RchE_one (nt_O hu) (by rw [st1_O hu, stO, if_neg hdp, if_pos h67, if_neg g1, if_neg g2]; exact go_ok g3)) (stp_stp (fun _ h => h) W _) trivial
        · refine wp_goto (tgt := 97) dX6_readUnit_31 (by decide) ?_
          refine wp_return rfl dX6_readUnit_97 ?_
          first
              | exact hb _ H' (RchE_bad (nt_O hu) (by rw [st1_O hu, stO, if_neg hdp, if_pos h67, if_neg g1, if_neg g2]; exact go_bad g3)) hb'
              | exact hb _ H' (RchE_bad (nt_O hu) (by rw [st1_O hu, stO, if_neg hdp, if_pos h67, if_neg g1, if_pos g2])) hb'
              | exact hb _ H' (RchE_bad (nt_O hu) (by rw [st1_O hu, stO, if_neg hdp, if_pos h67, if_pos g1])) hb'
              | exact hq (nxtT bf N s) (v + 1) (o ++ [itmT bf N s]) (stp (pS 50) W (o ++ [itmT bf N s])).1 (stp (pS 50) W (o ++ [itmT bf N s])).2 H' hC' (by rw [List.length_append]; show o.length + 1 + W.length ≤ _; omega) (by omega) (RchE_one (nt_O hu) (by rw [st1_O hu, stO, if_neg hdp, if_pos h67, if_neg g1, if_neg g2]; exact go_ok g3)) (stp_stp (fun _ h => h) W _) trivial
        · refine wp_goto (tgt := 97) dX6_readUnit_31 (by decide) ?_
          refine wp_return rfl dX6_readUnit_97 ?_
          first
              | exact hb _ H' (RchE_bad (nt_O hu) (by rw [st1_O hu, stO, if_neg hdp, if_pos h67, if_neg g1, if_neg g2]; exact go_bad g3)) hb'
              | exact hb _ H' (RchE_bad (nt_O hu) (by rw [st1_O hu, stO, if_neg hdp, if_pos h67, if_neg g1, if_pos g2])) hb'
              | exact hb _ H' (RchE_bad (nt_O hu) (by rw [st1_O hu, stO, if_neg hdp, if_pos h67, if_pos g1])) hb'
              | exact hq (nxtT bf N s) (v + 1) (o ++ [itmT bf N s]) (stp (pS 50) W (o ++ [itmT bf N s])).1 (stp (pS 50) W (o ++ [itmT bf N s])).2 H' hC' (by rw [List.length_append]; show o.length + 1 + W.length ≤ _; omega) (by omega) (RchE_one (nt_O hu) (by rw [st1_O hu, stO, if_neg hdp, if_pos h67, if_neg g1, if_neg g2]; exact go_ok g3)) (stp_stp (fun _ h => h) W _) trivial
        · refine wp_goto (tgt := 97) dX6_readUnit_31 (by decide) ?_
          refine wp_return rfl dX6_readUnit_97 ?_
          first
              | exact hb _ H' (RchE_bad (nt_O hu) (by rw [st1_O hu, stO, if_neg hdp, if_pos h67, if_neg g1, if_neg g2]; exact go_bad g3)) hb'
              | exact hb _ H' (RchE_bad (nt_O hu) (by rw [st1_O hu, stO, if_neg hdp, if_pos h67, if_neg g1, if_pos g2])) hb'
              | exact hb _ H' (RchE_bad (nt_O hu) (by rw [st1_O hu, stO, if_neg hdp, if_pos h67, if_pos g1])) hb'
              | exact hq (nxtT bf N s) (v + 1) (o ++ [itmT bf N s]) (stp (pS 50) W (o ++ [itmT bf N s])).1 (stp (pS 50) W (o ++ [itmT bf N s])).2 H' hC' (by rw [List.length_append]; show o.length + 1 + W.length ≤ _; omega) (by omega) (RchE_one (nt_O hu) (by rw [st1_O hu, stO, if_neg hdp, if_pos h67, if_neg g1, if_neg g2]; exact go_ok g3)) (stp_stp (fun _ h => h) W _) trivial
      refine wp_aload_n dX6_readUnit_9 rfl ?_
      refine wp_geti dX6_readUnit_10 fl_RX6_47 rfl (fk_16 hF1) ?_
      rw [tk]
      refine wp_bipush (v := 7) dX6_readUnit_13 (by decide) ?_
      refine wp_icmp_eq (tgt := 27) dX6_readUnit_15 (by decide) (fun h15 => ?_) (fun h15 => ?_)
      · exact hgo
      · refine wp_aload_n dX6_readUnit_18 rfl ?_
        refine wp_geti dX6_readUnit_19 fl_RX6_47 rfl (fk_16 hF1) ?_
        rw [tk]
        refine wp_bipush (v := 6) dX6_readUnit_22 (by decide) ?_
        refine wp_icmp_ne (tgt := 34) dX6_readUnit_24 (by decide) (fun h24 => ?_) (fun h24 => ?_)
        · exact absurd h67 (fun q => q.elim (fun z => h15 (by rw [z]; rfl)) (fun z => h24 (by rw [z]; rfl)))
        · exact hgo
    · by_cases h40 : tkA bf N s = 40
      · obtain ⟨n1, n2, n3, n4⟩ := nxt_gt hB hbd.1 (by omega) (by omega)
        have hstep : st1 (tkA bf N) (nxtT bf N) (itmT bf N) (unkT bf N) (u, W, s, v, o) = goN (tkA bf N) (nxtT bf N) 0 (51 :: W) s v o := by rw [st1_O hu, stO, if_neg hdp, if_neg h67, if_pos h40]
        have hcal := hE (51 :: W) 0 (nxtT bf N s) v o
        rw [show deepW (51 :: W) = deepW W + 1 from rfl] at hcal
        have hxb : ∀ f H3, RT bf N tm (u, W, s, v, o) (.inl f) → CB H f H3 → Wp mX6_readUnit (6 * (t + 1) + 4) 0 0 54 [some (.ref 16), some (.int (nI (deepW W)))] [] H3 Q := by
          intro f H3 hr3 hb3
          have hF3 := CB_fix hF hb3
          refine wp_aload_n dX6_readUnit_54 rfl ?_
          refine wp_bipush (v := 41) dX6_readUnit_55 (by decide) ?_
          refine wp_callv1 (ci := 6) dX6_readUnit_57 lk_RX6_71 ok_X6_expect im_X6_expect se_X6_expect rfl rfl (fk_16 hF3) (Nat.le_of_ble_eq_true rfl) (Nat.le_of_ble_eq_true rfl) ?_
          refine c_expectB (d := 6 * (t + 1) + 2) (by decide) hF hb3 (fun H4 hb4 => ?_)
          refine wp_goto (tgt := 97) dX6_readUnit_60 (by decide) ?_
          refine wp_return rfl dX6_readUnit_97 ?_
          exact hb _ H4 hr3 hb4
        have hxo : ∀ (s' v' : Nat) (o' : OL) (W2 : List Nat) (o2 : OL) (H3 : PH), CR H bf N s' v' o' H3 → o'.length + (W.length + 1) ≤ s' → s ≤ s' → RT bf N tm (u, W, s, v, o) (.inr (2, W2, s', v', o2)) → stp (pS 0) W2 o2 = (51 :: W, o') → CE bf N s' W2 o2 → Wp mX6_readUnit (6 * (t + 1) + 4) 0 0 54 [some (.ref 16), some (.int (nI (deepW W)))] [] H3 Q := by
          intro s' v' o' W2 o2 H3 hC3 hl3 hs3 hr3 hst3 hcl3
          have hF3 := CR_fix hF hC3
          have hbd3 := CR_bd hC3
          have hmem : 51 ∈ W2 := by
            have := (mem_stp (p := pS 0) (by decide) (W := W2) (o := o2)).mp
            rw [hst3] at this
            exact this (List.mem_cons_self ..)
          have hsB : st1 (tkA bf N) (nxtT bf N) (itmT bf N) (unkT bf N) (2, W2, s', v', o2) = if tkA bf N s' = 41 then goN (tkA bf N) (nxtT bf N) 2 (stp (pS 50) W o').1 s' v' (stp (pS 50) W o').2 else .inl (2, s') := by
            obtain ⟨⟨⟨c1, c2, c3⟩, c4⟩, c5⟩ := hcl3
            rw [st1_B, stB, if_neg ((bfN _).mp c2), if_neg ((bfN _).mp c1)]
            by_cases hx : isCmp (tkA bf N s') = true
            · rw [if_pos hx, if_pos (c3 hx), if_neg (fun z => by rw [z] at hx; cases hx)]
            · rw [if_neg hx, if_neg c4, if_neg c5]
              by_cases z : tkA bf N s' = 41
              · rw [if_pos ⟨z, hmem⟩, if_pos z, hst3]; rfl
              · rw [if_neg (fun y => z y.1), if_neg z]
          refine wp_aload_n dX6_readUnit_54 rfl ?_
          refine wp_bipush (v := 41) dX6_readUnit_55 (by decide) ?_
          refine wp_callv1 (ci := 6) dX6_readUnit_57 lk_RX6_71 ok_X6_expect im_X6_expect se_X6_expect rfl rfl (fk_16 hF3) (Nat.le_of_ble_eq_true rfl) (Nat.le_of_ble_eq_true rfl) ?_
          refine c_expectO (d := 6 * (t + 1)) (t := 41) (by decide) (by decide) hF hC3 (by omega) (fun g1 g2 H4 hC4 => ?_) (fun g1 g2 H4 hb4 => ?_) (fun g1 H4 hb4 => ?_)
          · refine wp_goto (tgt := 97) dX6_readUnit_60 (by decide) ?_
            refine wp_return rfl dX6_readUnit_97 ?_
            first
                | exact hb _ H4 (RchE_trans hr3 (RchE_bad (nt_open hmem) (by rw [hsB, if_pos g1]; exact go_bad g2))) hb4
                | exact hb _ H4 (RchE_trans hr3 (RchE_bad (nt_open hmem) (by rw [hsB, if_neg g1]))) hb4
                | exact hq (nxtT bf N s') v' o' (stp (pS 50) W o').1 (stp (pS 50) W o').2 H4 hC4 (by have := nxt_gt hB hbd3.1 (by omega) (by omega); omega) (by have := nxt_gt hB hbd3.1 (by omega) (by omega); omega) (RchE_trans hr3 (RchE_one (nt_open hmem) (by rw [hsB, if_pos g1]; exact go_ok g2))) (stp_stp (fun _ h => h) W _) trivial
          · refine wp_goto (tgt := 97) dX6_readUnit_60 (by decide) ?_
            refine wp_return rfl dX6_readUnit_97 ?_
            first
                | exact hb _ H4 (RchE_trans hr3 (RchE_bad (nt_open hmem) (by rw [hsB, if_pos g1]; exact go_bad g2))) hb4
                | exact hb _ H4 (RchE_trans hr3 (RchE_bad (nt_open hmem) (by rw [hsB, if_neg g1]))) hb4
                | exact hq (nxtT bf N s') v' o' (stp (pS 50) W o').1 (stp (pS 50) W o').2 H4 hC4 (by have := nxt_gt hB hbd3.1 (by omega) (by omega); omega) (by have := nxt_gt hB hbd3.1 (by omega) (by omega); omega) (RchE_trans hr3 (RchE_one (nt_open hmem) (by rw [hsB, if_pos g1]; exact go_ok g2))) (stp_stp (fun _ h => h) W _) trivial
          · refine wp_goto (tgt := 97) dX6_readUnit_60 (by decide) ?_
            refine wp_return rfl dX6_readUnit_97 ?_
            first
                | exact hb _ H4 (RchE_trans hr3 (RchE_bad (nt_open hmem) (by rw [hsB, if_pos g1]; exact go_bad g2))) hb4
                | exact hb _ H4 (RchE_trans hr3 (RchE_bad (nt_open hmem) (by rw [hsB, if_neg g1]))) hb4
                | exact hq (nxtT bf N s') v' o' (stp (pS 50) W o').1 (stp (pS 50) W o').2 H4 hC4 (by have := nxt_gt hB hbd3.1 (by omega) (by omega); omega) (by have := nxt_gt hB hbd3.1 (by omega) (by omega); omega) (RchE_trans hr3 (RchE_one (nt_open hmem) (by rw [hsB, if_pos g1]; exact go_ok g2))) (stp_stp (fun _ h => h) W _) trivial
        have hmb : tkA bf N (nxtT bf N s) = 8 → ∀ H2, CB H (1, nxtT bf N s) H2 → Wp mX6_readUnit (6 * (t + 1) + 4) 0 0 47 [some (.ref 16), some (.int (nI (deepW W)))] [] H2 Q := by
          intro h8 H2 hb2
          have hF2 := CB_fix hF hb2
          refine wp_aload_n dX6_readUnit_47 rfl ?_
          refine wp_iload_n dX6_readUnit_48 rfl ?_
          refine wp_iconst (v := 1) dX6_readUnit_49 (by decide) ?_
          refine wp_iadd dX6_readUnit_50 ?_
          refine wp_callv1 (ci := 6) dX6_readUnit_51 lk_RX6_68 ok_X6_readEither im_X6_readEither se_X6_readEither rfl rfl (fk_16 hF2) (Nat.le_of_ble_eq_true rfl) (Nat.le_of_ble_eq_true rfl) ?_
          refine wp_deep (d := 0 + 7) (by omega) (c_eithB hF hb2 (fun H3 hb3 => ?_))
          exact hxb _ H3 (RchE_bad (nt_O hu) (by rw [hstep]; exact go_bad h8)) hb3
        have hmo : tkA bf N (nxtT bf N s) ≠ 8 → ∀ H2, CR H bf N (nxtT bf N s) v o H2 → Wp mX6_readUnit (6 * (t + 1) + 4) 0 0 47 [some (.ref 16), some (.int (nI (deepW W)))] [] H2 Q := by
          intro h8 H2 hC2
          have hF2 := CR_fix hF hC2
          have hfi : RT bf N tm (u, W, s, v, o) (.inr (0, 51 :: W, nxtT bf N s, v, o)) := RchE_one (nt_O hu) (by rw [hstep]; exact go_ok h8)
          refine wp_aload_n dX6_readUnit_47 rfl ?_
          refine wp_iload_n dX6_readUnit_48 rfl ?_
          refine wp_iconst (v := 1) dX6_readUnit_49 (by decide) ?_
          refine wp_iadd dX6_readUnit_50 ?_
          rw [nI_1]
          refine wp_callv1 (ci := 6) dX6_readUnit_51 lk_RX6_68 ok_X6_readEither im_X6_readEither se_X6_readEither rfl rfl (fk_16 hF2) (Nat.le_of_ble_eq_true rfl) (Nat.le_of_ble_eq_true rfl) ?_
          refine wp_deep (d := 6 * t + 9) (by omega) (hcal H2 _ (by omega) (by decide) rfl (fun x hx => by cases hx; decide) hC2 (by show o.length + (W.length + 1) ≤ _; omega) (fun s' v' o' W3 o3 H3 hC3 hl3 hs3 hr3 hst3 hcl3 => ?_) (fun f H3 hr3 hb3 => ?_))
          · first
                | exact hxb f H3 (RchE_trans hfi hr3) hb3
                | exact hxo s' v' o' W3 o3 H3 hC3 hl3 (by omega) (RchE_trans hfi hr3) (by rw [stp_f (by decide)] at hst3; exact hst3) hcl3
          · first
                | exact hxb f H3 (RchE_trans hfi hr3) hb3
                | exact hxo s' v' o' W3 o3 H3 hC3 hl3 (by omega) (RchE_trans hfi hr3) (by rw [stp_f (by decide)] at hst3; exact hst3) hcl3
        refine wp_aload_n dX6_readUnit_9 rfl ?_
        refine wp_geti dX6_readUnit_10 fl_RX6_47 rfl (fk_16 hF1) ?_
        rw [tk, h40]
        refine wp_bipush (v := 7) dX6_readUnit_13 (by decide) ?_
        refine wp_icmp_eq (tgt := 27) dX6_readUnit_15 (by decide) (fun h15 => absurd h15 (by decide)) (fun _ => ?_)
        refine wp_aload_n dX6_readUnit_18 rfl ?_
        refine wp_geti dX6_readUnit_19 fl_RX6_47 rfl (fk_16 hF1) ?_
        rw [tk, h40]
        refine wp_bipush (v := 6) dX6_readUnit_22 (by decide) ?_
        refine wp_icmp_ne (tgt := 34) dX6_readUnit_24 (by decide) (fun _ => ?_) (fun h24 => absurd h24 (by decide))
        refine wp_aload_n dX6_readUnit_34 rfl ?_
        refine wp_geti dX6_readUnit_35 fl_RX6_47 rfl (fk_16 hF1) ?_
        rw [tk, h40]
        refine wp_bipush (v := 40) dX6_readUnit_38 (by decide) ?_
        refine wp_icmp_ne (tgt := 63) dX6_readUnit_40 (by decide) (fun h40 => absurd h40 (fun q => q rfl)) (fun _ => ?_)
        refine wp_aload_n dX6_readUnit_43 rfl ?_
        refine wp_callv0 (ci := 6) dX6_readUnit_44 lk_RX6_44 ok_X6_advance im_X6_advance se_X6_advance rfl rfl (fk_16 hF1) (Nat.le_of_ble_eq_true rfl) (Nat.le_of_ble_eq_true rfl) ?_
        refine c_advO (d := 6 * (t + 1) + 1) hF hC (by omega) (by omega) (fun h8 H2 hC2 => ?_) (fun h8 H2 hb2 => ?_)
        · first | exact hmb h8 H2 hb2 | exact hmo h8 H2 hC2
        · first | exact hmb h8 H2 hb2 | exact hmo h8 H2 hC2
      · by_cases h45 : tkA bf N s = 45
        · obtain ⟨n1, n2, n3, n4⟩ := nxt_gt hB hbd.1 (by omega) (by omega)
          have hstep : st1 (tkA bf N) (nxtT bf N) (itmT bf N) (unkT bf N) (u, W, s, v, o) = goN (tkA bf N) (nxtT bf N) 1 (50 :: W) s v o := by rw [st1_O hu, stO, if_neg hdp, if_neg h67, if_neg h40, if_pos h45]
          have hcal := hU (50 :: W) 1 (nxtT bf N s) v o
          rw [show deepW (50 :: W) = deepW W + 1 from rfl] at hcal
          have hxb : ∀ f H3, RT bf N tm (u, W, s, v, o) (.inl f) → CB H f H3 → Wp mX6_readUnit (6 * (t + 1) + 4) 0 0 83 [some (.ref 16), some (.int (nI (deepW W)))] [] H3 Q := by
            intro f H3 hr3 hb3
            have hF3 := CB_fix hF hb3
            refine wp_aload_n dX6_readUnit_83 rfl ?_
            refine wp_bipush (v := -10) dX6_readUnit_84 (by decide) ?_
            refine wp_callv1 (ci := 6) dX6_readUnit_86 lk_RX6_81 ok_X6_emit im_X6_emit se_X6_emit rfl rfl (fk_16 hF3) (Nat.le_of_ble_eq_true rfl) (Nat.le_of_ble_eq_true rfl) ?_
            refine c_emitB hF hb3 (fun H4 hb4 => ?_)
            refine wp_goto (tgt := 97) dX6_readUnit_89 (by decide) ?_
            refine wp_return rfl dX6_readUnit_97 ?_
            exact hb _ H4 hr3 hb4
          have hxo : ∀ (s' v' : Nat) (o' : OL) (W2 : List Nat) (o2 : OL) (H3 : PH), CR H bf N s' v' o' H3 → o'.length + (W.length + 1) ≤ s' → s ≤ s' → RT bf N tm (u, W, s, v, o) (.inr (2, W2, s', v', o2)) → stp (pS 50) W2 o2 = stp (pS 50) (50 :: W) o' → Wp mX6_readUnit (6 * (t + 1) + 4) 0 0 83 [some (.ref 16), some (.int (nI (deepW W)))] [] H3 Q := by
            intro s' v' o' W2 o2 H3 hC3 hl3 hs3 hr3 hst3
            have hF3 := CR_fix hF hC3
            have hbd3 := CR_bd hC3
            refine wp_aload_n dX6_readUnit_83 rfl ?_
            refine wp_bipush (v := -10) dX6_readUnit_84 (by decide) ?_
            refine wp_callv1 (ci := 6) dX6_readUnit_86 lk_RX6_81 ok_X6_emit im_X6_emit se_X6_emit rfl rfl (fk_16 hF3) (Nat.le_of_ble_eq_true rfl) (Nat.le_of_ble_eq_true rfl) ?_
            refine c_emitO (x := (50, 0)) rfl hF hC3 (by omega) (fun H4 hC4 => ?_)
            refine wp_goto (tgt := 97) dX6_readUnit_89 (by decide) ?_
            refine wp_return rfl dX6_readUnit_97 ?_
            exact hq s' v' _ W2 o2 H4 hC4 (by rw [List.length_append]; show o'.length + 1 + W.length ≤ s'; omega) hs3 hr3 (by rw [hst3, stp_t (by decide)]) trivial
          have hmb : tkA bf N (nxtT bf N s) = 8 → ∀ H2, CB H (1, nxtT bf N s) H2 → Wp mX6_readUnit (6 * (t + 1) + 4) 0 0 76 [some (.ref 16), some (.int (nI (deepW W)))] [] H2 Q := by
            intro h8 H2 hb2
            have hF2 := CB_fix hF hb2
            refine wp_aload_n dX6_readUnit_76 rfl ?_
            refine wp_iload_n dX6_readUnit_77 rfl ?_
            refine wp_iconst (v := 1) dX6_readUnit_78 (by decide) ?_
            refine wp_iadd dX6_readUnit_79 ?_
            refine wp_callv1 (ci := 6) dX6_readUnit_80 lk_RX6_93 ok_X6_readUnit im_X6_readUnit se_X6_readUnit rfl rfl (fk_16 hF2) (Nat.le_of_ble_eq_true rfl) (Nat.le_of_ble_eq_true rfl) ?_
            refine wp_deep (d := 0 + 2) (by omega) (c_unitB hF hb2 (fun H3 hb3 => ?_))
            exact hxb _ H3 (RchE_bad (nt_O hu) (by rw [hstep]; exact go_bad h8)) hb3
          have hmo : tkA bf N (nxtT bf N s) ≠ 8 → ∀ H2, CR H bf N (nxtT bf N s) v o H2 → Wp mX6_readUnit (6 * (t + 1) + 4) 0 0 76 [some (.ref 16), some (.int (nI (deepW W)))] [] H2 Q := by
            intro h8 H2 hC2
            have hF2 := CR_fix hF hC2
            have hfi : RT bf N tm (u, W, s, v, o) (.inr (1, 50 :: W, nxtT bf N s, v, o)) := RchE_one (nt_O hu) (by rw [hstep]; exact go_ok h8)
            refine wp_aload_n dX6_readUnit_76 rfl ?_
            refine wp_iload_n dX6_readUnit_77 rfl ?_
            refine wp_iconst (v := 1) dX6_readUnit_78 (by decide) ?_
            refine wp_iadd dX6_readUnit_79 ?_
            rw [nI_1]
            refine wp_callv1 (ci := 6) dX6_readUnit_80 lk_RX6_93 ok_X6_readUnit im_X6_readUnit se_X6_readUnit rfl rfl (fk_16 hF2) (Nat.le_of_ble_eq_true rfl) (Nat.le_of_ble_eq_true rfl) ?_
            refine wp_deep (d := 6 * t + 4) (by omega) (hcal H2 _ (by omega) (by decide) (Or.inl rfl) trivial hC2 (by show o.length + (W.length + 1) ≤ _; omega) (fun s' v' o' W3 o3 H3 hC3 hl3 hs3 hr3 hst3 hcl3 => ?_) (fun f H3 hr3 hb3 => ?_))
            · first
                  | exact hxb f H3 (RchE_trans hfi hr3) hb3
                  | exact hxo s' v' o' W3 o3 H3 hC3 hl3 (by omega) (RchE_trans hfi hr3) hst3
            · first
                  | exact hxb f H3 (RchE_trans hfi hr3) hb3
                  | exact hxo s' v' o' W3 o3 H3 hC3 hl3 (by omega) (RchE_trans hfi hr3) hst3
          refine wp_aload_n dX6_readUnit_9 rfl ?_
          refine wp_geti dX6_readUnit_10 fl_RX6_47 rfl (fk_16 hF1) ?_
          rw [tk, h45]
          refine wp_bipush (v := 7) dX6_readUnit_13 (by decide) ?_
          refine wp_icmp_eq (tgt := 27) dX6_readUnit_15 (by decide) (fun h15 => absurd h15 (by decide)) (fun _ => ?_)
          refine wp_aload_n dX6_readUnit_18 rfl ?_
          refine wp_geti dX6_readUnit_19 fl_RX6_47 rfl (fk_16 hF1) ?_
          rw [tk, h45]
          refine wp_bipush (v := 6) dX6_readUnit_22 (by decide) ?_
          refine wp_icmp_ne (tgt := 34) dX6_readUnit_24 (by decide) (fun _ => ?_) (fun h24 => absurd h24 (by decide))
          refine wp_aload_n dX6_readUnit_34 rfl ?_
          refine wp_geti dX6_readUnit_35 fl_RX6_47 rfl (fk_16 hF1) ?_
          rw [tk, h45]
          refine wp_bipush (v := 40) dX6_readUnit_38 (by decide) ?_
          refine wp_icmp_ne (tgt := 63) dX6_readUnit_40 (by decide) (fun _ => ?_) (fun h40 => absurd h40 (by decide))
          refine wp_aload_n dX6_readUnit_63 rfl ?_
          refine wp_geti dX6_readUnit_64 fl_RX6_47 rfl (fk_16 hF1) ?_
          rw [tk, h45]
          refine wp_bipush (v := 45) dX6_readUnit_67 (by decide) ?_
          refine wp_icmp_ne (tgt := 92) dX6_readUnit_69 (by decide) (fun h69 => absurd h69 (fun q => q rfl)) (fun _ => ?_)
          refine wp_aload_n dX6_readUnit_72 rfl ?_
          refine wp_callv0 (ci := 6) dX6_readUnit_73 lk_RX6_44 ok_X6_advance im_X6_advance se_X6_advance rfl rfl (fk_16 hF1) (Nat.le_of_ble_eq_true rfl) (Nat.le_of_ble_eq_true rfl) ?_
          refine c_advO (d := 6 * (t + 1) + 1) hF hC (by omega) (by omega) (fun h8 H2 hC2 => ?_) (fun h8 H2 hb2 => ?_)
          · first | exact hmb h8 H2 hb2 | exact hmo h8 H2 hC2
          · first | exact hmb h8 H2 hb2 | exact hmo h8 H2 hC2
        · have g40 := h40
          have h5 : ¬ (u = 0 ∧ tkA bf N s = 5) := fun z => hcu.elim (fun y => by omega) (fun y => y.2 z.2)
          refine wp_aload_n dX6_readUnit_9 rfl ?_
          refine wp_geti dX6_readUnit_10 fl_RX6_47 rfl (fk_16 hF1) ?_
          rw [tk]
          refine wp_bipush (v := 7) dX6_readUnit_13 (by decide) ?_
          refine wp_icmp_eq (tgt := 27) dX6_readUnit_15 (by decide) (fun h15 => absurd h15 (fun q => h67 (Or.inl ((tkI hB (k := 7) (by decide)).mp q)))) (fun _ => ?_)
          refine wp_aload_n dX6_readUnit_18 rfl ?_
          refine wp_geti dX6_readUnit_19 fl_RX6_47 rfl (fk_16 hF1) ?_
          rw [tk]
          refine wp_bipush (v := 6) dX6_readUnit_22 (by decide) ?_
          refine wp_icmp_ne (tgt := 34) dX6_readUnit_24 (by decide) (fun _ => ?_) (fun h24 => absurd h24 (fun q => h67 (Or.inr ((tkI hB (k := 6) (by decide)).mp q))))
          refine wp_aload_n dX6_readUnit_34 rfl ?_
          refine wp_geti dX6_readUnit_35 fl_RX6_47 rfl (fk_16 hF1) ?_
          rw [tk]
          refine wp_bipush (v := 40) dX6_readUnit_38 (by decide) ?_
          refine wp_icmp_ne (tgt := 63) dX6_readUnit_40 (by decide) (fun _ => ?_) (fun h40 => absurd h40 (fun q => g40 ((tkI hB (k := 40) (by decide)).mp q)))
          refine wp_aload_n dX6_readUnit_63 rfl ?_
          refine wp_geti dX6_readUnit_64 fl_RX6_47 rfl (fk_16 hF1) ?_
          rw [tk]
          refine wp_bipush (v := 45) dX6_readUnit_67 (by decide) ?_
          refine wp_icmp_ne (tgt := 92) dX6_readUnit_69 (by decide) (fun _ => ?_) (fun h69 => absurd h69 (fun q => h45 ((tkI hB (k := 45) (by decide)).mp q)))
          refine wp_aload_n dX6_readUnit_92 rfl ?_
          refine wp_iconst (v := 2) dX6_readUnit_93 (by decide) ?_
          refine wp_callv1 (ci := 6) dX6_readUnit_94 lk_RX6_64 ok_X6_fail im_X6_fail se_X6_fail rfl rfl (fk_16 hF1) (Nat.le_of_ble_eq_true rfl) (Nat.le_of_ble_eq_true rfl) ?_
          refine c_failO (k := 2) (by decide) (by decide) hF hC (by omega) (fun H' hb' => ?_)
          refine wp_return rfl dX6_readUnit_97 ?_
          exact hb _ H' (RchE_bad (nt_O hu) (by rw [st1_O hu, stO, if_neg hdp, if_neg h67, if_neg h40, if_neg h45, if_neg h5])) hb'
  refine wp_aload_n dX6_readUnit_0 rfl ?_
  refine wp_iload_n dX6_readUnit_1 rfl ?_
  refine wp_callv1 (ci := 6) dX6_readUnit_2 lk_RX6_74 ok_X6_isTooDeep im_X6_isTooDeep se_X6_isTooDeep rfl rfl (fk_16 hF1) (Nat.le_of_ble_eq_true rfl) (Nat.le_of_ble_eq_true rfl) ?_
  refine c_deepO (d := 6 * (t + 1) + 2) (by omega) hF hC (by omega) (fun h => absurd h (by omega)) (fun h => ?_)
  · refine wp_if_eq (tgt := 9) dX6_readUnit_5 (by decide) (fun _ => ?_) (fun h5 => absurd rfl h5)
    exact rest
/-- all levels -/
theorem levels (hF : Fix H) (hTM : ∀ s, tkA bf N s = tm → isMul (tkA bf N s) = false ∧ isSum (tkA bf N s) = false ∧ isCmp (tkA bf N s) = false ∧ tkA bf N s ≠ 3 ∧ tkA bf N s ≠ 4) : ∀ t, SpU H bf N tm t ∧ SpO H bf N tm t ∧ SpE H bf N tm t
  | 0 => ⟨unit_0 hF, one_0 hF, eith_0 hF⟩
  | t + 1 => by
    obtain ⟨h1, h2, h3⟩ := levels hF hTM t
    have hU := unit_s hF h3 h1
    have hO := one_s hF hTM (sum_of hF hTM (term_of hF hTM hU)) h2
    exact ⟨hU, hO, eith_of hF hTM (both_of hF hTM hO)⟩
/-- an e at the outermost: readEither(0) -/
theorem c_readE (hF : Fix H) (hTM : ∀ s, tkA bf N s = tm → isMul (tkA bf N s) = false ∧ isSum (tkA bf N s) = false ∧ isCmp (tkA bf N s) = false ∧ tkA bf N s ≠ 3 ∧ tkA bf N s ≠ 4) {d s v : Nat} {o : OL} {H1 : PH} {Q : Option Value → PH → Prop} (hC : CR H bf N s v o H1) (hl : o.length ≤ s)
    (hq : ∀ (s' v' : Nat) (o' : OL) (W2 : List Nat) (o2 : OL) (H' : PH), CR H bf N s' v' o' H' → o'.length ≤ s' → s ≤ s' → RT bf N tm (0, [], s, v, o) (.inr (2, W2, s', v', o2)) → stp (pS 0) W2 o2 = ([], o') → CE bf N s' W2 o2 → Q none H') (hb : ∀ f H', RT bf N tm (0, [], s, v, o) (.inl f) → CB H f H' → Q none H') : Wp mX6_readEither (d + 57) 0 0 0 [some (.ref 16), some (.int 0), none] [] H1 Q :=
  wp_deep (d := 6 * 8 + 9) (by omega) ((levels hF hTM 8).2.2 [] 0 s v o H1 Q rfl (by decide) rfl (fun x hx => by cases hx) hC hl (fun s' v' o' W2 o2 H' h1 h2 h3 h4 h5 h6 => hq s' v' o' W2 o2 H' h1 h2 h3 h4 h5 h6) hb)
end LW3
