/-! ===== CarriageHire$PriceReader: levels of an e, above and below ===== -/
section LW2
variable {bf : Nat → Int32} {N tm t : Nat} {H : PH}
theorem tpN_mono {p q : Nat → Bool} {W : List Nat} (h : ∀ x, q x = true → p x = true) (hW : tpN p W) : tpN q W := fun x hx => by
  cases r : q x with
  | false => rfl
  | true => exact absurd (hW x hx) (by rw [h x r]; decide)
theorem p1_43 : ∀ x, pS 46 x = true → pS 43 x = true := pS_pS (by decide)
theorem one_0 (hF : Fix H) : SpO H bf N tm 0 := by
  intro W u s v o H1 Q hd hu hcu hW hC hl hq hb
  have hF1 := CR_fix hF hC
  have hbd := CR_bd hC
  show Wp mX6_readOne 7 0 0 0 [some (.ref 16), some (.int (nI (deepW W))), none] [] H1 Q
  refine wp_aload_n dX6_readOne_0 rfl ?_
  refine wp_iload_n dX6_readOne_1 rfl ?_
  refine wp_callv1 (ci := 6) dX6_readOne_2 lk_RX6_74 ok_X6_isTooDeep im_X6_isTooDeep se_X6_isTooDeep rfl rfl (fk_16 hF1) (Nat.le_of_ble_eq_true rfl) (Nat.le_of_ble_eq_true rfl) ?_
  refine c_deepO (d := 5) (by omega) hF hC (by omega) (fun h H' hb' => ?_) (fun h => by omega)
  · refine wp_if_eq (tgt := 9) dX6_readOne_5 (by decide) (fun h5 => absurd h5 (by decide)) (fun _ => ?_)
    refine wp_return rfl dX6_readOne_8 ?_
    exact hb _ H' (RchE_bad (nt_O hu) (by rw [st1_O hu, stO, if_pos (by omega)])) hb'
theorem eith_0 (hF : Fix H) : SpE H bf N tm 0 := by
  intro W u s v o H1 Q hd hu hcu hW hC hl hq hb
  have hF1 := CR_fix hF hC
  have hbd := CR_bd hC
  show Wp mX6_readEither 9 0 0 0 [some (.ref 16), some (.int (nI (deepW W))), none] [] H1 Q
  refine wp_aload_n dX6_readEither_0 rfl ?_
  refine wp_iload_n dX6_readEither_1 rfl ?_
  refine wp_callv1 (ci := 6) dX6_readEither_2 lk_RX6_74 ok_X6_isTooDeep im_X6_isTooDeep se_X6_isTooDeep rfl rfl (fk_16 hF1) (Nat.le_of_ble_eq_true rfl) (Nat.le_of_ble_eq_true rfl) ?_
  refine c_deepO (d := 7) (by omega) hF hC (by omega) (fun h H' hb' => ?_) (fun h => by omega)
  · refine wp_if_eq (tgt := 9) dX6_readEither_5 (by decide) (fun h5 => absurd h5 (by decide)) (fun _ => ?_)
    refine wp_return rfl dX6_readEither_8 ?_
    exact hb _ H' (RchE_bad (nt_O hu) (by rw [st1_O hu, stO, if_pos (by omega)])) hb'
theorem unit_0 (hF : Fix H) : SpU H bf N tm 0 := by
  intro W u s v o H1 Q hd hu hcu hW hC hl hq hb
  have hF1 := CR_fix hF hC
  have hbd := CR_bd hC
  show Wp mX6_readUnit 4 0 0 0 [some (.ref 16), some (.int (nI (deepW W)))] [] H1 Q
  refine wp_aload_n dX6_readUnit_0 rfl ?_
  refine wp_iload_n dX6_readUnit_1 rfl ?_
  refine wp_callv1 (ci := 6) dX6_readUnit_2 lk_RX6_74 ok_X6_isTooDeep im_X6_isTooDeep se_X6_isTooDeep rfl rfl (fk_16 hF1) (Nat.le_of_ble_eq_true rfl) (Nat.le_of_ble_eq_true rfl) ?_
  refine c_deepO (d := 2) (by omega) hF hC (by omega) (fun h H' hb' => ?_) (fun h => by omega)
  · refine wp_if_eq (tgt := 9) dX6_readUnit_5 (by decide) (fun h5 => absurd h5 (by decide)) (fun _ => ?_)
    refine wp_return rfl dX6_readUnit_8 ?_
    exact hb _ H' (RchE_bad (nt_O hu) (by rw [st1_O hu, stO, if_pos (by omega)])) hb'
theorem one_s (hF : Fix H) (hTM : ∀ s, tkA bf N s = tm → isMul (tkA bf N s) = false ∧ isSum (tkA bf N s) = false ∧ isCmp (tkA bf N s) = false ∧ tkA bf N s ≠ 3 ∧ tkA bf N s ≠ 4) (hP : SpP H bf N tm (t + 1)) (hO : SpO H bf N tm t) : SpO H bf N tm (t + 1) := by
  intro W u s v o H1 Q hd hu hcu hW hC hl hq hb
  have hu0 : u = 0 := hcu
  subst hu0
  have hF1 := CR_fix hF hC
  have hbd := CR_bd hC
  have hB := hC.2.1.1
  have tk := hC.2.2.1.2.1
  have hW46 : tpN (pS 46) W := tpN_mono p1_43 hW
  show Wp mX6_readOne (6 * (t + 1) + 7) 0 0 0 [some (.ref 16), some (.int (nI (deepW W))), none] [] H1 Q
  by_cases h5 : tkA bf N s = 5
  · obtain ⟨n1, n2, n3, n4⟩ := nxt_gt hB hbd.1 (by omega) (by omega)
    have hstep : st1 (tkA bf N) (nxtT bf N) (itmT bf N) (unkT bf N) (0, W, s, v, o) = goN (tkA bf N) (nxtT bf N) 0 (40 :: W) s v o := by
      rw [st1_O hu, stO, if_neg (by omega), if_neg (by omega), if_neg (by omega), if_neg (by omega), if_pos ⟨rfl, h5⟩]
    have hcal := hO (40 :: W) 0 (nxtT bf N s) v o
    rw [show deepW (40 :: W) = deepW W + 1 from rfl] at hcal
    have hnb2 : ∀ f H3, RT bf N tm (0, W, s, v, o) (.inl f) → CB H f H3 → Wp mX6_readOne (6 * (t + 1) + 7) 0 0 28 [some (.ref 16), some (.int (nI (deepW W))), none] [] H3 Q := by
      intro f H3 hr3 hb3
      have hF3 := CB_fix hF hb3
      refine wp_aload_n dX6_readOne_28 rfl ?_
      refine wp_bipush (v := -9) dX6_readOne_29 (by decide) ?_
      refine wp_callv1 (ci := 6) dX6_readOne_31 lk_RX6_81 ok_X6_emit im_X6_emit se_X6_emit rfl rfl (fk_16 hF3) (Nat.le_of_ble_eq_true rfl) (Nat.le_of_ble_eq_true rfl) ?_
      refine c_emitB hF hb3 (fun H4 hb4 => ?_)
      refine wp_return rfl dX6_readOne_34 ?_
      exact hb _ H4 hr3 hb4
    have hno2 : ∀ (s' v' : Nat) (o' : OL) (W3 : List Nat) (o3 : OL) (H3 : PH), CR H bf N s' v' o' H3 → o'.length + (40 :: W).length ≤ s' → s ≤ s' → RT bf N tm (0, W, s, v, o) (.inr (2, W3, s', v', o3)) → stp p1 W3 o3 = stp p1 (40 :: W) o' → C1 bf N s' W3 o3 → Wp mX6_readOne (6 * (t + 1) + 7) 0 0 28 [some (.ref 16), some (.int (nI (deepW W))), none] [] H3 Q := by
      intro s' v' o' W3 o3 H3 hC3 hl3 hs3 hr3 hst3 hcl3
      have hF3 := CR_fix hF hC3
      have hbd3 := CR_bd hC3
      have hl3' : o'.length + (W.length + 1) ≤ s' := hl3
      refine wp_aload_n dX6_readOne_28 rfl ?_
      refine wp_bipush (v := -9) dX6_readOne_29 (by decide) ?_
      refine wp_callv1 (ci := 6) dX6_readOne_31 lk_RX6_81 ok_X6_emit im_X6_emit se_X6_emit rfl rfl (fk_16 hF3) (Nat.le_of_ble_eq_true rfl) (Nat.le_of_ble_eq_true rfl) ?_
      refine c_emitO (x := (40, 0)) rfl hF hC3 (by omega) (fun H4 hC4 => ?_)
      refine wp_return rfl dX6_readOne_34 ?_
      exact hq s' v' _ W3 o3 H4 hC4 (by rw [List.length_append]; show o'.length + 1 + W.length ≤ s'; omega) hs3 hr3 (by rw [hst3, stp_t (by decide)]) hcl3
    have hnb : tkA bf N (nxtT bf N s) = 8 → ∀ H2, CB H (1, nxtT bf N s) H2 → Wp mX6_readOne (6 * (t + 1) + 7) 0 0 21 [some (.ref 16), some (.int (nI (deepW W))), none] [] H2 Q := by
      intro h8 H2 hb2
      have hF2 := CB_fix hF hb2
      refine wp_aload_n dX6_readOne_21 rfl ?_
      refine wp_iload_n dX6_readOne_22 rfl ?_
      refine wp_iconst (v := 1) dX6_readOne_23 (by decide) ?_
      refine wp_iadd dX6_readOne_24 ?_
      refine wp_callv1 (ci := 6) dX6_readOne_25 lk_RX6_84 ok_X6_readOne im_X6_readOne se_X6_readOne rfl rfl (fk_16 hF2) (Nat.le_of_ble_eq_true rfl) (Nat.le_of_ble_eq_true rfl) ?_
      refine wp_deep (d := 0 + 5) (by omega) (c_oneB hF hb2 (fun H3 hb3 => ?_))
      refine wp_aload_n dX6_readOne_28 rfl ?_
      refine wp_bipush (v := -9) dX6_readOne_29 (by decide) ?_
      refine wp_callv1 (ci := 6) dX6_readOne_31 lk_RX6_81 ok_X6_emit im_X6_emit se_X6_emit rfl rfl (fk_16 (CB_fix hF hb3)) (Nat.le_of_ble_eq_true rfl) (Nat.le_of_ble_eq_true rfl) ?_
      refine c_emitB hF hb3 (fun H4 hb4 => ?_)
      refine wp_return rfl dX6_readOne_34 ?_
      exact hb _ H4 (RchE_bad (nt_O hu) (by rw [hstep]; exact go_bad h8)) hb4
    have hno : tkA bf N (nxtT bf N s) ≠ 8 → ∀ H2, CR H bf N (nxtT bf N s) v o H2 → Wp mX6_readOne (6 * (t + 1) + 7) 0 0 21 [some (.ref 16), some (.int (nI (deepW W))), none] [] H2 Q := by
      intro h8 H2 hC2
      have hF2 := CR_fix hF hC2
      have hfi : RT bf N tm (0, W, s, v, o) (.inr (0, 40 :: W, nxtT bf N s, v, o)) := RchE_one (nt_O hu) (by rw [hstep]; exact go_ok h8)
      refine wp_aload_n dX6_readOne_21 rfl ?_
      refine wp_iload_n dX6_readOne_22 rfl ?_
      refine wp_iconst (v := 1) dX6_readOne_23 (by decide) ?_
      refine wp_iadd dX6_readOne_24 ?_
      rw [nI_1]
      refine wp_callv1 (ci := 6) dX6_readOne_25 lk_RX6_84 ok_X6_readOne im_X6_readOne se_X6_readOne rfl rfl (fk_16 hF2) (Nat.le_of_ble_eq_true rfl) (Nat.le_of_ble_eq_true rfl) ?_
      refine wp_deep (d := 6 * t + 7) (by omega) (hcal H2 _ (by omega) (by decide) rfl (fun x hx => by cases hx; decide) hC2 (by show o.length + (W.length + 1) ≤ _; omega) (fun s' v' o' W3 o3 H3 hC3 hl3 hs3 hr3 hst3 hcl3 => ?_) (fun f H3 hr3 hb3 => ?_))
      · first
            | exact hnb2 f H3 (RchE_trans hfi hr3) hb3
            | exact hno2 s' v' o' W3 o3 H3 hC3 hl3 (by omega) (RchE_trans hfi hr3) hst3 hcl3
      · first
            | exact hnb2 f H3 (RchE_trans hfi hr3) hb3
            | exact hno2 s' v' o' W3 o3 H3 hC3 hl3 (by omega) (RchE_trans hfi hr3) hst3 hcl3
    refine wp_aload_n dX6_readOne_0 rfl ?_
    refine wp_iload_n dX6_readOne_1 rfl ?_
    refine wp_callv1 (ci := 6) dX6_readOne_2 lk_RX6_74 ok_X6_isTooDeep im_X6_isTooDeep se_X6_isTooDeep rfl rfl (fk_16 hF1) (Nat.le_of_ble_eq_true rfl) (Nat.le_of_ble_eq_true rfl) ?_
    refine c_deepO (d := 6 * (t + 1) + 5) (by omega) hF hC (by omega) (fun h => absurd h (by omega)) (fun h => ?_)
    · refine wp_if_eq (tgt := 9) dX6_readOne_5 (by decide) (fun _ => ?_) (fun h5 => absurd rfl h5)
      refine wp_aload_n dX6_readOne_9 rfl ?_
      refine wp_geti dX6_readOne_10 fl_RX6_47 rfl (fk_16 hF1) ?_
      rw [tk, h5]
      refine wp_iconst (v := 5) dX6_readOne_13 (by decide) ?_
      refine wp_icmp_ne (tgt := 35) dX6_readOne_14 (by decide) (fun h14 => absurd h14 (fun q => q rfl)) (fun _ => ?_)
      refine wp_aload_n dX6_readOne_17 rfl ?_
      refine wp_callv0 (ci := 6) dX6_readOne_18 lk_RX6_44 ok_X6_advance im_X6_advance se_X6_advance rfl rfl (fk_16 hF1) (Nat.le_of_ble_eq_true rfl) (Nat.le_of_ble_eq_true rfl) ?_
      refine c_advO (d := 6 * (t + 1) + 4) hF hC (by omega) (by omega) (fun h8 H2 hC2 => ?_) (fun h8 H2 hb2 => ?_)
      · first
            | exact hnb h8 H2 hb2
            | exact hno h8 H2 hC2
      · first
            | exact hnb h8 H2 hb2
            | exact hno h8 H2 hC2
  · have hcal := hP W 0 s v o H1
    have hcb : ∀ f H2, RT bf N tm (0, W, s, v, o) (.inl f) → CB H f H2 → Wp mX6_readOne (6 * (t + 1) + 7) 0 0 40 [some (.ref 16), some (.int (nI (deepW W))), none] [] H2 Q := by
      intro f H2 hr2 hb2
      have hF2 := CB_fix hF hb2
      have t8 := hb2.2.2.2.2.2.1
      refine wp_aload_n dX6_readOne_40 rfl ?_
      refine wp_geti dX6_readOne_41 fl_RX6_47 rfl (fk_16 hF2) ?_
      rw [t8]
      refine wp_bipush (v := 60) dX6_readOne_44 (by decide) ?_
      refine wp_icmp_eq (tgt := 67) dX6_readOne_46 (by decide) (fun h46 => absurd h46 (by decide)) (fun _ => ?_)
      refine wp_aload_n dX6_readOne_49 rfl ?_
      refine wp_geti dX6_readOne_50 fl_RX6_47 rfl (fk_16 hF2) ?_
      rw [t8]
      refine wp_bipush (v := 62) dX6_readOne_53 (by decide) ?_
      refine wp_icmp_eq (tgt := 67) dX6_readOne_55 (by decide) (fun h55 => absurd h55 (by decide)) (fun _ => ?_)
      refine wp_aload_n dX6_readOne_58 rfl ?_
      refine wp_geti dX6_readOne_59 fl_RX6_47 rfl (fk_16 hF2) ?_
      rw [t8]
      refine wp_bipush (v := 61) dX6_readOne_62 (by decide) ?_
      refine wp_icmp_ne (tgt := 87) dX6_readOne_64 (by decide) (fun _ => ?_) (fun h64 => absurd h64 (by decide))
      refine wp_return rfl dX6_readOne_87 ?_
      exact hb _ H2 hr2 hb2
    have hcm : ∀ (s' v' : Nat) (o' : OL) (W2 : List Nat) (o2 : OL) (H2 : PH), CR H bf N s' v' o' H2 → o'.length + W.length ≤ s' → s ≤ s' → RT bf N tm (0, W, s, v, o) (.inr (2, W2, s', v', o2)) → stp (pS 46) W2 o2 = stp (pS 46) W o' → CP bf N s' W2 o2 → Wp mX6_readOne (6 * (t + 1) + 7) 0 0 40 [some (.ref 16), some (.int (nI (deepW W))), none] [] H2 Q := by
      intro s' v' o' W2 o2 H2 hC2 hl2 hs2 hr2 hst2 hcl2
      rw [stp_N hW46] at hst2
      have hF2 := CR_fix hF hC2
      have tk2 := hC2.2.2.1.2.1
      have hbd2 := CR_bd hC2
      by_cases hx : isCmp (tkA bf N s') = true
      · have hx2 : tkA bf N s' = 60 ∨ tkA bf N s' = 61 ∨ tkA bf N s' = 62 := of_decide_eq_true hx
        obtain ⟨n1, n2, n3, n4⟩ := nxt_gt hB hbd2.1 (by omega) (by omega)
        have hop : opc (tkA bf N s') = 43 ∨ opc (tkA bf N s') = 44 ∨ opc (tkA bf N s') = 45 := by rcases hx2 with q | q | q <;> rw [q] <;> decide
        have hopi : pS 46 (opc (tkA bf N s')) = false := by rcases hop with q | q | q <;> rw [q] <;> decide
        have hop1 : p1 (opc (tkA bf N s')) = true := by rcases hop with q | q | q <;> rw [q] <;> decide
        have hopN : isN (opc (tkA bf N s')) = false := by rcases hop with q | q | q <;> rw [q] <;> decide
        have hopc : decide (43 ≤ opc (tkA bf N s') ∧ opc (tkA bf N s') ≤ 45) = true := by rcases hop with q | q | q <;> rw [q] <;> decide
        have hdW : deepW (opc (tkA bf N s') :: W) = deepW W := by show deepW W + (if isN (opc (tkA bf N s')) = true then 1 else 0) = _; rw [hopN]; rfl
        have hcW : ¬ cmpT W = true := fun q => by
          cases W with
          | nil => cases q
          | cons x W =>
            have h1 := hW x rfl
            have h2 : 43 ≤ x ∧ x ≤ 45 := of_decide_eq_true q
            unfold pS at h1
            rw [decide_eq_false_iff_not] at h1
            omega
        have hstep : st1 (tkA bf N) (nxtT bf N) (itmT bf N) (unkT bf N) (2, W2, s', v', o2) = goN (tkA bf N) (nxtT bf N) 1 (opc (tkA bf N s') :: W) s' v' o' := by
          rw [st1_B, stB, if_neg ((bfN _).mp hcl2.2), if_neg ((bfN _).mp hcl2.1), if_pos hx, hst2, if_neg hcW]
        have hnt : ¬ trm (tkA bf N) tm (2, W2, s', v', o2) := nt_tok (fun z => by rw [(hTM s' z).2.2.1] at hx; cases hx)
        have hen : encC (opc (tkA bf N s'), 0) = -(nI (tkA bf N s')) := encC_op (Or.inr (Or.inr hx))
        have hcal2 := hP (opc (tkA bf N s') :: W) 1 (nxtT bf N s') v' o'
        rw [hdW] at hcal2
        have hlb : ∀ f H3, RT bf N tm (0, W, s, v, o) (.inl f) → CB H f H3 → Wp mX6_readOne (6 * (t + 1) + 7) 0 0 81 [some (.ref 16), some (.int (nI (deepW W))), some (.int (nI (tkA bf N s')))] [] H3 Q := by
          intro f H3 hr3 hb3
          have hF3 := CB_fix hF hb3
          refine wp_aload_n dX6_readOne_81 rfl ?_
          refine wp_iload_n dX6_readOne_82 rfl ?_
          refine wp_ineg dX6_readOne_83 ?_
          refine wp_callv1 (ci := 6) dX6_readOne_84 lk_RX6_81 ok_X6_emit im_X6_emit se_X6_emit rfl rfl (fk_16 hF3) (Nat.le_of_ble_eq_true rfl) (Nat.le_of_ble_eq_true rfl) ?_
          refine c_emitB hF hb3 (fun H4 hb4 => ?_)
          refine wp_return rfl dX6_readOne_87 ?_
          exact hb _ H4 hr3 hb4
        have hlo : ∀ (s3 v3 : Nat) (o3' : OL) (W3 : List Nat) (o3 : OL) (H3 : PH), CR H bf N s3 v3 o3' H3 → o3'.length + (opc (tkA bf N s') :: W).length ≤ s3 → s ≤ s3 → RT bf N tm (0, W, s, v, o) (.inr (2, W3, s3, v3, o3)) → stp (pS 46) W3 o3 = (opc (tkA bf N s') :: W, o3') → CP bf N s3 W3 o3 → Wp mX6_readOne (6 * (t + 1) + 7) 0 0 81 [some (.ref 16), some (.int (nI (deepW W))), some (.int (nI (tkA bf N s')))] [] H3 Q := by
          intro s3 v3 o3' W3 o3 H3 hC3 hl3 hs3 hr3 hst3 hcl3
          have hF3 := CR_fix hF hC3
          have hbd3 := CR_bd hC3
          have hl3' : o3'.length + (W.length + 1) ≤ s3 := hl3
          refine wp_aload_n dX6_readOne_81 rfl ?_
          refine wp_iload_n dX6_readOne_82 rfl ?_
          refine wp_ineg dX6_readOne_83 ?_
          refine wp_callv1 (ci := 6) dX6_readOne_84 lk_RX6_81 ok_X6_emit im_X6_emit se_X6_emit rfl rfl (fk_16 hF3) (Nat.le_of_ble_eq_true rfl) (Nat.le_of_ble_eq_true rfl) ?_
          refine c_emitO hen hF hC3 (by omega) (fun H4 hC4 => ?_)
          refine wp_return rfl dX6_readOne_87 ?_
          exact hq s3 v3 _ W3 o3 H4 hC4 (by rw [List.length_append]; show o3'.length + 1 + W.length ≤ s3; omega) hs3 hr3 (by rw [stp_up (p := pS 46) (p' := p1) pS_p1 hst3, stp_t hop1]) ⟨hcl3.1, hcl3.2, fun _ => by rw [hst3]; exact hopc⟩
        have hab : tkA bf N (nxtT bf N s') = 8 → ∀ H3, CB H (1, nxtT bf N s') H3 → Wp mX6_readOne (6 * (t + 1) + 7) 0 0 76 [some (.ref 16), some (.int (nI (deepW W))), some (.int (nI (tkA bf N s')))] [] H3 Q := by
          intro h8 H3 hb3
          have hF3 := CB_fix hF hb3
          refine wp_aload_n dX6_readOne_76 rfl ?_
          refine wp_iload_n dX6_readOne_77 rfl ?_
          refine wp_callv1 (ci := 6) dX6_readOne_78 lk_RX6_87 ok_X6_readSum im_X6_readSum se_X6_readSum rfl rfl (fk_16 hF3) (Nat.le_of_ble_eq_true rfl) (Nat.le_of_ble_eq_true rfl) ?_
          refine wp_deep (d := 0 + 4) (by omega) (c_sumB hF hb3 (fun H4 hb4 => ?_))
          exact hlb _ H4 (RchE_trans hr2 (RchE_bad hnt (by rw [hstep]; exact go_bad h8))) hb4
        have hao : tkA bf N (nxtT bf N s') ≠ 8 → ∀ H3, CR H bf N (nxtT bf N s') v' o' H3 → Wp mX6_readOne (6 * (t + 1) + 7) 0 0 76 [some (.ref 16), some (.int (nI (deepW W))), some (.int (nI (tkA bf N s')))] [] H3 Q := by
          intro h8 H3 hC3
          have hF3 := CR_fix hF hC3
          have hfi : RT bf N tm (0, W, s, v, o) (.inr (1, opc (tkA bf N s') :: W, nxtT bf N s', v', o')) := RchE_trans hr2 (RchE_one hnt (by rw [hstep]; exact go_ok h8))
          refine wp_aload_n dX6_readOne_76 rfl ?_
          refine wp_iload_n dX6_readOne_77 rfl ?_
          refine wp_callv1 (ci := 6) dX6_readOne_78 lk_RX6_87 ok_X6_readSum im_X6_readSum se_X6_readSum rfl rfl (fk_16 hF3) (Nat.le_of_ble_eq_true rfl) (Nat.le_of_ble_eq_true rfl) ?_
          refine hcal2 H3 _ hd (by decide) (Or.inl rfl) (fun x hx => by cases hx; exact hopi) hC3 (by show o'.length + (W.length + 1) ≤ _; omega) (fun s3 v3 o3' W3 o3 H4 hC4 hl4 hs4 hr4 hst4 hcl4 => ?_) (fun f H4 hr4 hb4 => ?_)
          · first
                | exact hlb f H4 (RchE_trans hfi hr4) hb4
                | exact hlo s3 v3 o3' W3 o3 H4 hC4 hl4 (by omega) (RchE_trans hfi hr4) (by rw [stp_f hopi] at hst4; exact hst4) hcl4
          · first
                | exact hlb f H4 (RchE_trans hfi hr4) hb4
                | exact hlo s3 v3 o3' W3 o3 H4 hC4 hl4 (by omega) (RchE_trans hfi hr4) (by rw [stp_f hopi] at hst4; exact hst4) hcl4
        have hgo : Wp mX6_readOne (6 * (t + 1) + 7) 0 0 67 [some (.ref 16), some (.int (nI (deepW W))), none] [] H2 Q := by
          refine wp_aload_n dX6_readOne_67 rfl ?_
          refine wp_geti dX6_readOne_68 fl_RX6_47 rfl (fk_16 hF2) ?_
          rw [tk2]
          refine wp_istore_n dX6_readOne_71 (by decide) ?_
          refine wp_aload_n dX6_readOne_72 rfl ?_
          refine wp_callv0 (ci := 6) dX6_readOne_73 lk_RX6_44 ok_X6_advance im_X6_advance se_X6_advance rfl rfl (fk_16 hF2) (Nat.le_of_ble_eq_true rfl) (Nat.le_of_ble_eq_true rfl) ?_
          refine c_advO (d := 6 * (t + 1) + 4) hF hC2 (by omega) (by omega) (fun h8 H3 hC3 => ?_) (fun h8 H3 hb3 => ?_)
          · first
                | exact hab h8 H3 hb3
                | exact hao h8 H3 hC3
          · first
                | exact hab h8 H3 hb3
                | exact hao h8 H3 hC3
        refine wp_aload_n dX6_readOne_40 rfl ?_
        refine wp_geti dX6_readOne_41 fl_RX6_47 rfl (fk_16 hF2) ?_
        rw [tk2]
        refine wp_bipush (v := 60) dX6_readOne_44 (by decide) ?_
        refine wp_icmp_eq (tgt := 67) dX6_readOne_46 (by decide) (fun h46 => ?_) (fun h46 => ?_)
        · exact hgo
        · refine wp_aload_n dX6_readOne_49 rfl ?_
          refine wp_geti dX6_readOne_50 fl_RX6_47 rfl (fk_16 hF2) ?_
          rw [tk2]
          refine wp_bipush (v := 62) dX6_readOne_53 (by decide) ?_
          refine wp_icmp_eq (tgt := 67) dX6_readOne_55 (by decide) (fun h55 => ?_) (fun h55 => ?_)
          · exact hgo
          · refine wp_aload_n dX6_readOne_58 rfl ?_
            refine wp_geti dX6_readOne_59 fl_RX6_47 rfl (fk_16 hF2) ?_
            rw [tk2]
            refine wp_bipush (v := 61) dX6_readOne_62 (by decide) ?_
            refine wp_icmp_ne (tgt := 87) dX6_readOne_64 (by decide) (fun h64 => ?_) (fun h64 => ?_)
            · refine wp_return rfl dX6_readOne_87 ?_
              exact absurd hx2 (fun q => q.elim (fun z => h46 (by rw [z]; rfl)) (fun q => q.elim (fun z => h64 (by rw [z]; rfl)) (fun z => h55 (by rw [z]; rfl))))
            · exact hgo
      · have hx2 : ¬ (tkA bf N s' = 60 ∨ tkA bf N s' = 61 ∨ tkA bf N s' = 62) := fun q => hx (decide_eq_true q)
        refine wp_aload_n dX6_readOne_40 rfl ?_
        refine wp_geti dX6_readOne_41 fl_RX6_47 rfl (fk_16 hF2) ?_
        rw [tk2]
        refine wp_bipush (v := 60) dX6_readOne_44 (by decide) ?_
        refine wp_icmp_eq (tgt := 67) dX6_readOne_46 (by decide) (fun h46 => absurd h46 (fun q => hx2 (Or.inl ((tkI hB (k := 60) (by decide)).mp q)))) (fun _ => ?_)
        refine wp_aload_n dX6_readOne_49 rfl ?_
        refine wp_geti dX6_readOne_50 fl_RX6_47 rfl (fk_16 hF2) ?_
        rw [tk2]
        refine wp_bipush (v := 62) dX6_readOne_53 (by decide) ?_
        refine wp_icmp_eq (tgt := 67) dX6_readOne_55 (by decide) (fun h55 => absurd h55 (fun q => hx2 (Or.inr (Or.inr ((tkI hB (k := 62) (by decide)).mp q))))) (fun _ => ?_)
        refine wp_aload_n dX6_readOne_58 rfl ?_
        refine wp_geti dX6_readOne_59 fl_RX6_47 rfl (fk_16 hF2) ?_
        rw [tk2]
        refine wp_bipush (v := 61) dX6_readOne_62 (by decide) ?_
        refine wp_icmp_ne (tgt := 87) dX6_readOne_64 (by decide) (fun _ => ?_) (fun h64 => absurd h64 (fun q => hx2 (Or.inr (Or.inl ((tkI hB (k := 61) (by decide)).mp q)))))
        refine wp_return rfl dX6_readOne_87 ?_
        exact hq s' v' o' W2 o2 H2 hC2 hl2 hs2 hr2 (by rw [stp_up (p := pS 46) (p' := p1) pS_p1 hst2]) ⟨hcl2.1, hcl2.2, fun z => absurd z hx⟩
    refine wp_aload_n dX6_readOne_0 rfl ?_
    refine wp_iload_n dX6_readOne_1 rfl ?_
    refine wp_callv1 (ci := 6) dX6_readOne_2 lk_RX6_74 ok_X6_isTooDeep im_X6_isTooDeep se_X6_isTooDeep rfl rfl (fk_16 hF1) (Nat.le_of_ble_eq_true rfl) (Nat.le_of_ble_eq_true rfl) ?_
    refine c_deepO (d := 6 * (t + 1) + 5) (by omega) hF hC (by omega) (fun h => absurd h (by omega)) (fun h => ?_)
    · refine wp_if_eq (tgt := 9) dX6_readOne_5 (by decide) (fun _ => ?_) (fun h5 => absurd rfl h5)
      refine wp_aload_n dX6_readOne_9 rfl ?_
      refine wp_geti dX6_readOne_10 fl_RX6_47 rfl (fk_16 hF1) ?_
      rw [tk]
      refine wp_iconst (v := 5) dX6_readOne_13 (by decide) ?_
      refine wp_icmp_ne (tgt := 35) dX6_readOne_14 (by decide) (fun _ => ?_) (fun h14 => absurd h14 (fun q => h5 ((tkI hB (k := 5) (by decide)).mp q)))
      refine wp_aload_n dX6_readOne_35 rfl ?_
      refine wp_iload_n dX6_readOne_36 rfl ?_
      refine wp_callv1 (ci := 6) dX6_readOne_37 lk_RX6_87 ok_X6_readSum im_X6_readSum se_X6_readSum rfl rfl (fk_16 hF1) (Nat.le_of_ble_eq_true rfl) (Nat.le_of_ble_eq_true rfl) ?_
      refine hcal _ hd (by decide) (Or.inr ⟨rfl, h5⟩) hW46 hC hl (fun s' v' o' W2 o2 H2 hC2 hl2 hs2 hr2 hst2 hcl2 => ?_) (fun f H2 hr2 hb2 => ?_)
      · first
            | exact hcb f H2 hr2 hb2
            | exact hcm s' v' o' W2 o2 H2 hC2 hl2 hs2 hr2 hst2 hcl2
      · first
            | exact hcb f H2 hr2 hb2
            | exact hcm s' v' o' W2 o2 H2 hC2 hl2 hs2 hr2 hst2 hcl2
end LW2
