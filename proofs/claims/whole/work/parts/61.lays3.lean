/-! ===== CarriageHire$Lays: the least LAY, the CHAINS' numbers, refresh ===== -/
section LL
variable {d K : Nat} {ck : Nat → Nat} {H : PH} {Q : Option Value → PH → Prop}
/-- what stands in the row of LAYS: sets up to P at most r CHAINS, the others one more -/
def layd (ck : Nat → Nat) (W r P : Nat) (H H' : PH) : Prop := eqL H H' ∧ hL H' 10 = hL H 10 ∧ ∀ T, sub T W → ∃ u, hL H' 11 T = lN u ∧ isOpt ck (if P < T then r + 1 else r) T u
theorem opt_le {ck : Nat → Nat} {r S v : Nat} (h : isOpt ck r S v) : v ≤ 2 ^ 61 := h.1
theorem opt_z {ck : Nat → Nat} {r u : Nat} (h2 : isOpt ck r 0 u) : u = 0 := by
  have := h2.2.1 (fun _ => 0) (fun j h => by rw [Nat.zero_testBit] at h; cases h) (by
    unfold nch
    rw [fb_ct_zero.mpr (fun c _ => by rw [fib_0 (by decide) (fun j h => by rw [Nat.zero_testBit] at h; cases h)]; rfl)]
    exact Nat.zero_le _)
  unfold kap at this
  rw [sm_0 (fun c _ => by rw [fib_0 (by decide) (fun j h => by rw [Nat.zero_testBit] at h; cases h)]; rfl)] at this
  omega
theorem xor_lt {S P : Nat} (hS : S < 1024) (h0 : S ≠ 0) (h : sub P (oth S)) : oth S ^^^ P < S := by
  have h1 := sub_le (split_xor h)
  have h2 := sub_le (oth_sub S)
  have h3 : lb S = S - oth S := rfl
  have h4 := (lb_all S hS).2.2.2.1.resolve_left h0
  omega
theorem l_X4_leastLay2 {r most : Nat} {W : Nat} (hF : Fix H) (hK : K < 1024) (hWK : sub W K) (hr : r + 1 ≤ 10) (hc : ∀ T, T ≠ 0 → sub T K → hL H 10 T = lN (ck T) ∧ ck T ≤ 2 ^ 61)
    (kont : ∀ H', layd ck W (r + 1) W H H' → Wp mX4_leastLay (d + 2) 0 0 27 [some (.ref 9), some (.int (nI K)), some (.int (nI most)), some (.int (nI W)), some (.int (nI (r + 2))), none] [] H' Q) :
    ∀ (n P : Nat) (H1 : PH), P ≤ n → sub P W → layd ck W r P H H1 → Wp mX4_leastLay (d + 2) 0 0 36 [some (.ref 9), some (.int (nI K)), some (.int (nI most)), some (.int (nI W)), some (.int (nI (r + 1))), some (.int (nI P))] [] H1 Q := by
  have hW := Nat.lt_of_le_of_lt (sub_le hWK) hK
  have hend : ∀ (H1 : PH), layd ck W r 0 H H1 → Wp mX4_leastLay (d + 2) 0 0 36 [some (.ref 9), some (.int (nI K)), some (.int (nI most)), some (.int (nI W)), some (.int (nI (r + 1))), some (.int (nI 0))] [] H1 Q := by
    intro H1 hL1
    refine wp_iload dX4_leastLay_36 rfl ?_
    refine wp_if_le (tgt := 65) dX4_leastLay_38 (by decide) (fun _ => ?_) (fun h38 => absurd h38 (fun q => q (by decide)))
    refine wp_incN dX4_leastLay_65 rfl (by decide) ?_
    refine wp_goto (tgt := 27) dX4_leastLay_68 (by decide) ?_
    refine wp_forget 5 (kont H1 ⟨hL1.1, hL1.2.1, fun T hT => ?_⟩)
    obtain ⟨u, h1, h2⟩ := hL1.2.2 T hT
    refine ⟨u, h1, ?_⟩
    rw [if_neg (by have := sub_le hT; omega)]
    by_cases q : T = 0
    · subst q
      rw [if_neg (by omega)] at h2
      have : u = 0 := opt_z h2
      rw [this]; exact opt_0 ck _
    · rw [if_pos (by omega)] at h2; exact h2
  intro n
  induction n with
  | zero =>
    intro P H1 hP hs hL1
    have hin : P = 0 := by omega
    subst hin
    exact hend H1 hL1
  | succ n ih =>
    intro P H1 hP hs hL1
    cases P with
    | zero => exact hend H1 hL1
    | succ P =>
      have hF1 := Fix_eqL hL1.1 hF
      have hPW := sub_le hs
      have hPK := sub_trans hs hWK
      have hP1 : P + 1 < 1024 := by omega
      refine wp_iload dX4_leastLay_36 rfl ?_
      refine wp_if_le (tgt := 65) dX4_leastLay_38 (by decide) (fun h38 => absurd h38 (nI_nle (by omega) (by omega))) (fun _ => ?_)
      refine wp_aload_n dX4_leastLay_41 rfl ?_
      refine wp_geta dX4_leastLay_42 fl_RX4_15 rfl (fk_9 hF1) (fr_9_2 hF1) ?_
      refine wp_iload dX4_leastLay_45 rfl ?_
      refine wp_aload_n dX4_leastLay_47 rfl ?_
      refine wp_iload dX4_leastLay_48 rfl ?_
      refine wp_callv1 (ci := 4) dX4_leastLay_50 lk_RX4_109 ok_X4_leastSplit im_X4_leastSplit se_X4_leastSplit rfl rfl (fk_9 hF1) (Nat.le_of_ble_eq_true rfl) (Nat.le_of_ble_eq_true rfl) ?_
      refine c_X4_leastSplit (ck := ck) (R := isOpt ck r) hF1 hP1 (by omega) (fun T h0 hT => by rw [hL1.2.1]; exact hc T h0 (sub_trans hT hPK)) (fun T hT => ?_) (fun v hv => ?_)
      · obtain ⟨u, h1, h2⟩ := hL1.2.2 T (sub_trans (sub_trans hT (oth_sub _)) hs)
        rw [if_neg (by have := sub_le (sub_trans hT (oth_sub _)); omega)] at h2
        exact ⟨u, h1, h2, opt_le h2⟩
      refine wp_lastoreN dX4_leastLay_53 (fk_11 hF1) (by omega) (by decide) ?_
      refine wp_iload dX4_leastLay_54 rfl ?_
      refine wp_iconst (v := 1) dX4_leastLay_56 (by decide) ?_
      refine wp_isub dX4_leastLay_57 ?_
      rw [nI_pred]
      refine wp_iload_n dX4_leastLay_58 rfl ?_
      refine wp_iand dX4_leastLay_59 ?_
      rw [fa_and]
      refine wp_istore dX4_leastLay_60 (by decide) ?_
      refine wp_goto (tgt := 36) dX4_leastLay_62 (by decide) ?_
      have hle : P &&& W ≤ P := Nat.and_le_left
      refine ih (P &&& W) _ (by omega) (sub_andR P W) ⟨eqL_sL hL1.1 (Or.inr rfl), ?_, fun T hT => ?_⟩
      · rw [← hL1.2.1]; funext k; rw [hL_sL', if_neg (by omega)]
      · by_cases q : T = P + 1
        · subst q
          refine ⟨v, by rw [hL_sL', if_pos ⟨rfl, rfl⟩], ?_⟩
          rw [if_pos (by omega)]
          exact opt_s hP1 (by omega) hr hv.1 hv.2.1 hv.2.2
        · obtain ⟨u, h1, h2⟩ := hL1.2.2 T hT
          refine ⟨u, by rw [hL_sL', if_neg (by omega)]; exact h1, ?_⟩
          have : T < P + 1 → T ≤ P &&& W := fun z => by
            have := sub_next (P + 1) W T hs hT z
            rw [Nat.add_sub_cancel] at this
            exact this
          by_cases q2 : P + 1 < T
          · rw [if_pos (by omega)]; rw [if_pos q2] at h2; exact h2
          · rw [if_neg (by have := this (by omega); omega)]; rw [if_neg q2] at h2; exact h2
theorem l_X4_leastLay {most : Nat} (hF : Fix H) (hK : K < 1024) (h0 : K ≠ 0) (hm : most ≤ 6) (hm2 : 2 ≤ most) (hc : ∀ T, T ≠ 0 → sub T K → hL H 10 T = lN (ck T) ∧ ck T ≤ 2 ^ 61)
    (hq : ∀ H' v, eqL H H' → hL H' 11 0 = 0 → isOpt ck most K v → Q (some (.long (lN v))) H') :
    ∀ (f r : Nat) (H1 : PH), most - (r + 1) = f → r + 1 ≤ most → layd ck (oth K) r (oth K) H H1 → Wp mX4_leastLay (d + 2) 0 0 27 [some (.ref 9), some (.int (nI K)), some (.int (nI most)), some (.int (nI (oth K))), some (.int (nI (r + 1))), none] [] H1 Q := by
  intro f
  induction f with
  | zero =>
    intro r H1 hf hr hL1
    have hF1 := Fix_eqL hL1.1 hF
    have hin : r + 1 = most := by omega
    subst hin
    refine wp_iload dX4_leastLay_27 rfl ?_
    refine wp_iload_n dX4_leastLay_29 rfl ?_
    refine wp_icmp_ge (tgt := 71) dX4_leastLay_30 (by decide) (fun _ => ?_) (fun h30 => absurd h30 (fun h => h (nI_le (Nat.le_refl _) (by omega))))
    refine wp_aload_n dX4_leastLay_71 rfl ?_
    refine wp_iload_n dX4_leastLay_72 rfl ?_
    refine wp_callv1 (ci := 4) dX4_leastLay_73 lk_RX4_109 ok_X4_leastSplit im_X4_leastSplit se_X4_leastSplit rfl rfl (fk_9 hF1) (Nat.le_of_ble_eq_true rfl) (Nat.le_of_ble_eq_true rfl) ?_
    refine c_X4_leastSplit (ck := ck) (R := isOpt ck r) hF1 hK h0 (fun T h0 hT => by rw [hL1.2.1]; exact hc T h0 hT) (fun T hT => ?_) (fun v hv => ?_)
    · obtain ⟨u, h1, h2⟩ := hL1.2.2 T hT
      rw [if_neg (by have := sub_le hT; omega)] at h2
      exact ⟨u, h1, h2, opt_le h2⟩
    refine wp_lreturn rfl dX4_leastLay_76 ?_
    obtain ⟨u0, h10, h20⟩ := hL1.2.2 0 (sub_0 _)
    rw [if_neg (by omega)] at h20
    have hz := opt_z h20
    subst hz
    exact hq H1 v hL1.1 h10 (opt_s hK h0 (by omega) hv.1 hv.2.1 hv.2.2)
  | succ f ih =>
    intro r H1 hf hr hL1
    have hF1 := Fix_eqL hL1.1 hF
    refine wp_iload dX4_leastLay_27 rfl ?_
    refine wp_iload_n dX4_leastLay_29 rfl ?_
    refine wp_icmp_ge (tgt := 71) dX4_leastLay_30 (by decide) (fun h30 => absurd h30 (nI_ge (by omega) (by omega))) (fun _ => ?_)
    refine wp_iload_n dX4_leastLay_33 rfl ?_
    refine wp_istore dX4_leastLay_34 (by decide) ?_
    exact l_X4_leastLay2 hF hK (oth_sub K) (by omega) hc (fun H' hL' => ih (r + 1) H' (by omega) (by omega) hL') _ (oth K) H1 (Nat.le_refl _) (sub_rfl _) hL1
theorem c_X4_leastLay {most : Nat} (hF : Fix H) (hK : K < 1024) (hm : most ≤ 6) (hm1 : 1 ≤ most) (hc : ∀ T, T ≠ 0 → sub T K → hL H 10 T = lN (ck T) ∧ ck T ≤ 2 ^ 61) (hl : ∀ T, T ≠ 0 → sub T K → hL H 11 T = lN (ck T)) (hl0 : hL H 11 0 = 0)
    (hq : ∀ H' v, eqL H H' → hL H' 11 0 = 0 → isOpt ck most K v → Q (some (.long (lN v))) H') : Wp mX4_leastLay (d + 2) 0 0 0 [some (.ref 9), some (.int (nI K)), some (.int (nI most)), none, none, none] [] H Q := by
  by_cases h0 : K = 0
  · subst h0
    refine wp_iload_n dX4_leastLay_0 rfl ?_
    refine wp_if_ne (tgt := 6) dX4_leastLay_1 (by decide) (fun h1 => absurd h1 (fun q => q rfl)) (fun _ => ?_)
    refine wp_lconst (v := 0) dX4_leastLay_4 (by decide) ?_
    refine wp_lreturn rfl dX4_leastLay_5 ?_
    exact hq H 0 eqL_rfl hl0 (opt_0 ck most)
  · by_cases h1 : most = 1
    · subst h1
      have hcc := hc K h0 (sub_rfl K)
      refine wp_iload_n dX4_leastLay_0 rfl ?_
      refine wp_if_ne (tgt := 6) dX4_leastLay_1 (by decide) (fun _ => ?_) (fun h1 => absurd h1 (nI_ne0 (by omega) (by omega)))
      refine wp_iload_n dX4_leastLay_6 rfl ?_
      refine wp_iconst (v := 1) dX4_leastLay_7 (by decide) ?_
      refine wp_icmp_ne (tgt := 18) dX4_leastLay_8 (by decide) (fun h8 => absurd h8 (fun q => q rfl)) (fun _ => ?_)
      refine wp_aload_n dX4_leastLay_11 rfl ?_
      refine wp_geta dX4_leastLay_12 fl_RX4_11 rfl (fk_9 hF) (fr_9_1 hF) ?_
      refine wp_iload_n dX4_leastLay_15 rfl ?_
      refine wp_laloadN dX4_leastLay_16 (fk_10 hF) (by omega) (by decide) ?_
      rw [hcc.1]
      refine wp_lreturn rfl dX4_leastLay_17 ?_
      exact hq H _ eqL_rfl hl0 (opt_1 hK h0 hcc.2)
    · obtain ⟨k, hk⟩ : ∃ k, K = k + 1 := ⟨K - 1, by omega⟩
      have hlay : layd ck (oth K) 1 (oth K) H H := by
        refine ⟨eqL_rfl, rfl, fun T hT => ?_⟩
        rw [if_neg (by have := sub_le hT; omega)]
        by_cases q : T = 0
        · subst q; exact ⟨0, hl0, opt_0 ck 1⟩
        · have hTK := sub_trans hT (oth_sub K)
          exact ⟨ck T, hl T q hTK, opt_1 (Nat.lt_of_le_of_lt (sub_le hTK) hK) q (hc T q hTK).2⟩
      have ho : nI K &&& (nI K - 1) = nI (oth K) := by
        have : nI K - 1 = nI (K - 1) := by rw [hk, nI_pred]; rfl
        rw [this, fa_and]; rfl
      refine wp_iload_n dX4_leastLay_0 rfl ?_
      refine wp_if_ne (tgt := 6) dX4_leastLay_1 (by decide) (fun _ => ?_) (fun h1 => absurd h1 (nI_ne0 (by omega) (by omega)))
      refine wp_iload_n dX4_leastLay_6 rfl ?_
      refine wp_iconst (v := 1) dX4_leastLay_7 (by decide) ?_
      refine wp_icmp_ne (tgt := 18) dX4_leastLay_8 (by decide) (fun _ => ?_) (fun h8 => absurd h8 (fun q => h1 ((nI_eq (b := 1) (by omega) (by omega)).mp q)))
      refine wp_iload_n dX4_leastLay_18 rfl ?_
      refine wp_iload_n dX4_leastLay_19 rfl ?_
      refine wp_iconst (v := 1) dX4_leastLay_20 (by decide) ?_
      refine wp_isub dX4_leastLay_21 ?_
      refine wp_iand dX4_leastLay_22 ?_
      rw [ho]
      refine wp_istore_n dX4_leastLay_23 (by decide) ?_
      refine wp_iconst (v := 2) dX4_leastLay_24 (by decide) ?_
      refine wp_istore dX4_leastLay_25 (by decide) ?_
      exact l_X4_leastLay hF hK h0 hm (by omega) hc hq _ 1 H rfl (by omega) hlay
end LL
/-! the numbers of the CHAINS, out of the key -/
def is12 (a k : Nat) : Prop := a = 12 ∨ (a = 9 ∧ k = 6)
def nib (v n : Nat) : Nat := v / 2 ^ (4 * (9 - n)) % 16
/-- what the key says of each JOB: the least of its CHAIN; g is the CHAIN's number -/
def nibOk (v K : Nat) (g : Nat → Nat) : Prop := ∀ n, n < 10 → K.testBit n = true → nib v n ≤ n ∧ K.testBit (nib v n) = true ∧ (nib v n < n → g (nib v n) = g n) ∧ (nib v n = n → g n = fb_ct (fun i => K.testBit i && decide (nib v i = i)) n)
theorem nib_int {v n : Nat} (hv : v < 2 ^ 62) (hn : n ≤ 9) : ((lN v).toUInt64 >>> ((nI (4 * (9 - n))).toInt64.toUInt64 &&& Int64.toUInt64 63)).toInt64.toInt32 &&& 15 = nI (nib v n) := by
  rw [wb_shr (by omega) (by omega), lN_i, show (15 : Int32) = nI (2 ^ 4 - 1) from rfl, fa_mask]
  rfl
section NC
variable {d K v : Nat} {g : Nat → Nat} {H : PH} {Q : Option Value → PH → Prop}
theorem l_X4_numberChains (hF : Fix H) (hK : K < 1024) (hv : v < 2 ^ 62) (hg : nibOk v K g)
    (hq : ∀ H', eqX is12 H H' → (∀ n, n < 10 → hI H' 12 n = if K.testBit n = true then nI (g n) else hI H 12 n) → hI H' 9 6 = nI (fb_ct (fun i => K.testBit i && decide (nib v i = i)) 10) → Q none H') :
    ∀ (f n : Nat) (H1 : PH), 10 - n = f → n ≤ 10 → eqX is12 H H1 → (∀ e, e < n → hI H1 12 e = if K.testBit e = true then nI (g e) else hI H 12 e) → (∀ e, n ≤ e → hI H1 12 e = hI H 12 e) → hI H1 9 6 = nI (fb_ct (fun i => K.testBit i && decide (nib v i = i)) n) →
    Wp mX4_numberChains (d + 1) 0 0 8 [some (.ref 9), some (.long (lN v)), none, some (.int (nI K)), some (.int (nI n)), none] [] H1 Q := by
  intro f
  induction f with
  | zero =>
    intro n H1 hf hn he h1 h2 h3
    have hin : n = 10 := by omega
    subst hin
    refine wp_iload dX4_numberChains_8 rfl ?_
    refine wp_bipush (v := 10) dX4_numberChains_10 (by decide) ?_
    refine wp_icmp_ge (tgt := 91) dX4_numberChains_12 (by decide) (fun _ => ?_) (fun h12 => absurd h12 (by decide))
    refine wp_return rfl dX4_numberChains_91 ?_
    exact hq H1 he (fun e h => h1 e h) h3
  | succ f ih =>
    intro n H1 hf hn he h1 h2 h3
    have hF1 := Fix_eqX he hF
    have hbit : hb (nI K) n ↔ K.testBit n = true := hb_nI (by omega) (by omega)
    by_cases hkn : K.testBit n = true
    · obtain ⟨g1, g2, g3, g4⟩ := hg n (by omega) hkn
      by_cases hlt : nib v n < n
      · have hval : hI H1 12 (nib v n) = nI (g n) := by rw [h1 _ hlt, if_pos g2, g3 hlt]
        have hc0 : fb_ct (fun i => K.testBit i && decide (nib v i = i)) (n + 1) = fb_ct (fun i => K.testBit i && decide (nib v i = i)) n := by
          rw [fb_ct_succ, hkn, decide_eq_false (show ¬ nib v n = n by omega)]; rfl
        refine wp_iload dX4_numberChains_8 rfl ?_
        refine wp_bipush (v := 10) dX4_numberChains_10 (by decide) ?_
        refine wp_icmp_ge (tgt := 91) dX4_numberChains_12 (by decide) (fun h12 => absurd h12 (nI_ge (a := n) (b := 10) (by omega) (by decide))) (fun _ => ?_)
        refine wp_iload_n dX4_numberChains_15 rfl ?_
        refine wp_iload dX4_numberChains_16 rfl ?_
        refine wp_calls2 dX4_numberChains_18 lk_RX4_83 ok_X11_hasBit st_X11_hasBit (Nat.le_of_ble_eq_true rfl) (Nat.le_of_ble_eq_true rfl) ?_
        refine c_X11_hasBit ?_
        refine wp_ifb_ne (tgt := 27) dX4_numberChains_21 (by decide) (fun _ => ?_) (fun h21 => absurd h21 (fun q => q (hbit.mpr hkn)))
        refine wp_lload_n dX4_numberChains_27 rfl ?_
        refine wp_iload dX4_numberChains_28 rfl ?_
        refine wp_calls1 dX4_numberChains_30 lk_RX4_106 ok_X4_shiftOf st_X4_shiftOf (Nat.le_of_ble_eq_true rfl) (Nat.le_of_ble_eq_true rfl) ?_
        refine c_X4_shiftOf ?_
        rw [shOf (by omega)]
        refine wp_lushr dX4_numberChains_33 ?_
        refine wp_l2i dX4_numberChains_34 ?_
        refine wp_bipush (v := 15) dX4_numberChains_35 (by decide) ?_
        refine wp_iand dX4_numberChains_37 ?_
        rw [nib_int hv (by omega)]
        refine wp_istore dX4_numberChains_38 (by decide) ?_
        refine wp_iload dX4_numberChains_40 rfl ?_
        refine wp_iload dX4_numberChains_42 rfl ?_
        refine wp_icmp_ge (tgt := 64) dX4_numberChains_44 (by decide) (fun h44 => absurd h44 (nI_ge hlt (by omega))) (fun _ => ?_)
        refine wp_aload_n dX4_numberChains_47 rfl ?_
        refine wp_geta dX4_numberChains_48 fl_RX4_18 rfl (fk_9 hF1) (fr_9_3 hF1) ?_
        refine wp_iload dX4_numberChains_51 rfl ?_
        refine wp_aload_n dX4_numberChains_53 rfl ?_
        refine wp_geta dX4_numberChains_54 fl_RX4_18 rfl (fk_9 hF1) (fr_9_3 hF1) ?_
        refine wp_iload dX4_numberChains_57 rfl ?_
        refine wp_ialoadN dX4_numberChains_59 (fk_12 hF1) (by omega) (by decide) ?_
        rw [hval]
        refine wp_iastoreN dX4_numberChains_60 (fk_12 hF1) (by omega) (by decide) ?_
        refine wp_goto (tgt := 85) dX4_numberChains_61 (by decide) ?_
        refine wp_incN dX4_numberChains_85 rfl (by decide) ?_
        refine wp_goto (tgt := 8) dX4_numberChains_88 (by decide) ?_
        refine wp_forget 5 (ih (n + 1) _ (by omega) (by omega) (eqX_sI he (Or.inl rfl)) (fun e he9 => ?_) (fun e he9 => ?_) ?_)
        · rw [hI_sI']
          by_cases q : e = n
          · subst q; rw [if_pos ⟨rfl, rfl⟩, if_pos hkn]
          · rw [if_neg (by omega)]; exact h1 e (by omega)
        · rw [hI_sI', if_neg (by omega)]; exact h2 e (by omega)
        · rw [hI_sI', if_neg (by omega), hc0]; exact h3
      · have heq : nib v n = n := by omega
        have hval : g n = fb_ct (fun i => K.testBit i && decide (nib v i = i)) n := g4 heq
        have hc1 : fb_ct (fun i => K.testBit i && decide (nib v i = i)) (n + 1) = fb_ct (fun i => K.testBit i && decide (nib v i = i)) n + 1 := by
          rw [fb_ct_succ, hkn, decide_eq_true heq]; rfl
        refine wp_iload dX4_numberChains_8 rfl ?_
        refine wp_bipush (v := 10) dX4_numberChains_10 (by decide) ?_
        refine wp_icmp_ge (tgt := 91) dX4_numberChains_12 (by decide) (fun h12 => absurd h12 (nI_ge (a := n) (b := 10) (by omega) (by decide))) (fun _ => ?_)
        refine wp_iload_n dX4_numberChains_15 rfl ?_
        refine wp_iload dX4_numberChains_16 rfl ?_
        refine wp_calls2 dX4_numberChains_18 lk_RX4_83 ok_X11_hasBit st_X11_hasBit (Nat.le_of_ble_eq_true rfl) (Nat.le_of_ble_eq_true rfl) ?_
        refine c_X11_hasBit ?_
        refine wp_ifb_ne (tgt := 27) dX4_numberChains_21 (by decide) (fun _ => ?_) (fun h21 => absurd h21 (fun q => q (hbit.mpr hkn)))
        refine wp_lload_n dX4_numberChains_27 rfl ?_
        refine wp_iload dX4_numberChains_28 rfl ?_
        refine wp_calls1 dX4_numberChains_30 lk_RX4_106 ok_X4_shiftOf st_X4_shiftOf (Nat.le_of_ble_eq_true rfl) (Nat.le_of_ble_eq_true rfl) ?_
        refine c_X4_shiftOf ?_
        rw [shOf (by omega)]
        refine wp_lushr dX4_numberChains_33 ?_
        refine wp_l2i dX4_numberChains_34 ?_
        refine wp_bipush (v := 15) dX4_numberChains_35 (by decide) ?_
        refine wp_iand dX4_numberChains_37 ?_
        rw [nib_int hv (by omega)]
        refine wp_istore dX4_numberChains_38 (by decide) ?_
        refine wp_iload dX4_numberChains_40 rfl ?_
        refine wp_iload dX4_numberChains_42 rfl ?_
        refine wp_icmp_ge (tgt := 64) dX4_numberChains_44 (by decide) (fun _ => ?_) (fun h44 => absurd h44 (fun q => q (nI_le (by omega) (by omega))))
        refine wp_aload_n dX4_numberChains_64 rfl ?_
        refine wp_geta dX4_numberChains_65 fl_RX4_18 rfl (fk_9 hF1) (fr_9_3 hF1) ?_
        refine wp_iload dX4_numberChains_68 rfl ?_
        refine wp_aload_n dX4_numberChains_70 rfl ?_
        refine wp_geti dX4_numberChains_71 fl_RX4_61 rfl (fk_9 hF1) ?_
        rw [h3]
        refine wp_iastoreN dX4_numberChains_74 (fk_12 hF1) (by omega) (by decide) ?_
        refine wp_aload_n dX4_numberChains_75 rfl ?_
        refine wp_dup dX4_numberChains_76 rfl ?_
        refine wp_geti dX4_numberChains_77 fl_RX4_61 rfl (fk_9 (Fix_sI hF1)) ?_
        rw [hI_sI', if_neg (by omega), h3]
        refine wp_iconst (v := 1) dX4_numberChains_80 (by decide) ?_
        refine wp_iadd dX4_numberChains_81 ?_
        rw [nI_1]
        refine wp_puti dX4_numberChains_82 fl_RX4_61 (mp_4_6 _ _) rfl (fk_9 (Fix_sI hF1)) ?_
        refine wp_incN dX4_numberChains_85 rfl (by decide) ?_
        refine wp_goto (tgt := 8) dX4_numberChains_88 (by decide) ?_
        refine wp_forget 5 (ih (n + 1) _ (by omega) (by omega) (eqX_sI (eqX_sI he (Or.inl rfl)) (Or.inr ⟨rfl, rfl⟩)) (fun e he9 => ?_) (fun e he9 => ?_) ?_)
        · rw [hI_sI', if_neg (by omega), hI_sI']
          by_cases q : e = n
          · subst q; rw [if_pos ⟨rfl, rfl⟩, if_pos hkn, hval]
          · rw [if_neg (by omega)]; exact h1 e (by omega)
        · rw [hI_sI', if_neg (by omega), hI_sI', if_neg (by omega)]; exact h2 e (by omega)
        · rw [hI_sI', if_pos ⟨rfl, rfl⟩, hc1]
    · have hc0 : fb_ct (fun i => K.testBit i && decide (nib v i = i)) (n + 1) = fb_ct (fun i => K.testBit i && decide (nib v i = i)) n := by
        rw [fb_ct_succ, show K.testBit n = false by simpa using hkn]; rfl
      refine wp_iload dX4_numberChains_8 rfl ?_
      refine wp_bipush (v := 10) dX4_numberChains_10 (by decide) ?_
      refine wp_icmp_ge (tgt := 91) dX4_numberChains_12 (by decide) (fun h12 => absurd h12 (nI_ge (a := n) (b := 10) (by omega) (by decide))) (fun _ => ?_)
      refine wp_iload_n dX4_numberChains_15 rfl ?_
      refine wp_iload dX4_numberChains_16 rfl ?_
      refine wp_calls2 dX4_numberChains_18 lk_RX4_83 ok_X11_hasBit st_X11_hasBit (Nat.le_of_ble_eq_true rfl) (Nat.le_of_ble_eq_true rfl) ?_
      refine c_X11_hasBit ?_
      refine wp_ifb_ne (tgt := 27) dX4_numberChains_21 (by decide) (fun h21 => absurd h21 (fun q => hkn (hbit.mp q))) (fun _ => ?_)
      refine wp_goto (tgt := 85) dX4_numberChains_24 (by decide) ?_
      refine wp_incN dX4_numberChains_85 rfl (by decide) ?_
      refine wp_goto (tgt := 8) dX4_numberChains_88 (by decide) ?_
      refine ih (n + 1) _ (by omega) (by omega) he (fun e he9 => ?_) (fun e he9 => h2 e (by omega)) (by rw [hc0]; exact h3)
      by_cases q : e = n
      · subst q; rw [if_neg hkn]; exact h2 e (Nat.le_refl _)
      · exact h1 e (by omega)
theorem c_X4_numberChains (hF : Fix H) (hK : K < 1024) (hv : v < 2 ^ 62) (hg : nibOk v K g)
    (hq : ∀ H', eqX is12 H H' → (∀ n, n < 10 → hI H' 12 n = if K.testBit n = true then nI (g n) else hI H 12 n) → hI H' 9 6 = nI (fb_ct (fun i => K.testBit i && decide (nib v i = i)) 10) → Q none H') :
    Wp mX4_numberChains (d + 1) 0 0 0 [some (.ref 9), some (.long (lN v)), none, some (.int (nI K)), none, none] [] H Q := by
  refine wp_aload_n dX4_numberChains_0 rfl ?_
  refine wp_iconst (v := 0) dX4_numberChains_1 (by decide) ?_
  refine wp_puti dX4_numberChains_2 fl_RX4_61 (mp_4_6 _ _) rfl (fk_9 hF) ?_
  refine wp_iconst (v := 0) dX4_numberChains_5 (by decide) ?_
  refine wp_istore dX4_numberChains_6 (by decide) ?_
  refine l_X4_numberChains (H := H) hF hK hv hg hq 10 0 _ (by omega) (by omega) (eqX_sI eqX_rfl (Or.inr ⟨rfl, rfl⟩)) (fun e he => absurd he (Nat.not_lt_zero e)) (fun e _ => by rw [hI_sI', if_neg (by omega)]) (by rw [hI_sI', if_pos ⟨rfl, rfl⟩]; rfl)
end NC
