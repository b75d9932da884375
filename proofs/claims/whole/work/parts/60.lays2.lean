/-! ===== CarriageHire$Lays: all CHAINS weighed, the least LAY ===== -/
theorem hL_sL' (H : PH) (a k : Nat) (v : Int64) (a' k' : Nat) : hL (sL H a k v) a' k' = if a' = a ∧ k' = k then v else hL H a' k' := rfl
/-- the heap is the same but for longs of Lays' two rows -/
def eqL (H H' : PH) : Prop := hN H' = hN H ∧ hK H' = hK H ∧ hI H' = hI H ∧ hR H' = hR H ∧ ∀ a k, a ≠ 10 → a ≠ 11 → hL H' a k = hL H a k
theorem eqL_rfl {H : PH} : eqL H H := ⟨rfl, rfl, rfl, rfl, fun _ _ _ _ => rfl⟩
theorem eqL_sL {H H' : PH} {a k : Nat} {v : Int64} (h : eqL H H') (ha : a = 10 ∨ a = 11) : eqL H (sL H' a k v) := ⟨h.1, h.2.1, h.2.2.1, h.2.2.2.1, fun a' k' h1 h2 => by rw [hL_sL', if_neg (by omega)]; exact h.2.2.2.2 a' k' h1 h2⟩
theorem eqL_trans {H H' H'' : PH} (h : eqL H H') (h' : eqL H' H'') : eqL H H'' := ⟨h'.1.trans h.1, h'.2.1.trans h.2.1, h'.2.2.1.trans h.2.2.1, h'.2.2.2.1.trans h.2.2.2.1, fun a k h1 h2 => (h'.2.2.2.2 a k h1 h2).trans (h.2.2.2.2 a k h1 h2)⟩
theorem Fix_eqL {H H' : PH} (h : eqL H H') (hF : Fix H) : Fix H' := by unfold Fix; rw [h.2.1, h.2.2.2.1, h.1]; exact hF
theorem JS_eqL {H H' : PH} {m : Nat} {jo fr tt : Nat → Nat} (h : eqL H H') (hJ : JS H m jo fr tt) : JS H' m jo fr tt := by unfold JS; rw [h.2.1, h.2.2.1, h.2.2.2.1]; exact hJ
theorem WY_eqL {H H' : PH} {w : Nat → Nat → Nat} (h : eqL H H') (hw : WY H w) : WY H' w := by unfold WY wy; rw [h.2.2.1]; exact hw
theorem folB_eqL {H H' : PH} {jo fr tt : Nat → Nat} (h : eqL H H') : folB H' jo fr tt = folB H jo fr tt := by
  funext i j
  unfold folB cFol cEnd wy
  rw [h.2.2.1]
theorem ar1 {x s z f : Nat} (h1 : x ≤ s + z + (f + 1) * 300) (h2 : z ≤ 300) : x ≤ s + (f + 1 + 1) * 300 := by omega
theorem ar2 {x s f : Nat} (h1 : x ≤ s + (f + 1) * 300) : x ≤ s + (f + 1 + 1) * 300 := Nat.le_trans h1 (Nat.add_le_add_left (Nat.mul_le_mul_right 300 (Nat.le_succ _)) _)
theorem ar3 {a b k P : Nat} (h1 : a ≤ k * P) (h2 : b ≤ P) : a + b ≤ (k + 1) * P := by rw [Nat.succ_mul]; omega
theorem ar4 {s l : Nat} (h1 : s ≤ 4000) (h2 : l ≤ 10 * 2 ^ 40) : s * 2 ^ 40 + l ≤ 2 ^ 61 := by omega
theorem ljF_le (S : Nat) : ∀ k, k ≤ 10 → ljF S k ≤ k * 2 ^ 40
  | 0, _ => Nat.zero_le _
  | k + 1, hk => by
    have h3 := ljF_le S k (Nat.le_of_succ_le hk)
    have h4 : (lwB S (k + 1)).getD 0 ≤ 10 := by
      cases q : lwB S (k + 1) with
      | none => exact Nat.zero_le _
      | some l => exact Nat.le_trans (Nat.le_of_lt (lwB_lt q)) hk
    have h5 : (2 : Nat) ^ (4 * (9 - k)) ≤ 2 ^ 36 := Nat.pow_le_pow_right (by decide) (by omega)
    have h6 : (lwB S (k + 1)).getD 0 * 2 ^ (4 * (9 - k)) ≤ 2 ^ 40 := Nat.le_trans (Nat.mul_le_mul h4 h5) (by decide)
    have h7 : (if S.testBit k = true then (lwB S (k + 1)).getD 0 * 2 ^ (4 * (9 - k)) else 0) ≤ 2 ^ 40 := by
      by_cases q : S.testBit k = true
      · rw [if_pos q]; exact h6
      · rw [if_neg q]; exact Nat.zero_le _
    exact ar3 h3 h7
theorem keyO_le {S : Nat} {o : Option Nat} (ho : ∀ s, o = some s → s ≤ 4000) : keyO S o ≤ 2 ^ 61 := by
  cases o with
  | none => exact Nat.le_refl _
  | some s => exact ar4 (ho s rfl) (ljF_le S 10 (Nat.le_refl _))
theorem chF_le {fr tt ord : Nat → Nat} {w : Nat → Nat → Nat} {fol : Nat → Nat → Bool} {S m : Nat} (hw : ∀ a b, a < 8 → b < 8 → w a b ≤ 300) (hf : ∀ i, i < m → fr i < 8) (ht : ∀ i, i < m → tt i < 8) (hO : ∀ t, t < m → ord t < m) :
    ∀ (f t : Nat) (ah : Option Nat) (s x : Nat), t + f = m → (∀ p, ah = some p → p < m) → chF fr tt ord w fol S f t ah s = some x → x ≤ s + (f + 1) * 300
  | 0, t, none, s, x, hm, hah, h => by
    unfold chF at h; cases h; exact Nat.le_add_right _ _
  | 0, t, some p, s, x, hm, hah, h => by
    unfold chF at h; cases h
    exact Nat.add_le_add_left (hw (tt p) 0 (ht p (hah p rfl)) (by decide)) s
  | f + 1, t, none, s, x, hm, hah, h => by
    unfold chF at h
    have ho := hO t (by omega)
    by_cases q : S.testBit (ord t) = true
    · rw [if_pos q] at h
      exact ar1 (chF_le hw hf ht hO f (t + 1) _ _ x (by omega) (fun p hp => by cases hp; exact ho) h) (hw 0 (fr (ord t)) (by decide) (hf _ ho))
    · rw [if_neg q] at h
      exact ar2 (chF_le hw hf ht hO f (t + 1) _ _ x (by omega) (fun p hp => by cases hp) h)
  | f + 1, t, some p, s, x, hm, hah, h => by
    unfold chF at h
    have ho := hO t (by omega)
    by_cases q : S.testBit (ord t) = true
    · rw [if_pos q] at h
      by_cases q2 : fol p (ord t) = true
      · rw [if_pos q2] at h
        exact ar1 (chF_le hw hf ht hO f (t + 1) _ _ x (by omega) (fun p hp => by cases hp; exact ho) h) (hw (tt p) (fr (ord t)) (ht p (hah p rfl)) (hf _ ho))
      · rw [if_neg q2] at h; cases h
    · rw [if_neg q] at h
      exact ar2 (chF_le hw hf ht hO f (t + 1) _ _ x (by omega) hah h)
theorem ckF_le {fr tt ord : Nat → Nat} {w : Nat → Nat → Nat} {fol : Nat → Nat → Bool} {S m : Nat} (hw : ∀ a b, a < 8 → b < 8 → w a b ≤ 300) (hf : ∀ i, i < m → fr i < 8) (ht : ∀ i, i < m → tt i < 8) (hO : ∀ t, t < m → ord t < m) (hm : m ≤ 10) : ckF fr tt ord w fol m S ≤ 2 ^ 61 := by
  refine keyO_le (fun s hs => ?_)
  have := chF_le hw hf ht hO m 0 none 0 s (by omega) (fun p hp => by cases hp) hs
  omega
section LW
variable {d m K : Nat} {jo fr tt ord : Nat → Nat} {w : Nat → Nat → Nat} {H : PH} {Q : Option Value → PH → Prop}
def weighed (ck : Nat → Nat) (K P : Nat) (H H' : PH) : Prop := eqL H H' ∧ (∀ S, S ≠ 0 → sub S K → P < S → hL H' 10 S = lN (ck S) ∧ hL H' 11 S = lN (ck S)) ∧ hL H' 11 0 = hL H 11 0
theorem l_X4_weighChains (hF : Fix H) (hJ : JS H m jo fr tt) (hO : ∀ t, t < m → hI H 8 t = nI (ord t) ∧ ord t < m) (hw : WY H w) (hK : K < 1024)
    (hq : ∀ H', weighed (ckF fr tt ord w (folB H jo fr tt) m) K 0 H H' → Q none H') :
    ∀ (n P : Nat) (H1 : PH), P ≤ n → sub P K → weighed (ckF fr tt ord w (folB H jo fr tt) m) K P H H1 → Wp mX4_weighChains (d + 4) 0 0 2 [some (.ref 9), some (.int (nI K)), some (.int (nI P))] [] H1 Q := by
  intro n
  induction n with
  | zero =>
    intro P H1 hP hs hW
    have hin : P = 0 := by omega
    subst hin
    have hF1 := Fix_eqL hW.1 hF
    refine wp_iload_n dX4_weighChains_2 rfl ?_
    refine wp_if_le (tgt := 38) dX4_weighChains_3 (by decide) (fun _ => ?_) (fun h3 => absurd h3 (fun q => q (by decide)))
    refine wp_return rfl dX4_weighChains_38 ?_
    exact hq H1 hW
  | succ n ih =>
    intro P H1 hP hs hW
    have hF1 := Fix_eqL hW.1 hF
    have hPK := sub_le hs
    have hP1 : P < 1024 := by omega
    cases P with
    | zero =>
      refine wp_iload_n dX4_weighChains_2 rfl ?_
      refine wp_if_le (tgt := 38) dX4_weighChains_3 (by decide) (fun _ => ?_) (fun h3 => absurd h3 (fun q => q (by decide)))
      refine wp_return rfl dX4_weighChains_38 ?_
      exact hq H1 hW
    | succ P =>
      have hO1 : ∀ t, t < m → hI H1 8 t = nI (ord t) ∧ ord t < m := by rw [hW.1.2.2.1]; exact hO
      have hc := @c_X4_chainKey d m (P + 1) jo fr tt ord w H1
      refine wp_iload_n dX4_weighChains_2 rfl ?_
      refine wp_if_le (tgt := 38) dX4_weighChains_3 (by decide) (fun h3 => absurd h3 (nI_nle (by omega) (by omega))) (fun _ => ?_)
      refine wp_aload_n dX4_weighChains_6 rfl ?_
      refine wp_geta dX4_weighChains_7 fl_RX4_11 rfl (fk_9 hF1) (fr_9_1 hF1) ?_
      refine wp_iload_n dX4_weighChains_10 rfl ?_
      refine wp_aload_n dX4_weighChains_11 rfl ?_
      refine wp_iload_n dX4_weighChains_12 rfl ?_
      refine wp_callv1 (ci := 4) dX4_weighChains_13 lk_RX4_68 ok_X4_chainKey im_X4_chainKey se_X4_chainKey rfl rfl (fk_9 hF1) (Nat.le_of_ble_eq_true rfl) (Nat.le_of_ble_eq_true rfl) ?_
      refine hc hF1 (JS_eqL hW.1 hJ) hO1 (WY_eqL hW.1 hw) hP1 ?_
      rw [folB_eqL hW.1]
      refine wp_lastoreN dX4_weighChains_16 (fk_10 hF1) (by omega) (by decide) ?_
      refine wp_aload_n dX4_weighChains_17 rfl ?_
      refine wp_geta dX4_weighChains_18 fl_RX4_15 rfl (fk_9 (Fix_sL hF1)) (fr_9_2 (Fix_sL hF1)) ?_
      refine wp_iload_n dX4_weighChains_21 rfl ?_
      refine wp_aload_n dX4_weighChains_22 rfl ?_
      refine wp_geta dX4_weighChains_23 fl_RX4_11 rfl (fk_9 (Fix_sL hF1)) (fr_9_1 (Fix_sL hF1)) ?_
      refine wp_iload_n dX4_weighChains_26 rfl ?_
      refine wp_laloadN dX4_weighChains_27 (fk_10 (Fix_sL hF1)) (by omega) (by decide) ?_
      rw [hL_sL', if_pos ⟨rfl, rfl⟩]
      refine wp_lastoreN dX4_weighChains_28 (fk_11 (Fix_sL hF1)) (by omega) (by decide) ?_
      refine wp_iload_n dX4_weighChains_29 rfl ?_
      refine wp_iconst (v := 1) dX4_weighChains_30 (by decide) ?_
      refine wp_isub dX4_weighChains_31 ?_
      rw [nI_pred]
      refine wp_iload_n dX4_weighChains_32 rfl ?_
      refine wp_iand dX4_weighChains_33 ?_
      rw [fa_and]
      refine wp_istore_n dX4_weighChains_34 (by decide) ?_
      refine wp_goto (tgt := 2) dX4_weighChains_35 (by decide) ?_
      have hle : P &&& K ≤ P := Nat.and_le_left
      refine ih (P &&& K) _ (by omega) (sub_andR P K) ⟨eqL_sL (eqL_sL hW.1 (Or.inl rfl)) (Or.inr rfl), fun S h0 hS hlt => ?_, ?_⟩
      · rw [hL_sL', hL_sL', hL_sL', hL_sL']
        by_cases q : S = P + 1
        · subst q
          simp
        · have : ¬ S < P + 1 := fun z => by
            have := sub_next (P + 1) K S hs hS z
            rw [Nat.add_sub_cancel] at this
            omega
          have h9 := hW.2.1 S h0 hS (by omega)
          rw [if_neg (by omega), if_neg (by omega), if_neg (by omega), if_neg (by omega)]
          exact h9
      · rw [hL_sL', if_neg (by omega), hL_sL', if_neg (by omega)]; exact hW.2.2
theorem c_X4_weighChains (hF : Fix H) (hJ : JS H m jo fr tt) (hO : ∀ t, t < m → hI H 8 t = nI (ord t) ∧ ord t < m) (hw : WY H w) (hK : K < 1024)
    (hq : ∀ H', weighed (ckF fr tt ord w (folB H jo fr tt) m) K 0 H H' → Q none H') : Wp mX4_weighChains (d + 4) 0 0 0 [some (.ref 9), some (.int (nI K)), none] [] H Q := by
  refine wp_iload_n dX4_weighChains_0 rfl ?_
  refine wp_istore_n dX4_weighChains_1 (by decide) ?_
  exact l_X4_weighChains hF hJ hO hw hK hq K K H (Nat.le_refl _) (sub_rfl K) ⟨eqL_rfl, fun S h0 hS hlt => absurd (sub_le hS) (by omega), rfl⟩
end LW
section LS
variable {d S : Nat} {ck : Nat → Nat} {R : Nat → Nat → Prop} {H : PH} {Q : Option Value → PH → Prop}
theorem or_1024 {a b : Nat} (ha : a < 1024) (hb : b < 1024) : a ||| b < 1024 := Nat.or_lt_two_pow (n := 10) ha hb
theorem xor_1024 {a b : Nat} (ha : a < 1024) (hb : b < 1024) : a ^^^ b < 1024 := Nat.xor_lt_two_pow (n := 10) ha hb
theorem split_sub {S P : Nat} (hS : S < 1024) (h : sub P (oth S)) : sub (lb S ||| P) S := sub_bit.mpr (fun i hi => by
  rw [Nat.testBit_or, Bool.or_eq_true] at hi
  rcases hi with q | q
  · exact sub_bit.mp (lb_sub hS) i q
  · exact sub_bit.mp (oth_sub S) i (sub_bit.mp h i q))
theorem split_xor {S P : Nat} (h : sub P (oth S)) : sub (oth S ^^^ P) (oth S) := sub_bit.mpr (fun i hi => by
  rw [Nat.testBit_xor] at hi
  cases q : (oth S).testBit i with
  | true => rfl
  | false =>
    rw [q] at hi
    have : P.testBit i = true := by simpa using hi
    rw [sub_bit.mp h i this] at q; cases q)
theorem split_ne {S P : Nat} (hS : S < 1024) (h0 : S ≠ 0) : lb S ||| P ≠ 0 := fun e => by
  have h1 := (lb_all S hS).2.2.2.1.resolve_left h0
  obtain ⟨i, hi⟩ := bit_ex h1
  have : (lb S ||| P).testBit i = true := by rw [Nat.testBit_or, hi]; rfl
  rw [e, Nat.zero_testBit] at this; cases this
def lsOk (ck : Nat → Nat) (R : Nat → Nat → Prop) (S v : Nat) : Prop := v ≤ 2 ^ 61 ∧ (∀ P, sub P (oth S) → ∃ u, R (oth S ^^^ P) u ∧ v ≤ ck (lb S ||| P) + u) ∧ (v = 2 ^ 61 ∨ ∃ P u, sub P (oth S) ∧ R (oth S ^^^ P) u ∧ v = ck (lb S ||| P) + u)
theorem l_X4_leastSplit (hF : Fix H) (hS : S < 1024) (h0 : S ≠ 0) (hc : ∀ T, T ≠ 0 → sub T S → hL H 10 T = lN (ck T) ∧ ck T ≤ 2 ^ 61) (hl : ∀ T, sub T (oth S) → ∃ u, hL H 11 T = lN u ∧ R T u ∧ u ≤ 2 ^ 61)
    (hq : ∀ v, lsOk ck R S v → Q (some (.long (lN v))) H) :
    ∀ (n P v : Nat), P ≤ n → sub P (oth S) → v ≤ 2 ^ 62 → (∀ P', sub P' (oth S) → (P < P' ∨ P' = 0) → ∃ u, R (oth S ^^^ P') u ∧ v ≤ ck (lb S ||| P') + u) → (∃ P' u, sub P' (oth S) ∧ R (oth S ^^^ P') u ∧ v = ck (lb S ||| P') + u) →
    Wp mX4_leastSplit (d + 1) 0 0 27 [some (.ref 9), some (.int (nI S)), some (.int (nI (lb S))), some (.int (nI (oth S))), some (.long (lN v)), none, some (.int (nI P))] [] H Q := by
  have hO := Nat.lt_of_le_of_lt (sub_le (oth_sub S)) hS
  have hlb := (lb_all S hS).2.2.2.2.1
  have hend : ∀ v, v ≤ 2 ^ 62 → (∀ P', sub P' (oth S) → ∃ u, R (oth S ^^^ P') u ∧ v ≤ ck (lb S ||| P') + u) → (∃ P' u, sub P' (oth S) ∧ R (oth S ^^^ P') u ∧ v = ck (lb S ||| P') + u) → Wp mX4_leastSplit (d + 1) 0 0 27 [some (.ref 9), some (.int (nI S)), some (.int (nI (lb S))), some (.int (nI (oth S))), some (.long (lN v)), none, some (.int (nI 0))] [] H Q := by
    intro v hv h1 h2
    refine wp_iload dX4_leastSplit_27 rfl ?_
    refine wp_if_le (tgt := 69) dX4_leastSplit_29 (by decide) (fun _ => ?_) (fun h29 => absurd h29 (fun q => q (by decide)))
    refine wp_lload dX4_leastSplit_69 rfl ?_
    refine wp_ldc2_w dX4_leastSplit_71 co_RX4_56 ?_
    refine wp_calls2 dX4_leastSplit_74 lk_RX4_112 ok_J9_min_f86c9 st_J9_min_f86c9 (Nat.le_of_ble_eq_true rfl) (Nat.le_of_ble_eq_true rfl) ?_
    refine c_J9_min_f86c9 (a := v) (b := 2 ^ 61) (by omega) (by decide) ?_
    refine wp_lreturn rfl dX4_leastSplit_77 ?_
    refine hq _ ⟨Nat.min_le_right _ _, fun P hP => ?_, ?_⟩
    · obtain ⟨u, hu, hle⟩ := h1 P hP
      exact ⟨u, hu, Nat.le_trans (Nat.min_le_left _ _) hle⟩
    · rcases Nat.le_total v (2 ^ 61) with q | q
      · rw [Nat.min_eq_left q]; exact Or.inr h2
      · rw [Nat.min_eq_right q]; exact Or.inl rfl
  intro n
  induction n with
  | zero =>
    intro P v hP hs hv h1 h2
    have hin : P = 0 := by omega
    subst hin
    exact hend v hv (fun P' hP' => h1 P' hP' (by omega)) h2
  | succ n ih =>
    intro P v hP hs hv h1 h2
    cases P with
    | zero => exact hend v hv (fun P' hP' => h1 P' hP' (by omega)) h2
    | succ P =>
      have hPO := sub_le hs
      obtain ⟨u, hu1, hu2, hu3⟩ := hl (oth S ^^^ (P + 1)) (split_xor hs)
      have hcc := hc (lb S ||| (P + 1)) (split_ne hS h0) (split_sub hS hs)
      have hor : lb S ||| (P + 1) < 1024 := or_1024 hlb (by omega)
      have hxo : oth S ^^^ (P + 1) < 1024 := xor_1024 hO (by omega)
      refine wp_iload dX4_leastSplit_27 rfl ?_
      refine wp_if_le (tgt := 69) dX4_leastSplit_29 (by decide) (fun h29 => absurd h29 (nI_nle (by omega) (by omega))) (fun _ => ?_)
      refine wp_lload dX4_leastSplit_32 rfl ?_
      refine wp_aload_n dX4_leastSplit_34 rfl ?_
      refine wp_geta dX4_leastSplit_35 fl_RX4_11 rfl (fk_9 hF) (fr_9_1 hF) ?_
      refine wp_iload_n dX4_leastSplit_38 rfl ?_
      refine wp_iload dX4_leastSplit_39 rfl ?_
      refine wp_ior dX4_leastSplit_41 ?_
      rw [fa_or]
      refine wp_laloadN dX4_leastSplit_42 (fk_10 hF) (by omega) (by decide) ?_
      rw [hcc.1]
      refine wp_aload_n dX4_leastSplit_43 rfl ?_
      refine wp_geta dX4_leastSplit_44 fl_RX4_15 rfl (fk_9 hF) (fr_9_2 hF) ?_
      refine wp_iload_n dX4_leastSplit_47 rfl ?_
      refine wp_iload dX4_leastSplit_48 rfl ?_
      refine wp_ixor dX4_leastSplit_50 ?_
      rw [fb_xorI]
      refine wp_laloadN dX4_leastSplit_51 (fk_11 hF) (by omega) (by decide) ?_
      rw [hu1]
      refine wp_ladd dX4_leastSplit_52 ?_
      rw [lN_add]
      refine wp_calls2 dX4_leastSplit_53 lk_RX4_112 ok_J9_min_f86c9 st_J9_min_f86c9 (Nat.le_of_ble_eq_true rfl) (Nat.le_of_ble_eq_true rfl) ?_
      refine c_J9_min_f86c9 (by omega) (by omega) ?_
      refine wp_lstore dX4_leastSplit_56 (by decide) ?_
      refine wp_iload dX4_leastSplit_58 rfl ?_
      refine wp_iconst (v := 1) dX4_leastSplit_60 (by decide) ?_
      refine wp_isub dX4_leastSplit_61 ?_
      rw [nI_pred]
      refine wp_iload_n dX4_leastSplit_62 rfl ?_
      refine wp_iand dX4_leastSplit_63 ?_
      rw [fa_and]
      refine wp_istore dX4_leastSplit_64 (by decide) ?_
      refine wp_goto (tgt := 27) dX4_leastSplit_66 (by decide) ?_
      have hle : P &&& oth S ≤ P := Nat.and_le_left
      have hm := Nat.min_le_left v (ck (lb S ||| (P + 1)) + u)
      refine ih (P &&& oth S) _ (by omega) (sub_andR P _) (by omega) (fun P' hP' hlt => ?_) ?_
      · by_cases q : P' = P + 1
        · subst q; exact ⟨u, hu2, Nat.min_le_right _ _⟩
        · have : P + 1 < P' ∨ P' = 0 := by
            rcases hlt with z | z
            · left
              have : ¬ P' < P + 1 := fun y => by
                have := sub_next (P + 1) (oth S) P' hs hP' y
                rw [Nat.add_sub_cancel] at this
                omega
              omega
            · right; exact z
          obtain ⟨u', g1, g2⟩ := h1 P' hP' this
          exact ⟨u', g1, Nat.le_trans hm g2⟩
      · rcases Nat.le_total v (ck (lb S ||| (P + 1)) + u) with q | q
        · rw [Nat.min_eq_left q]; exact h2
        · rw [Nat.min_eq_right q]; exact ⟨P + 1, u, hs, hu2, rfl⟩
theorem c_X4_leastSplit (hF : Fix H) (hS : S < 1024) (h0 : S ≠ 0) (hc : ∀ T, T ≠ 0 → sub T S → hL H 10 T = lN (ck T) ∧ ck T ≤ 2 ^ 61) (hl : ∀ T, sub T (oth S) → ∃ u, hL H 11 T = lN u ∧ R T u ∧ u ≤ 2 ^ 61)
    (hq : ∀ v, lsOk ck R S v → Q (some (.long (lN v))) H) : Wp mX4_leastSplit (d + 1) 0 0 0 [some (.ref 9), some (.int (nI S)), none, none, none, none, none] [] H Q := by
  have hO := Nat.lt_of_le_of_lt (sub_le (oth_sub S)) hS
  have hall := lb_all S hS
  have hlb := hall.2.2.2.2.1
  obtain ⟨u, hu1, hu2, hu3⟩ := hl (oth S) (sub_rfl _)
  have hcc := hc (lb S) (hall.2.2.2.1.resolve_left h0) (lb_sub hS)
  have e1 : oth S ^^^ 0 = oth S := Nat.xor_zero _
  have e2 : lb S ||| 0 = lb S := Nat.or_zero _
  refine wp_iload_n dX4_leastSplit_0 rfl ?_
  refine wp_iload_n dX4_leastSplit_1 rfl ?_
  refine wp_ineg dX4_leastSplit_2 ?_
  refine wp_iand dX4_leastSplit_3 ?_
  rw [hall.1]
  refine wp_istore_n dX4_leastSplit_4 (by decide) ?_
  refine wp_iload_n dX4_leastSplit_5 rfl ?_
  refine wp_iload_n dX4_leastSplit_6 rfl ?_
  refine wp_ixor dX4_leastSplit_7 ?_
  rw [hall.2.1]
  refine wp_istore_n dX4_leastSplit_8 (by decide) ?_
  refine wp_aload_n dX4_leastSplit_9 rfl ?_
  refine wp_geta dX4_leastSplit_10 fl_RX4_11 rfl (fk_9 hF) (fr_9_1 hF) ?_
  refine wp_iload_n dX4_leastSplit_13 rfl ?_
  refine wp_laloadN dX4_leastSplit_14 (fk_10 hF) (by omega) (by decide) ?_
  rw [hcc.1]
  refine wp_aload_n dX4_leastSplit_15 rfl ?_
  refine wp_geta dX4_leastSplit_16 fl_RX4_15 rfl (fk_9 hF) (fr_9_2 hF) ?_
  refine wp_iload_n dX4_leastSplit_19 rfl ?_
  refine wp_laloadN dX4_leastSplit_20 (fk_11 hF) (by omega) (by decide) ?_
  rw [hu1]
  refine wp_ladd dX4_leastSplit_21 ?_
  rw [lN_add]
  refine wp_lstore dX4_leastSplit_22 (by decide) ?_
  refine wp_iload_n dX4_leastSplit_24 rfl ?_
  refine wp_istore dX4_leastSplit_25 (by decide) ?_
  refine l_X4_leastSplit hF hS h0 hc hl hq _ (oth S) _ (Nat.le_refl _) (sub_rfl _) (by omega) (fun P' hP' hlt => ?_) ⟨0, u, sub_0 _, by rw [e1]; exact hu2, by rw [e2]⟩
  rcases hlt with q | q
  · exact absurd (sub_le hP') (by omega)
  · subst q; rw [e1, e2]; exact ⟨u, hu2, Nat.le_refl _⟩
end LS
