/-! ===== CarriageHire$Lays: refresh ===== -/
def is9 (a k : Nat) : Prop := a = 12 ∨ (a = 9 ∧ 4 ≤ k)
/-- the heap is the same but for what Lays keeps -/
def eqZ (H H' : PH) : Prop := hN H' = hN H ∧ hK H' = hK H ∧ hR H' = hR H ∧ (∀ a k, ¬ is9 a k → hI H' a k = hI H a k) ∧ ∀ a k, a ≠ 10 → a ≠ 11 → hL H' a k = hL H a k
theorem eqZ_X {A : Nat → Nat → Prop} {H H' : PH} (h : eqX A H H') (hA : ∀ a k, A a k → is9 a k) : eqZ H H' := ⟨h.1, h.2.1, h.2.2.2.1, fun a k q => h.2.2.2.2 a k (fun z => q (hA a k z)), fun a k _ _ => by rw [h.2.2.1]⟩
theorem eqZ_L {H H' : PH} (h : eqL H H') : eqZ H H' := ⟨h.1, h.2.1, h.2.2.2.1, fun a k _ => by rw [h.2.2.1], h.2.2.2.2⟩
theorem eqZ_trans {H H' H'' : PH} (h : eqZ H H') (h' : eqZ H' H'') : eqZ H H'' := ⟨h'.1.trans h.1, h'.2.1.trans h.2.1, h'.2.2.1.trans h.2.2.1, fun a k q => (h'.2.2.2.1 a k q).trans (h.2.2.2.1 a k q), fun a k h1 h2 => (h'.2.2.2.2 a k h1 h2).trans (h.2.2.2.2 a k h1 h2)⟩
theorem eqZ_sI {H H' : PH} {a k : Nat} {v : Int32} (h : eqZ H H') (ha : is9 a k) : eqZ H (sI H' a k v) := ⟨h.1, h.2.1, h.2.2.1, fun a' k' q => by rw [hI_sI', if_neg (fun e => q (by rw [e.1, e.2]; exact ha))]; exact h.2.2.2.1 a' k' q, h.2.2.2.2⟩
theorem eqZ_rfl {H : PH} : eqZ H H := ⟨rfl, rfl, rfl, fun _ _ _ => rfl, fun _ _ _ _ => rfl⟩
theorem Fix_eqZ {H H' : PH} (h : eqZ H H') (hF : Fix H) : Fix H' := by unfold Fix; rw [h.2.1, h.2.2.1, h.1]; exact hF
theorem n9 {a k : Nat} (h : a ≠ 12 ∧ a ≠ 9) : ¬ is9 a k := fun q => q.elim h.1 (fun z => h.2 z.1)
theorem JS_eqZ {H H' : PH} {m : Nat} {jo fr tt : Nat → Nat} (h : eqZ H H') (hJ : JS H m jo fr tt) : JS H' m jo fr tt := by
  obtain ⟨h1, h2, h3, h4, h5, h6, h7, h8⟩ := hJ
  refine ⟨?_, h2, ?_, ?_, h5, h6, fun i hi => ?_, fun i hi => ?_⟩
  · rw [h.2.2.2.1 5 3 (n9 (by omega))]; exact h1
  · rw [h.2.2.1]; exact h3
  · rw [h.2.1]; exact h4
  · have := h5 i hi
    rw [h.2.2.2.1 (jo i) 1 (n9 (by omega))]; exact h7 i hi
  · have := h5 i hi
    rw [h.2.2.2.1 (jo i) 2 (n9 (by omega))]; exact h8 i hi
theorem WY_eqZ {H H' : PH} {w : Nat → Nat → Nat} (h : eqZ H H') (hw : WY H w) : WY H' w := fun a b ha hb => by
  have := hw a b ha hb
  unfold wy at this ⊢
  rw [h.2.2.2.1 6 _ (n9 (by omega))]; exact this
theorem folB_eqZ {H H' : PH} {jo fr tt : Nat → Nat} (h : eqZ H H') {i j : Nat} (hi : 69 < jo i) (hj : 69 < jo j) : folB H' jo fr tt i j = folB H jo fr tt i j := by
  unfold folB cFol cEnd wy
  rw [h.2.2.2.1 6 _ (n9 (by omega)), h.2.2.2.1 6 _ (n9 (by omega)), h.2.2.2.1 (jo i) 3 (n9 (by omega)), h.2.2.2.1 (jo i) 4 (n9 (by omega)), h.2.2.2.1 (jo j) 3 (n9 (by omega))]
theorem chF_fol {fr tt ord : Nat → Nat} {w : Nat → Nat → Nat} {fol fol' : Nat → Nat → Bool} {S m : Nat} (hf : ∀ i j, i < m → j < m → fol i j = fol' i j) (hO : ∀ t, t < m → ord t < m) : ∀ (f t : Nat) (ah : Option Nat) (s : Nat), t + f = m → (∀ p, ah = some p → p < m) → chF fr tt ord w fol S f t ah s = chF fr tt ord w fol' S f t ah s
  | 0, t, none, s, _, _ => rfl
  | 0, t, some p, s, _, _ => rfl
  | f + 1, t, none, s, hm, hah => by
    unfold chF
    rw [chF_fol hf hO f (t + 1) _ _ (by omega) (fun p hp => by cases hp; exact hO t (by omega)), chF_fol hf hO f (t + 1) _ _ (by omega) (fun p hp => by cases hp)]
  | f + 1, t, some p, s, hm, hah => by
    unfold chF
    rw [chF_fol hf hO f (t + 1) _ _ (by omega) (fun p hp => by cases hp; exact hO t (by omega)), chF_fol hf hO f (t + 1) _ _ (by omega) hah, hf p (ord t) (hah p rfl) (hO t (by omega))]
theorem chF_0 (fr tt ord : Nat → Nat) (w : Nat → Nat → Nat) (fol : Nat → Nat → Bool) : ∀ f t, chF fr tt ord w fol 0 f t none 0 = some 0
  | 0, _ => rfl
  | f + 1, t => by unfold chF; rw [if_neg (by rw [Nat.zero_testBit]; decide)]; exact chF_0 fr tt ord w fol f (t + 1)
theorem kbF_nI (H : PH) (jo : Nat → Nat) : ∀ m, m ≤ 16 → kbF H jo m = nI (mkM (fun j => decide (hI H (jo j) 8 = 0)) m)
  | 0, _ => rfl
  | m + 1, h => by
    unfold kbF mkM
    rw [kbF_nI H jo m (by omega)]
    by_cases q : hI H (jo m) 8 = 0
    · rw [if_pos q, if_pos (decide_eq_true q), or_pow (mkM_lt _ _) (by omega)]
    · rw [if_neg q, if_neg (by rw [decide_eq_false q]; decide), Nat.add_zero, show (0 : Int32) = nI 0 from rfl, fa_or, Nat.or_zero]
theorem mkM_cong {p q : Nat → Bool} : ∀ {n : Nat}, (∀ i, i < n → p i = q i) → mkM p n = mkM q n
  | 0, _ => rfl
  | n + 1, h => by unfold mkM; rw [mkM_cong (fun i hi => h i (by omega)), h n (by omega)]
/-- what refresh leaves, by the least key -/
def layAns (K v : Nat) (H' : PH) : Prop := (2 ^ 61 ≤ v → hI H' 9 5 = -2 ∧ hI H' 9 6 = -2 ∧ ∀ n, n < 10 → hI H' 12 n = -1) ∧ (v < 2 ^ 61 → hI H' 9 5 = nI (v / 2 ^ 40) ∧ hI H' 9 6 = nI (fb_ct (fun i => K.testBit i && decide (nib v i = i)) 10) ∧ ∀ g, nibOk v K g → ∀ n, n < 10 → hI H' 12 n = if K.testBit n = true then nI (g n) else -1)
theorem c_X4_refresh {d m car : Nat} {jo fr tt ord : Nat → Nat} {w : Nat → Nat → Nat} {H : PH} {Q : Option Value → PH → Prop} (hF : Fix H) (hJ : JS H m jo fr tt) (hO : ∀ t, t < m → hI H 8 t = nI (ord t) ∧ ord t < m) (hw : WY H w) (hcar : hI H 5 4 = nI car) (hc1 : 1 ≤ car) (hc6 : car ≤ 6) (hl0 : hL H 11 0 = 0)
    (hq1 : hI H 9 4 = hI H 5 5 → Q none H)
    (hq2 : hI H 9 4 ≠ hI H 5 5 → ∀ H' v, eqZ H H' → hL H' 11 0 = 0 → hI H' 9 4 = hI H 5 5 → isOpt (ckF fr tt ord w (folB H jo fr tt) m) car (mkM (fun j => decide (hI H (jo j) 8 = 0)) m) v → layAns (mkM (fun j => decide (hI H (jo j) 8 = 0)) m) v H' → Q none H') :
    Wp mX4_refresh (d + 5) 0 0 0 [some (.ref 9), none, none, none] [] H Q := by
  have h10 := hJ.2.1
  have hl69 := hJ.2.2.2.2.1
  have z1 : eqZ H (sI H 9 4 (hI H 5 5)) := eqZ_sI eqZ_rfl (Or.inr ⟨rfl, Nat.le_refl _⟩)
  have hJ1 := JS_eqZ z1 hJ
  have hO1 : ∀ t, t < m → hI (sI H 9 4 (hI H 5 5)) 8 t = nI (ord t) ∧ ord t < m := fun t ht => by rw [hI_sI', if_neg (by omega)]; exact hO t ht
  have hw1 := WY_eqZ z1 hw
  have hkm : mkM (fun j => decide (hI H (jo j) 8 = 0)) m < 1024 := Nat.lt_of_lt_of_le (mkM_lt _ m) (Nat.pow_le_pow_right (n := 2) (by decide) h10)
  have hkb : kbF (sI H 9 4 (hI H 5 5)) jo m = nI (mkM (fun j => decide (hI H (jo j) 8 = 0)) m) := by
    rw [kbF_nI _ _ m (by omega)]
    congr 1
    exact mkM_cong (fun j hj => by have := hl69 j hj; rw [hI_sI', if_neg (by omega)])
  have hcke : ckF fr tt ord w (folB (sI H 9 4 (hI H 5 5)) jo fr tt) m = ckF fr tt ord w (folB H jo fr tt) m := by
    funext S
    unfold ckF
    rw [chF_fol (fun i j hi hj => folB_eqZ z1 (hl69 i hi) (hl69 j hj)) (fun t ht => (hO t ht).2) m 0 none 0 (by omega) (fun p hp => by cases hp)]
  have hckl : ∀ S, ckF fr tt ord w (folB H jo fr tt) m S ≤ 2 ^ 61 := fun S => ckF_le (fun a b ha hb => (hw a b ha hb).2) (fun i hi => (hJ.2.2.2.2.2.2.1 i hi).2) (fun i hi => (hJ.2.2.2.2.2.2.2 i hi).2) (fun t ht => (hO t ht).2) h10
  generalize hKe : mkM (fun j => decide (hI H (jo j) 8 = 0)) m = K at *
  refine wp_aload_n dX4_refresh_0 rfl ?_
  refine wp_geti dX4_refresh_1 fl_RX4_22 rfl (fk_9 hF) ?_
  refine wp_aload_n dX4_refresh_4 rfl ?_
  refine wp_geta dX4_refresh_5 fl_RX4_26 rfl (fk_9 hF) (fr_9_0 hF) ?_
  refine wp_geti dX4_refresh_8 fl_RX4_30 rfl (fk_5 hF) ?_
  refine wp_icmp_ne (tgt := 15) dX4_refresh_11 (by decide) (fun h11 => ?_) (fun h11 => ?_)
  · refine wp_aload_n dX4_refresh_15 rfl ?_
    refine wp_aload_n dX4_refresh_16 rfl ?_
    refine wp_geta dX4_refresh_17 fl_RX4_26 rfl (fk_9 hF) (fr_9_0 hF) ?_
    refine wp_geti dX4_refresh_20 fl_RX4_30 rfl (fk_5 hF) ?_
    refine wp_puti dX4_refresh_23 fl_RX4_22 (mp_4_4 _ _) rfl (fk_9 hF) ?_
    refine wp_aload_n dX4_refresh_26 rfl ?_
    refine wp_geta dX4_refresh_27 fl_RX4_26 rfl (fk_9 (Fix_sI hF)) (fr_9_0 (Fix_sI hF)) ?_
    refine wp_callv0 (ci := 1) dX4_refresh_30 lk_RX4_35 ok_X1_keptBits im_X1_keptBits se_X1_keptBits rfl rfl (fk_5 (Fix_sI hF)) (Nat.le_of_ble_eq_true rfl) (Nat.le_of_ble_eq_true rfl) ?_
    refine c_X1_keptBits (Fix_sI hF) hJ1 ?_
    rw [hkb]
    refine wp_istore_n dX4_refresh_33 (by decide) ?_
    refine wp_aload_n dX4_refresh_34 rfl ?_
    refine wp_iload_n dX4_refresh_35 rfl ?_
    refine wp_callv1 (ci := 4) dX4_refresh_36 lk_RX4_39 ok_X4_weighChains im_X4_weighChains se_X4_weighChains rfl rfl (fk_9 (Fix_sI hF)) (Nat.le_of_ble_eq_true rfl) (Nat.le_of_ble_eq_true rfl) ?_
    refine c_X4_weighChains (Fix_sI hF) hJ1 hO1 hw1 hkm (fun H2 hW => ?_)
    rw [hcke] at hW
    have z2 : eqZ H H2 := eqZ_trans z1 (eqZ_L hW.1)
    have hF2 := Fix_eqZ z2 hF
    have hcar2 : hI H2 5 4 = nI car := (z2.2.2.2.1 5 4 (n9 (by omega))).trans hcar
    have h94 : hI H2 9 4 = hI H 5 5 := by rw [hW.1.2.2.1, hI_sI', if_pos ⟨rfl, rfl⟩]
    refine wp_aload_n dX4_refresh_39 rfl ?_
    refine wp_iload_n dX4_refresh_40 rfl ?_
    refine wp_aload_n dX4_refresh_41 rfl ?_
    refine wp_geta dX4_refresh_42 fl_RX4_26 rfl (fk_9 hF2) (fr_9_0 hF2) ?_
    refine wp_geti dX4_refresh_45 fl_RX4_43 rfl (fk_5 hF2) ?_
    rw [hcar2]
    refine wp_callv2 (ci := 4) dX4_refresh_48 lk_RX4_46 ok_X4_leastLay im_X4_leastLay se_X4_leastLay rfl rfl (fk_9 hF2) (Nat.le_of_ble_eq_true rfl) (Nat.le_of_ble_eq_true rfl) ?_
    refine c_X4_leastLay (ck := ckF fr tt ord w (folB H jo fr tt) m) hF2 hkm hc6 hc1 (fun T h0 hT => ⟨(hW.2.1 T h0 hT (by omega)).1, hckl T⟩) (fun T h0 hT => (hW.2.1 T h0 hT (by omega)).2) (hW.2.2.trans hl0) (fun H3 v he3 h3 hopt => ?_)
    have z3 : eqZ H H3 := eqZ_trans z2 (eqZ_L he3)
    have hF3 := Fix_eqZ z3 hF
    have hv := hopt.1
    refine wp_lstore_n dX4_refresh_51 (by decide) ?_
    refine wp_aload_n dX4_refresh_52 rfl ?_
    refine wp_geta dX4_refresh_53 fl_RX4_18 rfl (fk_9 hF3) (fr_9_3 hF3) ?_
    refine wp_iconst (v := -1) dX4_refresh_56 (by decide) ?_
    refine wp_calls2 dX4_refresh_57 lk_RX4_50 ok_J7_fill_53178 st_J7_fill_53178 (Nat.le_of_ble_eq_true rfl) (Nat.le_of_ble_eq_true rfl) ?_
    refine c_J7_fill (fk_12 hF3) (by decide) (fun H4 he4 h4 => ?_)
    have z4 : eqZ H H4 := eqZ_trans z3 (eqZ_X he4 (fun a k q => Or.inl q))
    have hF4 := Fix_eqZ z4 hF
    have h94' : hI H4 9 4 = hI H 5 5 := by rw [he4.2.2.2.2 9 4 (by omega), he3.2.2.1]; exact h94
    have h40 : hL H4 11 0 = 0 := by rw [he4.2.2.1]; exact h3
    refine wp_lload_n dX4_refresh_60 rfl ?_
    refine wp_ldc2_w dX4_refresh_61 co_RX4_56 ?_
    refine wp_lcmp dX4_refresh_64 ?_
    refine wp_if_lt (tgt := 81) dX4_refresh_65 (by decide) (fun h65 => ?_) (fun h65 => ?_)
    · have hlt : v < 2 ^ 61 := (pk_lLT (b := 2 ^ 61) (by omega) (by decide)).mp ((lg_cmp_lt _ _).mp h65)
      obtain ⟨g, hg, hcan, hvk⟩ := hopt.2.2 hlt
      have hg10 : ∀ j, K.testBit j = true → g j < 10 := fun j hj => by have := hg j hj; omega
      obtain ⟨k1, k2, k3⟩ := kap_dec (co := fun S => chF fr tt ord w (folB H jo fr tt) S m 0 none 0) hkm (chF_0 _ _ _ _ _ _ _) hg10 hvk hlt
      have hno := nibOk_of hkm hcan k3
      refine wp_aload_n dX4_refresh_81 rfl ?_
      refine wp_lload_n dX4_refresh_82 rfl ?_
      refine wp_bipush (v := 40) dX4_refresh_83 (by decide) ?_
      refine wp_lushr dX4_refresh_85 ?_
      rw [show (40 : Int32) = nI 40 from rfl, wb_shr (by omega) (by omega)]
      refine wp_l2i dX4_refresh_86 ?_
      rw [lN_i]
      refine wp_puti dX4_refresh_87 fl_RX4_58 (mp_4_5 _ _) rfl (fk_9 hF4) ?_
      refine wp_aload_n dX4_refresh_90 rfl ?_
      refine wp_lload_n dX4_refresh_91 rfl ?_
      refine wp_iload_n dX4_refresh_92 rfl ?_
      refine wp_callv2 (ci := 4) dX4_refresh_93 lk_RX4_64 ok_X4_numberChains im_X4_numberChains se_X4_numberChains rfl rfl (fk_9 (Fix_sI hF4)) (Nat.le_of_ble_eq_true rfl) (Nat.le_of_ble_eq_true rfl) ?_
      refine c_X4_numberChains (Fix_sI hF4) hkm (by omega) hno (fun H5 he5 h5 h6 => ?_)
      refine wp_return rfl dX4_refresh_96 ?_
      refine hq2 h11 H5 v (eqZ_trans (eqZ_sI z4 (Or.inr ⟨rfl, by omega⟩)) (eqZ_X he5 (fun a k q => q.elim Or.inl (fun z => Or.inr ⟨z.1, by omega⟩)))) (by rw [he5.2.2.1]; exact h40) ?_ hopt ⟨fun q => absurd q (by omega), fun _ => ⟨?_, h6, fun g' hg' n hn => ?_⟩⟩
      · rw [he5.2.2.2.2 9 4 (fun q => by unfold is12 at q; omega), hI_sI', if_neg (by omega)]; exact h94'
      · rw [he5.2.2.2.2 9 5 (fun q => by unfold is12 at q; omega), hI_sI', if_pos ⟨rfl, rfl⟩]
      · rw [h5 n hn]
        by_cases q : K.testBit n = true
        · rw [if_pos q, if_pos q, nib_one hno hg' n hn q]
        · rw [if_neg q, if_neg q, hI_sI', if_neg (by omega)]; exact h4 n hn
    · refine wp_aload_n dX4_refresh_68 rfl ?_
      refine wp_bipush (v := -2) dX4_refresh_69 (by decide) ?_
      refine wp_puti dX4_refresh_71 fl_RX4_58 (mp_4_5 _ _) rfl (fk_9 hF4) ?_
      refine wp_aload_n dX4_refresh_74 rfl ?_
      refine wp_bipush (v := -2) dX4_refresh_75 (by decide) ?_
      refine wp_puti dX4_refresh_77 fl_RX4_61 (mp_4_6 _ _) rfl (fk_9 (Fix_sI hF4)) ?_
      refine wp_return rfl dX4_refresh_80 ?_
      have hge : 2 ^ 61 ≤ v := Nat.le_of_not_lt (fun q => h65 ((lg_cmp_lt _ _).mpr ((pk_lLT (b := 2 ^ 61) (by omega) (by decide)).mpr q)))
      refine hq2 h11 _ v (eqZ_sI (eqZ_sI z4 (Or.inr ⟨rfl, by omega⟩)) (Or.inr ⟨rfl, by omega⟩)) h40 ?_ hopt ⟨fun _ => ⟨?_, ?_, fun n hn => ?_⟩, fun q => absurd q (by omega)⟩
      · rw [hI_sI', if_neg (by omega), hI_sI', if_neg (by omega)]; exact h94'
      · rw [hI_sI', if_neg (by omega), hI_sI', if_pos ⟨rfl, rfl⟩]
      · rw [hI_sI', if_pos ⟨rfl, rfl⟩]
      · rw [hI_sI', if_neg (by omega), hI_sI', if_neg (by omega)]; exact h4 n hn
  · refine wp_return rfl dX4_refresh_14 ?_
    exact hq1 h11
