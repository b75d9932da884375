/-! ===== CarriageHire$Day: a new JOB, the kept ones ===== -/
/-- the heap is the same but for ints at places of A -/
def eqX (A : Nat → Nat → Prop) (H H' : PH) : Prop := hN H' = hN H ∧ hK H' = hK H ∧ hL H' = hL H ∧ hR H' = hR H ∧ ∀ a k, ¬ A a k → hI H' a k = hI H a k
theorem eqX_rfl {A : Nat → Nat → Prop} {H : PH} : eqX A H H := ⟨rfl, rfl, rfl, rfl, fun _ _ _ => rfl⟩
theorem eqX_sI {A : Nat → Nat → Prop} {H H' : PH} {a k : Nat} {v : Int32} (h : eqX A H H') (ha : A a k) : eqX A H (sI H' a k v) := ⟨h.1, h.2.1, h.2.2.1, h.2.2.2.1, fun a' k' q => by rw [hI_sI', if_neg (fun e => q (by rw [e.1, e.2]; exact ha))]; exact h.2.2.2.2 a' k' q⟩
theorem eqX_trans {A : Nat → Nat → Prop} {H H' H'' : PH} (h : eqX A H H') (h' : eqX A H' H'') : eqX A H H'' := ⟨h'.1.trans h.1, h'.2.1.trans h.2.1, h'.2.2.1.trans h.2.2.1, h'.2.2.2.1.trans h.2.2.2.1, fun a k q => (h'.2.2.2.2 a k q).trans (h.2.2.2.2 a k q)⟩
theorem eqX_mono {A B : Nat → Nat → Prop} {H H' : PH} (hAB : ∀ a k, A a k → B a k) (h : eqX A H H') : eqX B H H' := ⟨h.1, h.2.1, h.2.2.1, h.2.2.2.1, fun a k q => h.2.2.2.2 a k (fun x => q (hAB a k x))⟩
theorem Fix_eqX {A : Nat → Nat → Prop} {H H' : PH} (h : eqX A H H') (hF : Fix H) : Fix H' := by
  unfold Fix
  rw [h.2.1, h.2.2.2.1, h.1]
  exact hF
def is8 (a _ : Nat) : Prop := a = 8
/-- the order behind a new one at place p -/
def ordIns (ord : Nat → Nat) (m p i : Nat) : Nat := if i < p then ord i else if i = p then m else ord (i - 1)
theorem l_X1_putInOrder {d m : Nat} {jo ord : Nat → Nat} {b : Int32} {H : PH} {Q : Option Value → PH → Prop} (hF : Fix H) (h10 : m < 10) (ho : ∀ i, i < m → hI H 8 i = nI (ord i) ∧ ord i < m) (hr : ∀ i, i < m → hR H 7 i = some (jo i)) (hk : ∀ i, i < m → hK H (jo i) = (4, 9)) (hl : ∀ i, i < m → 69 < jo i)
    (hq : ∀ H' p, p ≤ m → eqX is8 H H' → (∀ i, i ≤ m → hI H' 8 i = nI (ordIns ord m p i)) → (∀ i, p ≤ i → i < m → b < hI H (jo (ord i)) 3) → (p ≠ 0 → hI H (jo (ord (p - 1))) 3 ≤ b) → Q none H') :
    ∀ (t : Nat) (H1 : PH), t ≤ m → eqX is8 H H1 → (∀ i, i < t → hI H1 8 i = nI (ord i)) → (∀ i, t < i → i ≤ m → hI H1 8 i = nI (ord (i - 1))) → (∀ i, t ≤ i → i < m → b < hI H (jo (ord i)) 3) →
    Wp mX1_putInOrder d 0 0 2 [some (.ref 5), some (.int (nI m)), some (.int b), some (.int (nI t))] [] H1 Q := by
  have hend : ∀ (t : Nat) (H1 : PH), t ≤ m → eqX is8 H H1 → (∀ i, i < t → hI H1 8 i = nI (ord i)) → (∀ i, t < i → i ≤ m → hI H1 8 i = nI (ord (i - 1))) → (∀ i, t ≤ i → i < m → b < hI H (jo (ord i)) 3) → (t ≠ 0 → hI H (jo (ord (t - 1))) 3 ≤ b) → Wp mX1_putInOrder d 0 0 46 [some (.ref 5), some (.int (nI m)), some (.int b), some (.int (nI t))] [] H1 Q := by
    intro t H1 ht he h1 h2 h3 h4
    have hF1 := Fix_eqX he hF
    refine wp_aload_n dX1_putInOrder_46 rfl ?_
    refine wp_geta dX1_putInOrder_47 fl_RX1_21 rfl (fk_5 hF1) (fr_5_2 hF1) ?_
    refine wp_iload_n dX1_putInOrder_50 rfl ?_
    refine wp_iload_n dX1_putInOrder_51 rfl ?_
    refine wp_iastoreN dX1_putInOrder_52 (fk_8 hF1) (by omega) (by decide) ?_
    refine wp_return rfl dX1_putInOrder_53 ?_
    refine hq _ t ht (eqX_sI he rfl) (fun i hi => ?_) h3 h4
    rw [hI_sI']
    by_cases q : i = t
    · subst q; simp [ordIns]
    · rw [if_neg (by omega)]
      unfold ordIns
      by_cases q2 : i < t
      · rw [if_pos q2]; exact h1 i q2
      · rw [if_neg q2, if_neg q]; exact h2 i (by omega) hi
  intro t
  induction t with
  | zero =>
    intro H1 ht he h1 h2 h3
    have hF1 := Fix_eqX he hF
    refine wp_iload_n dX1_putInOrder_2 rfl ?_
    refine wp_if_le (tgt := 46) dX1_putInOrder_3 (by decide) (fun _ => ?_) (fun h3 => absurd h3 (by decide))
    exact hend 0 H1 ht he h1 h2 h3 (fun q => absurd rfl q)
  | succ t ih =>
    intro H1 ht he h1 h2 h3
    have hF1 := Fix_eqX he hF
    have hot := ho t (by omega)
    have hrr : hR H1 7 (ord t) = some (jo (ord t)) := by rw [he.2.2.2.1]; exact hr _ hot.2
    have hkk : hK H1 (jo (ord t)) = (4, 9) := by rw [he.2.1]; exact hk _ hot.2
    have hbb : hI H1 (jo (ord t)) 3 = hI H (jo (ord t)) 3 := he.2.2.2.2 _ _ (fun q => by have := hl _ hot.2; unfold is8 at q; omega)
    refine wp_iload_n dX1_putInOrder_2 rfl ?_
    refine wp_if_le (tgt := 46) dX1_putInOrder_3 (by decide) (fun h3 => absurd h3 (nI_nle (by omega) (by omega))) (fun _ => ?_)
    refine wp_aload_n dX1_putInOrder_6 rfl ?_
    refine wp_geta dX1_putInOrder_7 fl_RX1_17 rfl (fk_5 hF1) (fr_5_1 hF1) ?_
    refine wp_aload_n dX1_putInOrder_10 rfl ?_
    refine wp_geta dX1_putInOrder_11 fl_RX1_21 rfl (fk_5 hF1) (fr_5_2 hF1) ?_
    refine wp_iload_n dX1_putInOrder_14 rfl ?_
    refine wp_iconst (v := 1) dX1_putInOrder_15 (by decide) ?_
    refine wp_isub dX1_putInOrder_16 ?_
    rw [nI_pred]
    refine wp_ialoadN dX1_putInOrder_17 (fk_8 hF1) (by omega) (by decide) ?_
    rw [h1 t (by omega)]
    refine wp_aaloadA dX1_putInOrder_18 (fk_7 hF1) (by decide) (by omega) (by decide) (hrr) ?_
    refine wp_geti dX1_putInOrder_19 fl_RX1_49 rfl (hkk) ?_
    refine wp_iload_n dX1_putInOrder_22 rfl ?_
    refine wp_icmp_le (tgt := 46) dX1_putInOrder_23 (by decide) (fun h23 => ?_) (fun h23 => ?_)
    · exact hend (t + 1) H1 ht he h1 h2 h3 (fun _ => by rw [Nat.add_sub_cancel, ← hbb]; exact h23)
    · refine wp_aload_n dX1_putInOrder_26 rfl ?_
      refine wp_geta dX1_putInOrder_27 fl_RX1_21 rfl (fk_5 hF1) (fr_5_2 hF1) ?_
      refine wp_iload_n dX1_putInOrder_30 rfl ?_
      refine wp_aload_n dX1_putInOrder_31 rfl ?_
      refine wp_geta dX1_putInOrder_32 fl_RX1_21 rfl (fk_5 hF1) (fr_5_2 hF1) ?_
      refine wp_iload_n dX1_putInOrder_35 rfl ?_
      refine wp_iconst (v := 1) dX1_putInOrder_36 (by decide) ?_
      refine wp_isub dX1_putInOrder_37 ?_
      rw [nI_pred]
      refine wp_ialoadN dX1_putInOrder_38 (fk_8 hF1) (by omega) (by decide) ?_
      rw [h1 t (by omega)]
      refine wp_iastoreN dX1_putInOrder_39 (fk_8 hF1) (by omega) (by decide) ?_
      refine wp_inc (c := -1) dX1_putInOrder_40 rfl (by decide) (by decide) ?_
      rw [pk_m1]
      refine wp_goto (tgt := 2) dX1_putInOrder_43 (by decide) ?_
      refine ih _ (by omega) (eqX_sI he rfl) (fun i hi => ?_) (fun i hi hi2 => ?_) (fun i hi hi2 => ?_)
      · rw [hI_sI', if_neg (by omega)]; exact h1 i (by omega)
      · rw [hI_sI']
        by_cases q : i = t + 1
        · subst q; simp
        · rw [if_neg (by omega)]; exact h2 i (by omega) hi2
      · by_cases q : i = t
        · subst q; rw [← hbb]; exact Int32.not_le.mp h23
        · exact h3 i (by omega) hi2
theorem c_X1_putInOrder {d m : Nat} {jo ord : Nat → Nat} {b : Int32} {H : PH} {Q : Option Value → PH → Prop} (hF : Fix H) (h10 : m < 10) (ho : ∀ i, i < m → hI H 8 i = nI (ord i) ∧ ord i < m) (hr : ∀ i, i < m → hR H 7 i = some (jo i)) (hk : ∀ i, i < m → hK H (jo i) = (4, 9)) (hl : ∀ i, i < m → 69 < jo i)
    (hq : ∀ H' p, p ≤ m → eqX is8 H H' → (∀ i, i ≤ m → hI H' 8 i = nI (ordIns ord m p i)) → (∀ i, p ≤ i → i < m → b < hI H (jo (ord i)) 3) → (p ≠ 0 → hI H (jo (ord (p - 1))) 3 ≤ b) → Q none H') :
    Wp mX1_putInOrder d 0 0 0 [some (.ref 5), some (.int (nI m)), some (.int b), none] [] H Q := by
  refine wp_iload_n dX1_putInOrder_0 rfl ?_
  refine wp_istore_n dX1_putInOrder_1 (by decide) ?_
  exact l_X1_putInOrder hF h10 ho hr hk hl hq m H (Nat.le_refl _) eqX_rfl (fun i hi => (ho i hi).1) (fun i hi hi2 => by omega) (fun i hi hi2 => by omega)
def jIni (H : PH) (a : Nat) (k f t b w h : Int32) (pl : Nat) : PH := sR (sI (sI (sI (sI (sI (sI H a 0 k) a 1 f) a 2 t) a 3 b) a 4 w) a 5 h) a 6 (some pl)
theorem c_X3_init {d a pl : Nat} {k f t b w h : Int32} {H : PH} {Q : Option Value → PH → Prop} (hk : hK H a = (4, 9)) (hq : Q none (jIni H a k f t b w h pl)) : Wp mX3_init (d + 1) 0 0 0 [some (.ref a), some (.int k), some (.int f), some (.int t), some (.int b), some (.int w), some (.int h), some (.ref pl)] [] H Q := by
  refine wp_aload_n dX3_init_0 rfl ?_
  refine wp_super dX3_init_1 lo_RX3_1 oi_in oi_co (Nat.le_of_ble_eq_true rfl) ?_
  refine wp_aload_n dX3_init_4 rfl ?_
  refine wp_iload_n dX3_init_5 rfl ?_
  refine wp_puti dX3_init_6 fl_RX3_7 mf_RX3_7 rfl (hk) ?_
  refine wp_aload_n dX3_init_9 rfl ?_
  refine wp_iload_n dX3_init_10 rfl ?_
  refine wp_puti dX3_init_11 fl_RX3_13 mf_RX3_13 rfl (hk) ?_
  refine wp_aload_n dX3_init_14 rfl ?_
  refine wp_iload_n dX3_init_15 rfl ?_
  refine wp_puti dX3_init_16 fl_RX3_16 mf_RX3_16 rfl (hk) ?_
  refine wp_aload_n dX3_init_19 rfl ?_
  refine wp_iload dX3_init_20 rfl ?_
  refine wp_puti dX3_init_22 fl_RX3_19 mf_RX3_19 rfl (hk) ?_
  refine wp_aload_n dX3_init_25 rfl ?_
  refine wp_iload dX3_init_26 rfl ?_
  refine wp_puti dX3_init_28 fl_RX3_22 mf_RX3_22 rfl (hk) ?_
  refine wp_aload_n dX3_init_31 rfl ?_
  refine wp_iload dX3_init_32 rfl ?_
  refine wp_puti dX3_init_34 fl_RX3_25 mf_RX3_25 rfl (hk) ?_
  refine wp_aload_n dX3_init_37 rfl ?_
  refine wp_aload dX3_init_38 rfl ?_
  refine wp_puta dX3_init_40 fl_RX3_28 mf_RX3_28 rfl (hk) ?_
  refine wp_return rfl dX3_init_43 ?_
  exact hq
def lnP (H : PH) (q : Nat) : Int32 := minI (Int32.ofNat (hK H (q + 1)).2) (Int32.ofNat (hK H (q + 2)).2)
theorem c_X5_init {d a p q r : Nat} {H : PH} {Q : Option Value → PH → Prop} (hk : hK H a = (6, 3)) (hq : Q none (sR (sR (sR H a 0 (some p)) a 1 (some q)) a 2 (some r))) : Wp mX5_init (d + 1) 0 0 0 [some (.ref a), some (.ref p), some (.ref q), some (.ref r)] [] H Q := by
  refine wp_aload_n dX5_init_0 rfl ?_
  refine wp_super dX5_init_1 lo_RX5_1 oi_in oi_co (Nat.le_of_ble_eq_true rfl) ?_
  refine wp_aload_n dX5_init_4 rfl ?_
  refine wp_aload_n dX5_init_5 rfl ?_
  refine wp_puta dX5_init_6 fl_RX5_7 mf_RX5_7 rfl (hk) ?_
  refine wp_aload_n dX5_init_9 rfl ?_
  refine wp_aload_n dX5_init_10 rfl ?_
  refine wp_puta dX5_init_11 fl_RX5_13 mf_RX5_13 rfl (hk) ?_
  refine wp_aload_n dX5_init_14 rfl ?_
  refine wp_aload_n dX5_init_15 rfl ?_
  refine wp_puta dX5_init_16 fl_RX5_16 mf_RX5_16 rfl (hk) ?_
  refine wp_return rfl dX5_init_19 ?_
  exact hq
/-- a PriceList at a: its three rows and their lengths -/
def PL (H : PH) (a p q r c n : Nat) : Prop := hK H a = (6, 3) ∧ hR H a 0 = some p ∧ hR H a 1 = some q ∧ hR H a 2 = some r ∧ hK H p = (20, c) ∧ hK H q = (20, n) ∧ hK H r = (20, n)
theorem c_X5_countLines {d a p q r c n : Nat} {H : PH} {Q : Option Value → PH → Prop} (hP : PL H a p q r c n) (hq : Q (some (.int (nI n))) H) : Wp mX5_countLines (d + 1) 0 0 0 [some (.ref a)] [] H Q := by
  obtain ⟨h1, h2, h3, h4, h5, h6, h7⟩ := hP
  refine wp_aload_n dX5_countLines_0 rfl ?_
  refine wp_geta dX5_countLines_1 fl_RX5_13 rfl (h1) (h3) ?_
  refine wp_alen dX5_countLines_4 (h6) (by simp) ?_
  refine wp_aload_n dX5_countLines_5 rfl ?_
  refine wp_geta dX5_countLines_6 fl_RX5_16 rfl (h1) (h4) ?_
  refine wp_alen dX5_countLines_9 (h7) (by simp) ?_
  refine wp_calls2 dX5_countLines_10 lk_RX5_19 ok_J9_min_7cf53 st_J9_min_7cf53 (Nat.le_of_ble_eq_true rfl) (Nat.le_of_ble_eq_true rfl) ?_
  refine c_J9_min_7cf53 ?_
  refine wp_ireturn rfl dX5_countLines_13 ?_
  rw [minI, ite_self]; exact hq
abbrev jCan (k f t b w h : Int32) : Prop := (0 ≤ k ∧ k ≤ 2) ∧ (0 ≤ f ∧ f ≤ 7) ∧ (0 ≤ t ∧ t ≤ 7) ∧ (0 ≤ b ∧ b ≤ 1400) ∧ (0 ≤ w ∧ w ≤ 300) ∧ (h = 1 ∨ h = 2 ∨ h = 4)
def jNew0 (H : PH) (m : Nat) (k f t b w h : Int32) (pl : Nat) : PH := sR (jIni (nC H 4 9) (hN H + 1) k f t b w h pl) 7 m (some (hN H + 1))
set_option maxRecDepth 100000 in
theorem c_X1_book {d m pl : Nat} {jo fr tt ord : Nat → Nat} {k f t b w h : Int32} {H : PH} {Q : Option Value → PH → Prop} (hF : Fix H) (hJ : JS H m jo fr tt) (ho : ∀ i, i < m → hI H 8 i = nI (ord i) ∧ ord i < m) (hjN : ∀ i, i < m → jo i ≤ hN H)
    (hq1 : jCan k f t b w h → m < 10 → ∀ H2 p, p ≤ m → eqX is8 (jNew0 H m k f t b w h pl) H2 → (∀ i, i ≤ m → hI H2 8 i = nI (ordIns ord m p i)) → (∀ i, p ≤ i → i < m → b < hI H (jo (ord i)) 3) → (p ≠ 0 → hI H (jo (ord (p - 1))) 3 ≤ b) → Q (some (.int (nI m))) (sI (sI H2 5 3 (nI (m + 1))) 5 5 (hI H 5 5 + 1)))
    (hq2 : ¬ (jCan k f t b w h ∧ m < 10) → Q (some (.int (-1))) H) :
    Wp mX1_book (d + 2) 1 9 0 [some (.ref 5), some (.int k), some (.int f), some (.int t), some (.int b), some (.int w), some (.int h), some (.ref pl), none] [] H Q := by
  obtain ⟨hn, h10, hr, hk, hl, -⟩ := hJ
  have h69 : 69 ≤ hN H := hF.2.2
  have hbad : ¬ jCan k f t b w h → Wp mX1_book (d + 2) 1 9 69 [some (.ref 5), some (.int k), some (.int f), some (.int t), some (.int b), some (.int w), some (.int h), some (.ref pl), none] [] H Q := by
    intro hb
    refine wp_iconst (v := 0) dX1_book_69 (by decide) ?_
    refine wp_istore dX1_book_70 (by decide) ?_
    refine wp_iload dX1_book_72 rfl ?_
    refine wp_if_eq (tgt := 86) dX1_book_74 (by decide) (fun _ => ?_) (fun h74 => absurd h74 (fun h => h rfl))
    refine wp_iconst (v := -1) dX1_book_86 (by decide) ?_
    refine wp_ireturn rfl dX1_book_87 ?_
    exact hq2 (fun q => hb q.1)
  have hgood : jCan k f t b w h → Wp mX1_book (d + 2) 1 9 65 [some (.ref 5), some (.int k), some (.int f), some (.int t), some (.int b), some (.int w), some (.int h), some (.ref pl), none] [] H Q := by
    intro hc
    have e1 : ∀ a i, a ≤ hN H → hI (jNew0 H m k f t b w h pl) a i = hI H a i := by
      intro a i ha
      show hI (sI (sI (sI (sI (sI (sI (nC H 4 9) (hN H + 1) 0 k) (hN H + 1) 1 f) (hN H + 1) 2 t) (hN H + 1) 3 b) (hN H + 1) 4 w) (hN H + 1) 5 h) a i = hI H a i
      simp only [hI_sI']
      rw [if_neg (by omega), if_neg (by omega), if_neg (by omega), if_neg (by omega), if_neg (by omega), if_neg (by omega), hI_nC' ha]
    have e2 : ∀ i, i < m → hR (jNew0 H m k f t b w h pl) 7 i = some (jo i) := by
      intro i hi
      show u2 (u2 (hR (nC H 4 9)) (hN H + 1) 6 (some pl)) 7 m (some (hN H + 1)) 7 i = _
      rw [u2_ne2 (by omega), u2_ne1 (by omega), hR_nC' (by omega)]
      exact hr i hi
    have e3 : ∀ i, i < m → hK (jNew0 H m k f t b w h pl) (jo i) = (4, 9) := by
      intro i hi
      show hK (nC H 4 9) (jo i) = _
      rw [hK_nC' (hjN i hi)]; exact hk i hi
    refine wp_iconst (v := 1) dX1_book_65 (by decide) ?_
    refine wp_goto (tgt := 70) dX1_book_66 (by decide) ?_
    refine wp_istore dX1_book_70 (by decide) ?_
    refine wp_iload dX1_book_72 rfl ?_
    refine wp_if_eq (tgt := 86) dX1_book_74 (by decide) (fun h74 => absurd h74 (by decide)) (fun _ => ?_)
    refine wp_aload_n dX1_book_77 rfl ?_
    refine wp_geti dX1_book_78 fl_RX1_39 rfl (fk_5 hF) ?_
    rw [hn]
    refine wp_bipush (v := 10) dX1_book_81 (by decide) ?_
    refine wp_icmp_lt (tgt := 88) dX1_book_83 (by decide) (fun h83 => ?_) (fun h83 => ?_)
    · have hn9 : m < 10 := Nat.lt_of_not_le (fun q => absurd h83 (nI_nlt q (by omega)))
      refine wp_aload_n dX1_book_88 rfl ?_
      refine wp_geta dX1_book_89 fl_RX1_17 rfl (fk_5 hF) (fr_5_1 hF) ?_
      refine wp_aload_n dX1_book_92 rfl ?_
      refine wp_geti dX1_book_93 fl_RX1_39 rfl (fk_5 hF) ?_
      rw [hn]
      refine wp_new (kc := 0) (ks := 0) (ci := 3) dX1_book_96 rfl cl_RX1_15 ?_
      refine wp_dup dX1_book_99 rfl ?_
      refine wp_iload_n dX1_book_100 rfl ?_
      refine wp_iload_n dX1_book_101 rfl ?_
      refine wp_iload_n dX1_book_102 rfl ?_
      refine wp_iload dX1_book_103 rfl ?_
      refine wp_iload dX1_book_105 rfl ?_
      refine wp_iload dX1_book_107 rfl ?_
      refine wp_aload dX1_book_109 rfl ?_
      refine wp_calli7 dX1_book_111 lk_RX1_42 ok_X3_init rfl im_X3_init rfl (Nat.le_of_ble_eq_true rfl) (Nat.le_of_ble_eq_true rfl) ?_
      refine c_X3_init (by rw [hK_nC, u1_eq]) ?_
      refine wp_aastoreN (ci := 3) dX1_book_114 (fk_7 (Fix_sRa (Fix_sI (Fix_sI (Fix_sI (Fix_sI (Fix_sI (Fix_sI (Fix_nC hF))))))) (fun e he q => by have := fixR_lt e he; omega))) (by decide) ((by show hK (nC H 4 9) (hN H + 1) = (4, 9); rw [hK_nC, u1_eq])) (by omega) (by decide) ?_
      refine wp_aload_n dX1_book_115 rfl ?_
      refine wp_aload_n dX1_book_116 rfl ?_
      refine wp_geti dX1_book_117 fl_RX1_39 rfl (fk_5 (Fix_sRa (Fix_sRa (Fix_sI (Fix_sI (Fix_sI (Fix_sI (Fix_sI (Fix_sI (Fix_nC hF))))))) (fun e he q => by have := fixR_lt e he; omega)) (by decide))) ?_
      change Wp mX1_book _ _ _ _ _ [Value.int (hI (jNew0 H m k f t b w h pl) 5 3), Value.ref 5] (jNew0 H m k f t b w h pl) Q
      rw [(e1 5 3 (by omega)).trans hn]
      refine wp_iload dX1_book_120 rfl ?_
      have hF2 : Fix (jNew0 H m k f t b w h pl) := (Fix_sRa (Fix_sRa (Fix_sI (Fix_sI (Fix_sI (Fix_sI (Fix_sI (Fix_sI (Fix_nC hF))))))) (fun e he q => by have := fixR_lt e he; omega)) (by decide))
      refine wp_callv2 (ci := 1) dX1_book_122 lk_RX1_45 ok_X1_putInOrder im_X1_putInOrder se_X1_putInOrder rfl rfl (fk_5 (Fix_sRa (Fix_sRa (Fix_sI (Fix_sI (Fix_sI (Fix_sI (Fix_sI (Fix_sI (Fix_nC hF))))))) (fun e he q => by have := fixR_lt e he; omega)) (by decide))) (Nat.le_of_ble_eq_true rfl) (Nat.le_of_ble_eq_true rfl) ?_
      refine c_X1_putInOrder (H := jNew0 H m k f t b w h pl) (ord := ord) (jo := jo) hF2 hn9 (fun i hi => ⟨(e1 8 i (by omega)).trans (ho i hi).1, (ho i hi).2⟩) e2 e3 hl (fun H2 p g1 g2 g3 g4 g5 => ?_)
      have e5 : hI H2 5 3 = nI m := (g2.2.2.2.2 5 3 (by unfold is8; decide)).trans ((e1 5 3 (by omega)).trans hn)
      have e6 : hI H2 5 5 = hI H 5 5 := (g2.2.2.2.2 5 5 (by unfold is8; decide)).trans (e1 5 5 (by omega))
      have hF3 := Fix_eqX g2 hF2
      refine wp_aload_n dX1_book_125 rfl ?_
      refine wp_dup dX1_book_126 rfl ?_
      refine wp_geti dX1_book_127 fl_RX1_39 rfl (fk_5 hF3) ?_
      rw [e5]
      refine wp_iconst (v := 1) dX1_book_130 (by decide) ?_
      refine wp_iadd dX1_book_131 ?_
      rw [nI_1]
      refine wp_puti dX1_book_132 fl_RX1_39 (mp_1_3 _ _) rfl (fk_5 hF3) ?_
      refine wp_aload_n dX1_book_135 rfl ?_
      refine wp_dup dX1_book_136 rfl ?_
      refine wp_geti dX1_book_137 fl_RX1_36 rfl (fk_5 (Fix_sI hF3)) ?_
      simp only [hI_sI', Nat.reduceEqDiff, and_false, ↓reduceIte, e6]
      refine wp_iconst (v := 1) dX1_book_140 (by decide) ?_
      refine wp_iadd dX1_book_141 ?_
      refine wp_puti dX1_book_142 fl_RX1_36 (mp_1_5 _ _) rfl (fk_5 (Fix_sI hF3)) ?_
      refine wp_aload_n dX1_book_145 rfl ?_
      refine wp_geti dX1_book_146 fl_RX1_39 rfl (fk_5 (Fix_sI (Fix_sI hF3))) ?_
      simp only [hI_sI', Nat.reduceEqDiff, and_false, and_self, ↓reduceIte]
      refine wp_iconst (v := 1) dX1_book_149 (by decide) ?_
      refine wp_isub dX1_book_150 ?_
      refine wp_ireturn rfl dX1_book_151 ?_
      rw [nI_pred]
      exact hq1 hc hn9 H2 p g1 g2 g3 (fun i h1 h2 => by have := g4 i h1 h2; rw [e1 _ _ (hjN _ (ho i h2).2)] at this; exact this) (fun hp => by have := g5 hp; rw [e1 _ _ (hjN _ (ho _ (by omega)).2)] at this; exact this)
    · refine wp_iconst (v := -1) dX1_book_86 (by decide) ?_
      refine wp_ireturn rfl dX1_book_87 ?_
      exact hq2 (fun q => h83 (nI_lt q.2 (by decide)))
  refine wp_iload_n dX1_book_0 rfl ?_
  refine wp_iconst (v := 0) dX1_book_1 (by decide) ?_
  refine wp_iconst (v := 2) dX1_book_2 (by decide) ?_
  refine wp_calls3 dX1_book_3 lk_RX1_32 ok_X11_within st_X11_within (Nat.le_of_ble_eq_true rfl) (Nat.le_of_ble_eq_true rfl) ?_
  refine c_X11_within ?_
  refine wp_ifb_eq (tgt := 69) dX1_book_6 (by decide) (fun h6 => ?_) (fun h6 => ?_)
  · refine hbad (fun q => ?_)
    first | exact h6 q.1 | exact h13 q.2.1 | exact h20 q.2.2.1 | exact h32 q.2.2.2.1 | exact h44 q.2.2.2.2.1 | exact q.2.2.2.2.2.elim (fun z => h50 z) (fun z => z.elim (fun z => h56 z) (fun z => h62 z))
  · refine wp_iload_n dX1_book_9 rfl ?_
    refine wp_calls1 dX1_book_10 lk_RX1_28 ok_X1_isPlace st_X1_isPlace (Nat.le_of_ble_eq_true rfl) (Nat.le_of_ble_eq_true rfl) ?_
    refine c_X1_isPlace ?_
    refine wp_ifb_eq (tgt := 69) dX1_book_13 (by decide) (fun h13 => ?_) (fun h13 => ?_)
    · refine hbad (fun q => ?_)
      first | exact h6 q.1 | exact h13 q.2.1 | exact h20 q.2.2.1 | exact h32 q.2.2.2.1 | exact h44 q.2.2.2.2.1 | exact q.2.2.2.2.2.elim (fun z => h50 z) (fun z => z.elim (fun z => h56 z) (fun z => h62 z))
    · refine wp_iload_n dX1_book_16 rfl ?_
      refine wp_calls1 dX1_book_17 lk_RX1_28 ok_X1_isPlace st_X1_isPlace (Nat.le_of_ble_eq_true rfl) (Nat.le_of_ble_eq_true rfl) ?_
      refine c_X1_isPlace ?_
      refine wp_ifb_eq (tgt := 69) dX1_book_20 (by decide) (fun h20 => ?_) (fun h20 => ?_)
      · refine hbad (fun q => ?_)
        first | exact h6 q.1 | exact h13 q.2.1 | exact h20 q.2.2.1 | exact h32 q.2.2.2.1 | exact h44 q.2.2.2.2.1 | exact q.2.2.2.2.2.elim (fun z => h50 z) (fun z => z.elim (fun z => h56 z) (fun z => h62 z))
      · refine wp_iload dX1_book_23 rfl ?_
        refine wp_iconst (v := 0) dX1_book_25 (by decide) ?_
        refine wp_sipush (v := 1400) dX1_book_26 (by decide) ?_
        refine wp_calls3 dX1_book_29 lk_RX1_32 ok_X11_within st_X11_within (Nat.le_of_ble_eq_true rfl) (Nat.le_of_ble_eq_true rfl) ?_
        refine c_X11_within ?_
        refine wp_ifb_eq (tgt := 69) dX1_book_32 (by decide) (fun h32 => ?_) (fun h32 => ?_)
        · refine hbad (fun q => ?_)
          first | exact h6 q.1 | exact h13 q.2.1 | exact h20 q.2.2.1 | exact h32 q.2.2.2.1 | exact h44 q.2.2.2.2.1 | exact q.2.2.2.2.2.elim (fun z => h50 z) (fun z => z.elim (fun z => h56 z) (fun z => h62 z))
        · refine wp_iload dX1_book_35 rfl ?_
          refine wp_iconst (v := 0) dX1_book_37 (by decide) ?_
          refine wp_sipush (v := 300) dX1_book_38 (by decide) ?_
          refine wp_calls3 dX1_book_41 lk_RX1_32 ok_X11_within st_X11_within (Nat.le_of_ble_eq_true rfl) (Nat.le_of_ble_eq_true rfl) ?_
          refine c_X11_within ?_
          refine wp_ifb_eq (tgt := 69) dX1_book_44 (by decide) (fun h44 => ?_) (fun h44 => ?_)
          · refine hbad (fun q => ?_)
            first | exact h6 q.1 | exact h13 q.2.1 | exact h20 q.2.2.1 | exact h32 q.2.2.2.1 | exact h44 q.2.2.2.2.1 | exact q.2.2.2.2.2.elim (fun z => h50 z) (fun z => z.elim (fun z => h56 z) (fun z => h62 z))
          · refine wp_iload dX1_book_47 rfl ?_
            refine wp_iconst (v := 1) dX1_book_49 (by decide) ?_
            refine wp_icmp_eq (tgt := 65) dX1_book_50 (by decide) (fun h50 => ?_) (fun h50 => ?_)
            · exact hgood ⟨h6, h13, h20, h32, h44, by first | exact Or.inl h50 | exact Or.inr (Or.inl h56) | exact Or.inr (Or.inr h62)⟩
            · refine wp_iload dX1_book_53 rfl ?_
              refine wp_iconst (v := 2) dX1_book_55 (by decide) ?_
              refine wp_icmp_eq (tgt := 65) dX1_book_56 (by decide) (fun h56 => ?_) (fun h56 => ?_)
              · exact hgood ⟨h6, h13, h20, h32, h44, by first | exact Or.inl h50 | exact Or.inr (Or.inl h56) | exact Or.inr (Or.inr h62)⟩
              · refine wp_iload dX1_book_59 rfl ?_
                refine wp_iconst (v := 4) dX1_book_61 (by decide) ?_
                refine wp_icmp_ne (tgt := 69) dX1_book_62 (by decide) (fun h62 => ?_) (fun h62 => ?_)
                · refine hbad (fun q => ?_)
                  first | exact h6 q.1 | exact h13 q.2.1 | exact h20 q.2.2.1 | exact h32 q.2.2.2.1 | exact h44 q.2.2.2.2.1 | exact q.2.2.2.2.2.elim (fun z => h50 z) (fun z => z.elim (fun z => h56 z) (fun z => h62 z))
                · exact hgood ⟨h6, h13, h20, h32, h44, by first | exact Or.inl h50 | exact Or.inr (Or.inl h56) | exact Or.inr (Or.inr h62)⟩
