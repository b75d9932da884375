/-! ===== CarriageHire$Lays: keys of CHAINS ===== -/
theorem c_X1_findN {d m e : Nat} {jo fr tt : Nat → Nat} {H : PH} {Q : Option Value → PH → Prop} (hF : Fix H) (hJ : JS H m jo fr tt) (he : e < m) (hq1 : Q (some (.ref (jo e))) H) : Wp mX1_find d 0 0 0 [some (.ref 5), some (.int (nI e))] [] H Q := by
  have h10 := hJ.2.1
  refine c_X1_find hF hJ (fun j hj hxj => ?_) (fun hx => absurd ⟨nI_pos' (by omega), nI_lt he (by omega)⟩ hx)
  have e9 : j = e := (nI_eq (by omega) (by omega)).mp hxj.symm
  subst e9; exact hq1
theorem c_J9_min_f86c9 {d a b : Nat} {H : PH} {Q : Option Value → PH → Prop} (ha : a < 2 ^ 63) (hb : b < 2 ^ 63) (hq : Q (some (.long (lN (min a b)))) H) : Wp mJ9_min_f86c9 d 0 0 0 [some (.long (lN a)), none, some (.long (lN b)), none] [] H Q := by
  refine wp_lload_n dJ9_min_f86c9_0 rfl ?_
  refine wp_lload_n dJ9_min_f86c9_1 rfl ?_
  refine wp_lcmp dJ9_min_f86c9_2 ?_
  refine wp_if_gt (tgt := 10) dJ9_min_f86c9_3 (by decide) (fun h3 => ?_) (fun h3 => ?_)
  · refine wp_lload_n dJ9_min_f86c9_10 rfl ?_
    refine wp_lreturn rfl dJ9_min_f86c9_11 ?_
    first
        | (rw [Nat.min_eq_right (Nat.le_of_lt ((pk_lLT hb ha).mp ((lg_cmp_gt _ _).mp h3)))] at hq; exact hq)
        | (rw [Nat.min_eq_left (Nat.le_of_not_lt (fun q => h3 ((lg_cmp_gt _ _).mpr ((pk_lLT hb ha).mpr q))))] at hq; exact hq)
  · refine wp_lload_n dJ9_min_f86c9_6 rfl ?_
    refine wp_goto (tgt := 11) dJ9_min_f86c9_7 (by decide) ?_
    refine wp_lreturn rfl dJ9_min_f86c9_11 ?_
    first
        | (rw [Nat.min_eq_right (Nat.le_of_lt ((pk_lLT hb ha).mp ((lg_cmp_gt _ _).mp h3)))] at hq; exact hq)
        | (rw [Nat.min_eq_left (Nat.le_of_not_lt (fun q => h3 ((lg_cmp_gt _ _).mpr ((pk_lLT hb ha).mpr q))))] at hq; exact hq)
theorem shOf {k : Nat} (h : k ≤ 9) : (4 : Int32) * (9 - nI k) = nI (4 * (9 - k)) := by
  rw [show (9 : Int32) = nI 9 from rfl, pk_sub h, show (4 : Int32) = nI 4 from rfl, pk_mul]
/-- the least number of a set, below k -/
def lwB (S : Nat) : Nat → Option Nat
  | 0 => none
  | k + 1 => match lwB S k with
    | some l => some l
    | none => if S.testBit k = true then some k else none
theorem lwB_succ (S k : Nat) : lwB S (k + 1) = match lwB S k with
    | some l => some l
    | none => if S.testBit k = true then some k else none := rfl
def lwV : Option Nat → Int32
  | none => -1
  | some l => nI l
theorem lwB_lt {S : Nat} : ∀ {k l : Nat}, lwB S k = some l → l < k
  | 0, l, h => by cases h
  | k + 1, l, h => by
    unfold lwB at h
    cases q : lwB S k with
    | none =>
      rw [q] at h
      by_cases r : S.testBit k = true
      · rw [if_pos r] at h; cases h; omega
      · rw [if_neg r] at h; cases h
    | some l' => rw [q] at h; cases h; have := lwB_lt q; omega
def ljF (S : Nat) : Nat → Nat
  | 0 => 0
  | k + 1 => ljF S k + (if S.testBit k = true then (lwB S (k + 1)).getD 0 * 2 ^ (4 * (9 - k)) else 0)
theorem l_X4_leastJobs {d S : Nat} {H : PH} {Q : Option Value → PH → Prop} (hS : S < 1024) (hq : Q (some (.long (lN (ljF S 10)))) H) : ∀ (f k : Nat), 10 - k = f → k ≤ 10 → Wp mX4_leastJobs (d + 1) 0 0 7 [some (.int (nI S)), some (.int (lwV (lwB S k))), some (.long (lN (ljF S k))), none, some (.int (nI k))] [] H Q := by
  intro f
  induction f with
  | zero =>
    intro k hf hk
    have hin : k = 10 := by omega
    subst hin
    refine wp_iload dX4_leastJobs_7 rfl ?_
    refine wp_bipush (v := 10) dX4_leastJobs_9 (by decide) ?_
    refine wp_icmp_ge (tgt := 52) dX4_leastJobs_11 (by decide) (fun _ => ?_) (fun h11 => absurd h11 (by decide))
    refine wp_lload_n dX4_leastJobs_52 rfl ?_
    refine wp_lreturn rfl dX4_leastJobs_53 ?_
    exact hq
  | succ f ih =>
    intro k hf hk
    have hbit : hb (nI S) k ↔ S.testBit k = true := hb_nI (by omega) (by omega)
    have h9 := ih (k + 1) (by omega) (by omega)
    by_cases hs : S.testBit k = true
    · cases hw : lwB S k with
      | none =>
        have e1 : lwB S (k + 1) = some k := by rw [lwB_succ, hw]; exact if_pos hs
        have e2 : ljF S (k + 1) = ljF S k + k * 2 ^ (4 * (9 - k)) := by rw [ljF, if_pos hs, e1]; rfl
        rw [e1, e2] at h9
        refine wp_iload dX4_leastJobs_7 rfl ?_
        refine wp_bipush (v := 10) dX4_leastJobs_9 (by decide) ?_
        refine wp_icmp_ge (tgt := 52) dX4_leastJobs_11 (by decide) (fun h11 => absurd h11 (nI_ge (a := k) (b := 10) (by omega) (by decide))) (fun _ => ?_)
        refine wp_iload_n dX4_leastJobs_14 rfl ?_
        refine wp_iload dX4_leastJobs_15 rfl ?_
        refine wp_calls2 dX4_leastJobs_17 lk_RX4_83 ok_X11_hasBit st_X11_hasBit (Nat.le_of_ble_eq_true rfl) (Nat.le_of_ble_eq_true rfl) ?_
        refine c_X11_hasBit ?_
        refine wp_ifb_eq (tgt := 46) dX4_leastJobs_20 (by decide) (fun h20 => absurd h20 (fun q => q (hbit.mpr hs))) (fun _ => ?_)
        refine wp_iload_n dX4_leastJobs_23 rfl ?_
        refine wp_iconst (v := -1) dX4_leastJobs_24 (by decide) ?_
        refine wp_icmp_ne (tgt := 33) dX4_leastJobs_25 (by decide) (fun h25 => absurd h25 (fun q => q rfl)) (fun _ => ?_)
        refine wp_iload dX4_leastJobs_28 rfl ?_
        refine wp_goto (tgt := 34) dX4_leastJobs_30 (by decide) ?_
        refine wp_istore_n dX4_leastJobs_34 (by decide) ?_
        refine wp_lload_n dX4_leastJobs_35 rfl ?_
        refine wp_iload_n dX4_leastJobs_36 rfl ?_
        refine wp_i2l dX4_leastJobs_37 ?_
        rw [nI_l (by omega)]
        refine wp_iload dX4_leastJobs_38 rfl ?_
        refine wp_calls1 dX4_leastJobs_40 lk_RX4_106 ok_X4_shiftOf st_X4_shiftOf (Nat.le_of_ble_eq_true rfl) (Nat.le_of_ble_eq_true rfl) ?_
        refine c_X4_shiftOf ?_
        rw [shOf (by omega)]
        refine wp_lshl dX4_leastJobs_43 ?_
        rw [wb_shl k (by omega)]
        refine wp_ladd dX4_leastJobs_44 ?_
        rw [lN_add]
        refine wp_lstore_n dX4_leastJobs_45 (by decide) ?_
        refine wp_incN dX4_leastJobs_46 rfl (by decide) ?_
        refine wp_goto (tgt := 7) dX4_leastJobs_49 (by decide) ?_
        exact h9
      | some l =>
        have hl := lwB_lt hw
        have e1 : lwB S (k + 1) = some l := by rw [lwB_succ, hw]
        have e2 : ljF S (k + 1) = ljF S k + l * 2 ^ (4 * (9 - k)) := by rw [ljF, if_pos hs, e1]; rfl
        rw [e1, e2] at h9
        refine wp_iload dX4_leastJobs_7 rfl ?_
        refine wp_bipush (v := 10) dX4_leastJobs_9 (by decide) ?_
        refine wp_icmp_ge (tgt := 52) dX4_leastJobs_11 (by decide) (fun h11 => absurd h11 (nI_ge (a := k) (b := 10) (by omega) (by decide))) (fun _ => ?_)
        refine wp_iload_n dX4_leastJobs_14 rfl ?_
        refine wp_iload dX4_leastJobs_15 rfl ?_
        refine wp_calls2 dX4_leastJobs_17 lk_RX4_83 ok_X11_hasBit st_X11_hasBit (Nat.le_of_ble_eq_true rfl) (Nat.le_of_ble_eq_true rfl) ?_
        refine c_X11_hasBit ?_
        refine wp_ifb_eq (tgt := 46) dX4_leastJobs_20 (by decide) (fun h20 => absurd h20 (fun q => q (hbit.mpr hs))) (fun _ => ?_)
        refine wp_iload_n dX4_leastJobs_23 rfl ?_
        refine wp_iconst (v := -1) dX4_leastJobs_24 (by decide) ?_
        refine wp_icmp_ne (tgt := 33) dX4_leastJobs_25 (by decide) (fun _ => ?_) (fun h25 => absurd h25 (nI_m1 (by omega)))
        refine wp_iload_n dX4_leastJobs_33 rfl ?_
        refine wp_istore_n dX4_leastJobs_34 (by decide) ?_
        refine wp_lload_n dX4_leastJobs_35 rfl ?_
        refine wp_iload_n dX4_leastJobs_36 rfl ?_
        show Wp mX4_leastJobs _ _ _ _ _ (Value.int (nI l) :: _) _ _
        refine wp_i2l dX4_leastJobs_37 ?_
        rw [nI_l (by omega)]
        refine wp_iload dX4_leastJobs_38 rfl ?_
        refine wp_calls1 dX4_leastJobs_40 lk_RX4_106 ok_X4_shiftOf st_X4_shiftOf (Nat.le_of_ble_eq_true rfl) (Nat.le_of_ble_eq_true rfl) ?_
        refine c_X4_shiftOf ?_
        rw [shOf (by omega)]
        refine wp_lshl dX4_leastJobs_43 ?_
        rw [wb_shl l (by omega)]
        refine wp_ladd dX4_leastJobs_44 ?_
        rw [lN_add]
        refine wp_lstore_n dX4_leastJobs_45 (by decide) ?_
        refine wp_incN dX4_leastJobs_46 rfl (by decide) ?_
        refine wp_goto (tgt := 7) dX4_leastJobs_49 (by decide) ?_
        exact h9
    · have e1 : lwB S (k + 1) = lwB S k := by rw [lwB_succ]; cases lwB S k with
        | none => show (if S.testBit k = true then some k else none) = none; rw [if_neg hs]
        | some l => rfl
      have e2 : ljF S (k + 1) = ljF S k := by rw [ljF, if_neg hs]; rfl
      rw [e1, e2] at h9
      refine wp_iload dX4_leastJobs_7 rfl ?_
      refine wp_bipush (v := 10) dX4_leastJobs_9 (by decide) ?_
      refine wp_icmp_ge (tgt := 52) dX4_leastJobs_11 (by decide) (fun h11 => absurd h11 (nI_ge (a := k) (b := 10) (by omega) (by decide))) (fun _ => ?_)
      refine wp_iload_n dX4_leastJobs_14 rfl ?_
      refine wp_iload dX4_leastJobs_15 rfl ?_
      refine wp_calls2 dX4_leastJobs_17 lk_RX4_83 ok_X11_hasBit st_X11_hasBit (Nat.le_of_ble_eq_true rfl) (Nat.le_of_ble_eq_true rfl) ?_
      refine c_X11_hasBit ?_
      refine wp_ifb_eq (tgt := 46) dX4_leastJobs_20 (by decide) (fun _ => ?_) (fun h20 => absurd h20 (fun q => hs (hbit.mp q)))
      refine wp_incN dX4_leastJobs_46 rfl (by decide) ?_
      refine wp_goto (tgt := 7) dX4_leastJobs_49 (by decide) ?_
      exact h9
theorem c_X4_leastJobs {d S : Nat} {H : PH} {Q : Option Value → PH → Prop} (hS : S < 1024) (hq : Q (some (.long (lN (ljF S 10)))) H) : Wp mX4_leastJobs (d + 1) 0 0 0 [some (.int (nI S)), none, none, none, none] [] H Q := by
  refine wp_iconst (v := -1) dX4_leastJobs_0 (by decide) ?_
  refine wp_istore_n dX4_leastJobs_1 (by decide) ?_
  refine wp_lconst (v := 0) dX4_leastJobs_2 (by decide) ?_
  refine wp_lstore_n dX4_leastJobs_3 (by decide) ?_
  refine wp_iconst (v := 0) dX4_leastJobs_4 (by decide) ?_
  refine wp_istore dX4_leastJobs_5 (by decide) ?_
  exact l_X4_leastJobs hS hq 10 0 (by omega) (by omega)
/-- EMPTY minutes of a set as one CHAIN, none if it is no CHAIN -/
def chF (fr tt ord : Nat → Nat) (w : Nat → Nat → Nat) (fol : Nat → Nat → Bool) (S : Nat) : Nat → Nat → Option Nat → Nat → Option Nat
  | 0, _, none, s => some s
  | 0, _, some p, s => some (s + w (tt p) 0)
  | f + 1, t, none, s => if S.testBit (ord t) = true then chF fr tt ord w fol S f (t + 1) (some (ord t)) (s + w 0 (fr (ord t))) else chF fr tt ord w fol S f (t + 1) none s
  | f + 1, t, some p, s => if S.testBit (ord t) = true then (if fol p (ord t) = true then chF fr tt ord w fol S f (t + 1) (some (ord t)) (s + w (tt p) (fr (ord t))) else none) else chF fr tt ord w fol S f (t + 1) (some p) s
def keyO (S : Nat) : Option Nat → Nat
  | none => 2 ^ 61
  | some s => s * 2 ^ 40 + ljF S 10
def folB (H : PH) (jo fr tt : Nat → Nat) (i j : Nat) : Bool := decide (cFol H jo fr tt i j)
def WY (H : PH) (w : Nat → Nat → Nat) : Prop := ∀ a b, a < 8 → b < 8 → wy H a b = nI (w a b) ∧ w a b ≤ 300
section CK
variable {d m S : Nat} {jo fr tt ord : Nat → Nat} {w : Nat → Nat → Nat} {H : PH} {Q : Option Value → PH → Prop}
theorem l_X4_chainKey (hF : Fix H) (hJ : JS H m jo fr tt) (hO : ∀ t, t < m → hI H 8 t = nI (ord t) ∧ ord t < m) (hw : WY H w) (hS : S < 1024) :
    ∀ (f t s : Nat) (ah : Option Nat), m - t = f → t ≤ m → (∀ p, ah = some p → p < m) → Q (some (.long (lN (keyO S (chF fr tt ord w (folB H jo fr tt) S f t ah s))))) H →
    Wp mX4_chainKey (d + 3) 0 0 8 [some (.ref 9), some (.int (nI S)), some (.long (lN s)), none, some (va_rf (ah.map jo)), some (.int (nI t)), none, none] [] H Q := by
  have hJ0 := hJ
  obtain ⟨hm, h10, hr, hk, hl, -, hf, ht⟩ := hJ
  have w0 : ∀ a b, a < 8 → b < 8 → wy H a b = nI (w a b) := fun a b ha hb => (hw a b ha hb).1
  have w3 : ∀ a b, a < 8 → b < 8 → w a b < 2 ^ 31 := fun a b ha hb => by have := (hw a b ha hb).2; omega
  intro f
  induction f with
  | zero =>
    intro t s ah hf0 ht0 hah hq
    have hin : t = m := by omega
    subst hin
    cases ah with
    | none =>
      show Wp mX4_chainKey (d + 3) 0 0 8 [some (.ref 9), some (.int (nI S)), some (.long (lN s)), none, some .null, some (.int (nI t)), none, none] [] H Q
      refine wp_iload dX4_chainKey_8 rfl ?_
      refine wp_aload_n dX4_chainKey_10 rfl ?_
      refine wp_geta dX4_chainKey_11 fl_RX4_26 rfl (fk_9 hF) (fr_9_0 hF) ?_
      refine wp_geti dX4_chainKey_14 fl_RX4_72 rfl (fk_5 hF) ?_
      refine wp_icmp_ge (tgt := 122) dX4_chainKey_17 (by decide) (fun _ => ?_) (fun h17 => absurd h17 (by rw [hm]; exact fun h => h (nI_le (Nat.le_refl _) (by omega))))
      refine wp_lload_n dX4_chainKey_122 rfl ?_
      refine wp_aloadN dX4_chainKey_123 rfl ?_
      refine wp_ifnonnull (r := none) (tgt := 132) dX4_chainKey_125 (by decide) (fun _ => ?_) (fun _ h => by cases h)
      refine wp_lconst (v := 0) dX4_chainKey_128 (by decide) ?_
      refine wp_goto (tgt := 146) dX4_chainKey_129 (by decide) ?_
      refine wp_ladd dX4_chainKey_146 ?_
      rw [show (0 : Int64) = lN 0 from rfl, lN_add, Nat.add_zero s]
      refine wp_lstore_n dX4_chainKey_147 (by decide) ?_
      refine wp_lload_n dX4_chainKey_148 rfl ?_
      refine wp_bipush (v := 40) dX4_chainKey_149 (by decide) ?_
      refine wp_lshl dX4_chainKey_151 ?_
      rw [show (40 : Int32) = nI 40 from rfl, wb_shl s (by omega)]
      refine wp_iload_n dX4_chainKey_152 rfl ?_
      refine wp_calls1 dX4_chainKey_153 lk_RX4_103 ok_X4_leastJobs st_X4_leastJobs (Nat.le_of_ble_eq_true rfl) (Nat.le_of_ble_eq_true rfl) ?_
      refine c_X4_leastJobs hS ?_
      refine wp_ladd dX4_chainKey_156 ?_
      rw [lN_add]
      refine wp_lreturn rfl dX4_chainKey_157 ?_
      exact hq
    | some p =>
      have hp := hah p rfl
      show Wp mX4_chainKey (d + 3) 0 0 8 [some (.ref 9), some (.int (nI S)), some (.long (lN s)), none, some (.ref (jo p)), some (.int (nI t)), none, none] [] H Q
      refine wp_iload dX4_chainKey_8 rfl ?_
      refine wp_aload_n dX4_chainKey_10 rfl ?_
      refine wp_geta dX4_chainKey_11 fl_RX4_26 rfl (fk_9 hF) (fr_9_0 hF) ?_
      refine wp_geti dX4_chainKey_14 fl_RX4_72 rfl (fk_5 hF) ?_
      refine wp_icmp_ge (tgt := 122) dX4_chainKey_17 (by decide) (fun _ => ?_) (fun h17 => absurd h17 (by rw [hm]; exact fun h => h (nI_le (Nat.le_refl _) (by omega))))
      refine wp_lload_n dX4_chainKey_122 rfl ?_
      refine wp_aload dX4_chainKey_123 rfl ?_
      refine wp_ifnonnull (r := some _) (tgt := 132) dX4_chainKey_125 (by decide) (fun h => by cases h) (fun _ _ => ?_)
      refine wp_aload_n dX4_chainKey_132 rfl ?_
      refine wp_geta dX4_chainKey_133 fl_RX4_26 rfl (fk_9 hF) (fr_9_0 hF) ?_
      refine wp_aload dX4_chainKey_136 rfl ?_
      refine wp_geti dX4_chainKey_138 fl_RX4_91 rfl (hk p hp) ?_
      rw [(ht p hp).1]
      refine wp_iconst (v := 0) dX4_chainKey_141 (by decide) ?_
      refine wp_callv2 (ci := 1) dX4_chainKey_142 lk_RX4_99 ok_X1_minutesBetween im_X1_minutesBetween se_X1_minutesBetween rfl rfl (fk_5 hF) (Nat.le_of_ble_eq_true rfl) (Nat.le_of_ble_eq_true rfl) ?_
      refine c_X1_minutesBetween (b := 0) hF (ht p hp).2 (by decide) ?_
      rw [w0 _ _ (ht p hp).2 (by decide)]
      refine wp_i2l dX4_chainKey_145 ?_
      rw [nI_l (w3 _ _ (ht p hp).2 (by decide))]
      refine wp_ladd dX4_chainKey_146 ?_
      rw [lN_add]
      refine wp_lstore_n dX4_chainKey_147 (by decide) ?_
      refine wp_lload_n dX4_chainKey_148 rfl ?_
      refine wp_bipush (v := 40) dX4_chainKey_149 (by decide) ?_
      refine wp_lshl dX4_chainKey_151 ?_
      rw [show (40 : Int32) = nI 40 from rfl, wb_shl _ (by omega)]
      refine wp_iload_n dX4_chainKey_152 rfl ?_
      refine wp_calls1 dX4_chainKey_153 lk_RX4_103 ok_X4_leastJobs st_X4_leastJobs (Nat.le_of_ble_eq_true rfl) (Nat.le_of_ble_eq_true rfl) ?_
      refine c_X4_leastJobs hS ?_
      refine wp_ladd dX4_chainKey_156 ?_
      rw [lN_add]
      refine wp_lreturn rfl dX4_chainKey_157 ?_
      exact hq
  | succ f ih =>
    intro t s ah hf0 ht0 hah hq
    have hlt : t < m := by omega
    have hot := hO t hlt
    have hbit : hb (nI S) (ord t) ↔ S.testBit (ord t) = true := hb_nI (by omega) (by omega)
    cases ah with
    | none =>
      show Wp mX4_chainKey (d + 3) 0 0 8 [some (.ref 9), some (.int (nI S)), some (.long (lN s)), none, some .null, some (.int (nI t)), none, none] [] H Q
      unfold chF at hq
      refine wp_iload dX4_chainKey_8 rfl ?_
      refine wp_aload_n dX4_chainKey_10 rfl ?_
      refine wp_geta dX4_chainKey_11 fl_RX4_26 rfl (fk_9 hF) (fr_9_0 hF) ?_
      refine wp_geti dX4_chainKey_14 fl_RX4_72 rfl (fk_5 hF) ?_
      refine wp_icmp_ge (tgt := 122) dX4_chainKey_17 (by decide) (fun h17 => absurd h17 (by rw [hm]; exact nI_ge (by omega) (by omega))) (fun _ => ?_)
      refine wp_aload_n dX4_chainKey_20 rfl ?_
      refine wp_geta dX4_chainKey_21 fl_RX4_26 rfl (fk_9 hF) (fr_9_0 hF) ?_
      refine wp_iload dX4_chainKey_24 rfl ?_
      refine wp_callv1 (ci := 1) dX4_chainKey_26 lk_RX4_75 ok_X1_numberInOrder im_X1_numberInOrder se_X1_numberInOrder rfl rfl (fk_5 hF) (Nat.le_of_ble_eq_true rfl) (Nat.le_of_ble_eq_true rfl) ?_
      refine c_X1_numberInOrder hF hm h10 hlt ?_
      rw [hot.1]
      refine wp_istore dX4_chainKey_29 (by decide) ?_
      refine wp_aload_n dX4_chainKey_31 rfl ?_
      refine wp_geta dX4_chainKey_32 fl_RX4_26 rfl (fk_9 hF) (fr_9_0 hF) ?_
      refine wp_iload dX4_chainKey_35 rfl ?_
      refine wp_callv1 (ci := 1) dX4_chainKey_37 lk_RX4_79 ok_X1_find im_X1_find se_X1_find rfl rfl (fk_5 hF) (Nat.le_of_ble_eq_true rfl) (Nat.le_of_ble_eq_true rfl) ?_
      refine c_X1_findN hF hJ0 hot.2 ?_
      refine wp_astore dX4_chainKey_40 (by decide) ?_
      refine wp_aload dX4_chainKey_42 rfl ?_
      refine wp_ifnull (r := some _) (tgt := 116) dX4_chainKey_44 (by decide) (fun h => by cases h) (fun _ _ => ?_)
      refine wp_iload_n dX4_chainKey_47 rfl ?_
      refine wp_iload dX4_chainKey_48 rfl ?_
      refine wp_calls2 dX4_chainKey_50 lk_RX4_83 ok_X11_hasBit st_X11_hasBit (Nat.le_of_ble_eq_true rfl) (Nat.le_of_ble_eq_true rfl) ?_
      refine c_X11_hasBit ?_
      refine wp_ifb_ne (tgt := 59) dX4_chainKey_53 (by decide) (fun h53 => ?_) (fun h53 => ?_)
      · refine wp_aloadN dX4_chainKey_59 rfl ?_
        refine wp_ifnull (r := none) (tgt := 82) dX4_chainKey_61 (by decide) (fun _ => ?_) (fun _ h => by cases h)
        refine wp_lload_n dX4_chainKey_82 rfl ?_
        refine wp_aload_n dX4_chainKey_83 rfl ?_
        refine wp_geta dX4_chainKey_84 fl_RX4_26 rfl (fk_9 hF) (fr_9_0 hF) ?_
        refine wp_aloadN dX4_chainKey_87 rfl ?_
        refine wp_ifnonnull (r := none) (tgt := 96) dX4_chainKey_89 (by decide) (fun _ => ?_) (fun _ h => by cases h)
        refine wp_iconst (v := 0) dX4_chainKey_92 (by decide) ?_
        refine wp_goto (tgt := 101) dX4_chainKey_93 (by decide) ?_
        refine wp_aload dX4_chainKey_101 rfl ?_
        refine wp_geti dX4_chainKey_103 fl_RX4_96 rfl (hk (ord t) hot.2) ?_
        rw [(hf (ord t) hot.2).1]
        refine wp_callv2 (ci := 1) dX4_chainKey_106 lk_RX4_99 ok_X1_minutesBetween im_X1_minutesBetween se_X1_minutesBetween rfl rfl (fk_5 hF) (Nat.le_of_ble_eq_true rfl) (Nat.le_of_ble_eq_true rfl) ?_
        refine c_X1_minutesBetween (a := 0) hF (by decide) (hf (ord t) hot.2).2 ?_
        rw [w0 _ _ (by decide) (hf (ord t) hot.2).2]
        refine wp_i2l dX4_chainKey_109 ?_
        rw [nI_l (w3 _ _ (by decide) (hf (ord t) hot.2).2)]
        refine wp_ladd dX4_chainKey_110 ?_
        rw [lN_add]
        refine wp_lstore_n dX4_chainKey_111 (by decide) ?_
        refine wp_aload dX4_chainKey_112 rfl ?_
        refine wp_astore dX4_chainKey_114 (by decide) ?_
        refine wp_incN dX4_chainKey_116 rfl (by decide) ?_
        refine wp_goto (tgt := 8) dX4_chainKey_119 (by decide) ?_
        refine wp_forget 6 (wp_forget 7 ?_)
        first
          | (rw [if_pos (hbit.mp h53)] at hq
             exact ih (t + 1) _ (some (ord t)) (by omega) (by omega) (fun p hp => by cases hp; exact hot.2) hq)
          | (rw [if_neg (fun q => h53 (hbit.mpr q))] at hq
             exact ih (t + 1) s none (by omega) (by omega) (fun p hp => by cases hp) hq)
      · refine wp_goto (tgt := 116) dX4_chainKey_56 (by decide) ?_
        refine wp_incN dX4_chainKey_116 rfl (by decide) ?_
        refine wp_goto (tgt := 8) dX4_chainKey_119 (by decide) ?_
        refine wp_forget 6 (wp_forget 7 ?_)
        first
          | (rw [if_pos (hbit.mp h53)] at hq
             exact ih (t + 1) _ (some (ord t)) (by omega) (by omega) (fun p hp => by cases hp; exact hot.2) hq)
          | (rw [if_neg (fun q => h53 (hbit.mpr q))] at hq
             exact ih (t + 1) s none (by omega) (by omega) (fun p hp => by cases hp) hq)
    | some p =>
      have hp := hah p rfl
      show Wp mX4_chainKey (d + 3) 0 0 8 [some (.ref 9), some (.int (nI S)), some (.long (lN s)), none, some (.ref (jo p)), some (.int (nI t)), none, none] [] H Q
      unfold chF at hq
      have hfo : folB H jo fr tt p (ord t) = true ↔ cFol H jo fr tt p (ord t) := decide_eq_true_iff
      refine wp_iload dX4_chainKey_8 rfl ?_
      refine wp_aload_n dX4_chainKey_10 rfl ?_
      refine wp_geta dX4_chainKey_11 fl_RX4_26 rfl (fk_9 hF) (fr_9_0 hF) ?_
      refine wp_geti dX4_chainKey_14 fl_RX4_72 rfl (fk_5 hF) ?_
      refine wp_icmp_ge (tgt := 122) dX4_chainKey_17 (by decide) (fun h17 => absurd h17 (by rw [hm]; exact nI_ge (by omega) (by omega))) (fun _ => ?_)
      refine wp_aload_n dX4_chainKey_20 rfl ?_
      refine wp_geta dX4_chainKey_21 fl_RX4_26 rfl (fk_9 hF) (fr_9_0 hF) ?_
      refine wp_iload dX4_chainKey_24 rfl ?_
      refine wp_callv1 (ci := 1) dX4_chainKey_26 lk_RX4_75 ok_X1_numberInOrder im_X1_numberInOrder se_X1_numberInOrder rfl rfl (fk_5 hF) (Nat.le_of_ble_eq_true rfl) (Nat.le_of_ble_eq_true rfl) ?_
      refine c_X1_numberInOrder hF hm h10 hlt ?_
      rw [hot.1]
      refine wp_istore dX4_chainKey_29 (by decide) ?_
      refine wp_aload_n dX4_chainKey_31 rfl ?_
      refine wp_geta dX4_chainKey_32 fl_RX4_26 rfl (fk_9 hF) (fr_9_0 hF) ?_
      refine wp_iload dX4_chainKey_35 rfl ?_
      refine wp_callv1 (ci := 1) dX4_chainKey_37 lk_RX4_79 ok_X1_find im_X1_find se_X1_find rfl rfl (fk_5 hF) (Nat.le_of_ble_eq_true rfl) (Nat.le_of_ble_eq_true rfl) ?_
      refine c_X1_findN hF hJ0 hot.2 ?_
      refine wp_astore dX4_chainKey_40 (by decide) ?_
      refine wp_aload dX4_chainKey_42 rfl ?_
      refine wp_ifnull (r := some _) (tgt := 116) dX4_chainKey_44 (by decide) (fun h => by cases h) (fun _ _ => ?_)
      refine wp_iload_n dX4_chainKey_47 rfl ?_
      refine wp_iload dX4_chainKey_48 rfl ?_
      refine wp_calls2 dX4_chainKey_50 lk_RX4_83 ok_X11_hasBit st_X11_hasBit (Nat.le_of_ble_eq_true rfl) (Nat.le_of_ble_eq_true rfl) ?_
      refine c_X11_hasBit ?_
      refine wp_ifb_ne (tgt := 59) dX4_chainKey_53 (by decide) (fun h53 => ?_) (fun h53 => ?_)
      · refine wp_aload dX4_chainKey_59 rfl ?_
        refine wp_ifnull (r := some _) (tgt := 82) dX4_chainKey_61 (by decide) (fun h => by cases h) (fun _ _ => ?_)
        refine wp_aload_n dX4_chainKey_64 rfl ?_
        refine wp_geta dX4_chainKey_65 fl_RX4_26 rfl (fk_9 hF) (fr_9_0 hF) ?_
        refine wp_aload dX4_chainKey_68 rfl ?_
        refine wp_aload dX4_chainKey_70 rfl ?_
        refine wp_callv2 (ci := 1) dX4_chainKey_72 lk_RX4_87 ok_X1_mayFollow im_X1_mayFollow se_X1_mayFollow rfl rfl (fk_5 hF) (Nat.le_of_ble_eq_true rfl) (Nat.le_of_ble_eq_true rfl) ?_
        refine c_X1_mayFollow hF hJ0 hp hot.2 ?_
        refine wp_ifb_ne (tgt := 82) dX4_chainKey_75 (by decide) (fun h75 => ?_) (fun h75 => ?_)
        · refine wp_lload_n dX4_chainKey_82 rfl ?_
          refine wp_aload_n dX4_chainKey_83 rfl ?_
          refine wp_geta dX4_chainKey_84 fl_RX4_26 rfl (fk_9 hF) (fr_9_0 hF) ?_
          refine wp_aload dX4_chainKey_87 rfl ?_
          refine wp_ifnonnull (r := some _) (tgt := 96) dX4_chainKey_89 (by decide) (fun h => by cases h) (fun _ _ => ?_)
          refine wp_aload dX4_chainKey_96 rfl ?_
          refine wp_geti dX4_chainKey_98 fl_RX4_91 rfl (hk p hp) ?_
          rw [(ht p hp).1]
          refine wp_aload dX4_chainKey_101 rfl ?_
          refine wp_geti dX4_chainKey_103 fl_RX4_96 rfl (hk (ord t) hot.2) ?_
          rw [(hf (ord t) hot.2).1]
          refine wp_callv2 (ci := 1) dX4_chainKey_106 lk_RX4_99 ok_X1_minutesBetween im_X1_minutesBetween se_X1_minutesBetween rfl rfl (fk_5 hF) (Nat.le_of_ble_eq_true rfl) (Nat.le_of_ble_eq_true rfl) ?_
          refine c_X1_minutesBetween hF (ht p hp).2 (hf (ord t) hot.2).2 ?_
          rw [w0 _ _ (ht p hp).2 (hf (ord t) hot.2).2]
          refine wp_i2l dX4_chainKey_109 ?_
          rw [nI_l (w3 _ _ (ht p hp).2 (hf (ord t) hot.2).2)]
          refine wp_ladd dX4_chainKey_110 ?_
          rw [lN_add]
          refine wp_lstore_n dX4_chainKey_111 (by decide) ?_
          refine wp_aload dX4_chainKey_112 rfl ?_
          refine wp_astore dX4_chainKey_114 (by decide) ?_
          refine wp_incN dX4_chainKey_116 rfl (by decide) ?_
          refine wp_goto (tgt := 8) dX4_chainKey_119 (by decide) ?_
          refine wp_forget 6 (wp_forget 7 ?_)
          first
            | (rw [if_pos (hbit.mp h53), if_pos (hfo.mpr h75)] at hq
               exact ih (t + 1) _ (some (ord t)) (by omega) (by omega) (fun p hp => by cases hp; exact hot.2) hq)
            | (rw [if_neg (fun q => h53 (hbit.mpr q))] at hq
               exact ih (t + 1) s (some p) (by omega) (by omega) hah hq)
        · refine wp_ldc2_w dX4_chainKey_78 co_RX4_56 ?_
          refine wp_lreturn rfl dX4_chainKey_81 ?_
          rw [if_pos (hbit.mp h53), if_neg (fun q => h75 (hfo.mp q))] at hq; exact hq
      · refine wp_goto (tgt := 116) dX4_chainKey_56 (by decide) ?_
        refine wp_incN dX4_chainKey_116 rfl (by decide) ?_
        refine wp_goto (tgt := 8) dX4_chainKey_119 (by decide) ?_
        refine wp_forget 6 (wp_forget 7 ?_)
        first
          | (rw [if_pos (hbit.mp h53), if_pos (hfo.mpr h75)] at hq
             exact ih (t + 1) _ (some (ord t)) (by omega) (by omega) (fun p hp => by cases hp; exact hot.2) hq)
          | (rw [if_neg (fun q => h53 (hbit.mpr q))] at hq
             exact ih (t + 1) s (some p) (by omega) (by omega) hah hq)
/-- the key of a set -/
def ckF (fr tt ord : Nat → Nat) (w : Nat → Nat → Nat) (fol : Nat → Nat → Bool) (m S : Nat) : Nat := keyO S (chF fr tt ord w fol S m 0 none 0)
theorem c_X4_chainKey (hF : Fix H) (hJ : JS H m jo fr tt) (hO : ∀ t, t < m → hI H 8 t = nI (ord t) ∧ ord t < m) (hw : WY H w) (hS : S < 1024) (hq : Q (some (.long (lN (ckF fr tt ord w (folB H jo fr tt) m S)))) H) :
    Wp mX4_chainKey (d + 3) 0 0 0 [some (.ref 9), some (.int (nI S)), none, none, none, none, none, none] [] H Q := by
  refine wp_lconst (v := 0) dX4_chainKey_0 (by decide) ?_
  refine wp_lstore_n dX4_chainKey_1 (by decide) ?_
  refine wp_aconst_null dX4_chainKey_2 ?_
  refine wp_astoreN dX4_chainKey_3 (by decide) ?_
  refine wp_iconst (v := 0) dX4_chainKey_5 (by decide) ?_
  refine wp_istore dX4_chainKey_6 (by decide) ?_
  exact l_X4_chainKey hF hJ hO hw hS m 0 0 none (by omega) (by omega) (fun p hp => by cases hp) hq
end CK
