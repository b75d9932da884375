/-! ===== small ones: kept bits, fill, chainNumber, shiftOf; Pricer's leaves ===== -/
def kbF (H : PH) (jo : Nat → Nat) : Nat → Int32
  | 0 => 0
  | k + 1 => kbF H jo k ||| (if hI H (jo k) 8 = 0 then 1 <<< (nI k &&& 31) else 0)
theorem l_X1_keptBits {d m : Nat} {jo fr tt : Nat → Nat} {H : PH} {Q : Option Value → PH → Prop} (hF : Fix H) (hJ : JS H m jo fr tt) (hq : Q (some (.int (kbF H jo m))) H) : ∀ (f k : Nat), m - k = f → k ≤ m → Wp mX1_keptBits d 0 0 4 [some (.ref 5), some (.int (kbF H jo k)), some (.int (nI k))] [] H Q := by
  obtain ⟨hm, h10', hr, hk, -⟩ := hJ
  intro f
  induction f with
  | zero =>
    intro k hf hk'
    have hin : k = m := by omega
    subst hin
    refine wp_iload_n dX1_keptBits_4 rfl ?_
    refine wp_aload_n dX1_keptBits_5 rfl ?_
    refine wp_geti dX1_keptBits_6 fl_RX1_39 rfl (fk_5 hF) ?_
    refine wp_icmp_ge (tgt := 40) dX1_keptBits_9 (by decide) (fun _ => ?_) (fun h9 => absurd h9 (by rw [hm]; exact fun h => h (nI_le (Nat.le_refl _) (by omega))))
    refine wp_iload_n dX1_keptBits_40 rfl ?_
    refine wp_ireturn rfl dX1_keptBits_41 ?_
    exact hq
  | succ f ih =>
    intro k hf hk'
    have hlt : k < m := by omega
    refine wp_iload_n dX1_keptBits_4 rfl ?_
    refine wp_aload_n dX1_keptBits_5 rfl ?_
    refine wp_geti dX1_keptBits_6 fl_RX1_39 rfl (fk_5 hF) ?_
    refine wp_icmp_ge (tgt := 40) dX1_keptBits_9 (by decide) (fun h9 => absurd h9 (by rw [hm]; exact nI_ge (by omega) (by omega))) (fun _ => ?_)
    refine wp_iload_n dX1_keptBits_12 rfl ?_
    refine wp_aload_n dX1_keptBits_13 rfl ?_
    refine wp_geta dX1_keptBits_14 fl_RX1_17 rfl (fk_5 hF) (fr_5_1 hF) ?_
    refine wp_iload_n dX1_keptBits_17 rfl ?_
    refine wp_aaloadA dX1_keptBits_18 (fk_7 hF) (by decide) (by omega) (by decide) (hr k hlt) ?_
    refine wp_geti dX1_keptBits_19 fl_RX1_56 rfl (hk k hlt) ?_
    refine wp_if_eq (tgt := 29) dX1_keptBits_22 (by decide) (fun h22 => ?_) (fun h22 => ?_)
    · refine wp_iconst (v := 1) dX1_keptBits_29 (by decide) ?_
      refine wp_iload_n dX1_keptBits_30 rfl ?_
      refine wp_ishl dX1_keptBits_31 ?_
      refine wp_ior dX1_keptBits_32 ?_
      refine wp_istore_n dX1_keptBits_33 (by decide) ?_
      refine wp_incN dX1_keptBits_34 rfl (by decide) ?_
      refine wp_goto (tgt := 4) dX1_keptBits_37 (by decide) ?_
      have h9 := ih (k + 1) (by omega) (by omega)
      unfold kbF at h9
      first | (rw [if_pos h22] at h9; exact h9) | (rw [if_neg h22] at h9; exact h9)
    · refine wp_iconst (v := 0) dX1_keptBits_25 (by decide) ?_
      refine wp_goto (tgt := 32) dX1_keptBits_26 (by decide) ?_
      refine wp_ior dX1_keptBits_32 ?_
      refine wp_istore_n dX1_keptBits_33 (by decide) ?_
      refine wp_incN dX1_keptBits_34 rfl (by decide) ?_
      refine wp_goto (tgt := 4) dX1_keptBits_37 (by decide) ?_
      have h9 := ih (k + 1) (by omega) (by omega)
      unfold kbF at h9
      first | (rw [if_pos h22] at h9; exact h9) | (rw [if_neg h22] at h9; exact h9)
theorem c_X1_keptBits {d m : Nat} {jo fr tt : Nat → Nat} {H : PH} {Q : Option Value → PH → Prop} (hF : Fix H) (hJ : JS H m jo fr tt) (hq : Q (some (.int (kbF H jo m))) H) : Wp mX1_keptBits d 0 0 0 [some (.ref 5), none, none] [] H Q := by
  refine wp_iconst (v := 0) dX1_keptBits_0 (by decide) ?_
  refine wp_istore_n dX1_keptBits_1 (by decide) ?_
  refine wp_iconst (v := 0) dX1_keptBits_2 (by decide) ?_
  refine wp_istore_n dX1_keptBits_3 (by decide) ?_
  exact l_X1_keptBits hF hJ hq m 0 (by omega) (by omega)
theorem l_J7_fill {d a N : Nat} {v : Int32} {H : PH} {Q : Option Value → PH → Prop} (hk : hK H a = (20, N)) (hN' : N < 2 ^ 31) (hq : ∀ H', eqX (fun a' _ => a' = a) H H' → (∀ k, k < N → hI H' a k = v) → Q none H') : ∀ (f i : Nat) (H1 : PH), N - i = f → i ≤ N → eqX (fun a' _ => a' = a) H H1 → (∀ k, k < i → hI H1 a k = v) → Wp mJ7_fill_53178 d 0 0 5 [some (.ref a), some (.int v), some (.int (nI i)), some (.int (nI N))] [] H1 Q := by
  intro f
  induction f with
  | zero =>
    intro i H1 hf hi he hb
    have hin : i = N := by omega
    subst hin
    refine wp_iload_n dJ7_fill_53178_5 rfl ?_
    refine wp_iload_n dJ7_fill_53178_6 rfl ?_
    refine wp_icmp_ge (tgt := 20) dJ7_fill_53178_7 (by decide) (fun _ => ?_) (fun h7 => absurd h7 (fun h => h (nI_le (Nat.le_refl _) hN')))
    refine wp_return rfl dJ7_fill_53178_20 ?_
    exact hq H1 he hb
  | succ f ih =>
    intro i H1 hf hi he hb
    have hk1 : hK H1 a = (20, N) := by rw [he.2.1]; exact hk
    refine wp_iload_n dJ7_fill_53178_5 rfl ?_
    refine wp_iload_n dJ7_fill_53178_6 rfl ?_
    refine wp_icmp_ge (tgt := 20) dJ7_fill_53178_7 (by decide) (fun h7 => absurd h7 (nI_ge (by omega) hN')) (fun _ => ?_)
    refine wp_aload_n dJ7_fill_53178_10 rfl ?_
    refine wp_iload_n dJ7_fill_53178_11 rfl ?_
    refine wp_iload_n dJ7_fill_53178_12 rfl ?_
    refine wp_iastoreN dJ7_fill_53178_13 hk1 (by omega) hN' ?_
    refine wp_incN dJ7_fill_53178_14 rfl (by decide) ?_
    refine wp_goto (tgt := 5) dJ7_fill_53178_17 (by decide) ?_
    refine ih (i + 1) _ (by omega) (by omega) (eqX_sI he rfl) (fun k hk9 => ?_)
    rw [hI_sI']
    by_cases q : k = i
    · subst q; simp
    · rw [if_neg (by omega)]; exact hb k (by omega)
theorem c_J7_fill {d a N : Nat} {v : Int32} {H : PH} {Q : Option Value → PH → Prop} (hk : hK H a = (20, N)) (hN' : N < 2 ^ 31) (hq : ∀ H', eqX (fun a' _ => a' = a) H H' → (∀ k, k < N → hI H' a k = v) → Q none H') : Wp mJ7_fill_53178 d 0 0 0 [some (.ref a), some (.int v), none, none] [] H Q := by
  refine wp_iconst (v := 0) dJ7_fill_53178_0 (by decide) ?_
  refine wp_istore_n dJ7_fill_53178_1 (by decide) ?_
  refine wp_aload_n dJ7_fill_53178_2 rfl ?_
  refine wp_alen dJ7_fill_53178_3 (hk) (by simp) ?_
  refine wp_istore_n dJ7_fill_53178_4 (by decide) ?_
  exact l_J7_fill hk hN' hq N 0 H (by omega) (by omega) eqX_rfl (fun k hk9 => absurd hk9 (Nat.not_lt_zero k))
theorem c_X4_shiftOf {d : Nat} {x : Int32} {H : PH} {Q : Option Value → PH → Prop} (hq : Q (some (.int (4 * (9 - x)))) H) : Wp mX4_shiftOf d 0 0 0 [some (.int x)] [] H Q := by
  refine wp_iconst (v := 4) dX4_shiftOf_0 (by decide) ?_
  refine wp_bipush (v := 9) dX4_shiftOf_1 (by decide) ?_
  refine wp_iload_n dX4_shiftOf_3 rfl ?_
  refine wp_isub dX4_shiftOf_4 ?_
  refine wp_imul dX4_shiftOf_5 ?_
  refine wp_ireturn rfl dX4_shiftOf_6 ?_
  exact hq
theorem c_X4_chainNumber {d : Nat} {x : Int32} {H : PH} {Q : Option Value → PH → Prop} (hF : Fix H) (hq1 : ∀ j, j < 10 → x = nI j → Q (some (.int (hI H 12 j))) H) (hq2 : ¬ (0 ≤ x ∧ x < 10) → Q (some (.int (-1))) H) : Wp mX4_chainNumber d 0 0 0 [some (.ref 9), some (.int x)] [] H Q := by
  refine wp_iload_n dX4_chainNumber_0 rfl ?_
  refine wp_if_lt (tgt := 22) dX4_chainNumber_1 (by decide) (fun h1 => ?_) (fun h1 => ?_)
  · refine wp_iconst (v := -1) dX4_chainNumber_22 (by decide) ?_
    refine wp_ireturn rfl dX4_chainNumber_23 ?_
    first | exact hq1 j hj rfl | exact hq2 (fun q => absurd h1 (Int32.not_lt.mpr q.1)) | exact hq2 (fun q => absurd h10 (Int32.not_le.mpr q.2))
  · refine wp_iload_n dX4_chainNumber_4 rfl ?_
    refine wp_aload_n dX4_chainNumber_5 rfl ?_
    refine wp_geta dX4_chainNumber_6 fl_RX4_18 rfl (fk_9 hF) (fr_9_3 hF) ?_
    refine wp_alen dX4_chainNumber_9 (fk_12 hF) (by simp) ?_
    refine wp_icmp_ge (tgt := 22) dX4_chainNumber_10 (by decide) (fun h10 => ?_) (fun h10 => ?_)
    · refine wp_iconst (v := -1) dX4_chainNumber_22 (by decide) ?_
      refine wp_ireturn rfl dX4_chainNumber_23 ?_
      first | exact hq1 j hj rfl | exact hq2 (fun q => absurd h1 (Int32.not_lt.mpr q.1)) | exact hq2 (fun q => absurd h10 (Int32.not_le.mpr q.2))
    · obtain ⟨j, hj, rfl⟩ := in_of (n := 10) (by decide) ⟨Int32.not_lt.mp h1, Int32.not_le.mp h10⟩
      refine wp_aload_n dX4_chainNumber_13 rfl ?_
      refine wp_geta dX4_chainNumber_14 fl_RX4_18 rfl (fk_9 hF) (fr_9_3 hF) ?_
      refine wp_iload_n dX4_chainNumber_17 rfl ?_
      refine wp_ialoadN dX4_chainNumber_18 (fk_12 hF) (by omega) (by decide) ?_
      refine wp_goto (tgt := 23) dX4_chainNumber_19 (by decide) ?_
      refine wp_ireturn rfl dX4_chainNumber_23 ?_
      first | exact hq1 j hj rfl | exact hq2 (fun q => absurd h1 (Int32.not_lt.mpr q.1)) | exact hq2 (fun q => absurd h10 (Int32.not_le.mpr q.2))
