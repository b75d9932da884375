/-! ===== the first free minute: the reference ===== -/
def mdWh (H : PH) (n : Nat) (c k : Int32) (t : Nat) : Prop := ∀ i, i < n → ¬ mdHit H c (nI t) k i
def mdBlk (H : PH) (n : Nat) (c k : Int32) (z s : Nat) : Prop := ∃ u, u < z ∧ ¬ mdWh H n c k (s + u)
section MF
variable {d n m0 z : Nat} {c k : Int32} {H : PH} {Q : Option Value → PH → Prop}
theorem l_X12_free (hF : Fix H) (hn : hI H 33 54 = nI n) (hn4 : n ≤ 40) (ht : ∀ i, i < n → hI H 67 i ≤ 3000) (hz : z ≤ 500)
    (hq : ∀ s, m0 ≤ s → s ≤ 3000 → (∀ u, u < z → mdWh H n c k (s + u)) → (∀ s', m0 ≤ s' → s' < s → mdBlk H n c k z s') → Q (some (.int (nI s))) H) :
    ∀ (j s r : Nat), (3001 - s) * 600 + (z - r) = j → m0 ≤ s → s ≤ 3000 → r ≤ z → (∀ u, u < r → mdWh H n c k (s + u)) → (∀ s', m0 ≤ s' → s' < s → mdBlk H n c k z s') →
    Wp mX12_free (d + 1) 0 0 40 [some (.ref 33), some (.int c), some (.int (nI m0)), some (.int (nI z)), some (.int k), some (.int (nI s)), some (.int (nI r))] [] H Q := by
  intro j
  induction j using Nat.strongRecOn with
  | _ j ih =>
    intro s r hj h0 h3 hr hw hbl
    refine wp_iload dX12_free_40 rfl ?_
    refine wp_iload_n dX12_free_42 rfl ?_
    refine wp_icmp_ge (tgt := 90) dX12_free_43 (by decide) (fun h43 => ?_) (fun h43 => ?_)
    · refine wp_iload dX12_free_90 rfl ?_
      refine wp_ireturn rfl dX12_free_92 ?_
      have e9 : r = z := by
          rcases Nat.lt_or_ge r z with q | q
          · exact absurd h43 (nI_ge q (by omega))
          · omega
      subst e9
      exact hq s h0 h3 hw hbl
    · refine wp_iload dX12_free_46 rfl ?_
      refine wp_sipush (v := 3000) dX12_free_48 (by decide) ?_
      refine wp_icmp_gt (tgt := 90) dX12_free_51 (by decide) (fun h51 => absurd h51 (nI_nlt h3 (by decide))) (fun _ => ?_)
      have hrz : r < z := by
          rcases Nat.lt_or_ge r z with q | q
          · exact q
          · exact absurd (nI_le q (by omega)) h43
      refine wp_aload_n dX12_free_54 rfl ?_
      refine wp_iload_n dX12_free_55 rfl ?_
      refine wp_iload dX12_free_56 rfl ?_
      refine wp_iload dX12_free_58 rfl ?_
      refine wp_iadd dX12_free_60 ?_
      rw [nI_add]
      refine wp_iload dX12_free_61 rfl ?_
      refine wp_callv3 (ci := 12) dX12_free_63 lk_RX12_340 ok_X12_isWhole im_X12_isWhole se_X12_isWhole rfl rfl (fk_33 hF) (Nat.le_of_ble_eq_true rfl) (Nat.le_of_ble_eq_true rfl) ?_
      refine c_X12_isWhole hF hn hn4 ?_
      refine wp_ifb_eq (tgt := 75) dX12_free_66 (by decide) (fun h66 => ?_) (fun h66 => ?_)
      · have hbad : ¬ mdWh H n c k (s + r) := h66
        have h30 : s + r < 3000 := by
          obtain ⟨i, hi, hh⟩ : ∃ i, i < n ∧ mdHit H c (nI (s + r)) k i := by
            refine Classical.byContradiction (fun q => hbad (fun i hi hh => q ⟨i, hi, hh⟩))
          have q9 : nI (s + r) < nI 3000 := Int32.lt_of_lt_of_le hh.2.2.2.2 (ht i hi)
          exact (nI_ltI (by omega) (by omega)).mp q9
        refine wp_iload dX12_free_75 rfl ?_
        refine wp_iload dX12_free_77 rfl ?_
        refine wp_iconst (v := 1) dX12_free_79 (by decide) ?_
        refine wp_iadd dX12_free_80 ?_
        rw [nI_1]
        refine wp_iadd dX12_free_81 ?_
        rw [nI_add]
        refine wp_istore dX12_free_82 (by decide) ?_
        refine wp_iconst (v := 0) dX12_free_84 (by decide) ?_
        refine wp_istore dX12_free_85 (by decide) ?_
        refine wp_goto (tgt := 40) dX12_free_87 (by decide) ?_
        first
            | (refine ih ((3001 - s) * 600 + (z - (r + 1))) (by omega) s (r + 1) rfl h0 h3 hrz (fun u hu => ?_) hbl
               rcases Nat.lt_succ_iff_lt_or_eq.mp hu with q | q
               · exact hw u q
               · subst q; exact h66)
            | (refine ih ((3001 - (s + (r + 1))) * 600 + (z - 0)) (by omega) (s + (r + 1)) 0 rfl (by omega) (by omega) (by omega) (fun u hu => by omega) (fun s' q1 q2 => ?_)
               rcases Nat.lt_or_ge s' s with q | q
               · exact hbl s' q1 q
               · exact ⟨s + r - s', by omega, by rw [show s' + (s + r - s') = s + r by omega]; exact hbad⟩)
      · refine wp_incN dX12_free_69 rfl (by decide) ?_
        refine wp_goto (tgt := 40) dX12_free_72 (by decide) ?_
        first
            | (refine ih ((3001 - s) * 600 + (z - (r + 1))) (by omega) s (r + 1) rfl h0 h3 hrz (fun u hu => ?_) hbl
               rcases Nat.lt_succ_iff_lt_or_eq.mp hu with q | q
               · exact hw u q
               · subst q; exact h66)
            | (refine ih ((3001 - (s + (r + 1))) * 600 + (z - 0)) (by omega) (s + (r + 1)) 0 rfl (by omega) (by omega) (by omega) (fun u hu => by omega) (fun s' q1 q2 => ?_)
               rcases Nat.lt_or_ge s' s with q | q
               · exact hbl s' q1 q
               · exact ⟨s + r - s', by omega, by rw [show s' + (s + r - s') = s + r by omega]; exact hbad⟩)
theorem c_X12_free (hF : Fix H) (hn : hI H 33 54 = nI n) (hn4 : n ≤ 40) (ht : ∀ i, i < n → hI H 67 i ≤ 3000) {m l : Int32}
    (hq1 : ∀ m0 z s : Nat, m = nI m0 → l = nI z → m0 ≤ 3000 → 1 ≤ z → z ≤ 500 → (0 ≤ c ∧ c ≤ 5) → m0 ≤ s → s ≤ 3000 → (∀ u, u < z → mdWh H n c k (s + u)) → (∀ s', m0 ≤ s' → s' < s → mdBlk H n c k z s') → Q (some (.int (nI s))) H)
    (hq2 : ¬ ((0 ≤ c ∧ c ≤ 5) ∧ (0 ≤ m ∧ m ≤ 3000) ∧ (1 ≤ l ∧ l ≤ 500)) → Q (some (.int (-1))) H) :
    Wp mX12_free (d + 1) 0 0 0 [some (.ref 33), some (.int c), some (.int m), some (.int l), some (.int k), none, none] [] H Q := by
  refine wp_iload_n dX12_free_0 rfl ?_
  refine wp_if_lt (tgt := 32) dX12_free_1 (by decide) (fun h1 => ?_) (fun h1 => ?_)
  · refine wp_iconst (v := -1) dX12_free_32 (by decide) ?_
    refine wp_ireturn rfl dX12_free_33 ?_
    refine hq2 (fun q => ?_)
    first
      | exact absurd h1 (Int32.not_lt.mpr q.1.1)
      | exact absurd h6 (Int32.not_lt.mpr q.1.2)
      | exact absurd h10 (Int32.not_lt.mpr q.2.1.1)
      | exact absurd h17 (Int32.not_lt.mpr q.2.1.2)
      | exact absurd h22 (Int32.not_lt.mpr q.2.2.1)
      | exact absurd q.2.2.2 h29
  · refine wp_iload_n dX12_free_4 rfl ?_
    refine wp_iconst (v := 5) dX12_free_5 (by decide) ?_
    refine wp_icmp_gt (tgt := 32) dX12_free_6 (by decide) (fun h6 => ?_) (fun h6 => ?_)
    · refine wp_iconst (v := -1) dX12_free_32 (by decide) ?_
      refine wp_ireturn rfl dX12_free_33 ?_
      refine hq2 (fun q => ?_)
      first
        | exact absurd h1 (Int32.not_lt.mpr q.1.1)
        | exact absurd h6 (Int32.not_lt.mpr q.1.2)
        | exact absurd h10 (Int32.not_lt.mpr q.2.1.1)
        | exact absurd h17 (Int32.not_lt.mpr q.2.1.2)
        | exact absurd h22 (Int32.not_lt.mpr q.2.2.1)
        | exact absurd q.2.2.2 h29
    · refine wp_iload_n dX12_free_9 rfl ?_
      refine wp_if_lt (tgt := 32) dX12_free_10 (by decide) (fun h10 => ?_) (fun h10 => ?_)
      · refine wp_iconst (v := -1) dX12_free_32 (by decide) ?_
        refine wp_ireturn rfl dX12_free_33 ?_
        refine hq2 (fun q => ?_)
        first
          | exact absurd h1 (Int32.not_lt.mpr q.1.1)
          | exact absurd h6 (Int32.not_lt.mpr q.1.2)
          | exact absurd h10 (Int32.not_lt.mpr q.2.1.1)
          | exact absurd h17 (Int32.not_lt.mpr q.2.1.2)
          | exact absurd h22 (Int32.not_lt.mpr q.2.2.1)
          | exact absurd q.2.2.2 h29
      · refine wp_iload_n dX12_free_13 rfl ?_
        refine wp_sipush (v := 3000) dX12_free_14 (by decide) ?_
        refine wp_icmp_gt (tgt := 32) dX12_free_17 (by decide) (fun h17 => ?_) (fun h17 => ?_)
        · refine wp_iconst (v := -1) dX12_free_32 (by decide) ?_
          refine wp_ireturn rfl dX12_free_33 ?_
          refine hq2 (fun q => ?_)
          first
            | exact absurd h1 (Int32.not_lt.mpr q.1.1)
            | exact absurd h6 (Int32.not_lt.mpr q.1.2)
            | exact absurd h10 (Int32.not_lt.mpr q.2.1.1)
            | exact absurd h17 (Int32.not_lt.mpr q.2.1.2)
            | exact absurd h22 (Int32.not_lt.mpr q.2.2.1)
            | exact absurd q.2.2.2 h29
        · refine wp_iload_n dX12_free_20 rfl ?_
          refine wp_iconst (v := 1) dX12_free_21 (by decide) ?_
          refine wp_icmp_lt (tgt := 32) dX12_free_22 (by decide) (fun h22 => ?_) (fun h22 => ?_)
          · refine wp_iconst (v := -1) dX12_free_32 (by decide) ?_
            refine wp_ireturn rfl dX12_free_33 ?_
            refine hq2 (fun q => ?_)
            first
              | exact absurd h1 (Int32.not_lt.mpr q.1.1)
              | exact absurd h6 (Int32.not_lt.mpr q.1.2)
              | exact absurd h10 (Int32.not_lt.mpr q.2.1.1)
              | exact absurd h17 (Int32.not_lt.mpr q.2.1.2)
              | exact absurd h22 (Int32.not_lt.mpr q.2.2.1)
              | exact absurd q.2.2.2 h29
          · refine wp_iload_n dX12_free_25 rfl ?_
            refine wp_sipush (v := 500) dX12_free_26 (by decide) ?_
            refine wp_icmp_le (tgt := 34) dX12_free_29 (by decide) (fun h29 => ?_) (fun h29 => ?_)
            · refine wp_iload_n dX12_free_34 rfl ?_
              refine wp_istore dX12_free_35 (by decide) ?_
              refine wp_iconst (v := 0) dX12_free_37 (by decide) ?_
              refine wp_istore dX12_free_38 (by decide) ?_
              obtain ⟨m0, hm0, rfl⟩ := nI_of2 (M := 3000) (n := 3000) (by decide) h10 (Int32.not_lt.mp h17)
              have h22' := Int32.not_lt.mp h22
              obtain ⟨z, hz, rfl⟩ := nI_of2 (x := l) (M := 500) (n := 500) (by decide) (fun q => absurd (Int32.lt_of_lt_of_le q (show (0 : Int32) ≤ 1 by decide)) (Int32.not_lt.mpr h22')) h29
              have hz1 : 1 ≤ z := (nI_leI (a := 1) (b := z) (by omega) (by omega)).mp h22'
              exact l_X12_free hF hn hn4 ht hz (fun s g1 g2 g3 g4 => hq1 m0 z s rfl rfl hm0 hz1 hz ⟨Int32.not_lt.mp h1, Int32.not_lt.mp h6⟩ g1 g2 g3 g4) _ m0 0 rfl (Nat.le_refl _) hm0 (by omega) (fun u hu => by omega) (fun s' q1 q2 => by omega)
            · refine wp_iconst (v := -1) dX12_free_32 (by decide) ?_
              refine wp_ireturn rfl dX12_free_33 ?_
              refine hq2 (fun q => ?_)
              first
                | exact absurd h1 (Int32.not_lt.mpr q.1.1)
                | exact absurd h6 (Int32.not_lt.mpr q.1.2)
                | exact absurd h10 (Int32.not_lt.mpr q.2.1.1)
                | exact absurd h17 (Int32.not_lt.mpr q.2.1.2)
                | exact absurd h22 (Int32.not_lt.mpr q.2.2.1)
                | exact absurd q.2.2.2 h29
end MF
