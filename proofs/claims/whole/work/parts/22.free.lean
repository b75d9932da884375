/-! ===== the first free minute: the class ===== -/
def cn (p : Nat → Bool) : Nat → Nat
  | 0 => 0
  | n + 1 => cn p n + if p n then 1 else 0
theorem cn_le (p : Nat → Bool) : ∀ n, cn p n ≤ n
  | 0 => Nat.le_refl _
  | n + 1 => by have := cn_le p n; unfold cn; split <;> omega
theorem cn_mono {p q : Nat → Bool} : ∀ {n : Nat}, (∀ i, i < n → p i = true → q i = true) → cn p n ≤ cn q n
  | 0, _ => Nat.le_refl _
  | n + 1, h => by
    have h1 := cn_mono (n := n) (fun i hi => h i (by omega))
    have h2 := h n (by omega)
    unfold cn
    by_cases a : p n = true
    · rw [if_pos a, if_pos (h2 a)]; omega
    · rw [if_neg a]; split <;> omega
theorem cn_lt {p q : Nat → Bool} : ∀ {n : Nat}, (∀ i, i < n → p i = true → q i = true) → (∃ e, e < n ∧ q e = true ∧ p e = false) → cn p n < cn q n
  | 0, _, h => by obtain ⟨e, he, -⟩ := h; omega
  | n + 1, h, hx => by
    obtain ⟨e, he, h1, h2⟩ := hx
    have h3 := h n (by omega)
    unfold cn
    by_cases hen : e = n
    · subst hen
      have h4 := cn_mono (n := e) (fun i hi => h i (by omega))
      rw [if_pos h1, if_neg (by rw [h2]; decide)]
      omega
    · have h4 := cn_lt (n := n) (fun i hi => h i (by omega)) ⟨e, by omega, h1, h2⟩
      by_cases a : p n = true
      · rw [if_pos a, if_pos (h3 a)]; omega
      · rw [if_neg a]; split <;> omega
theorem cn_zero {p : Nat → Bool} : ∀ {n : Nat}, cn p n = 0 → ∀ i, i < n → p i = false
  | 0, _, i, hi => by omega
  | n + 1, h, i, hi => by
    unfold cn at h
    by_cases a : p n = true
    · rw [if_pos a] at h; omega
    · rw [if_neg a] at h
      by_cases hin : i = n
      · subst hin; simpa using a
      · exact cn_zero (n := n) (by omega) i (by omega)
theorem wp_forget {y : MD} {d kc ks pc : Nat} {lo : List (Option Value)} {st : List Value} {H : PH} {Q : Option Value → PH → Prop} (k : Nat) (kk : Wp y d kc ks pc (lo.set k none) st H Q) : Wp y d kc ks pc lo st H Q := by
  refine wp_locals (fun i v h => ?_) kk
  by_cases hik : i = k
  · subst hik
    by_cases hl : i < lo.length
    · rw [List.getElem?_set_self hl] at h; cases h
    · rw [List.getElem?_eq_none (by simp; omega)] at h; cases h
  · rw [List.getElem?_set_ne (by omega)] at h; exact h
abbrev bkTrg (H : PH) (c k : Int32) (f t : Nat → Nat) (z i s : Nat) : Prop := bkHold H c k i ∧ f i < s + z ∧ s < t i
def bkMov (H : PH) (c k : Int32) (t : Nat → Nat) (n s0 s : Nat) : Prop := ∃ e, e < n ∧ bkHold H c k e ∧ s0 < t e ∧ t e ≤ s
section FF
variable {d n m0 z : Nat} {c k : Int32} {H : PH} {Q : Option Value → PH → Prop} {f t : Nat → Nat}
theorem l_X0_ff_in (hF : Fix H) (hn : hI H 23 5 = nI n) (hn4 : n ≤ 40) (hf : ∀ i, i < n → hI H 25 i = nI (f i)) (ht : ∀ i, i < n → hI H 26 i = nI (t i)) (hb : ∀ i, i < n → f i < t i ∧ t i ≤ 3000) (hz : z ≤ 500) {s0 : Nat} {x6 : Int32}
    (kont : ∀ s, s0 ≤ s → s ≤ 3000 → (∀ s', m0 ≤ s' → s' < s → ∃ e, e < n ∧ bkTrg H c k f t z e s') → (s = s0 → ∀ e, e < n → ¬ bkTrg H c k f t z e s0) → (s0 < s → bkMov H c k t n s0 s) → Wp mX0_firstFree (d + 2) 0 0 115 [some (.ref 23), some (.int c), some (.int (nI m0)), some (.int (nI z)), some (.int k), some (.int (nI s)), some (.int x6), some (.int (nI s0)), some (.int (nI n))] [] H Q) :
    ∀ (j i s : Nat), n - i = j → i ≤ n → s0 ≤ s → s ≤ 3000 → (∀ s', m0 ≤ s' → s' < s → ∃ e, e < n ∧ bkTrg H c k f t z e s') → (s = s0 → ∀ e, e < i → ¬ bkTrg H c k f t z e s0) → (s0 < s → bkMov H c k t n s0 s) →
    Wp mX0_firstFree (d + 2) 0 0 53 [some (.ref 23), some (.int c), some (.int (nI m0)), some (.int (nI z)), some (.int k), some (.int (nI s)), some (.int x6), some (.int (nI s0)), some (.int (nI i))] [] H Q := by
  intro j
  induction j with
  | zero =>
    intro i s hj hi h0 h3 hbl hst hch
    have hin : i = n := by omega
    subst hin
    refine wp_iload dX0_firstFree_53 rfl ?_
    refine wp_aload_n dX0_firstFree_55 rfl ?_
    refine wp_geti dX0_firstFree_56 fl_RX0_35 rfl (fk_23 hF) ?_
    refine wp_icmp_ge (tgt := 115) dX0_firstFree_59 (by decide) (fun _ => ?_) (fun h59 => absurd h59 (by rw [hn]; exact fun h => h (nI_le (Nat.le_refl _) (by omega))))
    exact kont s h0 h3 hbl hst hch
  | succ j ih =>
    intro i s hj hi h0 h3 hbl hst hch
    have hlt : i < n := by omega
    have hfi := hf i hlt
    have hti := ht i hlt
    have hbi := hb i hlt
    refine wp_iload dX0_firstFree_53 rfl ?_
    refine wp_aload_n dX0_firstFree_55 rfl ?_
    refine wp_geti dX0_firstFree_56 fl_RX0_35 rfl (fk_23 hF) ?_
    refine wp_icmp_ge (tgt := 115) dX0_firstFree_59 (by decide) (fun h59 => absurd h59 (by rw [hn]; exact nI_ge (by omega) (by omega))) (fun _ => ?_)
    refine wp_aload_n dX0_firstFree_62 rfl ?_
    refine wp_iload dX0_firstFree_63 rfl ?_
    refine wp_iload_n dX0_firstFree_65 rfl ?_
    refine wp_iload dX0_firstFree_66 rfl ?_
    refine wp_callv3 (ci := 0) dX0_firstFree_68 lk_RX0_39 ok_X0_holds im_X0_holds se_X0_holds rfl rfl (fk_23 hF) (Nat.le_of_ble_eq_true rfl) (Nat.le_of_ble_eq_true rfl) ?_
    refine c_X0_holds hF (by omega) ?_
    refine wp_ifb_eq (tgt := 109) dX0_firstFree_71 (by decide) (fun h71 => ?_) (fun h71 => ?_)
    · refine wp_incN dX0_firstFree_109 rfl (by decide) ?_
      refine wp_goto (tgt := 53) dX0_firstFree_112 (by decide) ?_
      first
          | (refine ih (i + 1) s (by omega) (by omega) h0 h3 hbl (fun hs e he => ?_) hch
             rcases Nat.lt_succ_iff_lt_or_eq.mp he with q | q
             · exact hst hs e q
             · subst q
               rintro ⟨q1, q2, q3⟩
               first
                 | exact h71 q1
                 | (have := (nI_leI (by omega) (by omega)).mp h85; omega)
                 | (have := (nI_leI (by omega) (by omega)).mp h97; omega))
          | (have g85 : f i < s + z := by
               rcases Nat.lt_or_ge (f i) (s + z) with q | q
               · exact q
               · exact absurd (nI_le q (by omega)) h85
             have g97 : s < t i := by
               rcases Nat.lt_or_ge s (t i) with q | q
               · exact q
               · exact absurd (nI_le q (by omega)) h97
             refine ih (i + 1) (t i) (by omega) (by omega) (by omega) hbi.2 (fun s' q1 q2 => ?_) (fun q => by omega) (fun q => ?_)
             · rcases Nat.lt_or_ge s' s with q | q
               · exact hbl s' q1 q
               · exact ⟨i, hlt, h71, by omega, q2⟩
             · exact ⟨i, hlt, h71, by omega, Nat.le_refl _⟩)
    · refine wp_aload_n dX0_firstFree_74 rfl ?_
      refine wp_geta dX0_firstFree_75 fl_RX0_15 rfl (fk_23 hF) (fr_23_1 hF) ?_
      refine wp_iload dX0_firstFree_78 rfl ?_
      refine wp_ialoadN dX0_firstFree_80 (fk_25 hF) (by omega) (by decide) ?_
      rw [hfi]
      refine wp_iload dX0_firstFree_81 rfl ?_
      refine wp_iload_n dX0_firstFree_83 rfl ?_
      refine wp_iadd dX0_firstFree_84 ?_
      rw [nI_add]
      refine wp_icmp_ge (tgt := 109) dX0_firstFree_85 (by decide) (fun h85 => ?_) (fun h85 => ?_)
      · refine wp_incN dX0_firstFree_109 rfl (by decide) ?_
        refine wp_goto (tgt := 53) dX0_firstFree_112 (by decide) ?_
        first
            | (refine ih (i + 1) s (by omega) (by omega) h0 h3 hbl (fun hs e he => ?_) hch
               rcases Nat.lt_succ_iff_lt_or_eq.mp he with q | q
               · exact hst hs e q
               · subst q
                 rintro ⟨q1, q2, q3⟩
                 first
                   | exact h71 q1
                   | (have := (nI_leI (by omega) (by omega)).mp h85; omega)
                   | (have := (nI_leI (by omega) (by omega)).mp h97; omega))
            | (have g85 : f i < s + z := by
                 rcases Nat.lt_or_ge (f i) (s + z) with q | q
                 · exact q
                 · exact absurd (nI_le q (by omega)) h85
               have g97 : s < t i := by
                 rcases Nat.lt_or_ge s (t i) with q | q
                 · exact q
                 · exact absurd (nI_le q (by omega)) h97
               refine ih (i + 1) (t i) (by omega) (by omega) (by omega) hbi.2 (fun s' q1 q2 => ?_) (fun q => by omega) (fun q => ?_)
               · rcases Nat.lt_or_ge s' s with q | q
                 · exact hbl s' q1 q
                 · exact ⟨i, hlt, h71, by omega, q2⟩
               · exact ⟨i, hlt, h71, by omega, Nat.le_refl _⟩)
      · refine wp_aload_n dX0_firstFree_88 rfl ?_
        refine wp_geta dX0_firstFree_89 fl_RX0_18 rfl (fk_23 hF) (fr_23_2 hF) ?_
        refine wp_iload dX0_firstFree_92 rfl ?_
        refine wp_ialoadN dX0_firstFree_94 (fk_26 hF) (by omega) (by decide) ?_
        rw [hti]
        refine wp_iload dX0_firstFree_95 rfl ?_
        refine wp_icmp_le (tgt := 109) dX0_firstFree_97 (by decide) (fun h97 => ?_) (fun h97 => ?_)
        · refine wp_incN dX0_firstFree_109 rfl (by decide) ?_
          refine wp_goto (tgt := 53) dX0_firstFree_112 (by decide) ?_
          first
              | (refine ih (i + 1) s (by omega) (by omega) h0 h3 hbl (fun hs e he => ?_) hch
                 rcases Nat.lt_succ_iff_lt_or_eq.mp he with q | q
                 · exact hst hs e q
                 · subst q
                   rintro ⟨q1, q2, q3⟩
                   first
                     | exact h71 q1
                     | (have := (nI_leI (by omega) (by omega)).mp h85; omega)
                     | (have := (nI_leI (by omega) (by omega)).mp h97; omega))
              | (have g85 : f i < s + z := by
                   rcases Nat.lt_or_ge (f i) (s + z) with q | q
                   · exact q
                   · exact absurd (nI_le q (by omega)) h85
                 have g97 : s < t i := by
                   rcases Nat.lt_or_ge s (t i) with q | q
                   · exact q
                   · exact absurd (nI_le q (by omega)) h97
                 refine ih (i + 1) (t i) (by omega) (by omega) (by omega) hbi.2 (fun s' q1 q2 => ?_) (fun q => by omega) (fun q => ?_)
                 · rcases Nat.lt_or_ge s' s with q | q
                   · exact hbl s' q1 q
                   · exact ⟨i, hlt, h71, by omega, q2⟩
                 · exact ⟨i, hlt, h71, by omega, Nat.le_refl _⟩)
        · refine wp_aload_n dX0_firstFree_100 rfl ?_
          refine wp_geta dX0_firstFree_101 fl_RX0_18 rfl (fk_23 hF) (fr_23_2 hF) ?_
          refine wp_iload dX0_firstFree_104 rfl ?_
          refine wp_ialoadN dX0_firstFree_106 (fk_26 hF) (by omega) (by decide) ?_
          rw [hti]
          refine wp_istore dX0_firstFree_107 (by decide) ?_
          refine wp_incN dX0_firstFree_109 rfl (by decide) ?_
          refine wp_goto (tgt := 53) dX0_firstFree_112 (by decide) ?_
          first
              | (refine ih (i + 1) s (by omega) (by omega) h0 h3 hbl (fun hs e he => ?_) hch
                 rcases Nat.lt_succ_iff_lt_or_eq.mp he with q | q
                 · exact hst hs e q
                 · subst q
                   rintro ⟨q1, q2, q3⟩
                   first
                     | exact h71 q1
                     | (have := (nI_leI (by omega) (by omega)).mp h85; omega)
                     | (have := (nI_leI (by omega) (by omega)).mp h97; omega))
              | (have g85 : f i < s + z := by
                   rcases Nat.lt_or_ge (f i) (s + z) with q | q
                   · exact q
                   · exact absurd (nI_le q (by omega)) h85
                 have g97 : s < t i := by
                   rcases Nat.lt_or_ge s (t i) with q | q
                   · exact q
                   · exact absurd (nI_le q (by omega)) h97
                 refine ih (i + 1) (t i) (by omega) (by omega) (by omega) hbi.2 (fun s' q1 q2 => ?_) (fun q => by omega) (fun q => ?_)
                 · rcases Nat.lt_or_ge s' s with q | q
                   · exact hbl s' q1 q
                   · exact ⟨i, hlt, h71, by omega, q2⟩
                 · exact ⟨i, hlt, h71, by omega, Nat.le_refl _⟩)
theorem l_X0_ff_out (hF : Fix H) (hn : hI H 23 5 = nI n) (hn4 : n ≤ 40) (hf : ∀ i, i < n → hI H 25 i = nI (f i)) (ht : ∀ i, i < n → hI H 26 i = nI (t i)) (hb : ∀ i, i < n → f i < t i ∧ t i ≤ 3000) (hz : z ≤ 500)
    (hq : ∀ s, m0 ≤ s → s ≤ 3000 → (∀ e, e < n → ¬ bkTrg H c k f t z e s) → (∀ s', m0 ≤ s' → s' < s → ∃ e, e < n ∧ bkTrg H c k f t z e s') → Q (some (.int (nI s))) H) :
    ∀ (j r s : Nat), n - r = j → r ≤ n → m0 ≤ s → s ≤ 3000 → (∀ s', m0 ≤ s' → s' < s → ∃ e, e < n ∧ bkTrg H c k f t z e s') → cn (fun e => decide (bkHold H c k e ∧ s < t e)) n + r ≤ n →
    Wp mX0_firstFree (d + 2) 0 0 37 [some (.ref 23), some (.int c), some (.int (nI m0)), some (.int (nI z)), some (.int k), some (.int (nI s)), some (.int (nI r)), none, none] [] H Q := by
  intro j
  induction j with
  | zero =>
    intro r s hj hr h0 h3 hbl hc
    have hin : r = n := by omega
    subst hin
    refine wp_iload dX0_firstFree_37 rfl ?_
    refine wp_aload_n dX0_firstFree_39 rfl ?_
    refine wp_geti dX0_firstFree_40 fl_RX0_35 rfl (fk_23 hF) ?_
    refine wp_icmp_ge (tgt := 131) dX0_firstFree_43 (by decide) (fun _ => ?_) (fun h43 => absurd h43 (by rw [hn]; exact fun h => h (nI_le (Nat.le_refl _) (by omega))))
    refine wp_iload dX0_firstFree_131 rfl ?_
    refine wp_ireturn rfl dX0_firstFree_133 ?_
    refine hq s h0 h3 (fun e he q => ?_) hbl
    have := cn_zero (n := r) (p := fun e => decide (bkHold H c k e ∧ s < t e)) (by omega) e he
    simp at this
    exact absurd q.2.2 (Nat.not_lt.mpr (this q.1.1 q.1.2.1 q.1.2.2))
  | succ j ih =>
    intro r s hj hr h0 h3 hbl hc
    have kont : ∀ s1, s ≤ s1 → s1 ≤ 3000 → (∀ s', m0 ≤ s' → s' < s1 → ∃ e, e < n ∧ bkTrg H c k f t z e s') → (s1 = s → ∀ e, e < n → ¬ bkTrg H c k f t z e s) → (s < s1 → bkMov H c k t n s s1) → Wp mX0_firstFree (d + 2) 0 0 115 [some (.ref 23), some (.int c), some (.int (nI m0)), some (.int (nI z)), some (.int k), some (.int (nI s1)), some (.int (nI r)), some (.int (nI s)), some (.int (nI n))] [] H Q := by
      intro s1 g0 g3 gbl gst gch
      refine wp_iload dX0_firstFree_115 rfl ?_
      refine wp_iload dX0_firstFree_117 rfl ?_
      refine wp_icmp_ne (tgt := 125) dX0_firstFree_119 (by decide) (fun h119 => ?_) (fun h119 => ?_)
      · refine wp_incN dX0_firstFree_125 rfl (by decide) ?_
        refine wp_goto (tgt := 37) dX0_firstFree_128 (by decide) ?_
        refine wp_forget 7 (wp_forget 8 (ih (r + 1) s1 (by omega) (by omega) (by omega) g3 gbl ?_))
        have hne : s < s1 := by
          rcases Nat.lt_or_ge s s1 with q | q
          · exact q
          · exact absurd (by rw [show s1 = s by omega]) h119
        obtain ⟨e, he, q1, q2, q3⟩ := gch hne
        have hlt : cn (fun e => decide (bkHold H c k e ∧ s1 < t e)) n < cn (fun e => decide (bkHold H c k e ∧ s < t e)) n := by
          refine cn_lt (fun i hi h => ?_) ⟨e, he, by simp only [decide_eq_true_eq]; exact ⟨q1, q2⟩, by simp only [decide_eq_false_iff_not]; exact fun q => by omega⟩
          simp only [decide_eq_true_eq] at h ⊢
          exact ⟨h.1, by omega⟩
        omega
      · refine wp_goto (tgt := 131) dX0_firstFree_122 (by decide) ?_
        refine wp_iload dX0_firstFree_131 rfl ?_
        refine wp_ireturn rfl dX0_firstFree_133 ?_
        have e9 : s1 = s := (nI_eq (by omega) (by omega)).mp h119
        subst e9
        exact hq s1 (by omega) g3 (gst rfl) gbl
    refine wp_iload dX0_firstFree_37 rfl ?_
    refine wp_aload_n dX0_firstFree_39 rfl ?_
    refine wp_geti dX0_firstFree_40 fl_RX0_35 rfl (fk_23 hF) ?_
    refine wp_icmp_ge (tgt := 131) dX0_firstFree_43 (by decide) (fun h43 => absurd h43 (by rw [hn]; exact nI_ge (by omega) (by omega))) (fun _ => ?_)
    refine wp_iload dX0_firstFree_46 rfl ?_
    refine wp_istore dX0_firstFree_48 (by decide) ?_
    refine wp_iconst (v := 0) dX0_firstFree_50 (by decide) ?_
    refine wp_istore dX0_firstFree_51 (by decide) ?_
    exact l_X0_ff_in hF hn hn4 hf ht hb hz kont n 0 s (by omega) (by omega) (Nat.le_refl _) h3 hbl (fun _ e he => by omega) (fun q => by omega)
theorem c_X0_firstFree (hF : Fix H) (hn : hI H 23 5 = nI n) (hn4 : n ≤ 40) (hf : ∀ i, i < n → hI H 25 i = nI (f i)) (ht : ∀ i, i < n → hI H 26 i = nI (t i)) (hb : ∀ i, i < n → f i < t i ∧ t i ≤ 3000) {m l : Int32}
    (hq1 : ∀ m0 z s : Nat, m = nI m0 → l = nI z → m0 ≤ 3000 → 1 ≤ z → z ≤ 500 → (0 ≤ c ∧ c ≤ 5) → m0 ≤ s → s ≤ 3000 → (∀ e, e < n → ¬ bkTrg H c k f t z e s) → (∀ s', m0 ≤ s' → s' < s → ∃ e, e < n ∧ bkTrg H c k f t z e s') → Q (some (.int (nI s))) H)
    (hq2 : ¬ ((0 ≤ c ∧ c ≤ 5) ∧ (0 ≤ m ∧ m ≤ 3000) ∧ (1 ≤ l ∧ l ≤ 500)) → Q (some (.int (-1))) H) :
    Wp mX0_firstFree (d + 2) 0 0 0 [some (.ref 23), some (.int c), some (.int m), some (.int l), some (.int k), none, none, none, none] [] H Q := by
  refine wp_iload_n dX0_firstFree_0 rfl ?_
  refine wp_calls1 dX0_firstFree_1 lk_RX0_27 ok_X0_isCarriage st_X0_isCarriage (Nat.le_of_ble_eq_true rfl) (Nat.le_of_ble_eq_true rfl) ?_
  refine c_X0_isCarriage ?_
  refine wp_ifb_eq (tgt := 29) dX0_firstFree_4 (by decide) (fun h4 => ?_) (fun h4 => ?_)
  · refine wp_iconst (v := -1) dX0_firstFree_29 (by decide) ?_
    refine wp_ireturn rfl dX0_firstFree_30 ?_
    exact hq2 (by first | exact fun q => h4 q.1 | exact fun q => h15 q.2.1 | exact fun q => h26 q.2.2)
  · refine wp_iload_n dX0_firstFree_7 rfl ?_
    refine wp_iconst (v := 0) dX0_firstFree_8 (by decide) ?_
    refine wp_sipush (v := 3000) dX0_firstFree_9 (by decide) ?_
    refine wp_calls3 dX0_firstFree_12 lk_RX0_31 ok_X11_within st_X11_within (Nat.le_of_ble_eq_true rfl) (Nat.le_of_ble_eq_true rfl) ?_
    refine c_X11_within ?_
    refine wp_ifb_eq (tgt := 29) dX0_firstFree_15 (by decide) (fun h15 => ?_) (fun h15 => ?_)
    · refine wp_iconst (v := -1) dX0_firstFree_29 (by decide) ?_
      refine wp_ireturn rfl dX0_firstFree_30 ?_
      exact hq2 (by first | exact fun q => h4 q.1 | exact fun q => h15 q.2.1 | exact fun q => h26 q.2.2)
    · refine wp_iload_n dX0_firstFree_18 rfl ?_
      refine wp_iconst (v := 1) dX0_firstFree_19 (by decide) ?_
      refine wp_sipush (v := 500) dX0_firstFree_20 (by decide) ?_
      refine wp_calls3 dX0_firstFree_23 lk_RX0_31 ok_X11_within st_X11_within (Nat.le_of_ble_eq_true rfl) (Nat.le_of_ble_eq_true rfl) ?_
      refine c_X11_within ?_
      refine wp_ifb_ne (tgt := 31) dX0_firstFree_26 (by decide) (fun h26 => ?_) (fun h26 => ?_)
      · refine wp_iload_n dX0_firstFree_31 rfl ?_
        refine wp_istore dX0_firstFree_32 (by decide) ?_
        refine wp_iconst (v := 0) dX0_firstFree_34 (by decide) ?_
        refine wp_istore dX0_firstFree_35 (by decide) ?_
        obtain ⟨m0, hm0, rfl⟩ := nI_of2 (M := 3000) (n := 3000) (by decide) (Int32.not_lt.mpr h15.1) h15.2
        obtain ⟨z, hz, rfl⟩ := nI_of2 (x := l) (M := 500) (n := 500) (by decide) (fun q => absurd (Int32.lt_of_lt_of_le q (show (0 : Int32) ≤ 1 by decide)) (Int32.not_lt.mpr h26.1)) h26.2
        have hz1 : 1 ≤ z := (nI_leI (a := 1) (b := z) (by omega) (by omega)).mp h26.1
        exact l_X0_ff_out hF hn hn4 hf ht hb hz (fun s g1 g2 g3 g4 => hq1 m0 z s rfl rfl hm0 hz1 hz h4 g1 g2 g3 g4) n 0 m0 (by omega) (by omega) (Nat.le_refl _) hm0 (fun s' q1 q2 => by omega) (by have := cn_le (fun e => decide (bkHold H c k e ∧ m0 < t e)) n; omega)
      · refine wp_iconst (v := -1) dX0_firstFree_29 (by decide) ?_
        refine wp_ireturn rfl dX0_firstFree_30 ?_
        exact hq2 (by first | exact fun q => h4 q.1 | exact fun q => h15 q.2.1 | exact fun q => h26 q.2.2)
end FF
