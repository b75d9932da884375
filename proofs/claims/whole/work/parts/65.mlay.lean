/-! ===== the reference's lay: its first rows ===== -/
def is53 (a _ : Nat) : Prop := a = 53
def pjB (H : PH) (ord : Nat → Nat) (j t : Nat) : Bool := kpB H (ord t) && decide (ord t < j)
section LA
variable {d m : Nat} {fr tt ord pos : Nat → Nat} {H : PH} {Q : Option Value → PH → Prop}
theorem pj_step (h1 : ∀ t, t < m → ord t < m ∧ pos (ord t) = t) (h2 : ∀ j, j < m → pos j < m ∧ ord (pos j) = j) {j t : Nat} (hj : j < m) (ht : t < m) : pjB H ord (j + 1) t = if t = pos j then kpB H j else pjB H ord j t := by
  unfold pjB
  by_cases q : t = pos j
  · rw [if_pos q, q, (h2 j hj).2, decide_eq_true (show j < j + 1 by omega), Bool.and_true]
  · rw [if_neg q]
    have : ord t ≠ j := fun e => q (by rw [← e]; exact (h1 t ht).2.symm)
    rw [show decide (ord t < j + 1) = decide (ord t < j) from by rw [decide_eq_decide]; omega]
theorem pj_self (h2 : ∀ j, j < m → pos j < m ∧ ord (pos j) = j) {j : Nat} (hj : j < m) : pjB H ord j (pos j) = false := by
  unfold pjB; rw [(h2 j hj).2, decide_eq_false (Nat.lt_irrefl j), Bool.and_false]
theorem ct_pj (h1 : ∀ t, t < m → ord t < m ∧ pos (ord t) = t) (h2 : ∀ j, j < m → pos j < m ∧ ord (pos j) = j) {j : Nat} (hj : j < m) : ∀ n, n ≤ m → fb_ct (pjB H ord (j + 1)) n = fb_ct (pjB H ord j) n + (if kpB H j = true ∧ pos j < n then 1 else 0)
  | 0, _ => by rw [if_neg (by omega)]; rfl
  | n + 1, hn => by
    have ih := ct_pj h1 h2 hj n (by omega)
    have st := pj_step (H := H) h1 h2 hj (show n < m by omega)
    rw [fb_ct_succ, fb_ct_succ, ih, st]
    by_cases q : n = pos j
    · have hse : pjB H ord j n = false := by rw [q]; exact pj_self h2 hj
      have e0 : (if kpB H j = true ∧ pos j < n then 1 else 0) = 0 := if_neg (fun z => by omega)
      rw [hse, e0, if_pos q]
      cases r : kpB H j with
      | true =>
        have e1 : (if true = true ∧ pos j < n + 1 then 1 else 0) = 1 := if_pos ⟨rfl, by omega⟩
        rw [e1]; rfl
      | false =>
        have e1 : (if false = true ∧ pos j < n + 1 then 1 else 0) = 0 := if_neg (fun z => by cases z.1)
        rw [e1]; rfl
    · rw [if_neg q]
      have e1 : (if kpB H j = true ∧ pos j < n + 1 then 1 else 0) = (if kpB H j = true ∧ pos j < n then 1 else 0) := by
        by_cases r : kpB H j = true ∧ pos j < n
        · have r2 : kpB H j = true ∧ pos j < n + 1 := ⟨r.1, by omega⟩
          rw [if_pos r, if_pos r2]
        · have r2 : ¬ (kpB H j = true ∧ pos j < n + 1) := fun z => r ⟨z.1, by omega⟩
          rw [if_neg r, if_neg r2]
      rw [e1]; omega
theorem ct_all (h1 : ∀ t, t < m → ord t < m ∧ pos (ord t) = t) (h2 : ∀ j, j < m → pos j < m ∧ ord (pos j) = j) : ∀ j, j ≤ m → fb_ct (pjB H ord j) m = fb_ct (kpB H) j
  | 0, _ => fb_ct_zero.mpr (fun k _ => by unfold pjB; rw [decide_eq_false (Nat.not_lt_zero _), Bool.and_false])
  | j + 1, h => by
    rw [ct_pj h1 h2 (show j < m by omega) m (Nat.le_refl _), ct_all h1 h2 j (by omega), fb_ct_succ]
    by_cases r : kpB H j = true
    · rw [if_pos r, if_pos ⟨r, (h2 j (by omega)).1⟩]
    · rw [if_neg r, if_neg (fun z => r z.1)]
/-- the rows on and inOrder, as far as JOB j -/
def I1 (H : PH) (ord pos : Nat → Nat) (j : Nat) (H1 : PH) : Prop := eqX isLy H H1 ∧ hI H1 33 24 = nI (fb_ct (kpB H) j) ∧ (∀ i, i < j → kpB H i = true → hI H1 52 (fb_ct (kpB H) i) = nI i) ∧ ∀ i, i < j → kpB H i = true → hI H1 53 (fb_ct (pjB H ord j) (pos i)) = nI i
theorem mAhd_ly {H H1 : PH} (h : eqX isLy H H1) (i j : Nat) : mAhd H1 i j ↔ mAhd H i j := by
  unfold mAhd
  rw [h.2.2.2.2 43 i (by unfold isLy; omega), h.2.2.2.2 43 j (by unfold isLy; omega)]
theorem l_X12_lay_in (hF : Fix H) (h10 : m ≤ 10) (hO : OP H m ord pos) {j : Nat} (hj : j < m) {H1 : PH} (hly : eqX isLy H H1) (h53 : ∀ i, i < j → kpB H i = true → hI H1 53 (fb_ct (pjB H ord j) (pos i)) = nI i)
    (kont : ∀ H3, eqX is53 H1 H3 → (∀ k, k < fb_ct (pjB H ord j) (pos j) → hI H3 53 k = hI H1 53 k) → hI H3 53 (fb_ct (pjB H ord j) (pos j)) = nI j → (∀ k, fb_ct (pjB H ord j) (pos j) < k → k ≤ fb_ct (kpB H) j → hI H3 53 k = hI H1 53 (k - 1)) → Wp mX12_lay (d + 1) 0 0 89 [some (.ref 33), some (.int (nI j)), none] [] H3 Q) :
    ∀ (f at' : Nat) (H2 : PH), at' - fb_ct (pjB H ord j) (pos j) = f → fb_ct (pjB H ord j) (pos j) ≤ at' → at' ≤ fb_ct (kpB H) j → eqX is53 H1 H2 → (∀ k, k < at' → hI H2 53 k = hI H1 53 k) → (∀ k, at' < k → k ≤ fb_ct (kpB H) j → hI H2 53 k = hI H1 53 (k - 1)) →
    Wp mX12_lay (d + 1) 0 0 42 [some (.ref 33), some (.int (nI j)), some (.int (nI at'))] [] H2 Q := by
  obtain ⟨o1, o2, o3⟩ := hO
  have hN : fb_ct (kpB H) j ≤ 9 := by have := fb_ct_le (kpB H) j; omega
  have hto := ct_all (H := H) o1 o2 j (by omega)
  have find : ∀ x, x < fb_ct (kpB H) j → ∃ i, i < j ∧ hI H1 53 x = nI i ∧ (pos j < pos i ↔ fb_ct (pjB H ord j) (pos j) ≤ x) := by
    intro x hx
    rw [← hto] at hx
    obtain ⟨t, t1, t2, t3⟩ := fb_ct_kth hx
    have hp := t2
    unfold pjB at hp
    rw [Bool.and_eq_true, decide_eq_true_eq] at hp
    have hpt := (o1 t t1).2
    refine ⟨ord t, hp.2, ?_, ?_⟩
    · have := h53 (ord t) hp.2 hp.1
      rw [hpt, t3] at this
      exact this
    · rw [hpt]
      constructor
      · intro q
        rw [← t3]; exact fb_ct_mono _ (by omega)
      · intro q
        rcases Nat.lt_trichotomy (pos j) t with z | z | z
        · exact z
        · rw [← z, pj_self o2 hj] at t2; cases t2
        · have := fb_ct_mono (pjB H ord j) (show t + 1 ≤ pos j by omega)
          rw [fb_ct_succ, t2, if_pos rfl] at this
          omega
  have hend : ∀ H2, eqX is53 H1 H2 → (∀ k, k < fb_ct (pjB H ord j) (pos j) → hI H2 53 k = hI H1 53 k) → (∀ k, fb_ct (pjB H ord j) (pos j) < k → k ≤ fb_ct (kpB H) j → hI H2 53 k = hI H1 53 (k - 1)) → fb_ct (pjB H ord j) (pos j) ≤ fb_ct (kpB H) j → Wp mX12_lay (d + 1) 0 0 82 [some (.ref 33), some (.int (nI j)), some (.int (nI (fb_ct (pjB H ord j) (pos j))))] [] H2 Q := by
    intro H2 he g1 g2 g3
    have hF2 := Fix_eqX he (Fix_eqX hly hF)
    refine wp_aload_n dX12_lay_82 rfl ?_
    refine wp_geta dX12_lay_83 fl_RX12_78 rfl (fk_33 hF2) (fr_33_28 hF2) ?_
    refine wp_iload_n dX12_lay_86 rfl ?_
    refine wp_iload_n dX12_lay_87 rfl ?_
    refine wp_iastoreN dX12_lay_88 (fk_53 hF2) (by omega) (by decide) ?_
    refine wp_forget 2 (kont _ (eqX_sI he rfl) (fun k hk => ?_) ?_ (fun k h1 h2 => ?_))
    · rw [hI_sI', if_neg (by omega)]; exact g1 k hk
    · rw [hI_sI', if_pos ⟨rfl, rfl⟩]
    · rw [hI_sI', if_neg (by omega)]; exact g2 k h1 h2
  intro f
  induction f with
  | zero =>
    intro at' H2 hf h1 h2 he g1 g2
    have hin : at' = fb_ct (pjB H ord j) (pos j) := by omega
    subst hin
    have hF2 := Fix_eqX he (Fix_eqX hly hF)
    have hly2 : eqX isLy H H2 := eqX_trans hly (eqX_mono (fun a k q => Or.inl (by unfold is53 at q; omega)) he)
    generalize hr : fb_ct (pjB H ord j) (pos j) = r at *
    cases r with
    | zero =>
      refine wp_iload_n dX12_lay_42 rfl ?_
      refine wp_if_le (tgt := 82) dX12_lay_43 (by decide) (fun _ => ?_) (fun h43 => absurd h43 (fun q => q (by decide)))
      exact hend H2 he g1 g2 h2
    | succ r =>
      obtain ⟨i, i1, i2, i3⟩ := find r (by omega)
      have e53 : hI H2 53 r = nI i := by rw [g1 r (by omega)]; exact i2
      have hno : ¬ mAhd H2 j i := fun z => by
        have := i3.mp ((o3 j i hj (by omega)).mp ((mAhd_ly hly2 j i).mp z))
        omega
      refine wp_iload_n dX12_lay_42 rfl ?_
      refine wp_if_le (tgt := 82) dX12_lay_43 (by decide) (fun h43 => absurd h43 (nI_nle (by omega) (by omega))) (fun _ => ?_)
      refine wp_aload_n dX12_lay_46 rfl ?_
      refine wp_iload_n dX12_lay_47 rfl ?_
      refine wp_aload_n dX12_lay_48 rfl ?_
      refine wp_geta dX12_lay_49 fl_RX12_78 rfl (fk_33 hF2) (fr_33_28 hF2) ?_
      refine wp_iload_n dX12_lay_52 rfl ?_
      refine wp_iconst (v := 1) dX12_lay_53 (by decide) ?_
      refine wp_isub dX12_lay_54 ?_
      rw [nI_pred]
      refine wp_ialoadN dX12_lay_55 (fk_53 hF2) (by omega) (by decide) ?_
      rw [e53]
      refine wp_callv2 (ci := 12) dX12_lay_56 lk_RX12_188 ok_X12_isAhead im_X12_isAhead se_X12_isAhead rfl rfl (fk_33 hF2) (Nat.le_of_ble_eq_true rfl) (Nat.le_of_ble_eq_true rfl) ?_
      refine c_X12_isAhead hF2 (by omega) (by omega) ?_
      refine wp_ifb_eq (tgt := 82) dX12_lay_59 (by decide) (fun _ => ?_) (fun h59 => absurd h59 (hno))
      exact hend H2 he g1 g2 h2
  | succ f ih =>
    intro at' H2 hf h1 h2 he g1 g2
    have hF2 := Fix_eqX he (Fix_eqX hly hF)
    have hly2 : eqX isLy H H2 := eqX_trans hly (eqX_mono (fun a k q => Or.inl (by unfold is53 at q; omega)) he)
    cases at' with
    | zero => omega
    | succ a =>
      obtain ⟨i, i1, i2, i3⟩ := find a (by omega)
      have e53 : hI H2 53 a = nI i := by rw [g1 a (by omega)]; exact i2
      have hyes : mAhd H2 j i := (mAhd_ly hly2 j i).mpr ((o3 j i hj (by omega)).mpr (i3.mpr (by omega)))
      refine wp_iload_n dX12_lay_42 rfl ?_
      refine wp_if_le (tgt := 82) dX12_lay_43 (by decide) (fun h43 => absurd h43 (nI_nle (by omega) (by omega))) (fun _ => ?_)
      refine wp_aload_n dX12_lay_46 rfl ?_
      refine wp_iload_n dX12_lay_47 rfl ?_
      refine wp_aload_n dX12_lay_48 rfl ?_
      refine wp_geta dX12_lay_49 fl_RX12_78 rfl (fk_33 hF2) (fr_33_28 hF2) ?_
      refine wp_iload_n dX12_lay_52 rfl ?_
      refine wp_iconst (v := 1) dX12_lay_53 (by decide) ?_
      refine wp_isub dX12_lay_54 ?_
      rw [nI_pred]
      refine wp_ialoadN dX12_lay_55 (fk_53 hF2) (by omega) (by decide) ?_
      rw [e53]
      refine wp_callv2 (ci := 12) dX12_lay_56 lk_RX12_188 ok_X12_isAhead im_X12_isAhead se_X12_isAhead rfl rfl (fk_33 hF2) (Nat.le_of_ble_eq_true rfl) (Nat.le_of_ble_eq_true rfl) ?_
      refine c_X12_isAhead hF2 (by omega) (by omega) ?_
      refine wp_ifb_eq (tgt := 82) dX12_lay_59 (by decide) (fun h59 => absurd h59 (fun q => q hyes)) (fun _ => ?_)
      refine wp_aload_n dX12_lay_62 rfl ?_
      refine wp_geta dX12_lay_63 fl_RX12_78 rfl (fk_33 hF2) (fr_33_28 hF2) ?_
      refine wp_iload_n dX12_lay_66 rfl ?_
      refine wp_aload_n dX12_lay_67 rfl ?_
      refine wp_geta dX12_lay_68 fl_RX12_78 rfl (fk_33 hF2) (fr_33_28 hF2) ?_
      refine wp_iload_n dX12_lay_71 rfl ?_
      refine wp_iconst (v := 1) dX12_lay_72 (by decide) ?_
      refine wp_isub dX12_lay_73 ?_
      rw [nI_pred]
      refine wp_ialoadN dX12_lay_74 (fk_53 hF2) (by omega) (by decide) ?_
      rw [e53]
      refine wp_iastoreN dX12_lay_75 (fk_53 hF2) (by omega) (by decide) ?_
      refine wp_inc (c := -1) dX12_lay_76 rfl (by decide) (by decide) ?_
      rw [pk_m1]
      refine wp_goto (tgt := 42) dX12_lay_79 (by decide) ?_
      refine ih a _ (by omega) (by omega) (by omega) (eqX_sI he rfl) (fun k hk => ?_) (fun k k1 k2 => ?_)
      · rw [hI_sI', if_neg (by omega)]; exact g1 k (by omega)
      · rw [hI_sI']
        by_cases q : k = a + 1
        · subst q; rw [if_pos ⟨rfl, rfl⟩, Nat.add_sub_cancel]; exact i2.symm
        · rw [if_neg (by omega)]; exact g2 k (by omega) k2
theorem l_X12_lay_on (hF : Fix H) (hM : MJ H m fr tt) (hO : OP H m ord pos) (kont : ∀ H', I1 H ord pos m H' → Wp mX12_lay (d + 1) 0 0 105 [some (.ref 33), none, none] [] H' Q) :
    ∀ (f j : Nat) (H1 : PH), m - j = f → j ≤ m → I1 H ord pos j H1 → Wp mX12_lay (d + 1) 0 0 7 [some (.ref 33), some (.int (nI j)), none] [] H1 Q := by
  have hO0 := hO
  obtain ⟨o1, o2, o3⟩ := hO
  have h10 := hM.2.1
  intro f
  induction f with
  | zero =>
    intro j H1 hf hj hI1
    have hin : j = m := by omega
    subst hin
    have hF1 := Fix_eqX hI1.1 hF
    have e11 : hI H1 33 11 = nI j := (hI1.1.2.2.2.2 33 11 (by unfold isLy; omega)).trans hM.1
    refine wp_iload_n dX12_lay_7 rfl ?_
    refine wp_aload_n dX12_lay_8 rfl ?_
    refine wp_geti dX12_lay_9 fl_RX12_159 rfl (fk_33 hF1) ?_
    refine wp_icmp_ge (tgt := 105) dX12_lay_12 (by decide) (fun _ => ?_) (fun h12 => absurd h12 (by rw [e11]; exact fun h => h (nI_le (Nat.le_refl _) (by omega))))
    exact wp_forget 1 (kont H1 hI1)
  | succ f ih =>
    intro j H1 hf hj hI1
    have hlt : j < m := by omega
    obtain ⟨hly, h24, h52, h53⟩ := hI1
    have hF1 := Fix_eqX hly hF
    have e11 : hI H1 33 11 = nI m := (hly.2.2.2.2 33 11 (by unfold isLy; omega)).trans hM.1
    have e47 : hI H1 47 j = hI H 47 j := hly.2.2.2.2 47 j (by unfold isLy; omega)
    by_cases hk : kpB H j = true
    · have hk0 : hI H 47 j = 0 := of_decide_eq_true hk
      have hN : fb_ct (kpB H) j ≤ 9 := by have := fb_ct_le (kpB H) j; omega
      have hs : fb_ct (kpB H) (j + 1) = fb_ct (kpB H) j + 1 := by rw [fb_ct_succ, hk, if_pos rfl]
      have hr : fb_ct (pjB H ord j) (pos j) ≤ fb_ct (kpB H) j := by rw [← ct_all (H := H) o1 o2 j (by omega)]; exact fb_ct_mono _ (Nat.le_of_lt (o2 j hlt).1)
      have hly2 : eqX isLy H (sI H1 52 (fb_ct (kpB H) j) (nI j)) := eqX_sI hly (Or.inl (by omega))
      have kk : ∀ H3, eqX is53 (sI H1 52 (fb_ct (kpB H) j) (nI j)) H3 → (∀ k, k < fb_ct (pjB H ord j) (pos j) → hI H3 53 k = hI (sI H1 52 (fb_ct (kpB H) j) (nI j)) 53 k) → hI H3 53 (fb_ct (pjB H ord j) (pos j)) = nI j → (∀ k, fb_ct (pjB H ord j) (pos j) < k → k ≤ fb_ct (kpB H) j → hI H3 53 k = hI (sI H1 52 (fb_ct (kpB H) j) (nI j)) 53 (k - 1)) → Wp mX12_lay (d + 1) 0 0 89 [some (.ref 33), some (.int (nI j)), none] [] H3 Q := by
        intro H3 he g1 g2 g3
        have hly3 : eqX isLy H H3 := eqX_trans hly2 (eqX_mono (fun a k q => Or.inl (by unfold is53 at q; omega)) he)
        have hF3 := Fix_eqX hly3 hF
        have e24 : hI H3 33 24 = nI (fb_ct (kpB H) j) := by rw [he.2.2.2.2 33 24 (by unfold is53; decide), hI_sI', if_neg (by omega)]; exact h24
        have e53o : ∀ k, hI (sI H1 52 (fb_ct (kpB H) j) (nI j)) 53 k = hI H1 53 k := fun k => by rw [hI_sI', if_neg (by omega)]
        refine wp_aload_n dX12_lay_89 rfl ?_
        refine wp_dup dX12_lay_90 rfl ?_
        refine wp_geti dX12_lay_91 fl_RX12_185 rfl (fk_33 hF3) ?_
        rw [e24]
        refine wp_iconst (v := 1) dX12_lay_94 (by decide) ?_
        refine wp_iadd dX12_lay_95 ?_
        rw [nI_1]
        refine wp_puti dX12_lay_96 fl_RX12_185 (mp_12_24 _ _) rfl (fk_33 hF3) ?_
        refine wp_incN dX12_lay_99 rfl (by decide) ?_
        refine wp_goto (tgt := 7) dX12_lay_102 (by decide) ?_
        refine ih (j + 1) _ (by omega) (by omega) ⟨eqX_sI hly3 (Or.inr (by omega)), ?_, fun i hi hki => ?_, fun i hi hki => ?_⟩
        · rw [hI_sI', if_pos ⟨rfl, rfl⟩, hs]
        · rw [hI_sI', if_neg (by omega), he.2.2.2.2 52 _ (by unfold is53; decide), hI_sI']
          by_cases q : i = j
          · subst q; rw [if_pos ⟨rfl, rfl⟩]
          · have hi' : i < j := by omega
            have hne : fb_ct (kpB H) i ≠ fb_ct (kpB H) j := fun z => q (fb_ct_kth_one hki hk z)
            rw [if_neg (fun z => hne z.2)]; exact h52 i hi' hki
        · rw [hI_sI', if_neg (by omega), ct_pj o1 o2 hlt _ (Nat.le_of_lt (o2 i (by omega)).1)]
          by_cases q : i = j
          · subst q; rw [if_neg (by omega), Nat.add_zero]; exact g2
          · have hi' : i < j := by omega
            have hpi : pjB H ord j (pos i) = true := by unfold pjB; rw [(o2 i (by omega)).2, hki, decide_eq_true hi']; rfl
            have hpne : pos i ≠ pos j := fun z => q (by rw [← (o2 i (by omega)).2, z]; exact (o2 j hlt).2)
            by_cases r : pos j < pos i
            · rw [if_pos ⟨hk, r⟩]
              have h1 := fb_ct_mono (pjB H ord j) (show pos j ≤ pos i by omega)
              have h2 := fb_ct_mono (pjB H ord j) (show pos i + 1 ≤ m by have := (o2 i (by omega)).1; omega)
              rw [fb_ct_succ, hpi, if_pos rfl, ct_all (H := H) o1 o2 j (by omega)] at h2
              rw [g3 _ (by omega) (by omega), Nat.add_sub_cancel, e53o]
              exact h53 i hi' hki
            · rw [if_neg (fun z => r z.2), Nat.add_zero]
              have h1 := fb_ct_mono (pjB H ord j) (show pos i + 1 ≤ pos j by omega)
              rw [fb_ct_succ, hpi, if_pos rfl] at h1
              rw [g1 _ (by omega), e53o]
              exact h53 i hi' hki
      refine wp_iload_n dX12_lay_7 rfl ?_
      refine wp_aload_n dX12_lay_8 rfl ?_
      refine wp_geti dX12_lay_9 fl_RX12_159 rfl (fk_33 hF1) ?_
      refine wp_icmp_ge (tgt := 105) dX12_lay_12 (by decide) (fun h12 => absurd h12 (by rw [e11]; exact nI_ge (by omega) (by omega))) (fun _ => ?_)
      refine wp_aload_n dX12_lay_15 rfl ?_
      refine wp_geta dX12_lay_16 fl_RX12_60 rfl (fk_33 hF1) (fr_33_19 hF1) ?_
      refine wp_iload_n dX12_lay_19 rfl ?_
      refine wp_baloadN dX12_lay_20 (fk_47 hF1) (by decide) (by omega) (by decide) ?_
      rw [e47, hk0]
      refine wp_if_eq (tgt := 27) dX12_lay_21 (by decide) (fun _ => ?_) (fun h21 => absurd h21 (fun q => q rfl))
      refine wp_aload_n dX12_lay_27 rfl ?_
      refine wp_geta dX12_lay_28 fl_RX12_75 rfl (fk_33 hF1) (fr_33_27 hF1) ?_
      refine wp_aload_n dX12_lay_31 rfl ?_
      refine wp_geti dX12_lay_32 fl_RX12_185 rfl (fk_33 hF1) ?_
      rw [h24]
      refine wp_iload_n dX12_lay_35 rfl ?_
      refine wp_iastoreN dX12_lay_36 (fk_52 hF1) (by omega) (by decide) ?_
      refine wp_aload_n dX12_lay_37 rfl ?_
      refine wp_geti dX12_lay_38 fl_RX12_185 rfl (fk_33 (Fix_sI hF1)) ?_
      rw [hI_sI', if_neg (by omega), h24]
      refine wp_istore_n dX12_lay_41 (by decide) ?_
      exact l_X12_lay_in hF h10 hO0 hlt hly2 (fun i hi hki => by rw [hI_sI', if_neg (by omega)]; exact h53 i hi hki) kk _ (fb_ct (kpB H) j) _ rfl hr (Nat.le_refl _) eqX_rfl (fun _ _ => rfl) (fun k k1 k2 => by omega)
    · have hk0 : ¬ hI H 47 j = 0 := fun z => hk (decide_eq_true z)
      have hs : fb_ct (kpB H) (j + 1) = fb_ct (kpB H) j := by rw [fb_ct_succ, if_neg hk, Nat.add_zero]
      refine wp_iload_n dX12_lay_7 rfl ?_
      refine wp_aload_n dX12_lay_8 rfl ?_
      refine wp_geti dX12_lay_9 fl_RX12_159 rfl (fk_33 hF1) ?_
      refine wp_icmp_ge (tgt := 105) dX12_lay_12 (by decide) (fun h12 => absurd h12 (by rw [e11]; exact nI_ge (by omega) (by omega))) (fun _ => ?_)
      refine wp_aload_n dX12_lay_15 rfl ?_
      refine wp_geta dX12_lay_16 fl_RX12_60 rfl (fk_33 hF1) (fr_33_19 hF1) ?_
      refine wp_iload_n dX12_lay_19 rfl ?_
      refine wp_baloadN dX12_lay_20 (fk_47 hF1) (by decide) (by omega) (by decide) ?_
      rw [e47]
      refine wp_if_eq (tgt := 27) dX12_lay_21 (by decide) (fun h21 => absurd h21 (hk0)) (fun _ => ?_)
      refine wp_goto (tgt := 99) dX12_lay_24 (by decide) ?_
      refine wp_incN dX12_lay_99 rfl (by decide) ?_
      refine wp_goto (tgt := 7) dX12_lay_102 (by decide) ?_
      refine ih (j + 1) H1 (by omega) (by omega) ⟨hly, by rw [hs]; exact h24, fun i hi hki => h52 i (by
        rcases Nat.lt_succ_iff_lt_or_eq.mp hi with z | z
        · exact z
        · subst z; exact absurd hki hk) hki, fun i hi hki => ?_⟩
      have hi' : i < j := by
        rcases Nat.lt_succ_iff_lt_or_eq.mp hi with z | z
        · exact z
        · subst z; exact absurd hki hk
      rw [ct_pj o1 o2 hlt _ (Nat.le_of_lt (o2 i (by omega)).1), if_neg (fun z => hk z.1), Nat.add_zero]
      exact h53 i hi' hki
/-- best is emptied -/
theorem l_X12_lay_be (hF : Fix H) {H0 : PH} (hly : eqX isLy H H0) (kont : ∀ H', eqX isLy H0 H' → (∀ a k, a ≠ 55 → hI H' a k = hI H0 a k) → (∀ k, k < 10 → hI H' 55 k = -1) → Wp mX12_lay d 0 0 136 [some (.ref 33), none, none] [] H' Q) :
    ∀ (f k : Nat) (H1 : PH), 10 - k = f → k ≤ 10 → eqX isLy H0 H1 → (∀ a k, a ≠ 55 → hI H1 a k = hI H0 a k) → (∀ e, e < k → hI H1 55 e = -1) → Wp mX12_lay d 0 0 117 [some (.ref 33), some (.int (nI k)), none] [] H1 Q := by
  intro f
  induction f with
  | zero =>
    intro k H1 hf hk he g1 g2
    have hin : k = 10 := by omega
    subst hin
    have hF1 := Fix_eqX (eqX_trans hly he) hF
    refine wp_iload_n dX12_lay_117 rfl ?_
    refine wp_bipush (v := 10) dX12_lay_118 (by decide) ?_
    refine wp_icmp_ge (tgt := 136) dX12_lay_120 (by decide) (fun _ => ?_) (fun h120 => absurd h120 (by decide))
    exact wp_forget 1 (kont H1 he g1 g2)
  | succ f ih =>
    intro k H1 hf hk he g1 g2
    have hF1 := Fix_eqX (eqX_trans hly he) hF
    refine wp_iload_n dX12_lay_117 rfl ?_
    refine wp_bipush (v := 10) dX12_lay_118 (by decide) ?_
    refine wp_icmp_ge (tgt := 136) dX12_lay_120 (by decide) (fun h120 => absurd h120 (nI_ge (a := k) (b := 10) (by omega) (by decide))) (fun _ => ?_)
    refine wp_aload_n dX12_lay_123 rfl ?_
    refine wp_geta dX12_lay_124 fl_RX12_84 rfl (fk_33 hF1) (fr_33_30 hF1) ?_
    refine wp_iload_n dX12_lay_127 rfl ?_
    refine wp_iconst (v := -1) dX12_lay_128 (by decide) ?_
    refine wp_iastoreN dX12_lay_129 (fk_55 hF1) (by omega) (by decide) ?_
    refine wp_incN dX12_lay_130 rfl (by decide) ?_
    refine wp_goto (tgt := 117) dX12_lay_133 (by decide) ?_
    refine ih (k + 1) _ (by omega) (by omega) (eqX_sI he (Or.inl (by omega))) (fun a k' ha => ?_) (fun e he9 => ?_)
    · rw [hI_sI', if_neg (by omega)]; exact g1 a k' ha
    · rw [hI_sI']
      by_cases q : e = k
      · subst q; rw [if_pos ⟨rfl, rfl⟩]
      · rw [if_neg (by omega)]; exact g2 e (by omega)
end LA
