/-! ===== price, of both ===== -/
theorem nI_22 (j i : Nat) : 22 * nI j + 2 * nI i = nI (22 * j + 2 * i) := by rw [nI_2m, show (22 : Int32) * nI j = nI (22 * j) from (by rw [← pk_mul]; rfl), nI_add]
theorem nI_p2 (a : Nat) : nI a + 2 = nI (a + 2) := by rw [show (2 : Int32) = nI 2 from rfl, nI_add]
def isPx (a k : Nat) : Prop := isPw a k ∨ a = 64
section MPP
variable {d : Nat} {H : PH} {Q : Option Value → PH → Prop} {nm : Nat → Int32} {o : OL} {E : List (Nat × Nat)} {j : Nat} {x1 x2 : Int32}
theorem l_mprice (hF : Fix H) (hj : j < 10) (hr : RowC j o E H) (hn : o.length ≤ 600) (hE : E.length ≤ 10) (hlf : LF o E) (hok : ∀ x, x ∈ o → okI x) (hvl : vls o ≤ 100) (hnm : ∀ k, k < 6 → hI H 64 k = nm k) : ∀ (n i : Nat) (H1 : PH) (l4 l5 : Option Value), n + i = E.length → eqX isPw H H1 → (∀ H', eqX isPw H H' → Q (some (.int (prV nm o E n i))) H') → Wp mX12_price (d + 1) 0 0 89 [some (.ref 33), some (.int (nI j)), some (.int x2), some (.int (nI i)), l4, l5] [] H1 Q := by
  intro n
  induction n with
  | zero =>
    intro i H1 l4 l5 hi hx hq
    have hF1 := Fix_eqX hx hF
    have hl : hI H1 51 j = nI E.length := by rw [hx.2.2.2.2 51 j (by unfold isPw; omega)]; exact hr.2.2.2
    have hi' : i = E.length := by omega
    subst hi'
    refine wp_iload_n dX12_price_89 rfl ?_
    refine wp_aload_n dX12_price_90 rfl ?_
    refine wp_geta dX12_price_91 fl_RX12_72 rfl (fk_33 hF1) (fr_33_23 hF1) ?_
    refine wp_iload_n dX12_price_94 rfl ?_
    refine wp_ialoadN dX12_price_95 (fk_51 hF1) (by omega) (by decide) ?_
    rw [hl]
    refine wp_icmp_ge (tgt := 179) dX12_price_96 (by decide) (fun _ => ?_) (fun h96 => absurd h96 (fun w => w (nI_le (Nat.le_refl _) (by omega))))
    refine wp_iconst (v := 0) dX12_price_179 (by decide) ?_
    refine wp_ireturn rfl dX12_price_180 ?_
    exact hq H1 hx
  | succ n ih =>
    intro i H1 l4 l5 hi hx hq
    have hF1 := Fix_eqX hx hF
    have hl : hI H1 51 j = nI E.length := by rw [hx.2.2.2.2 51 j (by unfold isPw; omega)]; exact hr.2.2.2
    have hil : i < E.length := by omega
    obtain ⟨s1, s2⟩ := hlf.1 i hil
    have h50 : ∀ H2, eqX isPw H H2 → hI H2 50 (22 * j + 2 * i) = nI (stA E i) ∧ hI H2 50 (22 * j + 2 * i + 1) = nI (E.getD i (0, 0)).1 ∧ hI H2 50 (22 * j + 2 * i + 2) = nI (E.getD i (0, 0)).2 := fun H2 h2 => by
      rw [h2.2.2.2.2 50 _ (by unfold isPw; omega), h2.2.2.2.2 50 _ (by unfold isPw; omega), h2.2.2.2.2 50 _ (by unfold isPw; omega)]
      exact ⟨hr.2.1 i (by omega), hr.2.2.1 i hil, hr.2.1 (i + 1) (by omega)⟩
    have rec' := fun H' l4 l5 hx' hq' => ih (i + 1) H' l4 l5 (by omega) hx' hq'
    have hq : ∀ H', eqX isPw H H' → Q (some (.int (if stA E i = (E.getD i (0, 0)).1 ∨ ¬ sgv nm o (stA E i) (E.getD i (0, 0)).1 = 0 then sgv nm o (E.getD i (0, 0)).1 (E.getD i (0, 0)).2 else prV nm o E n (i + 1)))) H' := hq
    generalize (E.getD i (0, 0)).1 = m at *
    generalize (E.getD i (0, 0)).2 = b at *
    generalize stA E i = a at *
    have hb6 := s2.2.1
    have hmb := s2.1
    have ha6 : a ≤ 600 := by
      rcases s1 with w | w
      · omega
      · have := w.1; omega
    have eam : nI a = nI m ↔ a = m := nI_eq (by omega) (by omega)
    have wo : ∀ (a' b' : Nat) (H2 : PH) (Q' : Option Value → PH → Prop), SG o a' b' → eqX isPw H H2 → (∀ H', eqX isPw H H' → Q' (some (.int (sgv nm o a' b'))) H') → Wp mX12_worked d 0 0 0 [some (.ref 33), some (.int (nI j)), some (.int (nI a')), some (.int (nI b')), none, none, none, none, none] [] H2 Q' := fun a' b' H2 Q' hs h2 hq' =>
      c_X12_worked (nm := nm) (Fix_eqX h2 hF) (by omega) hn (fun k x hk => by rw [h2.2.2.2.2 48 _ (by unfold isPw; omega), h2.2.2.2.2 49 _ (by unfold isPw; omega)]; exact hr.1 k x hk) hok hvl (fun k hk => by rw [h2.2.2.2.2 64 k (by unfold isPw; omega)]; exact hnm k hk) hs (fun v H' e h3 => by rw [sgv_of e]; exact hq' H' (eqX_trans h2 h3))
    have f150 : ∀ H2, eqX isPw H H2 → (a = m ∨ ¬ sgv nm o a m = 0) → Wp mX12_price (d + 1) 0 0 150 [some (.ref 33), some (.int (nI j)), some (.int x2), some (.int (nI i)), some (.int (nI a)), some (.int (nI m))] [] H2 Q := by
      intro H2 h2 hc
      have hF2 := Fix_eqX h2 hF
      have hbb := (h50 H2 h2).2.2
      rw [if_pos hc] at hq
      refine wp_aload_n dX12_price_150 rfl ?_
      refine wp_iload_n dX12_price_151 rfl ?_
      refine wp_iload dX12_price_152 rfl ?_
      refine wp_aload_n dX12_price_154 rfl ?_
      refine wp_geta dX12_price_155 fl_RX12_69 rfl (fk_33 hF2) (fr_33_22 hF2) ?_
      refine wp_bipush (v := 22) dX12_price_158 (by decide) ?_
      refine wp_iload_n dX12_price_160 rfl ?_
      refine wp_imul dX12_price_161 ?_
      refine wp_iconst (v := 2) dX12_price_162 (by decide) ?_
      refine wp_iload_n dX12_price_163 rfl ?_
      refine wp_imul dX12_price_164 ?_
      refine wp_iadd dX12_price_165 ?_
      rw [nI_22]
      refine wp_iconst (v := 2) dX12_price_166 (by decide) ?_
      refine wp_iadd dX12_price_167 ?_
      rw [nI_p2]
      refine wp_ialoadN dX12_price_168 (fk_50 hF2) (by omega) (by decide) ?_
      rw [hbb]
      refine wp_callv3 (ci := 12) dX12_price_169 lk_RX12_333 ok_X12_worked im_X12_worked se_X12_worked rfl rfl (fk_33 hF2) (Nat.le_of_ble_eq_true rfl) (Nat.le_of_ble_eq_true rfl) ?_
      refine wo m b H2 _ s2 h2 (fun H' h3 => ?_)
      refine wp_ireturn rfl dX12_price_172 ?_
      exact hq H' h3
    obtain ⟨v1, v2, v3⟩ := h50 H1 hx
    by_cases hc : a = m
    · have hc9 := hc
      refine wp_iload_n dX12_price_89 rfl ?_
      refine wp_aload_n dX12_price_90 rfl ?_
      refine wp_geta dX12_price_91 fl_RX12_72 rfl (fk_33 hF1) (fr_33_23 hF1) ?_
      refine wp_iload_n dX12_price_94 rfl ?_
      refine wp_ialoadN dX12_price_95 (fk_51 hF1) (by omega) (by decide) ?_
      rw [hl]
      refine wp_icmp_ge (tgt := 179) dX12_price_96 (by decide) (fun h96 => absurd h96 (nI_ge hil (by omega))) (fun _ => ?_)
      refine wp_aload_n dX12_price_99 rfl ?_
      refine wp_geta dX12_price_100 fl_RX12_69 rfl (fk_33 hF1) (fr_33_22 hF1) ?_
      refine wp_bipush (v := 22) dX12_price_103 (by decide) ?_
      refine wp_iload_n dX12_price_105 rfl ?_
      refine wp_imul dX12_price_106 ?_
      refine wp_iconst (v := 2) dX12_price_107 (by decide) ?_
      refine wp_iload_n dX12_price_108 rfl ?_
      refine wp_imul dX12_price_109 ?_
      refine wp_iadd dX12_price_110 ?_
      rw [nI_22]
      refine wp_ialoadN dX12_price_111 (fk_50 hF1) (by omega) (by decide) ?_
      rw [v1]
      refine wp_istore dX12_price_112 (by decide) ?_
      refine wp_aload_n dX12_price_114 rfl ?_
      refine wp_geta dX12_price_115 fl_RX12_69 rfl (fk_33 hF1) (fr_33_22 hF1) ?_
      refine wp_bipush (v := 22) dX12_price_118 (by decide) ?_
      refine wp_iload_n dX12_price_120 rfl ?_
      refine wp_imul dX12_price_121 ?_
      refine wp_iconst (v := 2) dX12_price_122 (by decide) ?_
      refine wp_iload_n dX12_price_123 rfl ?_
      refine wp_imul dX12_price_124 ?_
      refine wp_iadd dX12_price_125 ?_
      rw [nI_22]
      refine wp_iconst (v := 1) dX12_price_126 (by decide) ?_
      refine wp_iadd dX12_price_127 ?_
      rw [nI_1]
      refine wp_ialoadN dX12_price_128 (fk_50 hF1) (by omega) (by decide) ?_
      rw [v2]
      refine wp_istore dX12_price_129 (by decide) ?_
      refine wp_iload dX12_price_131 rfl ?_
      refine wp_iload dX12_price_133 rfl ?_
      refine wp_icmp_eq (tgt := 150) dX12_price_135 (by decide) (fun _ => ?_) (fun h135 => absurd h135 (fun w => w (eam.mpr hc)))
      exact f150 H1 hx (Or.inl hc)
    · have hs1 := s1.resolve_left hc
      have f147 : ∀ H2, eqX isPw H H2 → Wp mX12_price (d + 1) 0 0 147 [some (.ref 33), some (.int (nI j)), some (.int x2), some (.int (nI i)), some (.int (nI a)), some (.int (nI m))] [.int (sgv nm o a m)] H2 Q := by
        intro H2 h2
        have hF2 := Fix_eqX h2 hF
        by_cases h0 : sgv nm o a m = 0
        · rw [if_neg (fun w => w.elim hc (fun y => y h0))] at hq
          have rr := rec' H2 (some (.int (nI a))) (some (.int (nI m))) h2 hq
          refine wp_if_eq (tgt := 173) dX12_price_147 (by decide) (fun _ => ?_) (fun h147 => absurd h147 (fun w => w h0))
          refine wp_incN dX12_price_173 rfl (by decide) ?_
          refine wp_goto (tgt := 89) dX12_price_176 (by decide) ?_
          exact rr
        · have hq9 := hq
          refine wp_if_eq (tgt := 173) dX12_price_147 (by decide) (fun h147 => absurd h147 (h0)) (fun _ => ?_)
          exact f150 H2 h2 (Or.inr h0)
      refine wp_iload_n dX12_price_89 rfl ?_
      refine wp_aload_n dX12_price_90 rfl ?_
      refine wp_geta dX12_price_91 fl_RX12_72 rfl (fk_33 hF1) (fr_33_23 hF1) ?_
      refine wp_iload_n dX12_price_94 rfl ?_
      refine wp_ialoadN dX12_price_95 (fk_51 hF1) (by omega) (by decide) ?_
      rw [hl]
      refine wp_icmp_ge (tgt := 179) dX12_price_96 (by decide) (fun h96 => absurd h96 (nI_ge hil (by omega))) (fun _ => ?_)
      refine wp_aload_n dX12_price_99 rfl ?_
      refine wp_geta dX12_price_100 fl_RX12_69 rfl (fk_33 hF1) (fr_33_22 hF1) ?_
      refine wp_bipush (v := 22) dX12_price_103 (by decide) ?_
      refine wp_iload_n dX12_price_105 rfl ?_
      refine wp_imul dX12_price_106 ?_
      refine wp_iconst (v := 2) dX12_price_107 (by decide) ?_
      refine wp_iload_n dX12_price_108 rfl ?_
      refine wp_imul dX12_price_109 ?_
      refine wp_iadd dX12_price_110 ?_
      rw [nI_22]
      refine wp_ialoadN dX12_price_111 (fk_50 hF1) (by omega) (by decide) ?_
      rw [v1]
      refine wp_istore dX12_price_112 (by decide) ?_
      refine wp_aload_n dX12_price_114 rfl ?_
      refine wp_geta dX12_price_115 fl_RX12_69 rfl (fk_33 hF1) (fr_33_22 hF1) ?_
      refine wp_bipush (v := 22) dX12_price_118 (by decide) ?_
      refine wp_iload_n dX12_price_120 rfl ?_
      refine wp_imul dX12_price_121 ?_
      refine wp_iconst (v := 2) dX12_price_122 (by decide) ?_
      refine wp_iload_n dX12_price_123 rfl ?_
      refine wp_imul dX12_price_124 ?_
      refine wp_iadd dX12_price_125 ?_
      rw [nI_22]
      refine wp_iconst (v := 1) dX12_price_126 (by decide) ?_
      refine wp_iadd dX12_price_127 ?_
      rw [nI_1]
      refine wp_ialoadN dX12_price_128 (fk_50 hF1) (by omega) (by decide) ?_
      rw [v2]
      refine wp_istore dX12_price_129 (by decide) ?_
      refine wp_iload dX12_price_131 rfl ?_
      refine wp_iload dX12_price_133 rfl ?_
      refine wp_icmp_eq (tgt := 150) dX12_price_135 (by decide) (fun h135 => absurd h135 (fun w => hc (eam.mp w))) (fun _ => ?_)
      refine wp_aload_n dX12_price_138 rfl ?_
      refine wp_iload_n dX12_price_139 rfl ?_
      refine wp_iload dX12_price_140 rfl ?_
      refine wp_iload dX12_price_142 rfl ?_
      refine wp_callv3 (ci := 12) dX12_price_144 lk_RX12_333 ok_X12_worked im_X12_worked se_X12_worked rfl rfl (fk_33 hF1) (Nat.le_of_ble_eq_true rfl) (Nat.le_of_ble_eq_true rfl) ?_
      refine wo a m H1 _ hs1 hx (fun H2 h2 => ?_)
      exact f147 H2 h2
theorem c_X12_price {m : Nat} {fr tt : Nat → Nat} (hF : Fix H) (hM : MJ H m fr tt) (hq0 : ¬ ((0 ≤ x1 ∧ x1 < nI m) ∧ 0 ≤ x2 ∧ x2 ≤ 1000) → Q (some (.int 0)) H)
    (hq1 : ∀ j, j < m → x1 = nI j → 0 ≤ x2 → x2 ≤ 1000 → ∃ o E, RowC j o E H ∧ o.length ≤ 600 ∧ E.length ≤ 10 ∧ LF o E ∧ (∀ x, x ∈ o → okI x) ∧ vls o ≤ 100 ∧ ∀ H', eqX isPx H H' → Q (some (.int (prV (nmF (hI H 40 j) (mwy H (fr j) (tt j)) (hI H 44 j) (hI H 43 j) (hI H 45 j) x2) o E E.length 0))) H') : Wp mX12_price (d + 2) 0 0 0 [some (.ref 33), some (.int x1), some (.int x2), none, none, none] [] H Q := by
  have f21 : (0 ≤ x1 ∧ x1 < nI m) → 0 ≤ x2 → x2 ≤ 1000 → Wp mX12_price (d + 2) 0 0 21 [some (.ref 33), some (.int x1), some (.int x2), none, none, none] [] H Q := by
    intro h1 h2 h3
    obtain ⟨j, hj, e⟩ := in_of (by have := hM.2.1; omega) h1
    subst e
    have hm := hM.2.1
    obtain ⟨o, E, g1, g2, g3, g4, g5, g6, g7⟩ := hq1 j hj rfl h2 h3
    obtain ⟨s1, s2⟩ := six (H := H) (a := 64) (k0 := hI H 40 j) (k1 := mwy H (fr j) (tt j)) (k2 := hI H 44 j) (k3 := hI H 43 j) (k4 := hI H 45 j) (k5 := x2)
    have h := l_mprice (d := d + 1) (Q := Q) (x2 := x2) (nm := nmF (hI H 40 j) (mwy H (fr j) (tt j)) (hI H 44 j) (hI H 43 j) (hI H 45 j) x2) (H := sI (sI (sI (sI (sI (sI H 64 0 (hI H 40 j)) 64 1 (mwy H (fr j) (tt j))) 64 2 (hI H 44 j)) 64 3 (hI H 43 j)) 64 4 (hI H 45 j)) 64 5 x2) (Fix_sI (Fix_sI (Fix_sI (Fix_sI (Fix_sI (Fix_sI hF)))))) (by omega) (show RowC j o E _ from ⟨fun i y hi => by rw [s2 48 _ (by decide), s2 49 _ (by decide)]; exact g1.1 i y hi, fun i hi => by rw [s2 50 _ (by decide)]; exact g1.2.1 i hi, fun i hi => by rw [s2 50 _ (by decide)]; exact g1.2.2.1 i hi, by rw [s2 51 _ (by decide)]; exact g1.2.2.2⟩) g2 g3 g4 g5 g6 s1 E.length 0 _ none none (by omega) eqX_rfl (fun H' hx => g7 H' (eqX_trans (eqX_sI (eqX_sI (eqX_sI (eqX_sI (eqX_sI (eqX_sI eqX_rfl (Or.inr rfl)) (Or.inr rfl)) (Or.inr rfl)) (Or.inr rfl)) (Or.inr rfl)) (Or.inr rfl)) (eqX_mono (fun a k z => Or.inl z) hx)))
    have hMs : MJ (sI H 64 0 (hI H 40 j)) m fr tt := ⟨by rw [hI_sI', if_neg (by omega)]; exact hM.1, hM.2.1, fun i hi => by rw [hI_sI', if_neg (by omega)]; exact hM.2.2.1 i hi, fun i hi => by rw [hI_sI', if_neg (by omega)]; exact hM.2.2.2 i hi⟩
    have emw : mwy (sI H 64 0 (hI H 40 j)) (fr j) (tt j) = mwy H (fr j) (tt j) := by
      unfold mwy
      repeat' split
      all_goals first | rfl | rw [hI_sI', if_neg (by omega)]
    refine wp_aload_n dX12_price_21 rfl ?_
    refine wp_geta dX12_price_22 fl_RX12_114 rfl (fk_33 hF) (fr_33_53 hF) ?_
    refine wp_iconst (v := 0) dX12_price_25 (by decide) ?_
    refine wp_aload_n dX12_price_26 rfl ?_
    refine wp_geta dX12_price_27 fl_RX12_39 rfl (fk_33 hF) (fr_33_12 hF) ?_
    refine wp_iload_n dX12_price_30 rfl ?_
    refine wp_ialoadN dX12_price_31 (fk_40 hF) (by omega) (by decide) ?_
    refine wp_iastoreN dX12_price_32 (fk_64 hF) (by decide) (by decide) ?_
    refine wp_aload_n dX12_price_33 rfl ?_
    refine wp_geta dX12_price_34 fl_RX12_114 rfl (fk_33 (Fix_sI hF)) (fr_33_53 (Fix_sI hF)) ?_
    refine wp_iconst (v := 1) dX12_price_37 (by decide) ?_
    refine wp_aload_n dX12_price_38 rfl ?_
    refine wp_iload_n dX12_price_39 rfl ?_
    refine wp_callv1 (ci := 12) dX12_price_40 lk_RX12_175 ok_X12_drive im_X12_drive se_X12_drive rfl rfl (fk_33 (Fix_sI hF)) (Nat.le_of_ble_eq_true rfl) (Nat.le_of_ble_eq_true rfl) ?_
    refine wp_deep (d := 0 + 1) (by omega) (c_X12_drive (Fix_sI hF) hMs hj ?_)
    rw [emw]
    refine wp_iastoreN dX12_price_43 (fk_64 (Fix_sI hF)) (by decide) (by decide) ?_
    refine wp_aload_n dX12_price_44 rfl ?_
    refine wp_geta dX12_price_45 fl_RX12_114 rfl (fk_33 (Fix_sI (Fix_sI hF))) (fr_33_53 (Fix_sI (Fix_sI hF))) ?_
    refine wp_iconst (v := 2) dX12_price_48 (by decide) ?_
    refine wp_aload_n dX12_price_49 rfl ?_
    refine wp_geta dX12_price_50 fl_RX12_51 rfl (fk_33 (Fix_sI (Fix_sI hF))) (fr_33_16 (Fix_sI (Fix_sI hF))) ?_
    refine wp_iload_n dX12_price_53 rfl ?_
    refine wp_ialoadN dX12_price_54 (fk_44 (Fix_sI (Fix_sI hF))) (by omega) (by decide) ?_
    rw [hI_sI', if_neg (by omega), hI_sI', if_neg (by omega)]
    refine wp_iastoreN dX12_price_55 (fk_64 (Fix_sI (Fix_sI hF))) (by decide) (by decide) ?_
    refine wp_aload_n dX12_price_56 rfl ?_
    refine wp_geta dX12_price_57 fl_RX12_114 rfl (fk_33 (Fix_sI (Fix_sI (Fix_sI hF)))) (fr_33_53 (Fix_sI (Fix_sI (Fix_sI hF)))) ?_
    refine wp_iconst (v := 3) dX12_price_60 (by decide) ?_
    refine wp_aload_n dX12_price_61 rfl ?_
    refine wp_geta dX12_price_62 fl_RX12_48 rfl (fk_33 (Fix_sI (Fix_sI (Fix_sI hF)))) (fr_33_15 (Fix_sI (Fix_sI (Fix_sI hF)))) ?_
    refine wp_iload_n dX12_price_65 rfl ?_
    refine wp_ialoadN dX12_price_66 (fk_43 (Fix_sI (Fix_sI (Fix_sI hF)))) (by omega) (by decide) ?_
    rw [hI_sI', if_neg (by omega), hI_sI', if_neg (by omega), hI_sI', if_neg (by omega)]
    refine wp_iastoreN dX12_price_67 (fk_64 (Fix_sI (Fix_sI (Fix_sI hF)))) (by decide) (by decide) ?_
    refine wp_aload_n dX12_price_68 rfl ?_
    refine wp_geta dX12_price_69 fl_RX12_114 rfl (fk_33 (Fix_sI (Fix_sI (Fix_sI (Fix_sI hF))))) (fr_33_53 (Fix_sI (Fix_sI (Fix_sI (Fix_sI hF))))) ?_
    refine wp_iconst (v := 4) dX12_price_72 (by decide) ?_
    refine wp_aload_n dX12_price_73 rfl ?_
    refine wp_geta dX12_price_74 fl_RX12_54 rfl (fk_33 (Fix_sI (Fix_sI (Fix_sI (Fix_sI hF))))) (fr_33_17 (Fix_sI (Fix_sI (Fix_sI (Fix_sI hF))))) ?_
    refine wp_iload_n dX12_price_77 rfl ?_
    refine wp_ialoadN dX12_price_78 (fk_45 (Fix_sI (Fix_sI (Fix_sI (Fix_sI hF))))) (by omega) (by decide) ?_
    rw [hI_sI', if_neg (by omega), hI_sI', if_neg (by omega), hI_sI', if_neg (by omega), hI_sI', if_neg (by omega)]
    refine wp_iastoreN dX12_price_79 (fk_64 (Fix_sI (Fix_sI (Fix_sI (Fix_sI hF))))) (by decide) (by decide) ?_
    refine wp_aload_n dX12_price_80 rfl ?_
    refine wp_geta dX12_price_81 fl_RX12_114 rfl (fk_33 (Fix_sI (Fix_sI (Fix_sI (Fix_sI (Fix_sI hF)))))) (fr_33_53 (Fix_sI (Fix_sI (Fix_sI (Fix_sI (Fix_sI hF)))))) ?_
    refine wp_iconst (v := 5) dX12_price_84 (by decide) ?_
    refine wp_iload_n dX12_price_85 rfl ?_
    refine wp_iastoreN dX12_price_86 (fk_64 (Fix_sI (Fix_sI (Fix_sI (Fix_sI (Fix_sI hF)))))) (by decide) (by decide) ?_
    refine wp_iconst (v := 0) dX12_price_87 (by decide) ?_
    refine wp_istore_n dX12_price_88 (by decide) ?_
    exact h
  refine wp_aload_n dX12_price_0 rfl ?_
  refine wp_iload_n dX12_price_1 rfl ?_
  refine wp_callv1 (ci := 12) dX12_price_2 lk_RX12_166 ok_X12_isJob im_X12_isJob se_X12_isJob rfl rfl (fk_33 hF) (Nat.le_of_ble_eq_true rfl) (Nat.le_of_ble_eq_true rfl) ?_
  refine c_X12_isJob hF hM.1 ?_
  refine wp_ifb_eq (tgt := 19) dX12_price_5 (by decide) (fun h5 => ?_) (fun h5 => ?_)
  · refine wp_iconst (v := 0) dX12_price_19 (by decide) ?_
    refine wp_ireturn rfl dX12_price_20 ?_
    first
        | exact hq0 (fun w => h5 w.1)
        | exact hq0 (fun w => Int32.not_lt.mpr w.2.1 h9)
        | exact hq0 (fun w => h16 w.2.2)
  · refine wp_iload_n dX12_price_8 rfl ?_
    refine wp_if_lt (tgt := 19) dX12_price_9 (by decide) (fun h9 => ?_) (fun h9 => ?_)
    · refine wp_iconst (v := 0) dX12_price_19 (by decide) ?_
      refine wp_ireturn rfl dX12_price_20 ?_
      first
          | exact hq0 (fun w => h5 w.1)
          | exact hq0 (fun w => Int32.not_lt.mpr w.2.1 h9)
          | exact hq0 (fun w => h16 w.2.2)
    · refine wp_iload_n dX12_price_12 rfl ?_
      refine wp_sipush (v := 1000) dX12_price_13 (by decide) ?_
      refine wp_icmp_le (tgt := 21) dX12_price_16 (by decide) (fun h16 => ?_) (fun h16 => ?_)
      · exact f21 h5 (Int32.not_lt.mp h9) h16
      · refine wp_iconst (v := 0) dX12_price_19 (by decide) ?_
        refine wp_ireturn rfl dX12_price_20 ?_
        first
            | exact hq0 (fun w => h5 w.1)
            | exact hq0 (fun w => Int32.not_lt.mpr w.2.1 h9)
            | exact hq0 (fun w => h16 w.2.2)
end MPP
