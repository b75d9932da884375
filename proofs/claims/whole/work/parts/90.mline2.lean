/-! ===== a line of the reference ===== -/
section MLj
variable {d : Nat} {H : PH} {Q : Option Value → PH → Prop} {bf : Nat → Int32} {N s v u : Nat} {o o0 : OL} {W : List Nat} {H1 : PH} {tm : Nat} {z : Int32} {E : List (Nat × Nat)}
theorem l_line {r1 : FT ⊕ S4} {l1 : Option Value} (hF : Fix H) (hL : ML H bf N s v o E H1) (hos : o.length ≤ s) (hok : OKo v o) (hlf : LF o E) (h0 : tkA bf N s ≠ 0) (h8 : tkA bf N s ≠ 8) (hr : LnS bf N E.length s v o r1)
    (hqF : ∀ f, r1 = .inl f → ∀ H', MLB H f H' → Q (some (.int (-1))) H')
    (hqN : ∀ s' v' o' e l1, r1 = .inr (s', v', o', e) → tkA bf N s' ≠ 8 → o'.length ≤ s' → OKo v' o' → LF o' (E ++ [e]) → ∀ H', ML H bf N s' v' o' (E ++ [e]) H' → Wp mX12_prices (d + 5) 0 0 47 [some (.ref 33), l1] [] H' Q) : Wp mX12_prices (d + 5) 0 0 47 [some (.ref 33), l1] [] H1 Q := by
  have hL' := hL
  obtain ⟨m1, m2, m3, m4, hM⟩ := hL'
  have hF1 := Fix_eqM m1 hF
  have hB := hM.2.1.1
  have h45 := hM.2.2.1.1
  have h41 := hM.2.2.2.2.2.2.2.1
  have h37 := hM.2.2.2.2.2.2.1.1
  have hbd := M0_bd hM
  have hsl := srt_lt hB s
  have hs0 : ¬ nI (srt bf N s) = 0 := fun q => h0 ((tk_srt hB (s := s)).2.2.1.mpr ((nI_eq (a := srt bf N s) (b := 0) (by omega) (by decide)).mp q))
  have e10 : nI E.length = 10 ↔ E.length = 10 := nI_eq (a := E.length) (b := 10) (by omega) (by decide)
  obtain ⟨w1, w2, -⟩ := wd_is (s := s) hB
  rcases hr with ⟨hc, er⟩ | ⟨hc, rw', hw, hrest⟩
  · have go := fun l1 => l_prW (l1 := l1) (f := (2, s)) (d := d) hF m1 hM (by rw [if_neg h8]) (hqF _ er)
    refine wp_aload_n dX12_prices_47 rfl ?_
    refine wp_geti dX12_prices_48 fl_RX12_250 rfl (fk_33 hF1) ?_
    rw [h41]
    refine wp_if_ne (tgt := 195) dX12_prices_51 (by decide) (fun h51 => absurd h51 (fun q => q rfl)) (fun _ => ?_)
    refine wp_aload_n dX12_prices_54 rfl ?_
    refine wp_geti dX12_prices_55 fl_RX12_238 rfl (fk_33 hF1) ?_
    rw [h45]
    refine wp_if_eq (tgt := 195) dX12_prices_58 (by decide) (fun h58 => absurd h58 (hs0)) (fun _ => ?_)
    refine wp_aload_n dX12_prices_61 rfl ?_
    refine wp_ldc2_w dX12_prices_62 co_RX12_300 ?_
    refine wp_callv1 (ci := 12) dX12_prices_65 lk_RX12_286 ok_X12_isWord im_X12_isWord se_X12_isWord rfl rfl (fk_33 hF1) (Nat.le_of_ble_eq_true rfl) (Nat.le_of_ble_eq_true rfl) ?_
    refine c_isWord0 hF1 hM ?_
    refine wp_istore_n dX12_prices_68 (by decide) ?_
    refine wp_iload_n dX12_prices_69 rfl ?_
    refine wp_ifb_ne (tgt := 83) dX12_prices_70 (by decide) (fun h70 => ?_) (fun h70 => ?_)
    · refine wp_aload_n dX12_prices_83 rfl ?_
      refine wp_geti dX12_prices_84 fl_RX12_327 rfl (fk_33 hF1) ?_
      rw [m2]
      refine wp_bipush (v := 10) dX12_prices_87 (by decide) ?_
      refine wp_icmp_ne (tgt := 97) dX12_prices_89 (by decide) (fun h89 => ?_) (fun h89 => ?_)
      · first
            | exact absurd hc (fun q => q.elim (fun y => y.1 (w1.mp h70)) (fun y => h89 (e10.mpr y)))
            | exact absurd hc (fun q => q.elim (fun y => y.2 (w2.mp h80)) (fun y => h89 (e10.mpr y)))
      · exact go _
    · refine wp_aload_n dX12_prices_73 rfl ?_
      refine wp_ldc2_w dX12_prices_74 co_RX12_284 ?_
      refine wp_callv1 (ci := 12) dX12_prices_77 lk_RX12_286 ok_X12_isWord im_X12_isWord se_X12_isWord rfl rfl (fk_33 hF1) (Nat.le_of_ble_eq_true rfl) (Nat.le_of_ble_eq_true rfl) ?_
      refine c_isWord0 hF1 hM ?_
      refine wp_ifb_eq (tgt := 92) dX12_prices_80 (by decide) (fun h80 => ?_) (fun h80 => ?_)
      · exact go _
      · refine wp_aload_n dX12_prices_83 rfl ?_
        refine wp_geti dX12_prices_84 fl_RX12_327 rfl (fk_33 hF1) ?_
        rw [m2]
        refine wp_bipush (v := 10) dX12_prices_87 (by decide) ?_
        refine wp_icmp_ne (tgt := 97) dX12_prices_89 (by decide) (fun h89 => ?_) (fun h89 => ?_)
        · first
              | exact absurd hc (fun q => q.elim (fun y => y.1 (w1.mp h70)) (fun y => h89 (e10.mpr y)))
              | exact absurd hc (fun q => q.elim (fun y => y.2 (w2.mp h80)) (fun y => h89 (e10.mpr y)))
        · exact go _
  · have hE : E.length < 10 := by
      have : E.length ≠ 10 := fun q => hc (Or.inr q)
      omega
    have h12 : tkA bf N s = 1 ∨ tkA bf N s = 2 := Classical.byContradiction (fun q => hc (Or.inl ⟨fun y => q (Or.inl y), fun y => q (Or.inr y)⟩))
    have n10 : ¬ nI E.length = 10 := fun q => hc (Or.inr (e10.mp q))
    -- behind the price
    have f169 : ∀ (l1 : Option Value) H3 s2 v2 o2 e, ML H bf N s2 v2 o2 E H3 → hI H3 60 (2 * E.length) = nI (stA E E.length) → hI H3 60 (2 * E.length + 1) = nI e.1 → tkA bf N s2 = 59 → o2.length + 1 ≤ s2 → OKo v2 o2 → LF o2 (E ++ [e]) → ((tkA bf N (nxtT bf N s2) = 8 ∧ r1 = .inl (1, nxtT bf N s2)) ∨ (tkA bf N (nxtT bf N s2) ≠ 8 ∧ r1 = .inr (nxtT bf N s2, v2, o2, e))) → Wp mX12_prices (d + 5) 0 0 169 [some (.ref 33), l1] [] H3 Q := by
      intro l1 H3 s2 v2 o2 e g g1 g2 g3 g4 g5 g6 g7
      obtain ⟨k1, k2, k3, k4, hM3⟩ := g
      have g : ML H bf N s2 v2 o2 E H3 := ⟨k1, k2, k3, k4, hM3⟩
      have hF3 := Fix_eqM k1 hF
      have q41 := hM3.2.2.2.2.2.2.2.1
      have hb3 := M0_bd hM3
      obtain ⟨n1, n2, n3, n4⟩ := nxt_gt hB hb3.1 (by omega) (by omega)
      have fin : ∀ H4, M0 H3 bf N (nxtT bf N s2) v2 o2 H4 → Wp mX12_prices (d + 5) 0 0 47 [some (.ref 33), l1] [] (sI H4 33 36 (nI (E.length + 1))) Q := by
        intro H4 hM4
        have g4' := ML_go g hM4
        have e60 : ∀ k, hI H4 60 k = hI H3 60 k := fun k => hM4.1.2.2.2.1 60 k (by unfold isMr; omega)
        have g5' := ML_new (e := e) g4' hE (by rw [e60]; exact g1) (by rw [e60]; exact g2)
        rcases g7 with ⟨a, b⟩ | ⟨a, b⟩
        · obtain ⟨x1, x2, x3, x4, x5⟩ := g5'
          exact l_prBad hF x1 x5 a (hqF _ b)
        · exact hqN _ _ _ _ l1 b a (by omega) g5 g6 _ g5'
      refine wp_aload_n dX12_prices_169 rfl ?_
      refine wp_geti dX12_prices_170 fl_RX12_250 rfl (fk_33 hF3) ?_
      rw [q41]
      refine wp_if_le (tgt := 178) dX12_prices_173 (by decide) (fun _ => ?_) (fun h173 => absurd h173 (fun q => q (by decide)))
      refine wp_aload_n dX12_prices_178 rfl ?_
      refine wp_callv0 (ci := 12) dX12_prices_179 lk_RX12_317 ok_X12_next im_X12_next se_X12_next rfl rfl (fk_33 hF3) (Nat.le_of_ble_eq_true rfl) (Nat.le_of_ble_eq_true rfl) ?_
      refine wp_deep (d := 0 + 1) (by omega) (c_next0 hF3 hM3 (by omega) (by omega) (fun H4 hM4 => ?_))
      have hF4 := M0_fix hF3 hM4
      have q36 := (ML_go g hM4).2.1
      refine wp_aload_n dX12_prices_182 rfl ?_
      refine wp_dup dX12_prices_183 rfl ?_
      refine wp_geti dX12_prices_184 fl_RX12_327 rfl (fk_33 hF4) ?_
      rw [q36]
      refine wp_iconst (v := 1) dX12_prices_187 (by decide) ?_
      refine wp_iadd dX12_prices_188 ?_
      rw [nI_1]
      refine wp_puti dX12_prices_189 fl_RX12_327 (mp_12_36 _ _) rfl (fk_33 hF4) ?_
      refine wp_goto (tgt := 47) dX12_prices_192 (by decide) ?_
      exact fin H4 hM4
    -- from the word price on
    have f143 : ∀ (l1 : Option Value) Hb s1 v1 o1, ML H bf N s1 v1 o1 E Hb → hI Hb 60 (2 * E.length) = nI (stA E E.length) → tkA bf N s1 = 2 → o1.length ≤ s1 → OKo v1 o1 → (∃ l, o1 = o ++ l ∧ (l = [] ∨ ht l 0 = some 1)) → rw' = .inr (s1, v1, o1) → Wp mX12_prices (d + 5) 0 0 143 [some (.ref 33), l1] [] Hb Q := by
      intro l1 Hb s1 v1 o1 g g1 g2 g3 g4 ⟨lw, g5, g6⟩ g7
      rcases hrest with ⟨f, e1, -⟩ | ⟨s1', v1', o1', e1, rp, hp, hrest⟩
      · rw [g7] at e1; cases e1
      rw [g7] at e1
      cases e1
      have g' := ML_w (k := 2 * E.length + 1) (x := nI o1.length) (by omega) g
      obtain ⟨k1, k2, k3, k4, hMb⟩ := g
      have hFb := Fix_eqM k1 hF
      have hFc := Fix_eqM g'.1 hF
      have q37 := hMb.2.2.2.2.2.2.1.1
      have hb1 := M0_bd hMb
      obtain ⟨n1, n2, n3, n4⟩ := nxt_gt hB hb1.1 (by omega) (by omega)
      have hMc := M0_w (k := 2 * E.length + 1) (x := nI o1.length) (Or.inl rfl) hMb
      have fb : ∀ f H3, rp = .inl f → MB (sI Hb 60 (2 * E.length + 1) (nI o1.length)) f H3 → Wp mX12_prices (d + 5) 0 0 169 [some (.ref 33), l1] [] H3 Q := by
        intro f H3 e hb'
        have hF3 := Fix_eqM hb'.1 hFc
        have q41 := hb'.2.1
        have q1 := hb'.2.2.1
        have q3 := hb'.2.2.2.1
        have er : r1 = .inl f := by
          rcases hrest with ⟨f', e1, e2⟩ | ⟨s2, v2, o2, e1, -⟩
          · rw [e] at e1; cases e1; exact e2
          · rw [e] at e1; cases e1
        refine wp_aload_n dX12_prices_169 rfl ?_
        refine wp_geti dX12_prices_170 fl_RX12_250 rfl (fk_33 hF3) ?_
        rw [q41]
        refine wp_if_le (tgt := 178) dX12_prices_173 (by decide) (fun h173 => absurd h173 (nI_nle (by omega) (by omega))) (fun _ => ?_)
        refine wp_iconst (v := -1) dX12_prices_176 (by decide) ?_
        refine wp_ireturn rfl dX12_prices_177 ?_
        exact hqF f er H3 (MLB_of g'.1 hb')
      have fo : ∀ s2 v2 o2 H3, rp = .inr (s2, v2, o2) → tkA bf N s2 = 59 → o2.length + 1 ≤ s2 → OKo v2 o2 → (∃ l, o2 = o1 ++ l ∧ ht l 0 = some 1) → MR (sI Hb 60 (2 * E.length + 1) (nI o1.length)) bf N s2 v2 o2 [] H3 → Wp mX12_prices (d + 5) 0 0 169 [some (.ref 33), l1] [] H3 Q := by
        intro s2 v2 o2 H3 e t2 l2 k2 ⟨lp, e5, e6⟩ hM3
        have e60 : ∀ k, hI H3 60 k = hI (sI Hb 60 (2 * E.length + 1) (nI o1.length)) 60 k := fun k => hM3.1.2.2.2.1 60 k (by unfold isMr; omega)
        refine f169 l1 H3 s2 v2 o2 (o1.length, o2.length) (ML_go g' (M0_of hM3)) (by rw [e60, hI_sI', if_neg (by omega)]; exact g1) (by rw [e60, hI_sI', if_pos ⟨rfl, rfl⟩]) t2 l2 k2 ?_ ?_
        · subst e5; subst g5
          exact LF_app hlf g6 e6
        · rcases hrest with ⟨f', e1, -⟩ | ⟨s2', v2', o2', e1, e2⟩
          · rw [e] at e1; cases e1
          · rw [e] at e1; cases e1; exact e2
      refine wp_aload_n dX12_prices_143 rfl ?_
      refine wp_geta dX12_prices_144 fl_RX12_99 rfl (fk_33 hFb) (fr_33_35 hFb) ?_
      refine wp_iconst (v := 2) dX12_prices_147 (by decide) ?_
      refine wp_aload_n dX12_prices_148 rfl ?_
      refine wp_geti dX12_prices_149 fl_RX12_327 rfl (fk_33 hFb) ?_
      rw [k2]
      refine wp_imul dX12_prices_152 ?_
      rw [nI_2m]
      refine wp_iconst (v := 1) dX12_prices_153 (by decide) ?_
      refine wp_iadd dX12_prices_154 ?_
      rw [nI_1]
      refine wp_aload_n dX12_prices_155 rfl ?_
      refine wp_geti dX12_prices_156 fl_RX12_265 rfl (fk_33 hFb) ?_
      rw [q37]
      refine wp_iastoreN dX12_prices_159 (fk_60 hFb) (by omega) (by decide) ?_
      refine wp_aload_n dX12_prices_160 rfl ?_
      refine wp_callv0 (ci := 12) dX12_prices_161 lk_RX12_317 ok_X12_next im_X12_next se_X12_next rfl rfl (fk_33 (Fix_sI hFb)) (Nat.le_of_ble_eq_true rfl) (Nat.le_of_ble_eq_true rfl) ?_
      refine wp_deep (d := 0 + 1) (by omega) (c_next0 hFc hMc (by omega) (by omega) (fun H2 hM2 => ?_))
      have hF2 := M0_fix hFc hM2
      refine wp_aload_n dX12_prices_164 rfl ?_
      refine wp_iconst (v := 0) dX12_prices_165 (by decide) ?_
      refine wp_callv1 (ci := 12) dX12_prices_166 lk_RX12_330 ok_X12_readE im_X12_readE se_X12_readE rfl rfl (fk_33 hF2) (Nat.le_of_ble_eq_true rfl) (Nat.le_of_ble_eq_true rfl) ?_
      refine c_X12_readE (r := rp) (Or.inr ⟨rfl, rfl⟩) hFc hM2 (by omega) g4 hp (fun s2 v2 o2 e t2 l2 k2 g2 H3 hM3 => ?_) (fun f e H3 hb' => ?_)
      · first
            | exact fo s2 v2 o2 H3 e t2 l2 k2 g2 hM3
            | exact fb f H3 e hb'
      · first
            | exact fo s2 v2 o2 H3 e t2 l2 k2 g2 hM3
            | exact fb f H3 e hb'
    have g' := ML_w (k := 2 * E.length) (x := nI o.length) (by omega) hL
    have hFc := Fix_eqM g'.1 hF
    have hMc := M0_w (k := 2 * E.length) (x := nI o.length) (Or.inl rfl) hM
    have g60 : hI (sI H1 60 (2 * E.length) (nI o.length)) 60 (2 * E.length) = nI (stA E E.length) := by rw [hI_sI', if_pos ⟨rfl, rfl⟩, hlf.2]
    obtain ⟨n1, n2, n3, n4⟩ := nxt_gt hB hbd.1 h0 h8
    by_cases h1 : tkA bf N s = 1
    · have hp : EP bf N 2 s v o rw' := by
        rcases hw with ⟨-, y⟩ | ⟨y, -⟩
        · exact y
        · exact absurd h1 y
      have fb : ∀ f H3, rw' = .inl f → MB (sI H1 60 (2 * E.length) (nI o.length)) f H3 → Wp mX12_prices (d + 5) 0 0 134 [some (.ref 33), some (.int 1)] [] H3 Q := by
        intro f H3 e hb'
        have hF3 := Fix_eqM hb'.1 hFc
        have q41 := hb'.2.1
        have q1 := hb'.2.2.1
        have q3 := hb'.2.2.2.1
        have er : r1 = .inl f := by
          rcases hrest with ⟨f', e1, e2⟩ | ⟨s2, v2, o2, e1, -⟩
          · rw [e] at e1; cases e1; exact e2
          · rw [e] at e1; cases e1
        refine wp_aload_n dX12_prices_134 rfl ?_
        refine wp_geti dX12_prices_135 fl_RX12_250 rfl (fk_33 hF3) ?_
        rw [q41]
        refine wp_if_le (tgt := 143) dX12_prices_138 (by decide) (fun h138 => absurd h138 (nI_nle (by omega) (by omega))) (fun _ => ?_)
        refine wp_iconst (v := -1) dX12_prices_141 (by decide) ?_
        refine wp_ireturn rfl dX12_prices_142 ?_
        exact hqF f er H3 (MLB_of g'.1 hb')
      have fo : ∀ s2 v2 o2 H3, rw' = .inr (s2, v2, o2) → tkA bf N s2 = 2 → o2.length + 1 ≤ s2 → OKo v2 o2 → (∃ l, o2 = o ++ l ∧ ht l 0 = some 1) → MR (sI H1 60 (2 * E.length) (nI o.length)) bf N s2 v2 o2 [] H3 → Wp mX12_prices (d + 5) 0 0 134 [some (.ref 33), some (.int 1)] [] H3 Q := by
        intro s2 v2 o2 H3 e t2 l2 k2 ⟨lp, e5, e6⟩ hM3
        have e60 : hI H3 60 (2 * E.length) = nI (stA E E.length) := (hM3.1.2.2.2.1 60 _ (by unfold isMr; omega)).trans g60
        have hF3 := MR_fix hFc hM3
        have q41 := hM3.2.2.2.2.2.2.2.2.1
        refine wp_aload_n dX12_prices_134 rfl ?_
        refine wp_geti dX12_prices_135 fl_RX12_250 rfl (fk_33 hF3) ?_
        rw [q41]
        refine wp_if_le (tgt := 143) dX12_prices_138 (by decide) (fun _ => ?_) (fun h138 => absurd h138 (fun q => q (by decide)))
        exact f143 _ H3 s2 v2 o2 (ML_go g' (M0_of hM3)) e60 t2 (by omega) k2 ⟨lp, e5, Or.inr e6⟩ e
      have f68 : Wp mX12_prices (d + 5) 0 0 68 [some (.ref 33), l1] [.int 1] H1 Q := by
        refine wp_istore_n dX12_prices_68 (by decide) ?_
        refine wp_iload_n dX12_prices_69 rfl ?_
        refine wp_if_ne (tgt := 83) dX12_prices_70 (by decide) (fun _ => ?_) (fun h70 => absurd h70 (by decide))
        refine wp_aload_n dX12_prices_83 rfl ?_
        refine wp_geti dX12_prices_84 fl_RX12_327 rfl (fk_33 hF1) ?_
        rw [m2]
        refine wp_bipush (v := 10) dX12_prices_87 (by decide) ?_
        refine wp_icmp_ne (tgt := 97) dX12_prices_89 (by decide) (fun _ => ?_) (fun h89 => absurd h89 (n10))
        refine wp_aload_n dX12_prices_97 rfl ?_
        refine wp_geti dX12_prices_98 fl_RX12_250 rfl (fk_33 hF1) ?_
        rw [h41]
        refine wp_if_le (tgt := 106) dX12_prices_101 (by decide) (fun _ => ?_) (fun h101 => absurd h101 (fun q => q (by decide)))
        refine wp_aload_n dX12_prices_106 rfl ?_
        refine wp_geta dX12_prices_107 fl_RX12_99 rfl (fk_33 hF1) (fr_33_35 hF1) ?_
        refine wp_iconst (v := 2) dX12_prices_110 (by decide) ?_
        refine wp_aload_n dX12_prices_111 rfl ?_
        refine wp_geti dX12_prices_112 fl_RX12_327 rfl (fk_33 hF1) ?_
        rw [m2]
        refine wp_imul dX12_prices_115 ?_
        rw [nI_2m]
        refine wp_aload_n dX12_prices_116 rfl ?_
        refine wp_geti dX12_prices_117 fl_RX12_265 rfl (fk_33 hF1) ?_
        rw [h37]
        refine wp_iastoreN dX12_prices_120 (fk_60 hF1) (by omega) (by decide) ?_
        refine wp_iload_n dX12_prices_121 rfl ?_
        refine wp_if_eq (tgt := 143) dX12_prices_122 (by decide) (fun h122 => absurd h122 (by decide)) (fun _ => ?_)
        refine wp_aload_n dX12_prices_125 rfl ?_
        refine wp_callv0 (ci := 12) dX12_prices_126 lk_RX12_317 ok_X12_next im_X12_next se_X12_next rfl rfl (fk_33 (Fix_sI hF1)) (Nat.le_of_ble_eq_true rfl) (Nat.le_of_ble_eq_true rfl) ?_
        refine wp_deep (d := 0 + 1) (by omega) (c_next0 hFc hMc h0 h8 (fun H2 hM2 => ?_))
        have hF2 := M0_fix hFc hM2
        refine wp_aload_n dX12_prices_129 rfl ?_
        refine wp_iconst (v := 1) dX12_prices_130 (by decide) ?_
        refine wp_callv1 (ci := 12) dX12_prices_131 lk_RX12_330 ok_X12_readE im_X12_readE se_X12_readE rfl rfl (fk_33 hF2) (Nat.le_of_ble_eq_true rfl) (Nat.le_of_ble_eq_true rfl) ?_
        refine c_X12_readE (r := rw') (Or.inl ⟨rfl, rfl⟩) hFc hM2 (by omega) hok hp (fun s2 v2 o2 e t2 l2 k2 g2 H3 hM3 => ?_) (fun f e H3 hb' => ?_)
        · first
              | exact fo s2 v2 o2 H3 e t2 l2 k2 g2 hM3
              | exact fb f H3 e hb'
        · first
              | exact fo s2 v2 o2 H3 e t2 l2 k2 g2 hM3
              | exact fb f H3 e hb'
      refine wp_aload_n dX12_prices_47 rfl ?_
      refine wp_geti dX12_prices_48 fl_RX12_250 rfl (fk_33 hF1) ?_
      rw [h41]
      refine wp_if_ne (tgt := 195) dX12_prices_51 (by decide) (fun h51 => absurd h51 (fun q => q rfl)) (fun _ => ?_)
      refine wp_aload_n dX12_prices_54 rfl ?_
      refine wp_geti dX12_prices_55 fl_RX12_238 rfl (fk_33 hF1) ?_
      rw [h45]
      refine wp_if_eq (tgt := 195) dX12_prices_58 (by decide) (fun h58 => absurd h58 (hs0)) (fun _ => ?_)
      refine wp_aload_n dX12_prices_61 rfl ?_
      refine wp_ldc2_w dX12_prices_62 co_RX12_300 ?_
      refine wp_callv1 (ci := 12) dX12_prices_65 lk_RX12_286 ok_X12_isWord im_X12_isWord se_X12_isWord rfl rfl (fk_33 hF1) (Nat.le_of_ble_eq_true rfl) (Nat.le_of_ble_eq_true rfl) ?_
      refine c_isWord0 hF1 hM ?_
      rw [bI_t (w1.mpr h1)]
      exact f68
    · have h2 := h12.resolve_left h1
      have er : rw' = .inr (s, v, o) := by
        rcases hw with ⟨y, -⟩ | ⟨-, y⟩
        · exact absurd y h1
        · exact y
      have f83 : Wp mX12_prices (d + 5) 0 0 83 [some (.ref 33), some (.int 0)] [] H1 Q := by
        refine wp_aload_n dX12_prices_83 rfl ?_
        refine wp_geti dX12_prices_84 fl_RX12_327 rfl (fk_33 hF1) ?_
        rw [m2]
        refine wp_bipush (v := 10) dX12_prices_87 (by decide) ?_
        refine wp_icmp_ne (tgt := 97) dX12_prices_89 (by decide) (fun _ => ?_) (fun h89 => absurd h89 (n10))
        refine wp_aload_n dX12_prices_97 rfl ?_
        refine wp_geti dX12_prices_98 fl_RX12_250 rfl (fk_33 hF1) ?_
        rw [h41]
        refine wp_if_le (tgt := 106) dX12_prices_101 (by decide) (fun _ => ?_) (fun h101 => absurd h101 (fun q => q (by decide)))
        refine wp_aload_n dX12_prices_106 rfl ?_
        refine wp_geta dX12_prices_107 fl_RX12_99 rfl (fk_33 hF1) (fr_33_35 hF1) ?_
        refine wp_iconst (v := 2) dX12_prices_110 (by decide) ?_
        refine wp_aload_n dX12_prices_111 rfl ?_
        refine wp_geti dX12_prices_112 fl_RX12_327 rfl (fk_33 hF1) ?_
        rw [m2]
        refine wp_imul dX12_prices_115 ?_
        rw [nI_2m]
        refine wp_aload_n dX12_prices_116 rfl ?_
        refine wp_geti dX12_prices_117 fl_RX12_265 rfl (fk_33 hF1) ?_
        rw [h37]
        refine wp_iastoreN dX12_prices_120 (fk_60 hF1) (by omega) (by decide) ?_
        refine wp_iload_n dX12_prices_121 rfl ?_
        refine wp_if_eq (tgt := 143) dX12_prices_122 (by decide) (fun _ => ?_) (fun h122 => absurd h122 (fun q => q rfl))
        exact f143 _ _ s v o g' g60 h2 hos hok ⟨[], by rw [List.append_nil], Or.inl rfl⟩ er
      have f68 : Wp mX12_prices (d + 5) 0 0 68 [some (.ref 33), l1] [.int 0] H1 Q := by
        refine wp_istore_n dX12_prices_68 (by decide) ?_
        refine wp_iload_n dX12_prices_69 rfl ?_
        refine wp_if_ne (tgt := 83) dX12_prices_70 (by decide) (fun h70 => absurd h70 (fun q => q rfl)) (fun _ => ?_)
        refine wp_aload_n dX12_prices_73 rfl ?_
        refine wp_ldc2_w dX12_prices_74 co_RX12_284 ?_
        refine wp_callv1 (ci := 12) dX12_prices_77 lk_RX12_286 ok_X12_isWord im_X12_isWord se_X12_isWord rfl rfl (fk_33 hF1) (Nat.le_of_ble_eq_true rfl) (Nat.le_of_ble_eq_true rfl) ?_
        refine c_isWord0 hF1 hM ?_
        refine wp_ifb_eq (tgt := 92) dX12_prices_80 (by decide) (fun h80 => absurd h80 (fun q => q (w2.mpr h2))) (fun _ => ?_)
        exact f83
      refine wp_aload_n dX12_prices_47 rfl ?_
      refine wp_geti dX12_prices_48 fl_RX12_250 rfl (fk_33 hF1) ?_
      rw [h41]
      refine wp_if_ne (tgt := 195) dX12_prices_51 (by decide) (fun h51 => absurd h51 (fun q => q rfl)) (fun _ => ?_)
      refine wp_aload_n dX12_prices_54 rfl ?_
      refine wp_geti dX12_prices_55 fl_RX12_238 rfl (fk_33 hF1) ?_
      rw [h45]
      refine wp_if_eq (tgt := 195) dX12_prices_58 (by decide) (fun h58 => absurd h58 (hs0)) (fun _ => ?_)
      refine wp_aload_n dX12_prices_61 rfl ?_
      refine wp_ldc2_w dX12_prices_62 co_RX12_300 ?_
      refine wp_callv1 (ci := 12) dX12_prices_65 lk_RX12_286 ok_X12_isWord im_X12_isWord se_X12_isWord rfl rfl (fk_33 hF1) (Nat.le_of_ble_eq_true rfl) (Nat.le_of_ble_eq_true rfl) ?_
      refine c_isWord0 hF1 hM ?_
      rw [bI_f (fun q => h1 (w1.mp q))]
      exact f68
end MLj
