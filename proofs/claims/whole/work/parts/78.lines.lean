/-! ===== lines of PRICES: pure, and as the class reads them ===== -/
abbrev S3 : Type := Nat × Nat × OL
abbrev S4 : Type := Nat × Nat × OL × (Nat × Nat)
section PL2
variable (bf : Nat → Int32) (N : Nat)
/-- the word at s, an e behind it, up to the token tm -/
def EP (tm s v : Nat) (o : OL) (r : FT ⊕ S3) : Prop := (tkA bf N (nxtT bf N s) = 8 ∧ r = .inl (1, nxtT bf N s)) ∨ (tkA bf N (nxtT bf N s) ≠ 8 ∧ ((∃ f, RT bf N tm (0, [], nxtT bf N s, v, o) (.inl f) ∧ r = .inl f) ∨ ∃ W2 s' v' o2 o', RT bf N tm (0, [], nxtT bf N s, v, o) (.inr (2, W2, s', v', o2)) ∧ stp (pS 0) W2 o2 = ([], o') ∧ tkA bf N s' = tm ∧ r = .inr (s', v', o')))
/-- the when of a line -/
def EW (s v : Nat) (o : OL) (r : FT ⊕ S3) : Prop := (tkA bf N s = 1 ∧ EP bf N 2 s v o r) ∨ (tkA bf N s ≠ 1 ∧ r = .inr (s, v, o))
/-- a line -/
def LnS (ln s v : Nat) (o : OL) (r : FT ⊕ S4) : Prop :=
  (((tkA bf N s ≠ 1 ∧ tkA bf N s ≠ 2) ∨ ln = 10) ∧ r = .inl (2, s)) ∨
  (¬ ((tkA bf N s ≠ 1 ∧ tkA bf N s ≠ 2) ∨ ln = 10) ∧ ∃ rw', EW bf N s v o rw' ∧ ((∃ f, rw' = .inl f ∧ r = .inl f) ∨ ∃ s1 v1 o1, rw' = .inr (s1, v1, o1) ∧ ∃ rp, EP bf N 59 s1 v1 o1 rp ∧ ((∃ f, rp = .inl f ∧ r = .inl f) ∨ ∃ s2 v2 o2, rp = .inr (s2, v2, o2) ∧ ((tkA bf N (nxtT bf N s2) = 8 ∧ r = .inl (1, nxtT bf N s2)) ∨ (tkA bf N (nxtT bf N s2) ≠ 8 ∧ r = .inr (nxtT bf N s2, v2, o2, (o1.length, o2.length)))))))
/-- all lines -/
def LnR : Nat → Nat → Nat → Nat → OL → List (Nat × Nat) → FT ⊕ (OL × List (Nat × Nat)) → Prop
  | 0, _, _, _, _, _, _ => False
  | n + 1, ln, s, v, o, E, r => (tkA bf N s = 0 ∧ r = .inr (o, E)) ∨ (tkA bf N s ≠ 0 ∧ ∃ r1, LnS bf N ln s v o r1 ∧ ((∃ f, r1 = .inl f ∧ r = .inl f) ∨ ∃ s' v' o' e, r1 = .inr (s', v', o', e) ∧ LnR n (ln + 1) s' v' o' (E ++ [e]) r))
end PL2
section CLn
variable {bf : Nat → Int32} {N : Nat} {H : PH} {Q : Option Value → PH → Prop}
theorem tm2 : ∀ s, tkA bf N s = 2 → isMul (tkA bf N s) = false ∧ isSum (tkA bf N s) = false ∧ isCmp (tkA bf N s) = false ∧ tkA bf N s ≠ 3 ∧ tkA bf N s ≠ 4 := fun s h => by rw [h]; decide
theorem tm59 : ∀ s, tkA bf N s = 59 → isMul (tkA bf N s) = false ∧ isSum (tkA bf N s) = false ∧ isCmp (tkA bf N s) = false ∧ tkA bf N s ≠ 3 ∧ tkA bf N s ≠ 4 := fun s h => by rw [h]; decide
theorem no51 {W : List Nat} {o o' : OL} (h : stp (pS 0) W o = ([], o')) : ¬ 51 ∈ W := fun q => by
  have := (mem_stp (p := pS 0) (by decide) (W := W) (o := o)).mpr q
  rw [h] at this
  cases this
/-- behind an e stands something else -/
theorem CE_fault {tm s v : Nat} {c : CF} {W2 : List Nat} {o2 o' : OL} (hr : RT bf N tm c (.inr (2, W2, s, v, o2))) (hst : stp (pS 0) W2 o2 = ([], o')) (hc : CE bf N s W2 o2) (ht : tkA bf N s ≠ tm) : RT bf N tm c (.inl (2, s)) := by
  refine RchE_trans hr (RchE_bad (nt_tok ht) ?_)
  obtain ⟨⟨⟨c1, c2, c3⟩, c4⟩, c5⟩ := hc
  rw [st1_B, stB, if_neg ((bfN _).mp c2), if_neg ((bfN _).mp c1)]
  by_cases hx : isCmp (tkA bf N s) = true
  · rw [if_pos hx, if_pos (c3 hx)]
  · rw [if_neg hx, if_neg c4, if_neg c5, if_neg (fun y => no51 hst y.2)]
def isRl (a k : Nat) : Prop := a = 16 ∨ a = 17 ∨ a = 18 ∨ a = 19
/-- the class between lines -/
def CL (H : PH) (bf : Nat → Int32) (N ln s v : Nat) (o : OL) (E : List (Nat × Nat)) (H' : PH) : Prop := eqX isRl H H' ∧ hI H' 16 5 = nI ln ∧ ln = E.length ∧ ln ≤ 10 ∧ (∀ i x, E[i]? = some x → hI H' 18 i = nI x.1 ∧ hI H' 19 i = nI x.2) ∧ CR H' bf N s v o H' ∧ o.length ≤ s
def CLB (H : PH) (f : FT) (H' : PH) : Prop := eqX isRl H H' ∧ hI H' 16 11 = nI f.1 ∧ 1 ≤ f.1 ∧ f.1 ≤ 3 ∧ hI H' 16 12 = nI f.2 ∧ hI H' 16 8 = 8
theorem rl_rx {H0 H1 H2 : PH} (h : eqX isRl H0 H1) (h' : eqX isRx H1 H2) : eqX isRl H0 H2 := eqX_trans h (eqX_mono (fun a k q => q.elim (fun z => Or.inl z.1) (fun z => Or.inr (Or.inl z))) h')
theorem CB_sI {H0 H2 : PH} {f : FT} {a k : Nat} {x : Int32} (hb : CB H0 f H2) (ha : a = 18 ∨ a = 19) : CB (sI H0 a k x) f (sI H2 a k x) := by
  obtain ⟨h1, h2, h3, h4, h5, h6, cc, h7, h8⟩ := hb
  refine ⟨⟨h1.1, h1.2.1, h1.2.2.1, h1.2.2.2.1, fun a' k' q => ?_⟩, by rw [hI_sI', if_neg (by omega)]; exact h2, h3, h4, by rw [hI_sI', if_neg (by omega)]; exact h5, by rw [hI_sI', if_neg (by omega)]; exact h6, cc, h7, by rw [hI_sI', if_neg (by omega)]; exact h8⟩
  rw [hI_sI', hI_sI']
  by_cases z : a' = a ∧ k' = k
  · rw [if_pos z, if_pos z]
  · rw [if_neg z, if_neg z]; exact h1.2.2.2.2 a' k' q
theorem CR_sI {H0 H2 : PH} {s v : Nat} {o : OL} {a k : Nat} {x : Int32} (hc : CR H0 bf N s v o H2) (ha : a = 18 ∨ a = 19 ∨ (a = 16 ∧ k = 5)) : CR (sI H0 a k x) bf N s v o (sI H2 a k x) := by
  obtain ⟨g1, g2, g3, g4, g5, g6, g7, g8, g9, g10⟩ := hc
  refine ⟨⟨g1.1, g1.2.1, g1.2.2.1, g1.2.2.2.1, fun a' k' q => ?_⟩, ⟨g2.1, by rw [hI_sI', if_neg (by omega)]; exact g2.2.1, fun j hj => by rw [hI_sI', if_neg (by omega)]; exact g2.2.2 j hj⟩, ⟨by rw [hI_sI', if_neg (by omega)]; exact g3.1, by rw [hI_sI', if_neg (by omega)]; exact g3.2.1, by rw [hI_sI', if_neg (by omega)]; exact g3.2.2.1, fun z => by rw [hI_sI', if_neg (by omega)]; exact g3.2.2.2.1 z, by rw [hI_sI', if_neg (by omega)]; exact g3.2.2.2.2⟩, g4, g5, by rw [hI_sI', if_neg (by omega)]; exact g6, g7, by rw [hI_sI', if_neg (by omega)]; exact g8, fun i x hi => by rw [hI_sI', if_neg (by omega)]; exact g9 i x hi, by rw [hI_sI', if_neg (by omega)]; exact g10⟩
  rw [hI_sI', hI_sI']
  by_cases z : a' = a ∧ k' = k
  · rw [if_pos z, if_pos z]
  · rw [if_neg z, if_neg z]; exact g1.2.2.2.2 a' k' q
/-- the tail of a line behind a FAULT -/
theorem c_lineB68 {d ln : Nat} {f : FT} {H0 H2 : PH} (hF : Fix H0) (hx : eqX isRl H H0) (h5 : hI H0 16 5 = nI ln) (hl : ln < 10) (hb : CB H0 f H2) (hq : ∀ H', CLB H f H' → Q none H') : Wp mX6_readLine (d + 58) 0 0 68 [some (.ref 16)] [] H2 Q := by
  have hF2 := CB_fix hF hb
  refine wp_aload_n dX6_readLine_68 rfl ?_
  refine wp_bipush (v := 59) dX6_readLine_69 (by decide) ?_
  refine wp_callv1 (ci := 6) dX6_readLine_71 lk_RX6_71 ok_X6_expect im_X6_expect se_X6_expect rfl rfl (fk_16 hF2) (Nat.le_of_ble_eq_true rfl) (Nat.le_of_ble_eq_true rfl) ?_
  refine wp_deep (d := 0 + 1) (by omega) (c_expectB (by decide) hF hb (fun H3 hb3 => ?_))
  have hF3 := CB_fix hF hb3
  have h53 : hI H3 16 5 = nI ln := (hb3.1.2.2.2.2 16 5 (by unfold isRx; omega)).trans h5
  refine wp_aload_n dX6_readLine_74 rfl ?_
  refine wp_dup dX6_readLine_75 rfl ?_
  refine wp_geti dX6_readLine_76 fl_RX6_32 rfl (fk_16 hF3) ?_
  rw [h53]
  refine wp_iconst (v := 1) dX6_readLine_79 (by decide) ?_
  refine wp_iadd dX6_readLine_80 ?_
  rw [nI_1]
  refine wp_puti dX6_readLine_81 fl_RX6_32 (mp_6_5 _ _) rfl (fk_16 hF3) ?_
  refine wp_return rfl dX6_readLine_84 ?_
  obtain ⟨g1, g2, g3, g4, g5, g6, -⟩ := hb3
  exact hq _ ⟨eqX_sI (rl_rx hx g1) (Or.inl rfl), by rw [hI_sI', if_neg (by omega)]; exact g2, g3, g4, by rw [hI_sI', if_neg (by omega)]; exact g5, by rw [hI_sI', if_neg (by omega)]; exact g6⟩
theorem c_lineB55 {d ln : Nat} {f : FT} {H0 H2 : PH} (hF : Fix H0) (hx : eqX isRl H H0) (h5 : hI H0 16 5 = nI ln) (hl : ln < 10) (hb : CB H0 f H2) (hq : ∀ H', CLB H f H' → Q none H') : Wp mX6_readLine (d + 58) 0 0 55 [some (.ref 16)] [] H2 Q := by
  have hF2 := CB_fix hF hb
  have h52 : hI H2 16 5 = nI ln := (hb.1.2.2.2.2 16 5 (by unfold isRx; omega)).trans h5
  have hcc := hb.2.2.2.2.2.2
  obtain ⟨cc, h7, h8⟩ := hcc
  refine wp_aload_n dX6_readLine_55 rfl ?_
  refine wp_geta dX6_readLine_56 fl_RX6_18 rfl (fk_16 hF2) (fr_16_3 hF2) ?_
  refine wp_aload_n dX6_readLine_59 rfl ?_
  refine wp_geti dX6_readLine_60 fl_RX6_32 rfl (fk_16 hF2) ?_
  rw [h52]
  refine wp_aload_n dX6_readLine_63 rfl ?_
  refine wp_geti dX6_readLine_64 fl_RX6_29 rfl (fk_16 hF2) ?_
  rw [h8]
  refine wp_iastoreN dX6_readLine_67 (fk_19 hF2) (by omega) (by decide) ?_
  exact c_lineB68 (d := d) (H0 := sI H0 19 ln (nI cc)) (Fix_sI hF) (eqX_sI hx (by unfold isRl; omega)) (by rw [hI_sI', if_neg (by omega)]; exact h5) hl (CB_sI hb (Or.inr rfl)) hq
theorem c_lineB50 {d ln : Nat} {f : FT} {H0 H2 : PH} (hF : Fix H0) (hx : eqX isRl H H0) (h5 : hI H0 16 5 = nI ln) (hl : ln < 10) (hb : CB H0 f H2) (hq : ∀ H', CLB H f H' → Q none H') : Wp mX6_readLine (d + 58) 0 0 50 [some (.ref 16)] [] H2 Q := by
  have hF2 := CB_fix hF hb
  refine wp_aload_n dX6_readLine_50 rfl ?_
  refine wp_iconst (v := 0) dX6_readLine_51 (by decide) ?_
  refine wp_callv1 (ci := 6) dX6_readLine_52 lk_RX6_68 ok_X6_readEither im_X6_readEither se_X6_readEither rfl rfl (fk_16 hF2) (Nat.le_of_ble_eq_true rfl) (Nat.le_of_ble_eq_true rfl) ?_
  refine wp_deep (d := 0 + 7) (by omega) (c_eithB hF hb (fun H3 hb3 => ?_))
  exact c_lineB55 hF hx h5 hl hb3 hq
theorem c_lineB32 {d ln : Nat} {f : FT} {H0 H2 : PH} (hF : Fix H0) (hx : eqX isRl H H0) (h5 : hI H0 16 5 = nI ln) (hl : ln < 10) (hb : CB H0 f H2) (hq : ∀ H', CLB H f H' → Q none H') : Wp mX6_readLine (d + 58) 0 0 32 [some (.ref 16)] [] H2 Q := by
  have hF2 := CB_fix hF hb
  have h52 : hI H2 16 5 = nI ln := (hb.1.2.2.2.2 16 5 (by unfold isRx; omega)).trans h5
  have hcc := hb.2.2.2.2.2.2
  obtain ⟨cc, h7, h8⟩ := hcc
  have hb' : CB (sI H0 18 ln (nI cc)) f (sI H2 18 ln (nI cc)) := CB_sI hb (Or.inl rfl)
  have hF0 : Fix (sI H0 18 ln (nI cc)) := Fix_sI hF
  refine wp_aload_n dX6_readLine_32 rfl ?_
  refine wp_geta dX6_readLine_33 fl_RX6_15 rfl (fk_16 hF2) (fr_16_2 hF2) ?_
  refine wp_aload_n dX6_readLine_36 rfl ?_
  refine wp_geti dX6_readLine_37 fl_RX6_32 rfl (fk_16 hF2) ?_
  rw [h52]
  refine wp_aload_n dX6_readLine_40 rfl ?_
  refine wp_geti dX6_readLine_41 fl_RX6_29 rfl (fk_16 hF2) ?_
  rw [h8]
  refine wp_iastoreN dX6_readLine_44 (fk_18 hF2) (by omega) (by decide) ?_
  refine wp_aload_n dX6_readLine_45 rfl ?_
  refine wp_iconst (v := 2) dX6_readLine_46 (by decide) ?_
  refine wp_callv1 (ci := 6) dX6_readLine_47 lk_RX6_71 ok_X6_expect im_X6_expect se_X6_expect rfl rfl (fk_16 (Fix_sI hF2)) (Nat.le_of_ble_eq_true rfl) (Nat.le_of_ble_eq_true rfl) ?_
  refine wp_deep (d := 0 + 1) (by omega) (c_expectB (by decide) hF0 hb' (fun H3 hb3 => ?_))
  exact c_lineB50 hF0 (eqX_sI hx (by unfold isRl; omega)) (by rw [hI_sI', if_neg (by omega)]; exact h5) hl hb3 hq
theorem c_lineB27 {d ln : Nat} {f : FT} {H0 H2 : PH} (hF : Fix H0) (hx : eqX isRl H H0) (h5 : hI H0 16 5 = nI ln) (hl : ln < 10) (hb : CB H0 f H2) (hq : ∀ H', CLB H f H' → Q none H') : Wp mX6_readLine (d + 58) 0 0 27 [some (.ref 16)] [] H2 Q := by
  have hF2 := CB_fix hF hb
  refine wp_aload_n dX6_readLine_27 rfl ?_
  refine wp_iconst (v := 0) dX6_readLine_28 (by decide) ?_
  refine wp_callv1 (ci := 6) dX6_readLine_29 lk_RX6_68 ok_X6_readEither im_X6_readEither se_X6_readEither rfl rfl (fk_16 hF2) (Nat.le_of_ble_eq_true rfl) (Nat.le_of_ble_eq_true rfl) ?_
  refine wp_deep (d := 0 + 7) (by omega) (c_eithB hF hb (fun H3 hb3 => ?_))
  exact c_lineB32 hF hx h5 hl hb3 hq
theorem c_X6_readLine {d ln s v : Nat} {o : OL} {E : List (Nat × Nat)} {H1 : PH} (hF : Fix H) (hL : CL H bf N ln s v o E H1) (h0 : tkA bf N s ≠ 0)
    (hq1 : ∀ s' v' o' e H', LnS bf N ln s v o (.inr (s', v', o', e)) → CL H bf N (ln + 1) s' v' o' (E ++ [e]) H' → Q none H') (hq2 : ∀ f H', LnS bf N ln s v o (.inl f) → CLB H f H' → Q none H') : Wp mX6_readLine (d + 58) 0 0 0 [some (.ref 16)] [] H1 Q := by
  obtain ⟨hx, h5, hlE, hl10, hE, hC, hol⟩ := hL
  have hF1 : Fix H1 := Fix_eqX hx hF
  have hbd := CR_bd hC
  have hB := hC.2.1.1
  have tk := hC.2.2.1.2.1
  have lb : ∀ f H', CB H1 f H' → CLB H f H' := fun f H' hb => ⟨rl_rx hx hb.1, hb.2.1, hb.2.2.1, hb.2.2.2.1, hb.2.2.2.2.1, hb.2.2.2.2.2.1⟩
  rcases Nat.lt_or_ge ln 10 with hlt | hge
  · -- from 32 on: at s1, with o1
    have main : ∀ (s1 v1 : Nat) (o1 : OL) (H2 : PH), CR H1 bf N s1 v1 o1 H2 → o1.length ≤ s1 → (∀ r, (tkA bf N s1 = 2 → ∃ rp, EP bf N 59 s1 v1 o1 rp ∧ ((∃ f, rp = .inl f ∧ r = .inl f) ∨ ∃ s2 v2 o2, rp = .inr (s2, v2, o2) ∧ ((tkA bf N (nxtT bf N s2) = 8 ∧ r = .inl (1, nxtT bf N s2)) ∨ (tkA bf N (nxtT bf N s2) ≠ 8 ∧ r = .inr (nxtT bf N s2, v2, o2, (o1.length, o2.length)))))) → (tkA bf N s1 ≠ 2 → r = .inl (2, s1)) → LnS bf N ln s v o r) → Wp mX6_readLine (d + 58) 0 0 32 [some (.ref 16)] [] H2 Q := by
      intro s1 v1 o1 H2 hC2 hol1 hLS
      have hbd2 := CR_bd hC2
      have hF2 := CR_fix hF1 hC2
      have h52 : hI H2 16 5 = nI ln := (hC2.1.2.2.2.2 16 5 (by unfold isRx; omega)).trans h5
      have hcc := hC2.2.2.2.2.2.2.2.1
      have hCx : CR (sI H1 18 ln (nI o1.length)) bf N s1 v1 o1 (sI H2 18 ln (nI o1.length)) := CR_sI hC2 (Or.inl rfl)
      have hFx : Fix (sI H1 18 ln (nI o1.length)) := Fix_sI hF1
      have hxx : eqX isRl H (sI H1 18 ln (nI o1.length)) := eqX_sI hx (by unfold isRl; omega)
      have h5x : hI (sI H1 18 ln (nI o1.length)) 16 5 = nI ln := by rw [hI_sI', if_neg (by omega)]; exact h5
      -- behind the second e
      have fin : tkA bf N s1 = 2 → ∀ (s2 v2 : Nat) (o2 : OL) (W2 : List Nat) (ow : OL) (H4 : PH), tkA bf N (nxtT bf N s1) ≠ 8 → CR (sI H1 18 ln (nI o1.length)) bf N s2 v2 o2 H4 → o2.length ≤ s2 → RT bf N 59 (0, [], nxtT bf N s1, v1, o1) (.inr (2, W2, s2, v2, ow)) → stp (pS 0) W2 ow = ([], o2) → CE bf N s2 W2 ow → Wp mX6_readLine (d + 58) 0 0 55 [some (.ref 16)] [] H4 Q := by
        intro ht2 s2 v2 o2 W2 ow H4 hn8 hC4 hol4 hr4 hst4 hce4
        have hbd4 := CR_bd hC4
        have hF4 := CR_fix hFx hC4
        have h54 : hI H4 16 5 = nI ln := (hC4.1.2.2.2.2 16 5 (by unfold isRx; omega)).trans h5x
        have hc4 := hC4.2.2.2.2.2.2.2.1
        have hC5 : CR (sI (sI H1 18 ln (nI o1.length)) 19 ln (nI o2.length)) bf N s2 v2 o2 (sI H4 19 ln (nI o2.length)) := CR_sI hC4 (Or.inr (Or.inl rfl))
        have hF5 : Fix (sI (sI H1 18 ln (nI o1.length)) 19 ln (nI o2.length)) := Fix_sI hFx
        have hx5 : eqX isRl H (sI (sI H1 18 ln (nI o1.length)) 19 ln (nI o2.length)) := eqX_sI hxx (by unfold isRl; omega)
        have h55 : hI (sI (sI H1 18 ln (nI o1.length)) 19 ln (nI o2.length)) 16 5 = nI ln := by rw [hI_sI', if_neg (by omega)]; exact h5x
        have lend : ∀ (f : FT) (H' : PH), (tkA bf N s2 = 59 → f = (1, nxtT bf N s2) ∧ tkA bf N (nxtT bf N s2) = 8) → (tkA bf N s2 ≠ 59 → f = (2, s2)) → LnS bf N ln s v o (.inl f) := fun f H' g1 g2 => hLS _ (fun _ => by
          by_cases z : tkA bf N s2 = 59
          · obtain ⟨e1, e2⟩ := g1 z
            exact ⟨.inr (s2, v2, o2), Or.inr ⟨hn8, Or.inr ⟨W2, s2, v2, ow, o2, hr4, hst4, z, rfl⟩⟩, Or.inr ⟨s2, v2, o2, rfl, Or.inl ⟨e2, by rw [e1]⟩⟩⟩
          · exact ⟨.inl (2, s2), Or.inr ⟨hn8, Or.inl ⟨(2, s2), CE_fault hr4 hst4 hce4 z, rfl⟩⟩, Or.inl ⟨(2, s2), rfl, by rw [g2 z]⟩⟩) (fun z => absurd ht2 z)
        have tailB : ∀ f H6, CB (sI (sI H1 18 ln (nI o1.length)) 19 ln (nI o2.length)) f H6 → LnS bf N ln s v o (.inl f) → Wp mX6_readLine (d + 58) 0 0 74 [some (.ref 16)] [] H6 Q := by
          intro f H6 hb6 hls
          have hF6 := CB_fix hF5 hb6
          have h56 : hI H6 16 5 = nI ln := (hb6.1.2.2.2.2 16 5 (by unfold isRx; omega)).trans h55
          refine wp_aload_n dX6_readLine_74 rfl ?_
          refine wp_dup dX6_readLine_75 rfl ?_
          refine wp_geti dX6_readLine_76 fl_RX6_32 rfl (fk_16 hF6) ?_
          rw [h56]
          refine wp_iconst (v := 1) dX6_readLine_79 (by decide) ?_
          refine wp_iadd dX6_readLine_80 ?_
          rw [nI_1]
          refine wp_puti dX6_readLine_81 fl_RX6_32 (mp_6_5 _ _) rfl (fk_16 hF6) ?_
          refine wp_return rfl dX6_readLine_84 ?_
          obtain ⟨g1, g2, g3, g4, g5, g6, -⟩ := hb6
          exact hq2 f _ hls ⟨eqX_sI (rl_rx hx5 g1) (Or.inl rfl), by rw [hI_sI', if_neg (by omega)]; exact g2, g3, g4, by rw [hI_sI', if_neg (by omega)]; exact g5, by rw [hI_sI', if_neg (by omega)]; exact g6⟩
        have tailO : tkA bf N s2 = 59 → tkA bf N (nxtT bf N s2) ≠ 8 → ∀ H6, CR (sI (sI H1 18 ln (nI o1.length)) 19 ln (nI o2.length)) bf N (nxtT bf N s2) v2 o2 H6 → Wp mX6_readLine (d + 58) 0 0 74 [some (.ref 16)] [] H6 Q := by
          intro g59 g8 H6 hC6
          have hF6 := CR_fix hF5 hC6
          have h56 : hI H6 16 5 = nI ln := (hC6.1.2.2.2.2 16 5 (by unfold isRx; omega)).trans h55
          have hng := nxt_gt hB hbd4.1 (by omega) (by omega)
          have hC7 := CR_sI (a := 16) (k := 5) (x := nI (ln + 1)) hC6 (Or.inr (Or.inr ⟨rfl, rfl⟩))
          refine wp_aload_n dX6_readLine_74 rfl ?_
          refine wp_dup dX6_readLine_75 rfl ?_
          refine wp_geti dX6_readLine_76 fl_RX6_32 rfl (fk_16 hF6) ?_
          rw [h56]
          refine wp_iconst (v := 1) dX6_readLine_79 (by decide) ?_
          refine wp_iadd dX6_readLine_80 ?_
          rw [nI_1]
          refine wp_puti dX6_readLine_81 fl_RX6_32 (mp_6_5 _ _) rfl (fk_16 hF6) ?_
          refine wp_return rfl dX6_readLine_84 ?_
          refine hq1 (nxtT bf N s2) v2 o2 (o1.length, o2.length) _ (hLS _ (fun _ => ⟨.inr (s2, v2, o2), Or.inr ⟨hn8, Or.inr ⟨W2, s2, v2, ow, o2, hr4, hst4, g59, rfl⟩⟩, Or.inr ⟨s2, v2, o2, rfl, Or.inr ⟨g8, rfl⟩⟩⟩) (fun z => absurd ht2 z)) ⟨eqX_sI (rl_rx hx5 hC6.1) (Or.inl rfl), ?_, ?_, by omega, fun i x hi => ?_, ⟨eqX_rfl, hC7.2⟩, by omega⟩
          · rw [hI_sI', if_pos ⟨rfl, rfl⟩]
          · rw [List.length_append]; show ln + 1 = E.length + 1; omega
          · have q18 : hI (sI H6 16 5 (nI (ln + 1))) 18 i = if i = ln then nI o1.length else hI H1 18 i := by
              rw [hI_sI', if_neg (by omega), hC6.1.2.2.2.2 18 i (by unfold isRx; omega), hI_sI', if_neg (by omega), hI_sI']
              by_cases z : i = ln
              · rw [if_pos ⟨rfl, z⟩, if_pos z]
              · rw [if_neg (fun y => z y.2), if_neg z]
            have q19 : hI (sI H6 16 5 (nI (ln + 1))) 19 i = if i = ln then nI o2.length else hI H1 19 i := by
              rw [hI_sI', if_neg (by omega), hC6.1.2.2.2.2 19 i (by unfold isRx; omega), hI_sI']
              by_cases z : i = ln
              · rw [if_pos ⟨rfl, z⟩, if_pos z]
              · rw [if_neg (fun y => z y.2), if_neg z, hI_sI', if_neg (by omega)]
            rw [q18, q19]
            rcases Nat.lt_trichotomy i ln with z | z | z
            · rw [if_neg (by omega), if_neg (by omega)]
              rw [List.getElem?_append_left (by omega)] at hi
              exact hE i x hi
            · rw [if_pos z, if_pos z]
              rw [List.getElem?_append_right (by omega), show i - E.length = 0 by omega] at hi
              cases hi
              exact ⟨rfl, rfl⟩
            · rw [List.getElem?_eq_none (by rw [List.length_append]; show E.length + 1 ≤ i; omega)] at hi; cases hi
        refine wp_aload_n dX6_readLine_55 rfl ?_
        refine wp_geta dX6_readLine_56 fl_RX6_18 rfl (fk_16 hF4) (fr_16_3 hF4) ?_
        refine wp_aload_n dX6_readLine_59 rfl ?_
        refine wp_geti dX6_readLine_60 fl_RX6_32 rfl (fk_16 hF4) ?_
        rw [h54]
        refine wp_aload_n dX6_readLine_63 rfl ?_
        refine wp_geti dX6_readLine_64 fl_RX6_29 rfl (fk_16 hF4) ?_
        rw [hc4]
        refine wp_iastoreN dX6_readLine_67 (fk_19 hF4) (by omega) (by decide) ?_
        refine wp_aload_n dX6_readLine_68 rfl ?_
        refine wp_bipush (v := 59) dX6_readLine_69 (by decide) ?_
        refine wp_callv1 (ci := 6) dX6_readLine_71 lk_RX6_71 ok_X6_expect im_X6_expect se_X6_expect rfl rfl (fk_16 (Fix_sI hF4)) (Nat.le_of_ble_eq_true rfl) (Nat.le_of_ble_eq_true rfl) ?_
        refine wp_deep (d := 0 + 3) (by omega) (c_expectO (t := 59) (by decide) (by decide) hF5 hC5 (by omega) (fun g1 g2 H6 hC6 => ?_) (fun g1 g2 H6 hb6 => ?_) (fun g1 H6 hb6 => ?_))
        · first
              | exact tailB _ H6 hb6 (lend (1, nxtT bf N s2) H6 (fun _ => ⟨rfl, g2⟩) (fun z => absurd g1 z))
              | exact tailB _ H6 hb6 (lend (2, s2) H6 (fun z => absurd z g1) (fun _ => rfl))
              | exact tailO g1 g2 H6 hC6
        · first
              | exact tailB _ H6 hb6 (lend (1, nxtT bf N s2) H6 (fun _ => ⟨rfl, g2⟩) (fun z => absurd g1 z))
              | exact tailB _ H6 hb6 (lend (2, s2) H6 (fun z => absurd z g1) (fun _ => rfl))
              | exact tailO g1 g2 H6 hC6
        · first
              | exact tailB _ H6 hb6 (lend (1, nxtT bf N s2) H6 (fun _ => ⟨rfl, g2⟩) (fun z => absurd g1 z))
              | exact tailB _ H6 hb6 (lend (2, s2) H6 (fun z => absurd z g1) (fun _ => rfl))
              | exact tailO g1 g2 H6 hC6
      have second : tkA bf N s1 = 2 → tkA bf N (nxtT bf N s1) ≠ 8 → ∀ H3, CR (sI H1 18 ln (nI o1.length)) bf N (nxtT bf N s1) v1 o1 H3 → Wp mX6_readLine (d + 58) 0 0 50 [some (.ref 16)] [] H3 Q := by
        intro ht2 hn8 H3 hC3
        have hF3 := CR_fix hFx hC3
        have hng := nxt_gt hB hbd2.1 (by omega) (by omega)
        refine wp_aload_n dX6_readLine_50 rfl ?_
        refine wp_iconst (v := 0) dX6_readLine_51 (by decide) ?_
        refine wp_callv1 (ci := 6) dX6_readLine_52 lk_RX6_68 ok_X6_readEither im_X6_readEither se_X6_readEither rfl rfl (fk_16 hF3) (Nat.le_of_ble_eq_true rfl) (Nat.le_of_ble_eq_true rfl) ?_
        refine c_readE (d := d) (tm := 59) hFx tm59 hC3 (by omega) (fun s2 v2 o2 W2 ow H4 hC4 hl4 hs4 hr4 hst4 hce4 => ?_) (fun f H4 hr4 hb4 => ?_)
        · first
              | exact c_lineB55 hFx hxx h5x hlt hb4 (fun H' hb' => hq2 _ H' (hLS _ (fun _ => ⟨.inl f, Or.inr ⟨hn8, Or.inl ⟨f, hr4, rfl⟩⟩, Or.inl ⟨f, rfl, rfl⟩⟩) (fun z => absurd ht2 z)) hb')
              | exact fin ht2 s2 v2 o2 W2 ow H4 hn8 hC4 hl4 hr4 hst4 hce4
        · first
              | exact c_lineB55 hFx hxx h5x hlt hb4 (fun H' hb' => hq2 _ H' (hLS _ (fun _ => ⟨.inl f, Or.inr ⟨hn8, Or.inl ⟨f, hr4, rfl⟩⟩, Or.inl ⟨f, rfl, rfl⟩⟩) (fun z => absurd ht2 z)) hb')
              | exact fin ht2 s2 v2 o2 W2 ow H4 hn8 hC4 hl4 hr4 hst4 hce4
      have pe : Wp mX6_readLine (d + 58) 0 0 45 [some (.ref 16)] [] (sI H2 18 ln (nI o1.length)) Q := by
        refine wp_aload_n dX6_readLine_45 rfl ?_
        refine wp_iconst (v := 2) dX6_readLine_46 (by decide) ?_
        refine wp_callv1 (ci := 6) dX6_readLine_47 lk_RX6_71 ok_X6_expect im_X6_expect se_X6_expect rfl rfl (fk_16 (CR_fix hFx hCx)) (Nat.le_of_ble_eq_true rfl) (Nat.le_of_ble_eq_true rfl) ?_
        refine wp_deep (d := 0 + 3) (by omega) (c_expectO (t := 2) (by decide) (by decide) hFx hCx (by omega) (fun g1 g2 H3 hC3 => ?_) (fun g1 g2 H3 hb3 => ?_) (fun g1 H3 hb3 => ?_))
        · first
              | exact c_lineB50 hFx hxx h5x hlt hb3 (fun H' hb' => hq2 _ H' (hLS _ (fun _ => ⟨.inl (1, nxtT bf N s1), Or.inl ⟨g2, rfl⟩, Or.inl ⟨_, rfl, rfl⟩⟩) (fun z => absurd g1 z)) hb')
              | exact c_lineB50 hFx hxx h5x hlt hb3 (fun H' hb' => hq2 _ H' (hLS _ (fun z => absurd z g1) (fun _ => rfl)) hb')
              | exact second g1 g2 H3 hC3
        · first
              | exact c_lineB50 hFx hxx h5x hlt hb3 (fun H' hb' => hq2 _ H' (hLS _ (fun _ => ⟨.inl (1, nxtT bf N s1), Or.inl ⟨g2, rfl⟩, Or.inl ⟨_, rfl, rfl⟩⟩) (fun z => absurd g1 z)) hb')
              | exact c_lineB50 hFx hxx h5x hlt hb3 (fun H' hb' => hq2 _ H' (hLS _ (fun z => absurd z g1) (fun _ => rfl)) hb')
              | exact second g1 g2 H3 hC3
        · first
              | exact c_lineB50 hFx hxx h5x hlt hb3 (fun H' hb' => hq2 _ H' (hLS _ (fun _ => ⟨.inl (1, nxtT bf N s1), Or.inl ⟨g2, rfl⟩, Or.inl ⟨_, rfl, rfl⟩⟩) (fun z => absurd g1 z)) hb')
              | exact c_lineB50 hFx hxx h5x hlt hb3 (fun H' hb' => hq2 _ H' (hLS _ (fun z => absurd z g1) (fun _ => rfl)) hb')
              | exact second g1 g2 H3 hC3
      refine wp_aload_n dX6_readLine_32 rfl ?_
      refine wp_geta dX6_readLine_33 fl_RX6_15 rfl (fk_16 hF2) (fr_16_2 hF2) ?_
      refine wp_aload_n dX6_readLine_36 rfl ?_
      refine wp_geti dX6_readLine_37 fl_RX6_32 rfl (fk_16 hF2) ?_
      rw [h52]
      refine wp_aload_n dX6_readLine_40 rfl ?_
      refine wp_geti dX6_readLine_41 fl_RX6_29 rfl (fk_16 hF2) ?_
      rw [hcc]
      refine wp_iastoreN dX6_readLine_44 (fk_18 hF2) (by omega) (by decide) ?_
      exact pe
    by_cases hw : tkA bf N s = 1
    · -- with a when
      have hne : ¬ ((tkA bf N s ≠ 1 ∧ tkA bf N s ≠ 2) ∨ ln = 10) := by omega
      have wfail : ∀ f H', EP bf N 2 s v o (.inl f) → CLB H f H' → Q none H' := fun f H' he hb => hq2 f H' (Or.inr ⟨hne, .inl f, Or.inl ⟨hw, he⟩, Or.inl ⟨f, rfl, rfl⟩⟩) hb
      have whenO : tkA bf N (nxtT bf N s) ≠ 8 → ∀ H2, CR H1 bf N (nxtT bf N s) v o H2 → Wp mX6_readLine (d + 58) 0 0 27 [some (.ref 16)] [] H2 Q := by
        intro h8 H2 hC2
        have hF2 := CR_fix hF1 hC2
        have hng := nxt_gt hB hbd.1 (by omega) (by omega)
        refine wp_aload_n dX6_readLine_27 rfl ?_
        refine wp_iconst (v := 0) dX6_readLine_28 (by decide) ?_
        refine wp_callv1 (ci := 6) dX6_readLine_29 lk_RX6_68 ok_X6_readEither im_X6_readEither se_X6_readEither rfl rfl (fk_16 hF2) (Nat.le_of_ble_eq_true rfl) (Nat.le_of_ble_eq_true rfl) ?_
        refine c_readE (d := d) (tm := 2) hF1 tm2 hC2 (by omega) (fun s1 v1 o1 W2 ow H3 hC3 hl3 hs3 hr3 hst3 hce3 => ?_) (fun f H3 hr3 hb3 => ?_)
        · first
              | exact c_lineB32 hF1 hx h5 hlt hb3 (fun H' hb' => wfail _ H' (Or.inr ⟨h8, Or.inl ⟨f, hr3, rfl⟩⟩) hb')
              | exact main s1 v1 o1 H3 hC3 hl3 (fun r g1 g2 => by
                  by_cases z : tkA bf N s1 = 2
                  · exact Or.inr ⟨hne, .inr (s1, v1, o1), Or.inl ⟨hw, Or.inr ⟨h8, Or.inr ⟨W2, s1, v1, ow, o1, hr3, hst3, z, rfl⟩⟩⟩, Or.inr ⟨s1, v1, o1, rfl, g1 z⟩⟩
                  · exact Or.inr ⟨hne, .inl (2, s1), Or.inl ⟨hw, Or.inr ⟨h8, Or.inl ⟨(2, s1), CE_fault hr3 hst3 hce3 z, rfl⟩⟩⟩, Or.inl ⟨(2, s1), rfl, g2 z⟩⟩)
        · first
              | exact c_lineB32 hF1 hx h5 hlt hb3 (fun H' hb' => wfail _ H' (Or.inr ⟨h8, Or.inl ⟨f, hr3, rfl⟩⟩) hb')
              | exact main s1 v1 o1 H3 hC3 hl3 (fun r g1 g2 => by
                  by_cases z : tkA bf N s1 = 2
                  · exact Or.inr ⟨hne, .inr (s1, v1, o1), Or.inl ⟨hw, Or.inr ⟨h8, Or.inr ⟨W2, s1, v1, ow, o1, hr3, hst3, z, rfl⟩⟩⟩, Or.inr ⟨s1, v1, o1, rfl, g1 z⟩⟩
                  · exact Or.inr ⟨hne, .inl (2, s1), Or.inl ⟨hw, Or.inr ⟨h8, Or.inl ⟨(2, s1), CE_fault hr3 hst3 hce3 z, rfl⟩⟩⟩, Or.inl ⟨(2, s1), rfl, g2 z⟩⟩)
      refine wp_aload_n dX6_readLine_0 rfl ?_
      refine wp_geti dX6_readLine_1 fl_RX6_32 rfl (fk_16 hF1) ?_
      rw [h5]
      refine wp_bipush (v := 10) dX6_readLine_4 (by decide) ?_
      refine wp_icmp_lt (tgt := 15) dX6_readLine_6 (by decide) (fun _ => ?_) (fun h6 => absurd h6 (fun q => q (nI_lt (a := ln) (b := 10) hlt (by decide))))
      refine wp_aload_n dX6_readLine_15 rfl ?_
      refine wp_geti dX6_readLine_16 fl_RX6_47 rfl (fk_16 hF1) ?_
      rw [tk, hw]
      refine wp_iconst (v := 1) dX6_readLine_19 (by decide) ?_
      refine wp_icmp_ne (tgt := 32) dX6_readLine_20 (by decide) (fun h20 => absurd h20 (fun q => q rfl)) (fun _ => ?_)
      refine wp_aload_n dX6_readLine_23 rfl ?_
      refine wp_callv0 (ci := 6) dX6_readLine_24 lk_RX6_44 ok_X6_advance im_X6_advance se_X6_advance rfl rfl (fk_16 hF1) (Nat.le_of_ble_eq_true rfl) (Nat.le_of_ble_eq_true rfl) ?_
      refine wp_deep (d := 0 + 2) (by omega) (c_advO hF1 hC (by omega) h0 (fun h8 H2 hC2 => ?_) (fun h8 H2 hb2 => ?_))
      · first
            | exact c_lineB27 hF1 hx h5 hlt hb2 (fun H' hb' => wfail _ H' (Or.inl ⟨h8, rfl⟩) hb')
            | exact whenO h8 H2 hC2
      · first
            | exact c_lineB27 hF1 hx h5 hlt hb2 (fun H' hb' => wfail _ H' (Or.inl ⟨h8, rfl⟩) hb')
            | exact whenO h8 H2 hC2
    · have hw' := hw
      refine wp_aload_n dX6_readLine_0 rfl ?_
      refine wp_geti dX6_readLine_1 fl_RX6_32 rfl (fk_16 hF1) ?_
      rw [h5]
      refine wp_bipush (v := 10) dX6_readLine_4 (by decide) ?_
      refine wp_icmp_lt (tgt := 15) dX6_readLine_6 (by decide) (fun _ => ?_) (fun h6 => absurd h6 (fun q => q (nI_lt (a := ln) (b := 10) hlt (by decide))))
      refine wp_aload_n dX6_readLine_15 rfl ?_
      refine wp_geti dX6_readLine_16 fl_RX6_47 rfl (fk_16 hF1) ?_
      rw [tk]
      refine wp_iconst (v := 1) dX6_readLine_19 (by decide) ?_
      refine wp_icmp_ne (tgt := 32) dX6_readLine_20 (by decide) (fun _ => ?_) (fun h20 => absurd h20 (fun q => hw ((tkI hB (k := 1) (by decide)).mp q)))
      refine main s v o H1 hC hol (fun r g1 g2 => ?_)
      by_cases z : tkA bf N s = 2
      · exact Or.inr ⟨by omega, .inr (s, v, o), Or.inr ⟨hw, rfl⟩, Or.inr ⟨s, v, o, rfl, g1 z⟩⟩
      · exact Or.inl ⟨Or.inl ⟨hw, z⟩, g2 z⟩
  · have hln : ln = 10 := by omega
    refine wp_aload_n dX6_readLine_0 rfl ?_
    refine wp_geti dX6_readLine_1 fl_RX6_32 rfl (fk_16 hF1) ?_
    rw [h5]
    refine wp_bipush (v := 10) dX6_readLine_4 (by decide) ?_
    refine wp_icmp_lt (tgt := 15) dX6_readLine_6 (by decide) (fun h6 => absurd h6 (nI_nlt (a := ln) (b := 10) hge (by omega))) (fun _ => ?_)
    refine wp_aload_n dX6_readLine_9 rfl ?_
    refine wp_iconst (v := 2) dX6_readLine_10 (by decide) ?_
    refine wp_callv1 (ci := 6) dX6_readLine_11 lk_RX6_64 ok_X6_fail im_X6_fail se_X6_fail rfl rfl (fk_16 hF1) (Nat.le_of_ble_eq_true rfl) (Nat.le_of_ble_eq_true rfl) ?_
    refine wp_deep (d := 0) (by omega) (c_failO (k := 2) (by decide) (by decide) hF1 hC (by omega) (fun H' hb => ?_))
    refine wp_return rfl dX6_readLine_14 ?_
    exact hq2 _ H' (Or.inl ⟨Or.inr hln, rfl⟩) (lb _ H' hb)
end CLn
