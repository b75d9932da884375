/-! ===== the price of a job: pure, and Pricer.quote ===== -/
noncomputable def sgv (nm : Nat → Int32) (o : OL) (a b : Nat) : Int32 := (ev nm ((o.take b).drop a) []).headD 0
theorem sgv_of {nm : Nat → Int32} {o : OL} {a b : Nat} {r : Int32} (h : ev nm ((o.take b).drop a) [] = [r]) : r = sgv nm o a b := by unfold sgv; rw [h]; rfl
noncomputable def prV (nm : Nat → Int32) (o : OL) (E : List (Nat × Nat)) : Nat → Nat → Int32
  | 0, _ => 0
  | n + 1, i => if stA E i = (E.getD i (0, 0)).1 ∨ ¬ sgv nm o (stA E i) (E.getD i (0, 0)).1 = 0 then sgv nm o (E.getD i (0, 0)).1 (E.getD i (0, 0)).2 else prV nm o E n (i + 1)
section QUO
variable {d : Nat} {H : PH} {Q : Option Value → PH → Prop} {H1 : PH} {nm : Nat → Int32} {o : OL} {E : List (Nat × Nat)} {A p q r : Nat}
theorem l_quote {l1 l2 l3 : Option Value} (hF : Fix H) (hP : PL H A p q r o.length E.length) (hA : 22 < p ∧ 22 < q ∧ 22 < r) (hn : o.length ≤ 600) (hE : E.length ≤ 10) (hcd : ∀ i x, o[i]? = some x → hI H p i = encC x) (hen : ∀ i, i < E.length → hI H q i = nI (E.getD i (0, 0)).1 ∧ hI H r i = nI (E.getD i (0, 0)).2) (hlf : LF o E) (hok : ∀ x, x ∈ o → okI x) (hvl : vls o ≤ 100) (hnm : ∀ k, k < 6 → hI H 22 k = nm k) : ∀ (n i : Nat) (H1 : PH) (l7 l8 : Option Value), n + i = E.length → eqX isPr H H1 → (∀ H', eqX isPr H H' → Q (some (.int (prV nm o E n i))) H') → Wp mX7_quote (d + 3) 0 0 66 [some (.ref 20), l1, l2, l3, some (.ref A), some (.int (nI (stA E i))), some (.int (nI i)), l7, l8] [] H1 Q := by
  intro n
  induction n with
  | zero =>
    intro i H1 l7 l8 hi hx hq
    have hF1 := Fix_eqX hx hF
    have hP1 : PL H1 A p q r o.length E.length := by unfold PL; rw [hx.2.1, hx.2.2.2.1]; exact hP
    have hi' : i = E.length := by omega
    subst hi'
    refine wp_iload dX7_quote_66 rfl ?_
    refine wp_aload dX7_quote_68 rfl ?_
    refine wp_callv0 (ci := 5) dX7_quote_70 lk_RX7_37 ok_X5_countLines im_X5_countLines se_X5_countLines rfl rfl (hP1.1) (Nat.le_of_ble_eq_true rfl) (Nat.le_of_ble_eq_true rfl) ?_
    refine wp_deep (d := 0 + 1) (by omega) (c_X5_countLines hP1 ?_)
    refine wp_icmp_ge (tgt := 143) dX7_quote_73 (by decide) (fun _ => ?_) (fun h73 => absurd h73 (fun w => w (nI_le (Nat.le_refl _) (by omega))))
    refine wp_iconst (v := 0) dX7_quote_143 (by decide) ?_
    refine wp_ireturn rfl dX7_quote_144 ?_
    exact hq H1 hx
  | succ n ih =>
    intro i H1 l7 l8 hi hx hq
    have hF1 := Fix_eqX hx hF
    have hP1 : PL H1 A p q r o.length E.length := by unfold PL; rw [hx.2.1, hx.2.2.2.1]; exact hP
    have hil : i < E.length := by omega
    obtain ⟨s1, s2⟩ := hlf.1 i hil
    obtain ⟨e1, e2⟩ := hen i hil
    have hm : hI H1 q i = nI (E.getD i (0, 0)).1 := by rw [hx.2.2.2.2 q i (by unfold isPr; omega)]; exact e1
    have hb : hI H1 r i = nI (E.getD i (0, 0)).2 := by rw [hx.2.2.2.2 r i (by unfold isPr; omega)]; exact e2
    have hst : stA E (i + 1) = (E.getD i (0, 0)).2 := rfl
    have rec' := fun H' l7 l8 hx' hq' => ih (i + 1) H' l7 l8 (by omega) hx' hq'
    rw [hst] at rec'
    have hq : ∀ H', eqX isPr H H' → Q (some (.int (if stA E i = (E.getD i (0, 0)).1 ∨ ¬ sgv nm o (stA E i) (E.getD i (0, 0)).1 = 0 then sgv nm o (E.getD i (0, 0)).1 (E.getD i (0, 0)).2 else prV nm o E n (i + 1)))) H' := hq
    generalize (E.getD i (0, 0)).1 = m at *
    generalize (E.getD i (0, 0)).2 = b at *
    generalize stA E i = a at *
    have hb6 := s2.2.1
    have hmb := s2.1
    have ha6 : a ≤ 600 := by
      rcases s1 with w | w
      · omega
      · have := w.1; omega
    have eam : nI m = nI a ↔ m = a := nI_eq (by omega) (by omega)
    have vo : ∀ (a' b' : Nat) (H2 : PH) (Q' : Option Value → PH → Prop), SG o a' b' → eqX isPr H H2 → (∀ H', eqX isPr H H' → Q' (some (.int (sgv nm o a' b'))) H') → Wp mX7_valueOf (d + 2) 0 0 0 [some (.ref 20), some (.ref p), some (.int (nI a')), some (.int (nI b')), none] [] H2 Q' := fun a' b' H2 Q' hs h2 hq' =>
      c_X7_valueOf (nm := nm) (Fix_eqX h2 hF) (by rw [h2.2.1]; exact hP.2.2.2.2.1) hA.1 hn (fun j x hj => by rw [h2.2.2.2.2 p j (by unfold isPr; omega)]; exact hcd j x hj) hok hvl (fun k hk => by rw [h2.2.2.2.2 22 k (by unfold isPr; omega)]; exact hnm k hk) hs (fun v H' e h3 => by rw [sgv_of e]; exact hq' H' (eqX_trans h2 h3))
    have f119 : ∀ H2, eqX isPr H H2 → (a = m ∨ ¬ sgv nm o a m = 0) → Wp mX7_quote (d + 3) 0 0 119 [some (.ref 20), l1, l2, l3, some (.ref A), some (.int (nI a)), some (.int (nI i)), some (.int (nI m)), some (.int (nI b))] [] H2 Q := by
      intro H2 h2 hc
      have hF2 := Fix_eqX h2 hF
      have hP2 : PL H2 A p q r o.length E.length := by unfold PL; rw [h2.2.1, h2.2.2.2.1]; exact hP
      rw [if_pos hc] at hq
      refine wp_aload_n dX7_quote_119 rfl ?_
      refine wp_aload dX7_quote_120 rfl ?_
      refine wp_geta dX7_quote_122 fl_RX7_49 rfl (hP2.1) (hP2.2.1) ?_
      refine wp_iload dX7_quote_125 rfl ?_
      refine wp_iload dX7_quote_127 rfl ?_
      refine wp_callv3 (ci := 7) dX7_quote_129 lk_RX7_52 ok_X7_valueOf im_X7_valueOf se_X7_valueOf rfl rfl (fk_20 hF2) (Nat.le_of_ble_eq_true rfl) (Nat.le_of_ble_eq_true rfl) ?_
      refine vo m b H2 _ s2 h2 (fun H' h3 => ?_)
      refine wp_ireturn rfl dX7_quote_132 ?_
      exact hq H' h3
    by_cases hc : m = a
    · have hc9 := hc
      refine wp_iload dX7_quote_66 rfl ?_
      refine wp_aload dX7_quote_68 rfl ?_
      refine wp_callv0 (ci := 5) dX7_quote_70 lk_RX7_37 ok_X5_countLines im_X5_countLines se_X5_countLines rfl rfl (hP1.1) (Nat.le_of_ble_eq_true rfl) (Nat.le_of_ble_eq_true rfl) ?_
      refine wp_deep (d := 0 + 1) (by omega) (c_X5_countLines hP1 ?_)
      refine wp_icmp_ge (tgt := 143) dX7_quote_73 (by decide) (fun h73 => absurd h73 (nI_ge hil (by omega))) (fun _ => ?_)
      refine wp_aload dX7_quote_76 rfl ?_
      refine wp_geta dX7_quote_78 fl_RX7_43 rfl (hP1.1) (hP1.2.2.1) ?_
      refine wp_iload dX7_quote_81 rfl ?_
      refine wp_ialoadN dX7_quote_83 (hP1.2.2.2.2.2.1) (by omega) (by omega) ?_
      rw [hm]
      refine wp_istore dX7_quote_84 (by decide) ?_
      refine wp_aload dX7_quote_86 rfl ?_
      refine wp_geta dX7_quote_88 fl_RX7_46 rfl (hP1.1) (hP1.2.2.2.1) ?_
      refine wp_iload dX7_quote_91 rfl ?_
      refine wp_ialoadN dX7_quote_93 (hP1.2.2.2.2.2.2) (by omega) (by omega) ?_
      rw [hb]
      refine wp_istore dX7_quote_94 (by decide) ?_
      refine wp_iload dX7_quote_96 rfl ?_
      refine wp_iload dX7_quote_98 rfl ?_
      refine wp_icmp_eq (tgt := 119) dX7_quote_100 (by decide) (fun _ => ?_) (fun h100 => absurd h100 (fun w => w (eam.mpr hc)))
      exact f119 H1 hx (Or.inl hc.symm)
    · have hs1 := s1.resolve_left (fun w => hc w.symm)
      have f116 : ∀ H2, eqX isPr H H2 → Wp mX7_quote (d + 3) 0 0 116 [some (.ref 20), l1, l2, l3, some (.ref A), some (.int (nI a)), some (.int (nI i)), some (.int (nI m)), some (.int (nI b))] [.int (sgv nm o a m)] H2 Q := by
        intro H2 h2
        have hF2 := Fix_eqX h2 hF
        by_cases h0 : sgv nm o a m = 0
        · rw [if_neg (fun w => w.elim (fun y => hc y.symm) (fun y => y h0))] at hq
          have rr := rec' H2 (some (.int (nI m))) (some (.int (nI b))) h2 hq
          refine wp_if_eq (tgt := 133) dX7_quote_116 (by decide) (fun _ => ?_) (fun h116 => absurd h116 (fun w => w h0))
          refine wp_iload dX7_quote_133 rfl ?_
          refine wp_istore dX7_quote_135 (by decide) ?_
          refine wp_incN dX7_quote_137 rfl (by decide) ?_
          refine wp_goto (tgt := 66) dX7_quote_140 (by decide) ?_
          exact rr
        · have hq9 := hq
          refine wp_if_eq (tgt := 133) dX7_quote_116 (by decide) (fun h116 => absurd h116 (h0)) (fun _ => ?_)
          exact f119 H2 h2 (Or.inr h0)
      refine wp_iload dX7_quote_66 rfl ?_
      refine wp_aload dX7_quote_68 rfl ?_
      refine wp_callv0 (ci := 5) dX7_quote_70 lk_RX7_37 ok_X5_countLines im_X5_countLines se_X5_countLines rfl rfl (hP1.1) (Nat.le_of_ble_eq_true rfl) (Nat.le_of_ble_eq_true rfl) ?_
      refine wp_deep (d := 0 + 1) (by omega) (c_X5_countLines hP1 ?_)
      refine wp_icmp_ge (tgt := 143) dX7_quote_73 (by decide) (fun h73 => absurd h73 (nI_ge hil (by omega))) (fun _ => ?_)
      refine wp_aload dX7_quote_76 rfl ?_
      refine wp_geta dX7_quote_78 fl_RX7_43 rfl (hP1.1) (hP1.2.2.1) ?_
      refine wp_iload dX7_quote_81 rfl ?_
      refine wp_ialoadN dX7_quote_83 (hP1.2.2.2.2.2.1) (by omega) (by omega) ?_
      rw [hm]
      refine wp_istore dX7_quote_84 (by decide) ?_
      refine wp_aload dX7_quote_86 rfl ?_
      refine wp_geta dX7_quote_88 fl_RX7_46 rfl (hP1.1) (hP1.2.2.2.1) ?_
      refine wp_iload dX7_quote_91 rfl ?_
      refine wp_ialoadN dX7_quote_93 (hP1.2.2.2.2.2.2) (by omega) (by omega) ?_
      rw [hb]
      refine wp_istore dX7_quote_94 (by decide) ?_
      refine wp_iload dX7_quote_96 rfl ?_
      refine wp_iload dX7_quote_98 rfl ?_
      refine wp_icmp_eq (tgt := 119) dX7_quote_100 (by decide) (fun h100 => absurd h100 (fun w => hc (eam.mp w))) (fun _ => ?_)
      refine wp_aload_n dX7_quote_103 rfl ?_
      refine wp_aload dX7_quote_104 rfl ?_
      refine wp_geta dX7_quote_106 fl_RX7_49 rfl (hP1.1) (hP1.2.1) ?_
      refine wp_iload dX7_quote_109 rfl ?_
      refine wp_iload dX7_quote_111 rfl ?_
      refine wp_callv3 (ci := 7) dX7_quote_113 lk_RX7_52 ok_X7_valueOf im_X7_valueOf se_X7_valueOf rfl rfl (fk_20 hF1) (Nat.le_of_ble_eq_true rfl) (Nat.le_of_ble_eq_true rfl) ?_
      refine vo a m H1 _ hs1 hx (fun H2 h2 => ?_)
      exact f116 H2 h2
end QUO
def nmF (k0 k1 k2 k3 k4 k5 : Int32) (k : Nat) : Int32 := if k = 0 then k0 else if k = 1 then k1 else if k = 2 then k2 else if k = 3 then k3 else if k = 4 then k4 else k5
section QUP
variable {d : Nat} {H : PH} {Q : Option Value → PH → Prop} {o : OL} {E : List (Nat × Nat)} {A p q r J : Nat} {w x : Int32}
def isPq (a k : Nat) : Prop := isPr a k ∨ a = 22
theorem six {a : Nat} {k0 k1 k2 k3 k4 k5 : Int32} : (∀ k, k < 6 → hI (sI (sI (sI (sI (sI (sI H a 0 k0) a 1 k1) a 2 k2) a 3 k3) a 4 k4) a 5 k5) a k = nmF k0 k1 k2 k3 k4 k5 k) ∧ ∀ b k, b ≠ a → hI (sI (sI (sI (sI (sI (sI H a 0 k0) a 1 k1) a 2 k2) a 3 k3) a 4 k4) a 5 k5) b k = hI H b k := by
  refine ⟨fun k hk => ?_, fun b k hb => ?_⟩
  · have : k = 0 ∨ k = 1 ∨ k = 2 ∨ k = 3 ∨ k = 4 ∨ k = 5 := by omega
    rcases this with e | e | e | e | e | e <;> subst e <;> simp [hI_sI', nmF]
  · have n : ∀ k', ¬ (b = a ∧ k = k') := fun k' z => hb z.1
    rw [hI_sI', if_neg (n _), hI_sI', if_neg (n _), hI_sI', if_neg (n _), hI_sI', if_neg (n _), hI_sI', if_neg (n _), hI_sI', if_neg (n _)]
theorem c_X7_quote (hF : Fix H) (hJ : hK H J = (4, 9)) (hJ9 : 69 < J) (hA0 : hR H J 6 = some A) (hP : PL H A p q r o.length E.length) (hA : 22 < p ∧ 22 < q ∧ 22 < r) (hn : o.length ≤ 600) (hE : E.length ≤ 10) (hcd : ∀ i x, o[i]? = some x → hI H p i = encC x) (hen : ∀ i, i < E.length → hI H q i = nI (E.getD i (0, 0)).1 ∧ hI H r i = nI (E.getD i (0, 0)).2) (hlf : LF o E) (hok : ∀ x, x ∈ o → okI x) (hvl : vls o ≤ 100)
    (hq : ∀ H', eqX isPq H H' → Q (some (.int (prV (nmF (hI H J 0) w (hI H J 4) (hI H J 3) (hI H J 5) x) o E E.length 0))) H') : Wp mX7_quote (d + 3) 0 0 0 [some (.ref 20), some (.ref J), some (.int w), some (.int x), none, none, none, none, none] [] H Q := by
  obtain ⟨s1, s2⟩ := six (H := H) (a := 22) (k0 := hI H J 0) (k1 := w) (k2 := hI H J 4) (k3 := hI H J 3) (k4 := hI H J 5) (k5 := x)
  have h := l_quote (d := d) (Q := Q) (l1 := some (.ref J)) (l2 := some (.int w)) (l3 := some (.int x)) (nm := nmF (hI H J 0) w (hI H J 4) (hI H J 3) (hI H J 5) x) (H := sI (sI (sI (sI (sI (sI H 22 0 (hI H J 0)) 22 1 w) 22 2 (hI H J 4)) 22 3 (hI H J 3)) 22 4 (hI H J 5)) 22 5 x) (Fix_sI (Fix_sI (Fix_sI (Fix_sI (Fix_sI (Fix_sI hF)))))) hP hA hn hE (fun i y hi => by rw [s2 p i (by omega)]; exact hcd i y hi) (fun i hi => by rw [s2 q i (by omega), s2 r i (by omega)]; exact hen i hi) hlf hok hvl s1 E.length 0 _ none none (by omega) eqX_rfl (fun H' hx => hq H' (eqX_trans (eqX_sI (eqX_sI (eqX_sI (eqX_sI (eqX_sI (eqX_sI eqX_rfl (Or.inr rfl)) (Or.inr rfl)) (Or.inr rfl)) (Or.inr rfl)) (Or.inr rfl)) (Or.inr rfl)) (eqX_mono (fun a k z => Or.inl z) hx)))
  refine wp_aload_n dX7_quote_0 rfl ?_
  refine wp_geta dX7_quote_1 fl_RX7_15 rfl (fk_20 hF) (fr_20_1 hF) ?_
  refine wp_iconst (v := 0) dX7_quote_4 (by decide) ?_
  refine wp_aload_n dX7_quote_5 rfl ?_
  refine wp_geti dX7_quote_6 fl_RX7_18 rfl (hJ) ?_
  refine wp_iastoreN dX7_quote_9 (fk_22 hF) (by decide) (by decide) ?_
  refine wp_aload_n dX7_quote_10 rfl ?_
  refine wp_geta dX7_quote_11 fl_RX7_15 rfl (fk_20 (Fix_sI hF)) (fr_20_1 (Fix_sI hF)) ?_
  refine wp_iconst (v := 1) dX7_quote_14 (by decide) ?_
  refine wp_iload_n dX7_quote_15 rfl ?_
  refine wp_iastoreN dX7_quote_16 (fk_22 (Fix_sI hF)) (by decide) (by decide) ?_
  refine wp_aload_n dX7_quote_17 rfl ?_
  refine wp_geta dX7_quote_18 fl_RX7_15 rfl (fk_20 (Fix_sI (Fix_sI hF))) (fr_20_1 (Fix_sI (Fix_sI hF))) ?_
  refine wp_iconst (v := 2) dX7_quote_21 (by decide) ?_
  refine wp_aload_n dX7_quote_22 rfl ?_
  refine wp_geti dX7_quote_23 fl_RX7_24 rfl (hJ) ?_
  rw [hI_sI', if_neg (by omega), hI_sI', if_neg (by omega)]
  refine wp_iastoreN dX7_quote_26 (fk_22 (Fix_sI (Fix_sI hF))) (by decide) (by decide) ?_
  refine wp_aload_n dX7_quote_27 rfl ?_
  refine wp_geta dX7_quote_28 fl_RX7_15 rfl (fk_20 (Fix_sI (Fix_sI (Fix_sI hF)))) (fr_20_1 (Fix_sI (Fix_sI (Fix_sI hF)))) ?_
  refine wp_iconst (v := 3) dX7_quote_31 (by decide) ?_
  refine wp_aload_n dX7_quote_32 rfl ?_
  refine wp_geti dX7_quote_33 fl_RX7_27 rfl (hJ) ?_
  rw [hI_sI', if_neg (by omega), hI_sI', if_neg (by omega), hI_sI', if_neg (by omega)]
  refine wp_iastoreN dX7_quote_36 (fk_22 (Fix_sI (Fix_sI (Fix_sI hF)))) (by decide) (by decide) ?_
  refine wp_aload_n dX7_quote_37 rfl ?_
  refine wp_geta dX7_quote_38 fl_RX7_15 rfl (fk_20 (Fix_sI (Fix_sI (Fix_sI (Fix_sI hF))))) (fr_20_1 (Fix_sI (Fix_sI (Fix_sI (Fix_sI hF))))) ?_
  refine wp_iconst (v := 4) dX7_quote_41 (by decide) ?_
  refine wp_aload_n dX7_quote_42 rfl ?_
  refine wp_geti dX7_quote_43 fl_RX7_30 rfl (hJ) ?_
  rw [hI_sI', if_neg (by omega), hI_sI', if_neg (by omega), hI_sI', if_neg (by omega), hI_sI', if_neg (by omega)]
  refine wp_iastoreN dX7_quote_46 (fk_22 (Fix_sI (Fix_sI (Fix_sI (Fix_sI hF))))) (by decide) (by decide) ?_
  refine wp_aload_n dX7_quote_47 rfl ?_
  refine wp_geta dX7_quote_48 fl_RX7_15 rfl (fk_20 (Fix_sI (Fix_sI (Fix_sI (Fix_sI (Fix_sI hF)))))) (fr_20_1 (Fix_sI (Fix_sI (Fix_sI (Fix_sI (Fix_sI hF)))))) ?_
  refine wp_iconst (v := 5) dX7_quote_51 (by decide) ?_
  refine wp_iload_n dX7_quote_52 rfl ?_
  refine wp_iastoreN dX7_quote_53 (fk_22 (Fix_sI (Fix_sI (Fix_sI (Fix_sI (Fix_sI hF)))))) (by decide) (by decide) ?_
  refine wp_aload_n dX7_quote_54 rfl ?_
  refine wp_geta dX7_quote_55 fl_RX7_33 rfl (hJ) (hA0) ?_
  refine wp_astore dX7_quote_58 (by decide) ?_
  refine wp_iconst (v := 0) dX7_quote_60 (by decide) ?_
  refine wp_istore dX7_quote_61 (by decide) ?_
  refine wp_iconst (v := 0) dX7_quote_63 (by decide) ?_
  refine wp_istore dX7_quote_64 (by decide) ?_
  exact h
end QUP
