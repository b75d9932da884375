/-! ===== the reference's readE ===== -/
section MRE
variable {d : Nat} {H : PH} {Q : Option Value → PH → Prop} {bf : Nat → Int32} {N s v u : Nat} {o o0 : OL} {W : List Nat} {H1 : PH} {tm : Nat} {z : Int32}
/-- behind a fault -/
theorem l_readEf {f : FT} {l2 : Option Value} (hF : Fix H) (hb : MB H f H1) (hq : Q none H1) : Wp mX12_readE d 0 0 12 [some (.ref 33), some (.int z), l2] [] H1 Q := by
  have hF1 := Fix_eqM hb.1 hF
  have q41 := hb.2.1
  have q1 := hb.2.2.1
  have q3 := hb.2.2.2.1
  have hn : ¬ nI f.1 = 0 := fun q => by have := (nI_eq (a := f.1) (b := 0) (by omega) (by decide)).mp q; omega
  refine wp_aload_n dX12_readE_12 rfl ?_
  refine wp_geti dX12_readE_13 fl_RX12_250 rfl (fk_33 hF1) ?_
  rw [q41]
  refine wp_if_ne (tgt := 79) dX12_readE_16 (by decide) (fun _ => ?_) (fun h16 => absurd h16 (hn))
  refine wp_aload_n dX12_readE_79 rfl ?_
  refine wp_geti dX12_readE_80 fl_RX12_250 rfl (fk_33 hF1) ?_
  rw [q41]
  refine wp_if_ne (tgt := 91) dX12_readE_83 (by decide) (fun _ => ?_) (fun h83 => absurd h83 (hn))
  refine wp_return rfl dX12_readE_91 ?_
  exact hq
theorem l_readEh (hz : (tm = 2 ∧ z = 1) ∨ (tm = 59 ∧ z = 0)) (hF : Fix H) (hM : MR H bf N s v o W H1) (hb : RB9 o W) (hu : u ≤ 2)
    (k57 : ¬ (u = 2 ∧ ¬ 51 ∈ W ∧ tkA bf N s = tm) → Wp mX12_readE (d + 4) 0 0 57 [some (.ref 33), some (.int z), some (.int (nI u))] [] H1 Q)
    (k79 : (u = 2 ∧ ¬ 51 ∈ W ∧ tkA bf N s = tm) → Wp mX12_readE (d + 4) 0 0 79 [some (.ref 33), some (.int z), some (.int (nI u))] [] H1 Q) : Wp mX12_readE (d + 4) 0 0 12 [some (.ref 33), some (.int z), some (.int (nI u))] [] H1 Q := by
  have hF1 := MR_fix hF hM
  have hB := hM.2.1.1
  have h45 := hM.2.2.1.1
  have h41 := hM.2.2.2.2.2.2.2.2.1
  obtain ⟨-, w2, -, -, -⟩ := wd_is (s := s) hB
  have g59 := srt_40 (s := s) hB (k := 59) (by decide) (by decide)
  have eu : nI u = 2 ↔ u = 2 := nI_eq (a := u) (b := 2) (by omega) (by decide)
  rcases hz with ⟨z1, z2⟩ | ⟨z1, z2⟩
  · subst z1; subst z2
    refine wp_aload_n dX12_readE_12 rfl ?_
    refine wp_geti dX12_readE_13 fl_RX12_250 rfl (fk_33 hF1) ?_
    rw [h41]
    refine wp_if_ne (tgt := 79) dX12_readE_16 (by decide) (fun h16 => absurd h16 (fun q => q rfl)) (fun _ => ?_)
    refine wp_iload_n dX12_readE_19 rfl ?_
    refine wp_iconst (v := 2) dX12_readE_20 (by decide) ?_
    refine wp_icmp_ne (tgt := 57) dX12_readE_21 (by decide) (fun h21 => ?_) (fun h21 => ?_)
    · first
          | exact k57 (fun q => h21 (eu.mpr q.1))
          | exact k57 (fun q => q.2.1 h28)
          | exact k57 (fun q => h42 (w2.mpr q.2.2))
    · refine wp_aload_n dX12_readE_24 rfl ?_
      refine wp_callv0 (ci := 12) dX12_readE_25 lk_RX12_280 ok_X12_isOpen im_X12_isOpen se_X12_isOpen rfl rfl (fk_33 hF1) (Nat.le_of_ble_eq_true rfl) (Nat.le_of_ble_eq_true rfl) ?_
      refine c_X12_isOpen hF hM hb ?_
      refine wp_ifb_ne (tgt := 57) dX12_readE_28 (by decide) (fun h28 => ?_) (fun h28 => ?_)
      · first
            | exact k57 (fun q => h21 (eu.mpr q.1))
            | exact k57 (fun q => q.2.1 h28)
            | exact k57 (fun q => h42 (w2.mpr q.2.2))
      · refine wp_iload_n dX12_readE_31 rfl ?_
        refine wp_if_eq (tgt := 48) dX12_readE_32 (by decide) (fun h32 => absurd h32 (by decide)) (fun _ => ?_)
        refine wp_aload_n dX12_readE_35 rfl ?_
        refine wp_ldc2_w dX12_readE_36 co_RX12_284 ?_
        refine wp_callv1 (ci := 12) dX12_readE_39 lk_RX12_286 ok_X12_isWord im_X12_isWord se_X12_isWord rfl rfl (fk_33 hF1) (Nat.le_of_ble_eq_true rfl) (Nat.le_of_ble_eq_true rfl) ?_
        refine c_X12_isWord hF hM ?_
        refine wp_ifb_eq (tgt := 57) dX12_readE_42 (by decide) (fun h42 => ?_) (fun h42 => ?_)
        · first
              | exact k57 (fun q => h21 (eu.mpr q.1))
              | exact k57 (fun q => q.2.1 h28)
              | exact k57 (fun q => h42 (w2.mpr q.2.2))
        · refine wp_goto (tgt := 79) dX12_readE_45 (by decide) ?_
          exact k79 ⟨eu.mp h21, h28, w2.mp h42⟩
  · subst z1; subst z2
    refine wp_aload_n dX12_readE_12 rfl ?_
    refine wp_geti dX12_readE_13 fl_RX12_250 rfl (fk_33 hF1) ?_
    rw [h41]
    refine wp_if_ne (tgt := 79) dX12_readE_16 (by decide) (fun h16 => absurd h16 (fun q => q rfl)) (fun _ => ?_)
    refine wp_iload_n dX12_readE_19 rfl ?_
    refine wp_iconst (v := 2) dX12_readE_20 (by decide) ?_
    refine wp_icmp_ne (tgt := 57) dX12_readE_21 (by decide) (fun h21 => ?_) (fun h21 => ?_)
    · first
          | exact k57 (fun q => h21 (eu.mpr q.1))
          | exact k57 (fun q => q.2.1 h28)
          | exact k57 (fun q => h54 (g59.mpr q.2.2))
    · refine wp_aload_n dX12_readE_24 rfl ?_
      refine wp_callv0 (ci := 12) dX12_readE_25 lk_RX12_280 ok_X12_isOpen im_X12_isOpen se_X12_isOpen rfl rfl (fk_33 hF1) (Nat.le_of_ble_eq_true rfl) (Nat.le_of_ble_eq_true rfl) ?_
      refine c_X12_isOpen hF hM hb ?_
      refine wp_ifb_ne (tgt := 57) dX12_readE_28 (by decide) (fun h28 => ?_) (fun h28 => ?_)
      · first
            | exact k57 (fun q => h21 (eu.mpr q.1))
            | exact k57 (fun q => q.2.1 h28)
            | exact k57 (fun q => h54 (g59.mpr q.2.2))
      · refine wp_iload_n dX12_readE_31 rfl ?_
        refine wp_if_eq (tgt := 48) dX12_readE_32 (by decide) (fun _ => ?_) (fun h32 => absurd h32 (fun q => q rfl))
        refine wp_aload_n dX12_readE_48 rfl ?_
        refine wp_geti dX12_readE_49 fl_RX12_238 rfl (fk_33 hF1) ?_
        rw [h45]
        refine wp_bipush (v := 59) dX12_readE_52 (by decide) ?_
        refine wp_icmp_eq (tgt := 79) dX12_readE_54 (by decide) (fun h54 => ?_) (fun h54 => ?_)
        · exact k79 ⟨eu.mp h21, h28, g59.mp h54⟩
        · first
              | exact k57 (fun q => h21 (eu.mpr q.1))
              | exact k57 (fun q => q.2.1 h28)
              | exact k57 (fun q => h54 (g59.mpr q.2.2))
/-- at a token that can't be -/
theorem l_readEb (hz : (tm = 2 ∧ z = 1) ∨ (tm = 59 ∧ z = 0)) (hF : Fix H) (hM : MR H bf N s v o W H1) (hb : RB9 o W) (hu : u ≤ 2) (h8 : tkA bf N s = 8) (hq : ∀ H', MB H (1, s) H' → Q none H') : Wp mX12_readE (d + 4) 0 0 12 [some (.ref 33), some (.int z), some (.int (nI u))] [] H1 Q := by
  have hF1 := MR_fix hF hM
  have eu : nI u = 2 ↔ u = 2 := nI_eq (a := u) (b := 2) (by omega) (by decide)
  refine l_readEh hz hF hM hb hu (fun _ => ?_) (fun q => by have := q.2.2; omega)
  by_cases hu2 : u = 2
  · have hu3 := hu2
    refine wp_iload_n dX12_readE_57 rfl ?_
    refine wp_iconst (v := 2) dX12_readE_58 (by decide) ?_
    refine wp_icmp_ne (tgt := 70) dX12_readE_59 (by decide) (fun h59 => absurd h59 (fun q => q (eu.mpr hu2))) (fun _ => ?_)
    refine wp_aload_n dX12_readE_62 rfl ?_
    refine wp_callv0 (ci := 12) dX12_readE_63 lk_RX12_290 ok_X12_sign im_X12_sign se_X12_sign rfl rfl (fk_33 hF1) (Nat.le_of_ble_eq_true rfl) (Nat.le_of_ble_eq_true rfl) ?_
    refine c_signBad hF hM h8 (fun H' hb' => ?_)
    refine wp_istore_n dX12_readE_66 (by decide) ?_
    refine wp_goto (tgt := 12) dX12_readE_67 (by decide) ?_
    exact l_readEf hF hb' (hq H' hb')
  · have hu3 := hu2
    refine wp_iload_n dX12_readE_57 rfl ?_
    refine wp_iconst (v := 2) dX12_readE_58 (by decide) ?_
    refine wp_icmp_ne (tgt := 70) dX12_readE_59 (by decide) (fun _ => ?_) (fun h59 => absurd h59 (fun q => hu2 (eu.mp q)))
    refine wp_aload_n dX12_readE_70 rfl ?_
    refine wp_iload_n dX12_readE_71 rfl ?_
    refine wp_callv1 (ci := 12) dX12_readE_72 lk_RX12_294 ok_X12_operand im_X12_operand se_X12_operand rfl rfl (fk_33 hF1) (Nat.le_of_ble_eq_true rfl) (Nat.le_of_ble_eq_true rfl) ?_
    refine c_operBad (by omega) hF hM h8 (fun H' hb' => ?_)
    refine wp_istore_n dX12_readE_75 (by decide) ?_
    refine wp_goto (tgt := 12) dX12_readE_76 (by decide) ?_
    exact l_readEf hF hb' (hq H' hb')
def GDr (H : PH) (bf : Nat → Int32) (N tm : Nat) (o0 : OL) (Q : Option Value → PH → Prop) (r : FT ⊕ CF) : Prop := (∃ f, r = .inl f ∧ ∀ H', MB H f H' → Q none H') ∨ (∃ W2 s' v' o2 o', r = .inr (2, W2, s', v', o2) ∧ stp (pS 0) W2 o2 = ([], o') ∧ tkA bf N s' = tm ∧ (CI o0 2 W2 s' v' o2 → ∀ H', MR H bf N s' v' o' [] H' → Q none H'))
theorem l_readE (hz : (tm = 2 ∧ z = 1) ∨ (tm = 59 ∧ z = 0)) (hF : Fix H) : ∀ (n u : Nat) (W : List Nat) (s v : Nat) (o : OL) (H1 : PH) (r : FT ⊕ CF), MR H bf N s v o W H1 → CI o0 u W s v o → tkA bf N s ≠ 8 → Rch (tkA bf N) (nxtT bf N) (itmT bf N) (unkT bf N) tm n (u, W, s, v, o) r → GDr H bf N tm o0 Q r → Wp mX12_readE (d + 4) 0 0 12 [some (.ref 33), some (.int z), some (.int (nI u))] [] H1 Q := by
  intro n
  induction n with
  | zero =>
    intro u W s v o H1 r hM hc h8 hr hg
    have hF1 := MR_fix hF hM
    have hbd := MR_bd hM
    have hrb := (CI_RB hc (by omega)).1
    have h41 := hM.2.2.2.2.2.2.2.2.1
    have hr : r = .inr (u, W, s, v, o) := hr
    subst hr
    rcases hg with ⟨f, e, -⟩ | ⟨W2, s', v', o2, o', e, hst, ht, hq⟩
    · cases e
    · cases e
      refine l_readEh hz hF hM hrb hc.1 (fun q => absurd ⟨rfl, no51 hst, ht⟩ q) (fun _ => ?_)
      have hst1 : (stp (pS 0) W o).1 = [] := by rw [hst]
      have hst2 : (stp (pS 0) W o).2 = o' := by rw [hst]
      refine wp_aload_n dX12_readE_79 rfl ?_
      refine wp_geti dX12_readE_80 fl_RX12_250 rfl (fk_33 hF1) ?_
      rw [h41]
      refine wp_if_ne (tgt := 91) dX12_readE_83 (by decide) (fun h83 => absurd h83 (fun q => q rfl)) (fun _ => ?_)
      refine wp_aload_n dX12_readE_86 rfl ?_
      refine wp_iconst (v := 0) dX12_readE_87 (by decide) ?_
      refine wp_callv1 (ci := 12) dX12_readE_88 lk_RX12_297 ok_X12_settle im_X12_settle se_X12_settle rfl rfl (fk_33 hF1) (Nat.le_of_ble_eq_true rfl) (Nat.le_of_ble_eq_true rfl) ?_
      refine wp_deep (d := d + 2) (by omega) (c_X12_settle (l := 0) (by decide) hF W o H1 hM hrb (fun H2 hM2 => ?_))
      rw [hst1, hst2] at hM2
      refine wp_return rfl dX12_readE_91 ?_
      exact hq hc H2 hM2
  | succ n ih =>
    intro u W s v o H1 r hM hc h8 hr hg
    have hF1 := MR_fix hF hM
    have hbd := MR_bd hM
    have hv := hM.2.2.2.2.2.1
    have hB := hM.2.1.1
    obtain ⟨hrb, hb1, hb2⟩ := CI_RB hc (by omega)
    obtain ⟨hnt, hstep⟩ := hr
    have hu := hc.1
    have eu : nI u = 2 ↔ u = 2 := nI_eq (a := u) (b := 2) (by omega) (by decide)
    -- a direct fault
    have k2 : ∀ f, st1 (tkA bf N) (nxtT bf N) (itmT bf N) (unkT bf N) (u, W, s, v, o) = .inl f → ∀ H', MB H f H' → Q none H' := by
      intro f hf H' hb'
      rcases hstep with ⟨f', e1, e2⟩ | ⟨c', e1, -⟩
      · rw [hf] at e1
        cases e1
        subst e2
        rcases hg with ⟨f', e, hq⟩ | ⟨W2, s', v', o2, o', e, -⟩
        · cases e; exact hq H' hb'
        · cases e
      · rw [hf] at e1; cases e1
    -- the next config
    have k1 : ∀ u' W' v' o', st1 (tkA bf N) (nxtT bf N) (itmT bf N) (unkT bf N) (u, W, s, v, o) = goN (tkA bf N) (nxtT bf N) u' W' s v' o' → CI o0 u' W' (nxtT bf N s) v' o' → ∀ H', MR H bf N (nxtT bf N s) v' o' W' H' → Wp mX12_readE (d + 4) 0 0 12 [some (.ref 33), some (.int z), some (.int (nI u'))] [] H' Q := by
      intro u' W' v' o' he hc' H' hM'
      have hbd' := MR_bd hM'
      by_cases q8 : tkA bf N (nxtT bf N s) = 8
      · rw [goN, if_pos q8] at he
        exact l_readEb hz hF hM' (CI_RB hc' (by omega)).1 hc'.1 q8 (k2 _ he)
      · rw [goN, if_neg q8] at he
        rcases hstep with ⟨f', e1, -⟩ | ⟨c', e1, e2⟩
        · rw [he] at e1; cases e1
        · rw [he] at e1
          cases e1
          exact ih u' W' _ v' o' H' r hM' hc' q8 e2 hg
    have tk3 : ∃ tk2 : Nat → Nat, tk2 s = tkA bf N s ∧ ∀ u' W' v' o', goN tk2 (nxtT bf N) u' W' s v' o' = .inr (u', W', nxtT bf N s, v', o') := by
      refine ⟨fun x => if x = s then tkA bf N s else 9, if_pos rfl, fun u' W' v' o' => ?_⟩
      unfold goN
      rw [if_neg]
      show ¬ (if nxtT bf N s = s then tkA bf N s else 9) = 8
      split
      · exact h8
      · decide
    obtain ⟨tk2, t1, t2⟩ := tk3
    refine l_readEh hz hF hM hrb hu (fun _ => ?_) (fun q => absurd q hnt)
    by_cases hu2 : u = 2
    · subst hu2
      refine wp_iload_n dX12_readE_57 rfl ?_
      refine wp_iconst (v := 2) dX12_readE_58 (by decide) ?_
      refine wp_icmp_ne (tgt := 70) dX12_readE_59 (by decide) (fun h59 => absurd h59 (fun q => q rfl)) (fun _ => ?_)
      refine wp_aload_n dX12_readE_62 rfl ?_
      refine wp_callv0 (ci := 12) dX12_readE_63 lk_RX12_290 ok_X12_sign im_X12_sign se_X12_sign rfl rfl (fk_33 hF1) (Nat.le_of_ble_eq_true rfl) (Nat.le_of_ble_eq_true rfl) ?_
      refine c_X12_sign hF hM h8 hrb (fun u' W' v' o' he H' hM' => ?_) (fun f hf H' hb' => ?_)
      · refine wp_istore_n dX12_readE_66 (by decide) ?_
        refine wp_goto (tgt := 12) dX12_readE_67 (by decide) ?_
        first
            | exact k1 u' W' v' o' (st1_B.trans (he _ rfl)) (CI_stB hB hbd.1 h8 hc hv t1 ((he tk2 t1).trans (t2 u' W' v' o'))).1 H' hM'
            | exact l_readEf hF hb' (k2 f (st1_B.trans hf) H' hb')
      · refine wp_istore_n dX12_readE_66 (by decide) ?_
        refine wp_goto (tgt := 12) dX12_readE_67 (by decide) ?_
        first
            | exact k1 u' W' v' o' (st1_B.trans (he _ rfl)) (CI_stB hB hbd.1 h8 hc hv t1 ((he tk2 t1).trans (t2 u' W' v' o'))).1 H' hM'
            | exact l_readEf hF hb' (k2 f (st1_B.trans hf) H' hb')
    · have hu3 := hu2
      refine wp_iload_n dX12_readE_57 rfl ?_
      refine wp_iconst (v := 2) dX12_readE_58 (by decide) ?_
      refine wp_icmp_ne (tgt := 70) dX12_readE_59 (by decide) (fun _ => ?_) (fun h59 => absurd h59 (fun q => hu2 (eu.mp q)))
      refine wp_aload_n dX12_readE_70 rfl ?_
      refine wp_iload_n dX12_readE_71 rfl ?_
      refine wp_callv1 (ci := 12) dX12_readE_72 lk_RX12_294 ok_X12_operand im_X12_operand se_X12_operand rfl rfl (fk_33 hF1) (Nat.le_of_ble_eq_true rfl) (Nat.le_of_ble_eq_true rfl) ?_
      refine c_X12_operand (by omega) hF hM h8 hrb hb1 hb2 (fun u' W' v' o' he H' hM' => ?_) (fun f hf H' hb' => ?_)
      · refine wp_istore_n dX12_readE_75 (by decide) ?_
        refine wp_goto (tgt := 12) dX12_readE_76 (by decide) ?_
        first
            | exact k1 u' W' v' o' ((st1_O hu2).trans (he _ rfl)) (CI_stO hB hbd.1 h8 (by omega) hc hv t1 ((he tk2 t1).trans (t2 u' W' v' o'))).1 H' hM'
            | exact l_readEf hF hb' (k2 f ((st1_O hu2).trans hf) H' hb')
      · refine wp_istore_n dX12_readE_75 (by decide) ?_
        refine wp_goto (tgt := 12) dX12_readE_76 (by decide) ?_
        first
            | exact k1 u' W' v' o' ((st1_O hu2).trans (he _ rfl)) (CI_stO hB hbd.1 h8 (by omega) hc hv t1 ((he tk2 t1).trans (t2 u' W' v' o'))).1 H' hM'
            | exact l_readEf hF hb' (k2 f ((st1_O hu2).trans hf) H' hb')
end MRE
