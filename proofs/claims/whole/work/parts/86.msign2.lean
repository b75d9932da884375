/-! ===== the reference's sign ===== -/
section MS6
variable {d : Nat} {H : PH} {Q : Option Value → PH → Prop} {bf : Nat → Int32} {N s v : Nat} {o : OL} {W : List Nat} {H1 : PH}
theorem stp_RB {p : Nat → Bool} : ∀ {W : List Nat} {o : OL}, RB9 o W → RB9 (stp p W o).2 (stp p W o).1
  | [], o, h => h
  | x :: W, o, h => by
    by_cases q : p x = true
    · rw [stp_t q]; exact stp_RB (RB_pop h)
    · rw [stp_f (by simpa using q)]; exact h
theorem stp_51 : ∀ {W : List Nat} {o : OL}, 51 ∈ W → (stp (pS 0) W o).1 = 51 :: (stp (pS 0) W o).1.tail
  | [], o, h => by cases h
  | x :: W, o, h => by
    by_cases q : pS 0 x = true
    · rw [stp_t q]
      have hx : 0 ≤ x ∧ x ≠ 51 := of_decide_eq_true q
      exact stp_51 ((List.mem_cons.mp h).resolve_left (fun z => hx.2 z.symm))
    · rw [stp_f (by simpa using q)]
      have : x = 51 := Classical.byContradiction (fun z => q (decide_eq_true ⟨Nat.zero_le _, z⟩))
      rw [this]; rfl
theorem srt_40 (hB : BF bf N) {k : Nat} (h1 : 40 ≤ k) (h2 : k < 100) : (nI (srt bf N s) = nI k ↔ tkA bf N s = k) := by
  have t := tk_srt hB (s := s)
  have hs := srt_lt hB s
  have e : nI (srt bf N s) = nI k ↔ srt bf N s = k := nI_eq (by omega) (by omega)
  exact ⟨fun q => by have e := e.mp q; have := t.2.2.2.2.2.1 (Or.inr (by omega)); omega, fun q => e.mpr (by have := t.2.2.2.2.2.1 (Or.inl (by omega)); omega)⟩
theorem c_X12_sign (hF : Fix H) (hM : MR H bf N s v o W H1) (h8 : tkA bf N s ≠ 8) (hb : RB9 o W)
    (hq1 : ∀ u' W' v' o', (∀ tk2 : Nat → Nat, tk2 s = tkA bf N s → stB tk2 (nxtT bf N) W s v o = goN tk2 (nxtT bf N) u' W' s v' o') → ∀ H', MR H bf N (nxtT bf N s) v' o' W' H' → Q (some (.int (nI u'))) H')
    (hq2 : ∀ f, stB (tkA bf N) (nxtT bf N) W s v o = .inl f → ∀ H', MB H f H' → Q (some (.int 2)) H') : Wp mX12_sign (d + 3) 0 0 0 [some (.ref 33), none] [] H1 Q := by
  have hF1 := MR_fix hF hM
  have hB := hM.2.1.1
  have h45 := hM.2.2.1.1
  have t := tk_srt hB (s := s)
  have g := fun (k : Nat) (h1 : 40 ≤ k) (h2 : k < 100) => srt_40 (s := s) hB h1 h2
  obtain ⟨-, -, w3, w4, w5⟩ := wd_is (s := s) hB
  have f36 : (tkA bf N s = 43 ∨ tkA bf N s = 45 ∨ tkA bf N s = 42 ∨ tkA bf N s = 47) → Wp mX12_sign (d + 3) 0 0 36 [some (.ref 33), none] [] H1 Q := by
    intro h
    rcases h with h | h | h | h
    · have hs : nI (srt bf N s) = 43 := (g 43 (by decide) (by decide)).mpr h
      have hst : ∀ tk2 : Nat → Nat, tk2 s = tkA bf N s → stB tk2 (nxtT bf N) W s v o = goN tk2 (nxtT bf N) 1 (46 :: (stp (pS 46) W o).1) s v (stp (pS 46) W o).2 := fun tk2 e2 => by rw [stB, e2, h]; rfl
      refine wp_aload_n dX12_sign_36 rfl ?_
      refine wp_geti dX12_sign_37 fl_RX12_238 rfl (fk_33 hF1) ?_
      rw [h45, hs]
      refine wp_bipush (v := 43) dX12_sign_40 (by decide) ?_
      refine wp_icmp_eq (tgt := 54) dX12_sign_42 (by decide) (fun _ => ?_) (fun h42 => absurd h42 (fun q => q rfl))
      refine wp_iconst (v := 1) dX12_sign_54 (by decide) ?_
      refine wp_goto (tgt := 59) dX12_sign_55 (by decide) ?_
      refine wp_istore_n dX12_sign_59 (by decide) ?_
      refine wp_aload_n dX12_sign_60 rfl ?_
      refine wp_iload_n dX12_sign_61 rfl ?_
      refine wp_if_eq (tgt := 70) dX12_sign_62 (by decide) (fun h62 => absurd h62 (by decide)) (fun _ => ?_)
      refine wp_bipush (v := 46) dX12_sign_65 (by decide) ?_
      refine wp_goto (tgt := 72) dX12_sign_67 (by decide) ?_
      refine wp_callv1 (ci := 12) dX12_sign_72 lk_RX12_297 ok_X12_settle im_X12_settle se_X12_settle rfl rfl (fk_33 hF1) (Nat.le_of_ble_eq_true rfl) (Nat.le_of_ble_eq_true rfl) ?_
      refine c_X12_settle (l := 46) (by decide) hF W o H1 hM hb (fun H2 hM2 => ?_)
      have hF2 := MR_fix hF hM2
      have hb2 := stp_RB (p := pS 46) hb
      have q45 := hM2.2.2.1.1.trans hs
      refine wp_aload_n dX12_sign_75 rfl ?_
      refine wp_aload_n dX12_sign_76 rfl ?_
      refine wp_geti dX12_sign_77 fl_RX12_238 rfl (fk_33 hF2) ?_
      rw [q45]
      refine wp_bipush (v := 43) dX12_sign_80 (by decide) ?_
      refine wp_icmp_ne (tgt := 90) dX12_sign_82 (by decide) (fun h82 => absurd h82 (fun q => q rfl)) (fun _ => ?_)
      refine wp_bipush (v := 46) dX12_sign_85 (by decide) ?_
      refine wp_goto (tgt := 120) dX12_sign_87 (by decide) ?_
      refine wp_callv1 (ci := 12) dX12_sign_120 lk_RX12_320 ok_X12_hold im_X12_hold se_X12_hold rfl rfl (fk_33 hF2) (Nat.le_of_ble_eq_true rfl) (Nat.le_of_ble_eq_true rfl) ?_
      refine c_X12_hold (x := 46) (by decide) hF hM2 (by have := hb2.2.1; omega) (fun H3 hM3 => ?_)
      have hF3 := MR_fix hF hM3
      refine wp_aload_n dX12_sign_123 rfl ?_
      refine wp_callv0 (ci := 12) dX12_sign_124 lk_RX12_317 ok_X12_next im_X12_next se_X12_next rfl rfl (fk_33 hF3) (Nat.le_of_ble_eq_true rfl) (Nat.le_of_ble_eq_true rfl) ?_
      refine wp_deep (d := 0 + 1) (by omega) (c_nextM hF hM3 (by omega) h8 (fun H4 hM4 => ?_))
      refine wp_iconst (v := 1) dX12_sign_127 (by decide) ?_
      refine wp_ireturn rfl dX12_sign_128 ?_
      exact hq1 1 _ _ _ hst H4 hM4
    · have hs : nI (srt bf N s) = 45 := (g 45 (by decide) (by decide)).mpr h
      have hst : ∀ tk2 : Nat → Nat, tk2 s = tkA bf N s → stB tk2 (nxtT bf N) W s v o = goN tk2 (nxtT bf N) 1 (47 :: (stp (pS 46) W o).1) s v (stp (pS 46) W o).2 := fun tk2 e2 => by rw [stB, e2, h]; rfl
      refine wp_aload_n dX12_sign_36 rfl ?_
      refine wp_geti dX12_sign_37 fl_RX12_238 rfl (fk_33 hF1) ?_
      rw [h45, hs]
      refine wp_bipush (v := 43) dX12_sign_40 (by decide) ?_
      refine wp_icmp_eq (tgt := 54) dX12_sign_42 (by decide) (fun h42 => absurd h42 (by decide)) (fun _ => ?_)
      refine wp_aload_n dX12_sign_45 rfl ?_
      refine wp_geti dX12_sign_46 fl_RX12_238 rfl (fk_33 hF1) ?_
      rw [h45, hs]
      refine wp_bipush (v := 45) dX12_sign_49 (by decide) ?_
      refine wp_icmp_ne (tgt := 58) dX12_sign_51 (by decide) (fun h51 => absurd h51 (fun q => q rfl)) (fun _ => ?_)
      refine wp_iconst (v := 1) dX12_sign_54 (by decide) ?_
      refine wp_goto (tgt := 59) dX12_sign_55 (by decide) ?_
      refine wp_istore_n dX12_sign_59 (by decide) ?_
      refine wp_aload_n dX12_sign_60 rfl ?_
      refine wp_iload_n dX12_sign_61 rfl ?_
      refine wp_if_eq (tgt := 70) dX12_sign_62 (by decide) (fun h62 => absurd h62 (by decide)) (fun _ => ?_)
      refine wp_bipush (v := 46) dX12_sign_65 (by decide) ?_
      refine wp_goto (tgt := 72) dX12_sign_67 (by decide) ?_
      refine wp_callv1 (ci := 12) dX12_sign_72 lk_RX12_297 ok_X12_settle im_X12_settle se_X12_settle rfl rfl (fk_33 hF1) (Nat.le_of_ble_eq_true rfl) (Nat.le_of_ble_eq_true rfl) ?_
      refine c_X12_settle (l := 46) (by decide) hF W o H1 hM hb (fun H2 hM2 => ?_)
      have hF2 := MR_fix hF hM2
      have hb2 := stp_RB (p := pS 46) hb
      have q45 := hM2.2.2.1.1.trans hs
      refine wp_aload_n dX12_sign_75 rfl ?_
      refine wp_aload_n dX12_sign_76 rfl ?_
      refine wp_geti dX12_sign_77 fl_RX12_238 rfl (fk_33 hF2) ?_
      rw [q45]
      refine wp_bipush (v := 43) dX12_sign_80 (by decide) ?_
      refine wp_icmp_ne (tgt := 90) dX12_sign_82 (by decide) (fun _ => ?_) (fun h82 => absurd h82 (by decide))
      refine wp_aload_n dX12_sign_90 rfl ?_
      refine wp_geti dX12_sign_91 fl_RX12_238 rfl (fk_33 hF2) ?_
      rw [q45]
      refine wp_bipush (v := 45) dX12_sign_94 (by decide) ?_
      refine wp_icmp_ne (tgt := 104) dX12_sign_96 (by decide) (fun h96 => absurd h96 (fun q => q rfl)) (fun _ => ?_)
      refine wp_bipush (v := 47) dX12_sign_99 (by decide) ?_
      refine wp_goto (tgt := 120) dX12_sign_101 (by decide) ?_
      refine wp_callv1 (ci := 12) dX12_sign_120 lk_RX12_320 ok_X12_hold im_X12_hold se_X12_hold rfl rfl (fk_33 hF2) (Nat.le_of_ble_eq_true rfl) (Nat.le_of_ble_eq_true rfl) ?_
      refine c_X12_hold (x := 47) (by decide) hF hM2 (by have := hb2.2.1; omega) (fun H3 hM3 => ?_)
      have hF3 := MR_fix hF hM3
      refine wp_aload_n dX12_sign_123 rfl ?_
      refine wp_callv0 (ci := 12) dX12_sign_124 lk_RX12_317 ok_X12_next im_X12_next se_X12_next rfl rfl (fk_33 hF3) (Nat.le_of_ble_eq_true rfl) (Nat.le_of_ble_eq_true rfl) ?_
      refine wp_deep (d := 0 + 1) (by omega) (c_nextM hF hM3 (by omega) h8 (fun H4 hM4 => ?_))
      refine wp_iconst (v := 1) dX12_sign_127 (by decide) ?_
      refine wp_ireturn rfl dX12_sign_128 ?_
      exact hq1 1 _ _ _ hst H4 hM4
    · have hs : nI (srt bf N s) = 42 := (g 42 (by decide) (by decide)).mpr h
      have hst : ∀ tk2 : Nat → Nat, tk2 s = tkA bf N s → stB tk2 (nxtT bf N) W s v o = goN tk2 (nxtT bf N) 1 (48 :: (stp (pS 48) W o).1) s v (stp (pS 48) W o).2 := fun tk2 e2 => by rw [stB, e2, h]; rfl
      refine wp_aload_n dX12_sign_36 rfl ?_
      refine wp_geti dX12_sign_37 fl_RX12_238 rfl (fk_33 hF1) ?_
      rw [h45, hs]
      refine wp_bipush (v := 43) dX12_sign_40 (by decide) ?_
      refine wp_icmp_eq (tgt := 54) dX12_sign_42 (by decide) (fun h42 => absurd h42 (by decide)) (fun _ => ?_)
      refine wp_aload_n dX12_sign_45 rfl ?_
      refine wp_geti dX12_sign_46 fl_RX12_238 rfl (fk_33 hF1) ?_
      rw [h45, hs]
      refine wp_bipush (v := 45) dX12_sign_49 (by decide) ?_
      refine wp_icmp_ne (tgt := 58) dX12_sign_51 (by decide) (fun _ => ?_) (fun h51 => absurd h51 (by decide))
      refine wp_iconst (v := 0) dX12_sign_58 (by decide) ?_
      refine wp_istore_n dX12_sign_59 (by decide) ?_
      refine wp_aload_n dX12_sign_60 rfl ?_
      refine wp_iload_n dX12_sign_61 rfl ?_
      refine wp_if_eq (tgt := 70) dX12_sign_62 (by decide) (fun _ => ?_) (fun h62 => absurd h62 (fun q => q rfl))
      refine wp_bipush (v := 48) dX12_sign_70 (by decide) ?_
      refine wp_callv1 (ci := 12) dX12_sign_72 lk_RX12_297 ok_X12_settle im_X12_settle se_X12_settle rfl rfl (fk_33 hF1) (Nat.le_of_ble_eq_true rfl) (Nat.le_of_ble_eq_true rfl) ?_
      refine c_X12_settle (l := 48) (by decide) hF W o H1 hM hb (fun H2 hM2 => ?_)
      have hF2 := MR_fix hF hM2
      have hb2 := stp_RB (p := pS 48) hb
      have q45 := hM2.2.2.1.1.trans hs
      refine wp_aload_n dX12_sign_75 rfl ?_
      refine wp_aload_n dX12_sign_76 rfl ?_
      refine wp_geti dX12_sign_77 fl_RX12_238 rfl (fk_33 hF2) ?_
      rw [q45]
      refine wp_bipush (v := 43) dX12_sign_80 (by decide) ?_
      refine wp_icmp_ne (tgt := 90) dX12_sign_82 (by decide) (fun _ => ?_) (fun h82 => absurd h82 (by decide))
      refine wp_aload_n dX12_sign_90 rfl ?_
      refine wp_geti dX12_sign_91 fl_RX12_238 rfl (fk_33 hF2) ?_
      rw [q45]
      refine wp_bipush (v := 45) dX12_sign_94 (by decide) ?_
      refine wp_icmp_ne (tgt := 104) dX12_sign_96 (by decide) (fun _ => ?_) (fun h96 => absurd h96 (by decide))
      refine wp_aload_n dX12_sign_104 rfl ?_
      refine wp_geti dX12_sign_105 fl_RX12_238 rfl (fk_33 hF2) ?_
      rw [q45]
      refine wp_bipush (v := 42) dX12_sign_108 (by decide) ?_
      refine wp_icmp_ne (tgt := 118) dX12_sign_110 (by decide) (fun h110 => absurd h110 (fun q => q rfl)) (fun _ => ?_)
      refine wp_bipush (v := 48) dX12_sign_113 (by decide) ?_
      refine wp_goto (tgt := 120) dX12_sign_115 (by decide) ?_
      refine wp_callv1 (ci := 12) dX12_sign_120 lk_RX12_320 ok_X12_hold im_X12_hold se_X12_hold rfl rfl (fk_33 hF2) (Nat.le_of_ble_eq_true rfl) (Nat.le_of_ble_eq_true rfl) ?_
      refine c_X12_hold (x := 48) (by decide) hF hM2 (by have := hb2.2.1; omega) (fun H3 hM3 => ?_)
      have hF3 := MR_fix hF hM3
      refine wp_aload_n dX12_sign_123 rfl ?_
      refine wp_callv0 (ci := 12) dX12_sign_124 lk_RX12_317 ok_X12_next im_X12_next se_X12_next rfl rfl (fk_33 hF3) (Nat.le_of_ble_eq_true rfl) (Nat.le_of_ble_eq_true rfl) ?_
      refine wp_deep (d := 0 + 1) (by omega) (c_nextM hF hM3 (by omega) h8 (fun H4 hM4 => ?_))
      refine wp_iconst (v := 1) dX12_sign_127 (by decide) ?_
      refine wp_ireturn rfl dX12_sign_128 ?_
      exact hq1 1 _ _ _ hst H4 hM4
    · have hs : nI (srt bf N s) = 47 := (g 47 (by decide) (by decide)).mpr h
      have hst : ∀ tk2 : Nat → Nat, tk2 s = tkA bf N s → stB tk2 (nxtT bf N) W s v o = goN tk2 (nxtT bf N) 1 (49 :: (stp (pS 48) W o).1) s v (stp (pS 48) W o).2 := fun tk2 e2 => by rw [stB, e2, h]; rfl
      refine wp_aload_n dX12_sign_36 rfl ?_
      refine wp_geti dX12_sign_37 fl_RX12_238 rfl (fk_33 hF1) ?_
      rw [h45, hs]
      refine wp_bipush (v := 43) dX12_sign_40 (by decide) ?_
      refine wp_icmp_eq (tgt := 54) dX12_sign_42 (by decide) (fun h42 => absurd h42 (by decide)) (fun _ => ?_)
      refine wp_aload_n dX12_sign_45 rfl ?_
      refine wp_geti dX12_sign_46 fl_RX12_238 rfl (fk_33 hF1) ?_
      rw [h45, hs]
      refine wp_bipush (v := 45) dX12_sign_49 (by decide) ?_
      refine wp_icmp_ne (tgt := 58) dX12_sign_51 (by decide) (fun _ => ?_) (fun h51 => absurd h51 (by decide))
      refine wp_iconst (v := 0) dX12_sign_58 (by decide) ?_
      refine wp_istore_n dX12_sign_59 (by decide) ?_
      refine wp_aload_n dX12_sign_60 rfl ?_
      refine wp_iload_n dX12_sign_61 rfl ?_
      refine wp_if_eq (tgt := 70) dX12_sign_62 (by decide) (fun _ => ?_) (fun h62 => absurd h62 (fun q => q rfl))
      refine wp_bipush (v := 48) dX12_sign_70 (by decide) ?_
      refine wp_callv1 (ci := 12) dX12_sign_72 lk_RX12_297 ok_X12_settle im_X12_settle se_X12_settle rfl rfl (fk_33 hF1) (Nat.le_of_ble_eq_true rfl) (Nat.le_of_ble_eq_true rfl) ?_
      refine c_X12_settle (l := 48) (by decide) hF W o H1 hM hb (fun H2 hM2 => ?_)
      have hF2 := MR_fix hF hM2
      have hb2 := stp_RB (p := pS 48) hb
      have q45 := hM2.2.2.1.1.trans hs
      refine wp_aload_n dX12_sign_75 rfl ?_
      refine wp_aload_n dX12_sign_76 rfl ?_
      refine wp_geti dX12_sign_77 fl_RX12_238 rfl (fk_33 hF2) ?_
      rw [q45]
      refine wp_bipush (v := 43) dX12_sign_80 (by decide) ?_
      refine wp_icmp_ne (tgt := 90) dX12_sign_82 (by decide) (fun _ => ?_) (fun h82 => absurd h82 (by decide))
      refine wp_aload_n dX12_sign_90 rfl ?_
      refine wp_geti dX12_sign_91 fl_RX12_238 rfl (fk_33 hF2) ?_
      rw [q45]
      refine wp_bipush (v := 45) dX12_sign_94 (by decide) ?_
      refine wp_icmp_ne (tgt := 104) dX12_sign_96 (by decide) (fun _ => ?_) (fun h96 => absurd h96 (by decide))
      refine wp_aload_n dX12_sign_104 rfl ?_
      refine wp_geti dX12_sign_105 fl_RX12_238 rfl (fk_33 hF2) ?_
      rw [q45]
      refine wp_bipush (v := 42) dX12_sign_108 (by decide) ?_
      refine wp_icmp_ne (tgt := 118) dX12_sign_110 (by decide) (fun _ => ?_) (fun h110 => absurd h110 (by decide))
      refine wp_bipush (v := 49) dX12_sign_118 (by decide) ?_
      refine wp_callv1 (ci := 12) dX12_sign_120 lk_RX12_320 ok_X12_hold im_X12_hold se_X12_hold rfl rfl (fk_33 hF2) (Nat.le_of_ble_eq_true rfl) (Nat.le_of_ble_eq_true rfl) ?_
      refine c_X12_hold (x := 49) (by decide) hF hM2 (by have := hb2.2.1; omega) (fun H3 hM3 => ?_)
      have hF3 := MR_fix hF hM3
      refine wp_aload_n dX12_sign_123 rfl ?_
      refine wp_callv0 (ci := 12) dX12_sign_124 lk_RX12_317 ok_X12_next im_X12_next se_X12_next rfl rfl (fk_33 hF3) (Nat.le_of_ble_eq_true rfl) (Nat.le_of_ble_eq_true rfl) ?_
      refine wp_deep (d := 0 + 1) (by omega) (c_nextM hF hM3 (by omega) h8 (fun H4 hM4 => ?_))
      refine wp_iconst (v := 1) dX12_sign_127 (by decide) ?_
      refine wp_ireturn rfl dX12_sign_128 ?_
      exact hq1 1 _ _ _ hst H4 hM4
  have fail : stB (tkA bf N) (nxtT bf N) W s v o = .inl (2, s) → Wp mX12_sign (d + 3) 0 0 358 [some (.ref 33), none] [] H1 Q := by
    intro hst
    refine wp_aload_n dX12_sign_358 rfl ?_
    refine wp_iconst (v := 2) dX12_sign_359 (by decide) ?_
    refine wp_callv1 (ci := 12) dX12_sign_360 lk_RX12_308 ok_X12_wrong im_X12_wrong se_X12_wrong rfl rfl (fk_33 hF1) (Nat.le_of_ble_eq_true rfl) (Nat.le_of_ble_eq_true rfl) ?_
    refine c_X12_wrong (k := 2) (by decide) (by decide) hF hM (fun H' hb' => ?_)
    rw [if_neg h8] at hb'
    refine wp_iconst (v := 2) dX12_sign_363 (by decide) ?_
    refine wp_ireturn rfl dX12_sign_364 ?_
    exact hq2 _ hst H' hb'
  have f156 : (tkA bf N s = 61 ∨ tkA bf N s = 60 ∨ tkA bf N s = 62) → Wp mX12_sign (d + 3) 0 0 156 [some (.ref 33), none] [] H1 Q := by
    intro h
    have hst1 : cmpT (stp (pS 46) W o).1 = true → stB (tkA bf N) (nxtT bf N) W s v o = .inl (2, s) := fun hc => by rcases h with h | h | h <;> (rw [stB, h]; show (if cmpT (stp (pS 46) W o).1 = true then _ else _) = _; rw [if_pos hc])
    have hst0 : cmpT (stp (pS 46) W o).1 = false → ∀ tk2 : Nat → Nat, tk2 s = tkA bf N s → stB tk2 (nxtT bf N) W s v o = goN tk2 (nxtT bf N) 1 (opc (tkA bf N s) :: (stp (pS 46) W o).1) s v (stp (pS 46) W o).2 := fun hc tk2 e2 => by rcases h with h | h | h <;> (rw [stB, e2, h]; show (if cmpT (stp (pS 46) W o).1 = true then _ else _) = _; rw [if_neg (by rw [hc]; decide)])
    have f202 : ∀ (l1 : Int32) H2, MR H bf N s v (stp (pS 46) W o).2 (stp (pS 46) W o).1 H2 → cmpT (stp (pS 46) W o).1 = false → Wp mX12_sign (d + 3) 0 0 202 [some (.ref 33), some (.int l1)] [] H2 Q := by
      intro l1 H2 hM2 hc
      have hF2 := MR_fix hF hM2
      have hb2 := stp_RB (p := pS 46) hb
      have q41 := hM2.2.2.2.2.2.2.2.2.1
      have hst0 := hst0 hc
      rcases h with h | h | h
      · have hs : nI (srt bf N s) = 61 := (g 61 (by decide) (by decide)).mpr h
        have q45 := hM2.2.2.1.1.trans hs
        refine wp_aload_n dX12_sign_202 rfl ?_
        refine wp_geti dX12_sign_203 fl_RX12_250 rfl (fk_33 hF2) ?_
        rw [q41]
        refine wp_if_le (tgt := 211) dX12_sign_206 (by decide) (fun _ => ?_) (fun h206 => absurd h206 (fun q => q (by decide)))
        refine wp_aload_n dX12_sign_211 rfl ?_
        refine wp_aload_n dX12_sign_212 rfl ?_
        refine wp_geti dX12_sign_213 fl_RX12_238 rfl (fk_33 hF2) ?_
        rw [q45]
        refine wp_bipush (v := 61) dX12_sign_216 (by decide) ?_
        refine wp_icmp_ne (tgt := 226) dX12_sign_218 (by decide) (fun h218 => absurd h218 (fun q => q rfl)) (fun _ => ?_)
        refine wp_bipush (v := 43) dX12_sign_221 (by decide) ?_
        refine wp_goto (tgt := 242) dX12_sign_223 (by decide) ?_
        refine wp_callv1 (ci := 12) dX12_sign_242 lk_RX12_320 ok_X12_hold im_X12_hold se_X12_hold rfl rfl (fk_33 hF2) (Nat.le_of_ble_eq_true rfl) (Nat.le_of_ble_eq_true rfl) ?_
        refine c_X12_hold (x := 43) (by decide) hF hM2 (by have := hb2.2.1; omega) (fun H3 hM3 => ?_)
        have hF3 := MR_fix hF hM3
        refine wp_aload_n dX12_sign_245 rfl ?_
        refine wp_callv0 (ci := 12) dX12_sign_246 lk_RX12_317 ok_X12_next im_X12_next se_X12_next rfl rfl (fk_33 hF3) (Nat.le_of_ble_eq_true rfl) (Nat.le_of_ble_eq_true rfl) ?_
        refine wp_deep (d := 0 + 1) (by omega) (c_nextM hF hM3 (by omega) h8 (fun H4 hM4 => ?_))
        refine wp_iconst (v := 1) dX12_sign_249 (by decide) ?_
        refine wp_ireturn rfl dX12_sign_250 ?_
        exact hq1 1 _ _ _ (fun tk2 e2 => by rw [hst0 tk2 e2, h]; rfl) H4 hM4
      · have hs : nI (srt bf N s) = 60 := (g 60 (by decide) (by decide)).mpr h
        have q45 := hM2.2.2.1.1.trans hs
        refine wp_aload_n dX12_sign_202 rfl ?_
        refine wp_geti dX12_sign_203 fl_RX12_250 rfl (fk_33 hF2) ?_
        rw [q41]
        refine wp_if_le (tgt := 211) dX12_sign_206 (by decide) (fun _ => ?_) (fun h206 => absurd h206 (fun q => q (by decide)))
        refine wp_aload_n dX12_sign_211 rfl ?_
        refine wp_aload_n dX12_sign_212 rfl ?_
        refine wp_geti dX12_sign_213 fl_RX12_238 rfl (fk_33 hF2) ?_
        rw [q45]
        refine wp_bipush (v := 61) dX12_sign_216 (by decide) ?_
        refine wp_icmp_ne (tgt := 226) dX12_sign_218 (by decide) (fun _ => ?_) (fun h218 => absurd h218 (by decide))
        refine wp_aload_n dX12_sign_226 rfl ?_
        refine wp_geti dX12_sign_227 fl_RX12_238 rfl (fk_33 hF2) ?_
        rw [q45]
        refine wp_bipush (v := 60) dX12_sign_230 (by decide) ?_
        refine wp_icmp_ne (tgt := 240) dX12_sign_232 (by decide) (fun h232 => absurd h232 (fun q => q rfl)) (fun _ => ?_)
        refine wp_bipush (v := 44) dX12_sign_235 (by decide) ?_
        refine wp_goto (tgt := 242) dX12_sign_237 (by decide) ?_
        refine wp_callv1 (ci := 12) dX12_sign_242 lk_RX12_320 ok_X12_hold im_X12_hold se_X12_hold rfl rfl (fk_33 hF2) (Nat.le_of_ble_eq_true rfl) (Nat.le_of_ble_eq_true rfl) ?_
        refine c_X12_hold (x := 44) (by decide) hF hM2 (by have := hb2.2.1; omega) (fun H3 hM3 => ?_)
        have hF3 := MR_fix hF hM3
        refine wp_aload_n dX12_sign_245 rfl ?_
        refine wp_callv0 (ci := 12) dX12_sign_246 lk_RX12_317 ok_X12_next im_X12_next se_X12_next rfl rfl (fk_33 hF3) (Nat.le_of_ble_eq_true rfl) (Nat.le_of_ble_eq_true rfl) ?_
        refine wp_deep (d := 0 + 1) (by omega) (c_nextM hF hM3 (by omega) h8 (fun H4 hM4 => ?_))
        refine wp_iconst (v := 1) dX12_sign_249 (by decide) ?_
        refine wp_ireturn rfl dX12_sign_250 ?_
        exact hq1 1 _ _ _ (fun tk2 e2 => by rw [hst0 tk2 e2, h]; rfl) H4 hM4
      · have hs : nI (srt bf N s) = 62 := (g 62 (by decide) (by decide)).mpr h
        have q45 := hM2.2.2.1.1.trans hs
        refine wp_aload_n dX12_sign_202 rfl ?_
        refine wp_geti dX12_sign_203 fl_RX12_250 rfl (fk_33 hF2) ?_
        rw [q41]
        refine wp_if_le (tgt := 211) dX12_sign_206 (by decide) (fun _ => ?_) (fun h206 => absurd h206 (fun q => q (by decide)))
        refine wp_aload_n dX12_sign_211 rfl ?_
        refine wp_aload_n dX12_sign_212 rfl ?_
        refine wp_geti dX12_sign_213 fl_RX12_238 rfl (fk_33 hF2) ?_
        rw [q45]
        refine wp_bipush (v := 61) dX12_sign_216 (by decide) ?_
        refine wp_icmp_ne (tgt := 226) dX12_sign_218 (by decide) (fun _ => ?_) (fun h218 => absurd h218 (by decide))
        refine wp_aload_n dX12_sign_226 rfl ?_
        refine wp_geti dX12_sign_227 fl_RX12_238 rfl (fk_33 hF2) ?_
        rw [q45]
        refine wp_bipush (v := 60) dX12_sign_230 (by decide) ?_
        refine wp_icmp_ne (tgt := 240) dX12_sign_232 (by decide) (fun _ => ?_) (fun h232 => absurd h232 (by decide))
        refine wp_bipush (v := 45) dX12_sign_240 (by decide) ?_
        refine wp_callv1 (ci := 12) dX12_sign_242 lk_RX12_320 ok_X12_hold im_X12_hold se_X12_hold rfl rfl (fk_33 hF2) (Nat.le_of_ble_eq_true rfl) (Nat.le_of_ble_eq_true rfl) ?_
        refine c_X12_hold (x := 45) (by decide) hF hM2 (by have := hb2.2.1; omega) (fun H3 hM3 => ?_)
        have hF3 := MR_fix hF hM3
        refine wp_aload_n dX12_sign_245 rfl ?_
        refine wp_callv0 (ci := 12) dX12_sign_246 lk_RX12_317 ok_X12_next im_X12_next se_X12_next rfl rfl (fk_33 hF3) (Nat.le_of_ble_eq_true rfl) (Nat.le_of_ble_eq_true rfl) ?_
        refine wp_deep (d := 0 + 1) (by omega) (c_nextM hF hM3 (by omega) h8 (fun H4 hM4 => ?_))
        refine wp_iconst (v := 1) dX12_sign_249 (by decide) ?_
        refine wp_ireturn rfl dX12_sign_250 ?_
        exact hq1 1 _ _ _ (fun tk2 e2 => by rw [hst0 tk2 e2, h]; rfl) H4 hM4
    have f162 : ∀ H2, MR H bf N s v (stp (pS 46) W o).2 (stp (pS 46) W o).1 H2 → Wp mX12_sign (d + 3) 0 0 162 [some (.ref 33), none] [] H2 Q := by
      intro H2 hM2
      have hb2 := stp_RB (p := pS 46) hb
      have f202' := fun l1 => f202 l1 H2 hM2
      clear f202 hq1
      generalize (stp (pS 46) W o).1 = W2 at *
      generalize (stp (pS 46) W o).2 = o2 at *
      have hF2 := MR_fix hF hM2
      cases W2 with
      | nil =>
        have h50 : hI H2 33 50 = nI 0 := hM2.2.2.2.2.2.2.2.1.1
        refine wp_aload_n dX12_sign_162 rfl ?_
        refine wp_geti dX12_sign_163 fl_RX12_268 rfl (fk_33 hF2) ?_
        rw [h50]
        refine wp_if_ne (tgt := 173) dX12_sign_166 (by decide) (fun h166 => absurd h166 (fun q => q rfl)) (fun _ => ?_)
        refine wp_iconst (v := -1) dX12_sign_169 (by decide) ?_
        refine wp_goto (tgt := 184) dX12_sign_170 (by decide) ?_
        refine wp_istore_n dX12_sign_184 (by decide) ?_
        refine wp_iload_n dX12_sign_185 rfl ?_
        refine wp_bipush (v := 43) dX12_sign_186 (by decide) ?_
        refine wp_icmp_lt (tgt := 202) dX12_sign_188 (by decide) (fun _ => ?_) (fun h188 => absurd h188 (fun q => q (by decide)))
        exact f202' _ rfl
      | cons y W3 =>
        have h50 : hI H2 33 50 = nI (W3.length + 1) := hM2.2.2.2.2.2.2.2.1.1
        have h62 := top_62 hM2
        have hy := hb2.2.2.2 y (List.mem_cons_self ..)
        have b2' : W3.length + 1 ≤ 390 := hb2.2.1
        have h50n : ¬ nI (W3.length + 1) = 0 := fun q => by have := (nI_eq (a := W3.length + 1) (b := 0) (by omega) (by decide)).mp q; omega
        by_cases hc : 43 ≤ y ∧ y ≤ 45
        · have hst : stB (tkA bf N) (nxtT bf N) W s v o = .inl (2, s) := hst1 (show cmpT (y :: W3) = true from decide_eq_true hc)
          have fb : ∀ l1 H', MB H (2, s) H' → Wp mX12_sign (d + 3) 0 0 202 [some (.ref 33), l1] [] H' Q := by
            intro l1 H' hb'
            have hF3 := Fix_eqM hb'.1 hF
            have q41 : hI H' 33 41 = nI 2 := hb'.2.1
            refine wp_aload_n dX12_sign_202 rfl ?_
            refine wp_geti dX12_sign_203 fl_RX12_250 rfl (fk_33 hF3) ?_
            rw [q41]
            refine wp_if_le (tgt := 211) dX12_sign_206 (by decide) (fun h206 => absurd h206 (by decide)) (fun _ => ?_)
            refine wp_iconst (v := 2) dX12_sign_209 (by decide) ?_
            refine wp_ireturn rfl dX12_sign_210 ?_
            exact hq2 _ hst H' hb'
          refine wp_aload_n dX12_sign_162 rfl ?_
          refine wp_geti dX12_sign_163 fl_RX12_268 rfl (fk_33 hF2) ?_
          rw [h50]
          refine wp_if_ne (tgt := 173) dX12_sign_166 (by decide) (fun _ => ?_) (fun h166 => absurd h166 (h50n))
          refine wp_aload_n dX12_sign_173 rfl ?_
          refine wp_geta dX12_sign_174 fl_RX12_108 rfl (fk_33 hF2) (fr_33_49 hF2) ?_
          refine wp_aload_n dX12_sign_177 rfl ?_
          refine wp_geti dX12_sign_178 fl_RX12_268 rfl (fk_33 hF2) ?_
          rw [h50]
          refine wp_iconst (v := 1) dX12_sign_181 (by decide) ?_
          refine wp_isub dX12_sign_182 ?_
          rw [nI_pred]
          refine wp_ialoadN dX12_sign_183 (fk_62 hF2) (by omega) (by decide) ?_
          rw [h62]
          refine wp_istore_n dX12_sign_184 (by decide) ?_
          refine wp_iload_n dX12_sign_185 rfl ?_
          refine wp_bipush (v := 43) dX12_sign_186 (by decide) ?_
          refine wp_icmp_lt (tgt := 202) dX12_sign_188 (by decide) (fun h188 => absurd h188 (nI_nlt (a := y) (b := 43) hc.1 (by omega))) (fun _ => ?_)
          refine wp_iload_n dX12_sign_191 rfl ?_
          refine wp_bipush (v := 45) dX12_sign_192 (by decide) ?_
          refine wp_icmp_gt (tgt := 202) dX12_sign_194 (by decide) (fun h194 => absurd h194 (nI_nlt (a := 45) (b := y) hc.2 (by omega))) (fun _ => ?_)
          refine wp_aload_n dX12_sign_197 rfl ?_
          refine wp_iconst (v := 2) dX12_sign_198 (by decide) ?_
          refine wp_callv1 (ci := 12) dX12_sign_199 lk_RX12_308 ok_X12_wrong im_X12_wrong se_X12_wrong rfl rfl (fk_33 hF2) (Nat.le_of_ble_eq_true rfl) (Nat.le_of_ble_eq_true rfl) ?_
          refine c_X12_wrong (k := 2) (by decide) (by decide) hF hM2 (fun H' hb' => ?_)
          rw [if_neg h8] at hb'
          exact fb _ H' hb'
        · have hc' : cmpT (y :: W3) = false := decide_eq_false hc
          refine wp_aload_n dX12_sign_162 rfl ?_
          refine wp_geti dX12_sign_163 fl_RX12_268 rfl (fk_33 hF2) ?_
          rw [h50]
          refine wp_if_ne (tgt := 173) dX12_sign_166 (by decide) (fun _ => ?_) (fun h166 => absurd h166 (h50n))
          refine wp_aload_n dX12_sign_173 rfl ?_
          refine wp_geta dX12_sign_174 fl_RX12_108 rfl (fk_33 hF2) (fr_33_49 hF2) ?_
          refine wp_aload_n dX12_sign_177 rfl ?_
          refine wp_geti dX12_sign_178 fl_RX12_268 rfl (fk_33 hF2) ?_
          rw [h50]
          refine wp_iconst (v := 1) dX12_sign_181 (by decide) ?_
          refine wp_isub dX12_sign_182 ?_
          rw [nI_pred]
          refine wp_ialoadN dX12_sign_183 (fk_62 hF2) (by omega) (by decide) ?_
          rw [h62]
          refine wp_istore_n dX12_sign_184 (by decide) ?_
          refine wp_iload_n dX12_sign_185 rfl ?_
          refine wp_bipush (v := 43) dX12_sign_186 (by decide) ?_
          refine wp_icmp_lt (tgt := 202) dX12_sign_188 (by decide) (fun h188 => ?_) (fun h188 => ?_)
          · exact f202' _ hc'
          · refine wp_iload_n dX12_sign_191 rfl ?_
            refine wp_bipush (v := 45) dX12_sign_192 (by decide) ?_
            refine wp_icmp_gt (tgt := 202) dX12_sign_194 (by decide) (fun h194 => ?_) (fun h194 => ?_)
            · exact f202' _ hc'
            · exact absurd ⟨Nat.le_of_not_lt (fun z => h188 (nI_lt (a := y) (b := 43) z (by decide))), Nat.le_of_not_lt (fun z => h194 (nI_lt (a := 45) (b := y) z (by omega)))⟩ hc
    refine wp_aload_n dX12_sign_156 rfl ?_
    refine wp_bipush (v := 46) dX12_sign_157 (by decide) ?_
    refine wp_callv1 (ci := 12) dX12_sign_159 lk_RX12_297 ok_X12_settle im_X12_settle se_X12_settle rfl rfl (fk_33 hF1) (Nat.le_of_ble_eq_true rfl) (Nat.le_of_ble_eq_true rfl) ?_
    refine c_X12_settle (l := 46) (by decide) hF W o H1 hM hb (fun H2 hM2 => ?_)
    have hF2 := MR_fix hF hM2
    exact f162 H2 hM2
  have n40 : 1 ≤ tkA bf N s → tkA bf N s ≤ 6 → ¬ (isSum (tkA bf N s) = true) ∧ ¬ (isMul (tkA bf N s) = true) ∧ ¬ (isCmp (tkA bf N s) = true) := fun h1 h2 => ⟨fun q => by have := of_decide_eq_true q; omega, fun q => by have := of_decide_eq_true q; omega, fun q => by have := of_decide_eq_true q; omega⟩
  have f251 : ¬ (isSum (tkA bf N s) = true) → ¬ (isMul (tkA bf N s) = true) → ¬ (isCmp (tkA bf N s) = true) → Wp mX12_sign (d + 3) 0 0 251 [some (.ref 33), none] [] H1 Q := by
    intro n1 n2 n3
    by_cases h4 : tkA bf N s = 4
    · have hst : ∀ tk2 : Nat → Nat, tk2 s = tkA bf N s → stB tk2 (nxtT bf N) W s v o = goN tk2 (nxtT bf N) 0 (42 :: (stp pA W o).1) s v (stp pA W o).2 := fun tk2 e2 => by rw [stB, e2, if_neg n1, if_neg n2, if_neg n3, if_pos h4]
      have f278 : Wp mX12_sign (d + 3) 0 0 278 [some (.ref 33), none] [.int 1] H1 Q := by
        refine wp_istore_n dX12_sign_278 (by decide) ?_
        refine wp_aload_n dX12_sign_279 rfl ?_
        refine wp_iload_n dX12_sign_280 rfl ?_
        refine wp_callv1 (ci := 12) dX12_sign_281 lk_RX12_323 ok_X12_settleOnes im_X12_settleOnes se_X12_settleOnes rfl rfl (fk_33 hF1) (Nat.le_of_ble_eq_true rfl) (Nat.le_of_ble_eq_true rfl) ?_
        refine c_X12_settleOnes (z := true) (Or.inl ⟨rfl, rfl⟩) hF hM hb (fun H2 hM2 => ?_)
        have hF2 := MR_fix hF hM2
        have hb2 := stp_RB (p := pA) hb
        rw [show pO true = pA from rfl] at hM2
        refine wp_aload_n dX12_sign_284 rfl ?_
        refine wp_iload_n dX12_sign_285 rfl ?_
        refine wp_if_eq (tgt := 294) dX12_sign_286 (by decide) (fun h286 => absurd h286 (by decide)) (fun _ => ?_)
        refine wp_bipush (v := 42) dX12_sign_289 (by decide) ?_
        refine wp_goto (tgt := 296) dX12_sign_291 (by decide) ?_
        refine wp_callv1 (ci := 12) dX12_sign_296 lk_RX12_320 ok_X12_hold im_X12_hold se_X12_hold rfl rfl (fk_33 hF2) (Nat.le_of_ble_eq_true rfl) (Nat.le_of_ble_eq_true rfl) ?_
        refine c_X12_hold (x := 42) (by decide) hF hM2 (by have := hb2.2.1; omega) (fun H3 hM3 => ?_)
        have hF3 := MR_fix hF hM3
        refine wp_aload_n dX12_sign_299 rfl ?_
        refine wp_callv0 (ci := 12) dX12_sign_300 lk_RX12_317 ok_X12_next im_X12_next se_X12_next rfl rfl (fk_33 hF3) (Nat.le_of_ble_eq_true rfl) (Nat.le_of_ble_eq_true rfl) ?_
        refine wp_deep (d := 0 + 1) (by omega) (c_nextM hF hM3 (by omega) h8 (fun H4 hM4 => ?_))
        refine wp_iconst (v := 0) dX12_sign_303 (by decide) ?_
        refine wp_ireturn rfl dX12_sign_304 ?_
        exact hq1 0 _ _ _ hst H4 hM4
      refine wp_aload_n dX12_sign_251 rfl ?_
      refine wp_ldc2_w dX12_sign_252 co_RX12_304 ?_
      refine wp_callv1 (ci := 12) dX12_sign_255 lk_RX12_286 ok_X12_isWord im_X12_isWord se_X12_isWord rfl rfl (fk_33 hF1) (Nat.le_of_ble_eq_true rfl) (Nat.le_of_ble_eq_true rfl) ?_
      refine c_X12_isWord hF hM ?_
      refine wp_ifb_ne (tgt := 271) dX12_sign_258 (by decide) (fun _ => ?_) (fun h258 => absurd h258 (fun q => q (w4.mpr h4)))
      refine wp_aload_n dX12_sign_271 rfl ?_
      refine wp_ldc2_w dX12_sign_272 co_RX12_304 ?_
      refine wp_callv1 (ci := 12) dX12_sign_275 lk_RX12_286 ok_X12_isWord im_X12_isWord se_X12_isWord rfl rfl (fk_33 hF1) (Nat.le_of_ble_eq_true rfl) (Nat.le_of_ble_eq_true rfl) ?_
      refine c_X12_isWord hF hM ?_
      rw [bI_t (w4.mpr h4)]
      exact f278
    · by_cases h3 : tkA bf N s = 3
      · have hst : ∀ tk2 : Nat → Nat, tk2 s = tkA bf N s → stB tk2 (nxtT bf N) W s v o = goN tk2 (nxtT bf N) 0 (41 :: (stp (pS 0) W o).1) s v (stp (pS 0) W o).2 := fun tk2 e2 => by rw [stB, e2, if_neg n1, if_neg n2, if_neg n3, if_neg h4, if_pos h3]
        have f278 : Wp mX12_sign (d + 3) 0 0 278 [some (.ref 33), none] [.int 0] H1 Q := by
          refine wp_istore_n dX12_sign_278 (by decide) ?_
          refine wp_aload_n dX12_sign_279 rfl ?_
          refine wp_iload_n dX12_sign_280 rfl ?_
          refine wp_callv1 (ci := 12) dX12_sign_281 lk_RX12_323 ok_X12_settleOnes im_X12_settleOnes se_X12_settleOnes rfl rfl (fk_33 hF1) (Nat.le_of_ble_eq_true rfl) (Nat.le_of_ble_eq_true rfl) ?_
          refine c_X12_settleOnes (z := false) (Or.inr ⟨rfl, rfl⟩) hF hM hb (fun H2 hM2 => ?_)
          have hF2 := MR_fix hF hM2
          have hb2 := stp_RB (p := pS 0) hb
          rw [show pO false = pS 0 from rfl] at hM2
          refine wp_aload_n dX12_sign_284 rfl ?_
          refine wp_iload_n dX12_sign_285 rfl ?_
          refine wp_if_eq (tgt := 294) dX12_sign_286 (by decide) (fun _ => ?_) (fun h286 => absurd h286 (fun q => q rfl))
          refine wp_bipush (v := 41) dX12_sign_294 (by decide) ?_
          refine wp_callv1 (ci := 12) dX12_sign_296 lk_RX12_320 ok_X12_hold im_X12_hold se_X12_hold rfl rfl (fk_33 hF2) (Nat.le_of_ble_eq_true rfl) (Nat.le_of_ble_eq_true rfl) ?_
          refine c_X12_hold (x := 41) (by decide) hF hM2 (by have := hb2.2.1; omega) (fun H3 hM3 => ?_)
          have hF3 := MR_fix hF hM3
          refine wp_aload_n dX12_sign_299 rfl ?_
          refine wp_callv0 (ci := 12) dX12_sign_300 lk_RX12_317 ok_X12_next im_X12_next se_X12_next rfl rfl (fk_33 hF3) (Nat.le_of_ble_eq_true rfl) (Nat.le_of_ble_eq_true rfl) ?_
          refine wp_deep (d := 0 + 1) (by omega) (c_nextM hF hM3 (by omega) h8 (fun H4 hM4 => ?_))
          refine wp_iconst (v := 0) dX12_sign_303 (by decide) ?_
          refine wp_ireturn rfl dX12_sign_304 ?_
          exact hq1 0 _ _ _ hst H4 hM4
        refine wp_aload_n dX12_sign_251 rfl ?_
        refine wp_ldc2_w dX12_sign_252 co_RX12_304 ?_
        refine wp_callv1 (ci := 12) dX12_sign_255 lk_RX12_286 ok_X12_isWord im_X12_isWord se_X12_isWord rfl rfl (fk_33 hF1) (Nat.le_of_ble_eq_true rfl) (Nat.le_of_ble_eq_true rfl) ?_
        refine c_X12_isWord hF hM ?_
        refine wp_ifb_ne (tgt := 271) dX12_sign_258 (by decide) (fun h258 => absurd h258 (fun q => h4 (w4.mp q))) (fun _ => ?_)
        refine wp_aload_n dX12_sign_261 rfl ?_
        refine wp_ldc2_w dX12_sign_262 co_RX12_302 ?_
        refine wp_callv1 (ci := 12) dX12_sign_265 lk_RX12_286 ok_X12_isWord im_X12_isWord se_X12_isWord rfl rfl (fk_33 hF1) (Nat.le_of_ble_eq_true rfl) (Nat.le_of_ble_eq_true rfl) ?_
        refine c_X12_isWord hF hM ?_
        refine wp_ifb_eq (tgt := 305) dX12_sign_268 (by decide) (fun h268 => absurd h268 (fun q => q (w3.mpr h3))) (fun _ => ?_)
        refine wp_aload_n dX12_sign_271 rfl ?_
        refine wp_ldc2_w dX12_sign_272 co_RX12_304 ?_
        refine wp_callv1 (ci := 12) dX12_sign_275 lk_RX12_286 ok_X12_isWord im_X12_isWord se_X12_isWord rfl rfl (fk_33 hF1) (Nat.le_of_ble_eq_true rfl) (Nat.le_of_ble_eq_true rfl) ?_
        refine c_X12_isWord hF hM ?_
        rw [bI_f (fun q => h4 (w4.mp q))]
        exact f278
      · by_cases h5 : tkA bf N s = 41 ∧ 51 ∈ W
        · have hst : ∀ tk2 : Nat → Nat, tk2 s = tkA bf N s → stB tk2 (nxtT bf N) W s v o = goN tk2 (nxtT bf N) 2 (stp (pS 50) (stp (pS 0) W o).1.tail (stp (pS 0) W o).2).1 s v (stp (pS 50) (stp (pS 0) W o).1.tail (stp (pS 0) W o).2).2 := fun tk2 e2 => by rw [stB, e2, if_neg n1, if_neg n2, if_neg n3, if_neg h4, if_neg h3, if_pos h5]
          have hs : nI (srt bf N s) = 41 := (g 41 (by decide) (by decide)).mpr h5.1
          have hb2 := stp_RB (p := pS 0) hb
          have hcl := stp_51 (o := o) h5.2
          have f326 : ∀ H2, MR H bf N s v (stp (pS 0) W o).2 (stp (pS 0) W o).1 H2 → Wp mX12_sign (d + 3) 0 0 326 [some (.ref 33), none] [] H2 Q := by
            intro H2 hM2
            rw [hcl] at hM2 hb2
            have hF2 := MR_fix hF hM2
            have h50 : hI H2 33 50 = nI ((stp (pS 0) W o).1.tail.length + 1) := hM2.2.2.2.2.2.2.2.1.1
            have h51 : hI H2 33 51 = nI (deepW (stp (pS 0) W o).1.tail + 1) := hM2.2.2.2.2.2.2.2.1.2.2
            have hM3 := MR_off hM2 (H2 := sI (sI H2 33 50 (nI (stp (pS 0) W o).1.tail.length)) 33 51 (nI (deepW (stp (pS 0) W o).1.tail))) (by rw [if_pos (by decide)])
            have hb3 : RB9 (stp (pS 0) W o).2 (stp (pS 0) W o).1.tail := ⟨by have : (stp (pS 0) W o).2.length + ((stp (pS 0) W o).1.tail.length + 1) ≤ 600 := hb2.1; omega, by have : (stp (pS 0) W o).1.tail.length + 1 ≤ 390 := hb2.2.1; omega, by have : deepW (stp (pS 0) W o).1.tail + 1 ≤ 8 := hb2.2.2.1; omega, fun y hy => hb2.2.2.2 y (List.mem_cons_of_mem _ hy)⟩
            have hF3 := MR_fix hF hM3
            refine wp_aload_n dX12_sign_326 rfl ?_
            refine wp_dup dX12_sign_327 rfl ?_
            refine wp_geti dX12_sign_328 fl_RX12_268 rfl (fk_33 hF2) ?_
            rw [h50]
            refine wp_iconst (v := 1) dX12_sign_331 (by decide) ?_
            refine wp_isub dX12_sign_332 ?_
            rw [nI_pred]
            refine wp_puti dX12_sign_333 fl_RX12_268 (mp_12_50 _ _) rfl (fk_33 hF2) ?_
            refine wp_aload_n dX12_sign_336 rfl ?_
            refine wp_dup dX12_sign_337 rfl ?_
            refine wp_geti dX12_sign_338 fl_RX12_271 rfl (fk_33 (Fix_sI hF2)) ?_
            rw [hI_sI', if_neg (by omega), h51]
            refine wp_iconst (v := 1) dX12_sign_341 (by decide) ?_
            refine wp_isub dX12_sign_342 ?_
            rw [nI_pred]
            refine wp_puti dX12_sign_343 fl_RX12_271 (mp_12_51 _ _) rfl (fk_33 (Fix_sI hF2)) ?_
            refine wp_aload_n dX12_sign_346 rfl ?_
            refine wp_callv0 (ci := 12) dX12_sign_347 lk_RX12_317 ok_X12_next im_X12_next se_X12_next rfl rfl (fk_33 (Fix_sI (Fix_sI hF2))) (Nat.le_of_ble_eq_true rfl) (Nat.le_of_ble_eq_true rfl) ?_
            refine wp_deep (d := 0 + 1) (by omega) (c_nextM hF hM3 (by omega) h8 (fun H4 hM4 => ?_))
            have hF4 := MR_fix hF hM4
            refine wp_aload_n dX12_sign_350 rfl ?_
            refine wp_bipush (v := 50) dX12_sign_351 (by decide) ?_
            refine wp_callv1 (ci := 12) dX12_sign_353 lk_RX12_297 ok_X12_settle im_X12_settle se_X12_settle rfl rfl (fk_33 hF4) (Nat.le_of_ble_eq_true rfl) (Nat.le_of_ble_eq_true rfl) ?_
            refine c_X12_settle (l := 50) (by decide) hF _ _ H4 hM4 hb3 (fun H5 hM5 => ?_)
            refine wp_iconst (v := 2) dX12_sign_356 (by decide) ?_
            refine wp_ireturn rfl dX12_sign_357 ?_
            exact hq1 2 _ _ _ hst H5 hM5
          refine wp_aload_n dX12_sign_251 rfl ?_
          refine wp_ldc2_w dX12_sign_252 co_RX12_304 ?_
          refine wp_callv1 (ci := 12) dX12_sign_255 lk_RX12_286 ok_X12_isWord im_X12_isWord se_X12_isWord rfl rfl (fk_33 hF1) (Nat.le_of_ble_eq_true rfl) (Nat.le_of_ble_eq_true rfl) ?_
          refine c_X12_isWord hF hM ?_
          refine wp_ifb_ne (tgt := 271) dX12_sign_258 (by decide) (fun h258 => absurd h258 (fun q => h4 (w4.mp q))) (fun _ => ?_)
          refine wp_aload_n dX12_sign_261 rfl ?_
          refine wp_ldc2_w dX12_sign_262 co_RX12_302 ?_
          refine wp_callv1 (ci := 12) dX12_sign_265 lk_RX12_286 ok_X12_isWord im_X12_isWord se_X12_isWord rfl rfl (fk_33 hF1) (Nat.le_of_ble_eq_true rfl) (Nat.le_of_ble_eq_true rfl) ?_
          refine c_X12_isWord hF hM ?_
          refine wp_ifb_eq (tgt := 305) dX12_sign_268 (by decide) (fun _ => ?_) (fun h268 => absurd h268 (fun q => h3 (w3.mp q)))
          refine wp_aload_n dX12_sign_305 rfl ?_
          refine wp_geti dX12_sign_306 fl_RX12_238 rfl (fk_33 hF1) ?_
          rw [h45, hs]
          refine wp_bipush (v := 41) dX12_sign_309 (by decide) ?_
          refine wp_icmp_ne (tgt := 358) dX12_sign_311 (by decide) (fun h311 => absurd h311 (fun q => q rfl)) (fun _ => ?_)
          refine wp_aload_n dX12_sign_314 rfl ?_
          refine wp_callv0 (ci := 12) dX12_sign_315 lk_RX12_280 ok_X12_isOpen im_X12_isOpen se_X12_isOpen rfl rfl (fk_33 hF1) (Nat.le_of_ble_eq_true rfl) (Nat.le_of_ble_eq_true rfl) ?_
          refine c_X12_isOpen hF hM hb ?_
          refine wp_ifb_eq (tgt := 358) dX12_sign_318 (by decide) (fun h318 => absurd h318 (fun q => q h5.2)) (fun _ => ?_)
          refine wp_aload_n dX12_sign_321 rfl ?_
          refine wp_iconst (v := 0) dX12_sign_322 (by decide) ?_
          refine wp_callv1 (ci := 12) dX12_sign_323 lk_RX12_297 ok_X12_settle im_X12_settle se_X12_settle rfl rfl (fk_33 hF1) (Nat.le_of_ble_eq_true rfl) (Nat.le_of_ble_eq_true rfl) ?_
          refine c_X12_settle (l := 0) (by decide) hF W o H1 hM hb (fun H2 hM2 => ?_)
          have hF2 := MR_fix hF hM2
          exact f326 H2 hM2
        · have hst : stB (tkA bf N) (nxtT bf N) W s v o = .inl (2, s) := by rw [stB, if_neg n1, if_neg n2, if_neg n3, if_neg h4, if_neg h3, if_neg h5]
          refine wp_aload_n dX12_sign_251 rfl ?_
          refine wp_ldc2_w dX12_sign_252 co_RX12_304 ?_
          refine wp_callv1 (ci := 12) dX12_sign_255 lk_RX12_286 ok_X12_isWord im_X12_isWord se_X12_isWord rfl rfl (fk_33 hF1) (Nat.le_of_ble_eq_true rfl) (Nat.le_of_ble_eq_true rfl) ?_
          refine c_X12_isWord hF hM ?_
          refine wp_ifb_ne (tgt := 271) dX12_sign_258 (by decide) (fun h258 => absurd h258 (fun q => h4 (w4.mp q))) (fun _ => ?_)
          refine wp_aload_n dX12_sign_261 rfl ?_
          refine wp_ldc2_w dX12_sign_262 co_RX12_302 ?_
          refine wp_callv1 (ci := 12) dX12_sign_265 lk_RX12_286 ok_X12_isWord im_X12_isWord se_X12_isWord rfl rfl (fk_33 hF1) (Nat.le_of_ble_eq_true rfl) (Nat.le_of_ble_eq_true rfl) ?_
          refine c_X12_isWord hF hM ?_
          refine wp_ifb_eq (tgt := 305) dX12_sign_268 (by decide) (fun _ => ?_) (fun h268 => absurd h268 (fun q => h3 (w3.mp q)))
          refine wp_aload_n dX12_sign_305 rfl ?_
          refine wp_geti dX12_sign_306 fl_RX12_238 rfl (fk_33 hF1) ?_
          rw [h45]
          refine wp_bipush (v := 41) dX12_sign_309 (by decide) ?_
          refine wp_icmp_ne (tgt := 358) dX12_sign_311 (by decide) (fun h311 => ?_) (fun h311 => ?_)
          · exact fail hst
          · refine wp_aload_n dX12_sign_314 rfl ?_
            refine wp_callv0 (ci := 12) dX12_sign_315 lk_RX12_280 ok_X12_isOpen im_X12_isOpen se_X12_isOpen rfl rfl (fk_33 hF1) (Nat.le_of_ble_eq_true rfl) (Nat.le_of_ble_eq_true rfl) ?_
            refine c_X12_isOpen hF hM hb ?_
            refine wp_ifb_eq (tgt := 358) dX12_sign_318 (by decide) (fun h318 => ?_) (fun h318 => ?_)
            · exact fail hst
            · exact absurd ⟨(g 41 (by decide) (by decide)).mp h311, h318⟩ h5
  have f129 : ¬ (tkA bf N s = 43 ∨ tkA bf N s = 45 ∨ tkA bf N s = 42 ∨ tkA bf N s = 47) → Wp mX12_sign (d + 3) 0 0 129 [some (.ref 33), none] [] H1 Q := by
    intro hn
    refine wp_aload_n dX12_sign_129 rfl ?_
    refine wp_geti dX12_sign_130 fl_RX12_238 rfl (fk_33 hF1) ?_
    rw [h45]
    refine wp_bipush (v := 61) dX12_sign_133 (by decide) ?_
    refine wp_icmp_eq (tgt := 156) dX12_sign_135 (by decide) (fun h135 => ?_) (fun h135 => ?_)
    · first
          | exact f156 (Or.inl ((g 61 (by decide) (by decide)).mp h135))
          | exact f156 (Or.inr (Or.inl ((g 60 (by decide) (by decide)).mp h144)))
          | exact f156 (Or.inr (Or.inr ((g 62 (by decide) (by decide)).mp h153)))
    · refine wp_aload_n dX12_sign_138 rfl ?_
      refine wp_geti dX12_sign_139 fl_RX12_238 rfl (fk_33 hF1) ?_
      rw [h45]
      refine wp_bipush (v := 60) dX12_sign_142 (by decide) ?_
      refine wp_icmp_eq (tgt := 156) dX12_sign_144 (by decide) (fun h144 => ?_) (fun h144 => ?_)
      · first
            | exact f156 (Or.inl ((g 61 (by decide) (by decide)).mp h135))
            | exact f156 (Or.inr (Or.inl ((g 60 (by decide) (by decide)).mp h144)))
            | exact f156 (Or.inr (Or.inr ((g 62 (by decide) (by decide)).mp h153)))
      · refine wp_aload_n dX12_sign_147 rfl ?_
        refine wp_geti dX12_sign_148 fl_RX12_238 rfl (fk_33 hF1) ?_
        rw [h45]
        refine wp_bipush (v := 62) dX12_sign_151 (by decide) ?_
        refine wp_icmp_ne (tgt := 251) dX12_sign_153 (by decide) (fun h153 => ?_) (fun h153 => ?_)
        · exact f251 (fun q => hn (by have := of_decide_eq_true q; omega)) (fun q => hn (by have := of_decide_eq_true q; omega)) (fun q => by
              rcases of_decide_eq_true q with z | z | z
              · exact h144 ((g 60 (by decide) (by decide)).mpr z)
              · exact h135 ((g 61 (by decide) (by decide)).mpr z)
              · exact h153 ((g 62 (by decide) (by decide)).mpr z))
        · first
              | exact f156 (Or.inl ((g 61 (by decide) (by decide)).mp h135))
              | exact f156 (Or.inr (Or.inl ((g 60 (by decide) (by decide)).mp h144)))
              | exact f156 (Or.inr (Or.inr ((g 62 (by decide) (by decide)).mp h153)))
  refine wp_aload_n dX12_sign_0 rfl ?_
  refine wp_geti dX12_sign_1 fl_RX12_238 rfl (fk_33 hF1) ?_
  rw [h45]
  refine wp_bipush (v := 43) dX12_sign_4 (by decide) ?_
  refine wp_icmp_eq (tgt := 36) dX12_sign_6 (by decide) (fun h6 => ?_) (fun h6 => ?_)
  · first
        | exact f36 (Or.inl ((g 43 (by decide) (by decide)).mp h6))
        | exact f36 (Or.inr (Or.inl ((g 45 (by decide) (by decide)).mp h15)))
        | exact f36 (Or.inr (Or.inr (Or.inl ((g 42 (by decide) (by decide)).mp h24))))
        | exact f36 (Or.inr (Or.inr (Or.inr ((g 47 (by decide) (by decide)).mp h33))))
  · refine wp_aload_n dX12_sign_9 rfl ?_
    refine wp_geti dX12_sign_10 fl_RX12_238 rfl (fk_33 hF1) ?_
    rw [h45]
    refine wp_bipush (v := 45) dX12_sign_13 (by decide) ?_
    refine wp_icmp_eq (tgt := 36) dX12_sign_15 (by decide) (fun h15 => ?_) (fun h15 => ?_)
    · first
          | exact f36 (Or.inl ((g 43 (by decide) (by decide)).mp h6))
          | exact f36 (Or.inr (Or.inl ((g 45 (by decide) (by decide)).mp h15)))
          | exact f36 (Or.inr (Or.inr (Or.inl ((g 42 (by decide) (by decide)).mp h24))))
          | exact f36 (Or.inr (Or.inr (Or.inr ((g 47 (by decide) (by decide)).mp h33))))
    · refine wp_aload_n dX12_sign_18 rfl ?_
      refine wp_geti dX12_sign_19 fl_RX12_238 rfl (fk_33 hF1) ?_
      rw [h45]
      refine wp_bipush (v := 42) dX12_sign_22 (by decide) ?_
      refine wp_icmp_eq (tgt := 36) dX12_sign_24 (by decide) (fun h24 => ?_) (fun h24 => ?_)
      · first
            | exact f36 (Or.inl ((g 43 (by decide) (by decide)).mp h6))
            | exact f36 (Or.inr (Or.inl ((g 45 (by decide) (by decide)).mp h15)))
            | exact f36 (Or.inr (Or.inr (Or.inl ((g 42 (by decide) (by decide)).mp h24))))
            | exact f36 (Or.inr (Or.inr (Or.inr ((g 47 (by decide) (by decide)).mp h33))))
      · refine wp_aload_n dX12_sign_27 rfl ?_
        refine wp_geti dX12_sign_28 fl_RX12_238 rfl (fk_33 hF1) ?_
        rw [h45]
        refine wp_bipush (v := 47) dX12_sign_31 (by decide) ?_
        refine wp_icmp_ne (tgt := 129) dX12_sign_33 (by decide) (fun h33 => ?_) (fun h33 => ?_)
        · exact f129 (fun q => by
              rcases q with z | z | z | z
              · exact h6 ((g 43 (by decide) (by decide)).mpr z)
              · exact h15 ((g 45 (by decide) (by decide)).mpr z)
              · exact h24 ((g 42 (by decide) (by decide)).mpr z)
              · exact h33 ((g 47 (by decide) (by decide)).mpr z))
        · first
              | exact f36 (Or.inl ((g 43 (by decide) (by decide)).mp h6))
              | exact f36 (Or.inr (Or.inl ((g 45 (by decide) (by decide)).mp h15)))
              | exact f36 (Or.inr (Or.inr (Or.inl ((g 42 (by decide) (by decide)).mp h24))))
              | exact f36 (Or.inr (Or.inr (Or.inr ((g 47 (by decide) (by decide)).mp h33))))
/-- a token that can't be, where a sign is due -/
theorem c_signBad (hF : Fix H) (hM : MR H bf N s v o W H1) (h8 : tkA bf N s = 8) (hq : ∀ H', MB H (1, s) H' → Q (some (.int 2)) H') : Wp mX12_sign (d + 3) 0 0 0 [some (.ref 33), none] [] H1 Q := by
  have hF1 := MR_fix hF hM
  have hB := hM.2.1.1
  have h45 := hM.2.2.1.1
  have t := tk_srt hB (s := s)
  have hs3 := t.2.1.mp h8
  obtain ⟨-, -, w3, w4, w5⟩ := wd_is (s := s) hB
  refine wp_aload_n dX12_sign_0 rfl ?_
  refine wp_geti dX12_sign_1 fl_RX12_238 rfl (fk_33 hF1) ?_
  rw [h45, hs3]
  refine wp_bipush (v := 43) dX12_sign_4 (by decide) ?_
  refine wp_icmp_eq (tgt := 36) dX12_sign_6 (by decide) (fun h6 => absurd h6 (by decide)) (fun _ => ?_)
  refine wp_aload_n dX12_sign_9 rfl ?_
  refine wp_geti dX12_sign_10 fl_RX12_238 rfl (fk_33 hF1) ?_
  rw [h45, hs3]
  refine wp_bipush (v := 45) dX12_sign_13 (by decide) ?_
  refine wp_icmp_eq (tgt := 36) dX12_sign_15 (by decide) (fun h15 => absurd h15 (by decide)) (fun _ => ?_)
  refine wp_aload_n dX12_sign_18 rfl ?_
  refine wp_geti dX12_sign_19 fl_RX12_238 rfl (fk_33 hF1) ?_
  rw [h45, hs3]
  refine wp_bipush (v := 42) dX12_sign_22 (by decide) ?_
  refine wp_icmp_eq (tgt := 36) dX12_sign_24 (by decide) (fun h24 => absurd h24 (by decide)) (fun _ => ?_)
  refine wp_aload_n dX12_sign_27 rfl ?_
  refine wp_geti dX12_sign_28 fl_RX12_238 rfl (fk_33 hF1) ?_
  rw [h45, hs3]
  refine wp_bipush (v := 47) dX12_sign_31 (by decide) ?_
  refine wp_icmp_ne (tgt := 129) dX12_sign_33 (by decide) (fun _ => ?_) (fun h33 => absurd h33 (by decide))
  refine wp_aload_n dX12_sign_129 rfl ?_
  refine wp_geti dX12_sign_130 fl_RX12_238 rfl (fk_33 hF1) ?_
  rw [h45, hs3]
  refine wp_bipush (v := 61) dX12_sign_133 (by decide) ?_
  refine wp_icmp_eq (tgt := 156) dX12_sign_135 (by decide) (fun h135 => absurd h135 (by decide)) (fun _ => ?_)
  refine wp_aload_n dX12_sign_138 rfl ?_
  refine wp_geti dX12_sign_139 fl_RX12_238 rfl (fk_33 hF1) ?_
  rw [h45, hs3]
  refine wp_bipush (v := 60) dX12_sign_142 (by decide) ?_
  refine wp_icmp_eq (tgt := 156) dX12_sign_144 (by decide) (fun h144 => absurd h144 (by decide)) (fun _ => ?_)
  refine wp_aload_n dX12_sign_147 rfl ?_
  refine wp_geti dX12_sign_148 fl_RX12_238 rfl (fk_33 hF1) ?_
  rw [h45, hs3]
  refine wp_bipush (v := 62) dX12_sign_151 (by decide) ?_
  refine wp_icmp_ne (tgt := 251) dX12_sign_153 (by decide) (fun _ => ?_) (fun h153 => absurd h153 (by decide))
  refine wp_aload_n dX12_sign_251 rfl ?_
  refine wp_ldc2_w dX12_sign_252 co_RX12_304 ?_
  refine wp_callv1 (ci := 12) dX12_sign_255 lk_RX12_286 ok_X12_isWord im_X12_isWord se_X12_isWord rfl rfl (fk_33 hF1) (Nat.le_of_ble_eq_true rfl) (Nat.le_of_ble_eq_true rfl) ?_
  refine c_X12_isWord hF hM ?_
  refine wp_ifb_ne (tgt := 271) dX12_sign_258 (by decide) (fun h258 => absurd h258 (fun q => by have := w4.mp q; omega)) (fun _ => ?_)
  refine wp_aload_n dX12_sign_261 rfl ?_
  refine wp_ldc2_w dX12_sign_262 co_RX12_302 ?_
  refine wp_callv1 (ci := 12) dX12_sign_265 lk_RX12_286 ok_X12_isWord im_X12_isWord se_X12_isWord rfl rfl (fk_33 hF1) (Nat.le_of_ble_eq_true rfl) (Nat.le_of_ble_eq_true rfl) ?_
  refine c_X12_isWord hF hM ?_
  refine wp_ifb_eq (tgt := 305) dX12_sign_268 (by decide) (fun _ => ?_) (fun h268 => absurd h268 (fun q => by have := w3.mp q; omega))
  refine wp_aload_n dX12_sign_305 rfl ?_
  refine wp_geti dX12_sign_306 fl_RX12_238 rfl (fk_33 hF1) ?_
  rw [h45, hs3]
  refine wp_bipush (v := 41) dX12_sign_309 (by decide) ?_
  refine wp_icmp_ne (tgt := 358) dX12_sign_311 (by decide) (fun _ => ?_) (fun h311 => absurd h311 (by decide))
  refine wp_aload_n dX12_sign_358 rfl ?_
  refine wp_iconst (v := 2) dX12_sign_359 (by decide) ?_
  refine wp_callv1 (ci := 12) dX12_sign_360 lk_RX12_308 ok_X12_wrong im_X12_wrong se_X12_wrong rfl rfl (fk_33 hF1) (Nat.le_of_ble_eq_true rfl) (Nat.le_of_ble_eq_true rfl) ?_
  refine c_X12_wrong (k := 2) (by decide) (by decide) hF hM (fun H' hb' => ?_)
  rw [if_pos h8] at hb'
  refine wp_iconst (v := 2) dX12_sign_363 (by decide) ?_
  refine wp_ireturn rfl dX12_sign_364 ?_
  exact hq H' hb'
end MS6
