/-! ===== the reference's operand, isOpen, settleOnes ===== -/
section MQ2
variable {d : Nat} {H : PH} {Q : Option Value → PH → Prop} {bf : Nat → Int32} {N s v : Nat} {o : OL} {W : List Nat} {H1 : PH}
theorem MR_val {v' : Nat} (hv : v' ≤ 100) (hM : MR H bf N s v o W H1) : MR H bf N s v' o W (sI H1 33 38 (nI v')) := by
  obtain ⟨h1, h2, h3, h4, h5, h6, h7, h8, h9, h10⟩ := hM
  have q33 : ∀ k, k ≠ 38 → hI (sI H1 33 38 (nI v')) 33 k = hI H1 33 k := fun k hk => by rw [hI_sI', if_neg (by omega)]
  have qo : ∀ a k, a ≠ 33 → hI (sI H1 33 38 (nI v')) a k = hI H1 a k := fun a k ha => by rw [hI_sI', if_neg (by omega)]
  exact ⟨eqM_sI h1 (by unfold isMr; omega), MTp_k h2 (q33 44 (by decide)) (fun j => qo 61 j (by decide)), mTok_k h3 (fun k hk => q33 k (by omega)) rfl, h4, by rw [hI_sI', if_pos ⟨rfl, rfl⟩], hv, ⟨by rw [q33 37 (by decide)]; exact h7.1, fun i y hi => by rw [qo 58 i (by decide), qo 59 i (by decide)]; exact h7.2 i y hi⟩, ⟨by rw [q33 50 (by decide)]; exact h8.1, fun i y hi => by rw [qo 62 i (by decide)]; exact h8.2.1 i y hi, by rw [q33 51 (by decide)]; exact h8.2.2⟩, by rw [q33 41 (by decide)]; exact h9, by rw [q33 42 (by decide)]; exact h10⟩
theorem c_X12_operand {u : Nat} (hu : u = 0 ∨ u = 1) (hF : Fix H) (hM : MR H bf N s v o W H1) (h8 : tkA bf N s ≠ 8) (hb : RB9 o W) (hb1 : o.length + W.length + 1 ≤ 600) (hb2 : W.length + 1 ≤ 390)
    (hq1 : ∀ u' W' v' o', (∀ tk2 : Nat → Nat, tk2 s = tkA bf N s → stO tk2 (nxtT bf N) (itmT bf N) (unkT bf N) u W s v o = goN tk2 (nxtT bf N) u' W' s v' o') → ∀ H', MR H bf N (nxtT bf N s) v' o' W' H' → Q (some (.int (nI u'))) H')
    (hq2 : ∀ f, stO (tkA bf N) (nxtT bf N) (itmT bf N) (unkT bf N) u W s v o = .inl f → ∀ H', MB H f H' → Q (some (.int (nI u))) H') : Wp mX12_operand (d + 3) 0 0 0 [some (.ref 33), some (.int (nI u)), none, none, none] [] H1 Q := by
  have hF1 := MR_fix hF hM
  have hB := hM.2.1.1
  have h45 := hM.2.2.1.1
  have hs := srt_lt hB s
  have hsI : ∀ k : Nat, k < 100 → (nI (srt bf N s) = nI k ↔ srt bf N s = k) := fun k hk => nI_eq (by omega) (by omega)
  have t := tk_srt hB (s := s)
  have h51 := hM.2.2.2.2.2.2.2.1.2.2
  have h38 := hM.2.2.2.2.1
  have hv := hM.2.2.2.2.2.1
  have h41 := hM.2.2.2.2.2.2.2.2.1
  have hbd := MR_bd hM
  have hd8 := hb.2.2.1
  refine l_oper1 hF hM (fun kx => ?_)
  by_cases hdp : 8 ≤ deepW W
  · have hst : stO (tkA bf N) (nxtT bf N) (itmT bf N) (unkT bf N) u W s v o = .inl (2, s) := by rw [stO, if_pos hdp]
    refine wp_aload_n dX12_operand_87 rfl ?_
    refine wp_geti dX12_operand_88 fl_RX12_271 rfl (fk_33 hF1) ?_
    rw [h51]
    refine wp_bipush (v := 8) dX12_operand_91 (by decide) ?_
    refine wp_icmp_lt (tgt := 104) dX12_operand_93 (by decide) (fun h93 => absurd h93 (nI_nlt (a := deepW W) (b := 8) hdp (by omega))) (fun _ => ?_)
    refine wp_aload_n dX12_operand_96 rfl ?_
    refine wp_iconst (v := 2) dX12_operand_97 (by decide) ?_
    refine wp_callv1 (ci := 12) dX12_operand_98 lk_RX12_308 ok_X12_wrong im_X12_wrong se_X12_wrong rfl rfl (fk_33 hF1) (Nat.le_of_ble_eq_true rfl) (Nat.le_of_ble_eq_true rfl) ?_
    refine c_X12_wrong (k := 2) (by decide) (by decide) hF hM (fun H' hb' => ?_)
    rw [if_neg h8] at hb'
    refine wp_goto (tgt := 282) dX12_operand_101 (by decide) ?_
    refine wp_iload_n dX12_operand_282 rfl ?_
    refine wp_ireturn rfl dX12_operand_283 ?_
    exact hq2 _ hst H' hb'
  · by_cases h67 : tkA bf N s = 7 ∨ tkA bf N s = 6
    · rw [bI_t h67]
      obtain ⟨n1, n2, n3, n4⟩ := nxt_gt hB hbd.1 (by omega) h8
      -- from 126: k is the NAME's number
      have fromV : ∀ kI : Int32, (tkA bf N s = 7 → kI = 0) → (tkA bf N s = 6 → kI = if nmI (wvI bf s (le bf N s - s)) < 6 then nI (nmI (wvI bf s (le bf N s - s))) else -1) → Wp mX12_operand (d + 3) 0 0 126 [some (.ref 33), some (.int (nI u)), some (.int kx), some (.int 1), some (.int kI)] [] H1 Q := by
        intro kI hk7 hk6
        have endB : ∀ f H', MB H f H' → stO (tkA bf N) (nxtT bf N) (itmT bf N) (unkT bf N) u W s v o = .inl f → Wp mX12_operand (d + 3) 0 0 153 [some (.ref 33), some (.int (nI u)), some (.int kx), some (.int 1), some (.int kI)] [] H' Q := by
          intro f H' hb' hst
          have hF2 := Fix_eqM hb'.1 hF
          have q41 := hb'.2.1
          have q1 := hb'.2.2.1
          have q3 := hb'.2.2.2.1
          refine wp_aload_n dX12_operand_153 rfl ?_
          refine wp_geti dX12_operand_154 fl_RX12_250 rfl (fk_33 hF2) ?_
          rw [q41]
          refine wp_if_le (tgt := 162) dX12_operand_157 (by decide) (fun h157 => absurd h157 (nI_nle (by omega) (by omega))) (fun _ => ?_)
          refine wp_iload_n dX12_operand_160 rfl ?_
          refine wp_ireturn rfl dX12_operand_161 ?_
          exact hq2 f hst H' hb'
        by_cases hv1 : v = 100
        · have hst : stO (tkA bf N) (nxtT bf N) (itmT bf N) (unkT bf N) u W s v o = .inl (2, s) := by rw [stO, if_neg hdp, if_pos h67, if_pos hv1]
          refine wp_aload_n dX12_operand_126 rfl ?_
          refine wp_geti dX12_operand_127 fl_RX12_314 rfl (fk_33 hF1) ?_
          rw [h38, hv1]
          refine wp_bipush (v := 100) dX12_operand_130 (by decide) ?_
          refine wp_icmp_ne (tgt := 143) dX12_operand_132 (by decide) (fun h132 => absurd h132 (fun q => q rfl)) (fun _ => ?_)
          refine wp_aload_n dX12_operand_135 rfl ?_
          refine wp_iconst (v := 2) dX12_operand_136 (by decide) ?_
          refine wp_callv1 (ci := 12) dX12_operand_137 lk_RX12_308 ok_X12_wrong im_X12_wrong se_X12_wrong rfl rfl (fk_33 hF1) (Nat.le_of_ble_eq_true rfl) (Nat.le_of_ble_eq_true rfl) ?_
          refine c_X12_wrong (k := 2) (by decide) (by decide) hF hM (fun H' hb' => ?_)
          rw [if_neg h8] at hb'
          refine wp_goto (tgt := 153) dX12_operand_140 (by decide) ?_
          exact endB _ H' hb' hst
        · have hvn : ¬ nI v = 100 := fun q => hv1 ((nI_eq (a := v) (b := 100) (by omega) (by decide)).mp q)
          by_cases hun : tkA bf N s = 6 ∧ unkT bf N s = true
          · have hst : stO (tkA bf N) (nxtT bf N) (itmT bf N) (unkT bf N) u W s v o = .inl (3, s) := by rw [stO, if_neg hdp, if_pos h67, if_neg hv1, if_pos hun]
            have hkm : kI = -1 := by
              rw [hk6 hun.1, if_neg]
              have : nmI (wvI bf s (le bf N s - s)) = 6 := of_decide_eq_true hun.2
              omega
            subst hkm
            refine wp_aload_n dX12_operand_126 rfl ?_
            refine wp_geti dX12_operand_127 fl_RX12_314 rfl (fk_33 hF1) ?_
            rw [h38]
            refine wp_bipush (v := 100) dX12_operand_130 (by decide) ?_
            refine wp_icmp_ne (tgt := 143) dX12_operand_132 (by decide) (fun _ => ?_) (fun h132 => absurd h132 (hvn))
            refine wp_iload dX12_operand_143 rfl ?_
            refine wp_if_ge (tgt := 153) dX12_operand_145 (by decide) (fun h145 => absurd h145 (by decide)) (fun _ => ?_)
            refine wp_aload_n dX12_operand_148 rfl ?_
            refine wp_iconst (v := 3) dX12_operand_149 (by decide) ?_
            refine wp_callv1 (ci := 12) dX12_operand_150 lk_RX12_308 ok_X12_wrong im_X12_wrong se_X12_wrong rfl rfl (fk_33 hF1) (Nat.le_of_ble_eq_true rfl) (Nat.le_of_ble_eq_true rfl) ?_
            refine c_X12_wrong (k := 3) (by decide) (by decide) hF hM (fun H' hb' => ?_)
            rw [if_neg h8] at hb'
            exact endB _ H' hb' hst
          · have hst : ∀ tk2 : Nat → Nat, tk2 s = tkA bf N s → stO tk2 (nxtT bf N) (itmT bf N) (unkT bf N) u W s v o = goN tk2 (nxtT bf N) 2 (stp (pS 50) W (o ++ [itmT bf N s])).1 s (v + 1) (stp (pS 50) W (o ++ [itmT bf N s])).2 := fun tk2 e2 => by rw [stO, e2, if_neg hdp, if_pos h67, if_neg hv1, if_neg hun]
            have fin : ∀ H2, MR H bf N s v (o ++ [itmT bf N s]) W H2 → Wp mX12_operand (d + 3) 0 0 187 [some (.ref 33), some (.int (nI u)), some (.int kx), some (.int 1), some (.int kI)] [] H2 Q := by
              intro H2 hM2
              have hF2 := MR_fix hF hM2
              have q38 := hM2.2.2.2.2.1
              have hM3 := MR_val (v' := v + 1) (by omega) hM2
              have hbo : RB9 (o ++ [itmT bf N s]) W := ⟨by rw [List.length_append]; show o.length + 1 + W.length ≤ 600; omega, hb.2.1, hb.2.2.1, hb.2.2.2⟩
              refine wp_aload_n dX12_operand_187 rfl ?_
              refine wp_dup dX12_operand_188 rfl ?_
              refine wp_geti dX12_operand_189 fl_RX12_314 rfl (fk_33 hF2) ?_
              rw [q38]
              refine wp_iconst (v := 1) dX12_operand_192 (by decide) ?_
              refine wp_iadd dX12_operand_193 ?_
              rw [nI_1]
              refine wp_puti dX12_operand_194 fl_RX12_314 (mp_12_38 _ _) rfl (fk_33 hF2) ?_
              refine wp_aload_n dX12_operand_197 rfl ?_
              refine wp_callv0 (ci := 12) dX12_operand_198 lk_RX12_317 ok_X12_next im_X12_next se_X12_next rfl rfl (fk_33 (Fix_sI hF2)) (Nat.le_of_ble_eq_true rfl) (Nat.le_of_ble_eq_true rfl) ?_
              refine wp_deep (d := 0 + 1) (by omega) (c_nextM hF hM3 (by omega) h8 (fun H4 hM4 => ?_))
              have hF4 := MR_fix hF hM4
              refine wp_aload_n dX12_operand_201 rfl ?_
              refine wp_bipush (v := 50) dX12_operand_202 (by decide) ?_
              refine wp_callv1 (ci := 12) dX12_operand_204 lk_RX12_297 ok_X12_settle im_X12_settle se_X12_settle rfl rfl (fk_33 hF4) (Nat.le_of_ble_eq_true rfl) (Nat.le_of_ble_eq_true rfl) ?_
              refine c_X12_settle (l := 50) (by decide) hF W _ H4 hM4 hbo (fun H5 hM5 => ?_)
              refine wp_iconst (v := 2) dX12_operand_207 (by decide) ?_
              refine wp_ireturn rfl dX12_operand_208 ?_
              exact hq1 2 _ _ _ hst H5 hM5
            rcases h67 with h7 | h6
            · obtain ⟨c1, c2, c3, c4⟩ := num_cd hB h7
              have h2 := t.1.mp h7
              have hk0 := hk7 h7
              subst hk0
              have h47 : hI H1 33 47 = nI (itmT bf N s).2 := (hM.2.2.1.2.2.2.2 h2).trans c1
              refine wp_aload_n dX12_operand_126 rfl ?_
              refine wp_geti dX12_operand_127 fl_RX12_314 rfl (fk_33 hF1) ?_
              rw [h38]
              refine wp_bipush (v := 100) dX12_operand_130 (by decide) ?_
              refine wp_icmp_ne (tgt := 143) dX12_operand_132 (by decide) (fun _ => ?_) (fun h132 => absurd h132 (hvn))
              refine wp_iload dX12_operand_143 rfl ?_
              refine wp_if_ge (tgt := 153) dX12_operand_145 (by decide) (fun _ => ?_) (fun h145 => absurd h145 (by decide))
              refine wp_aload_n dX12_operand_153 rfl ?_
              refine wp_geti dX12_operand_154 fl_RX12_250 rfl (fk_33 hF1) ?_
              rw [h41]
              refine wp_if_le (tgt := 162) dX12_operand_157 (by decide) (fun _ => ?_) (fun h157 => absurd h157 (by decide))
              refine wp_aload_n dX12_operand_162 rfl ?_
              refine wp_aload_n dX12_operand_163 rfl ?_
              refine wp_geti dX12_operand_164 fl_RX12_238 rfl (fk_33 hF1) ?_
              rw [h45, h2]
              refine wp_iconst (v := 2) dX12_operand_167 (by decide) ?_
              refine wp_icmp_ne (tgt := 175) dX12_operand_168 (by decide) (fun h168 => absurd h168 (fun q => q rfl)) (fun _ => ?_)
              refine wp_iconst (v := 0) dX12_operand_171 (by decide) ?_
              refine wp_goto (tgt := 180) dX12_operand_172 (by decide) ?_
              refine wp_aload_n dX12_operand_180 rfl ?_
              refine wp_geti dX12_operand_181 fl_RX12_235 rfl (fk_33 hF1) ?_
              rw [h47]
              refine wp_callv2 (ci := 12) dX12_operand_184 lk_RX12_274 ok_X12_step im_X12_step se_X12_step rfl rfl (fk_33 hF1) (Nat.le_of_ble_eq_true rfl) (Nat.le_of_ble_eq_true rfl) ?_
              refine c_X12_step (a := 0) (b := (itmT bf N s).2) hF hM (by omega) (fun H2 hM2 => ?_)
              rw [show (0, (itmT bf N s).2) = itmT bf N s from (by rw [← c2])] at hM2
              exact fin H2 hM2
            · have hu9 : unkT bf N s = false := by cases r : unkT bf N s with
                | false => rfl
                | true => exact absurd ⟨h6, r⟩ hun
              have h1 : srt bf N s = 1 := t.2.2.2.2.1.mp (by omega)
              have hnm : nmI (wvI bf s (le bf N s - s)) < 6 := by
                have : nmI (wvI bf s (le bf N s - s)) ≠ 6 := of_decide_eq_false hu9
                have := nm_le (wvI bf s (le bf N s - s))
                omega
              have hit : itmT bf N s = (20 + nmI (wvI bf s (le bf N s - s)), 0) := by unfold itmT; rw [if_neg (by omega)]
              have hk := hk6 h6
              rw [if_pos hnm] at hk
              subst hk
              have h47 : hI H1 33 47 = nI 0 := (hM.2.2.1.2.2.2.1 h1).2
              refine wp_aload_n dX12_operand_126 rfl ?_
              refine wp_geti dX12_operand_127 fl_RX12_314 rfl (fk_33 hF1) ?_
              rw [h38]
              refine wp_bipush (v := 100) dX12_operand_130 (by decide) ?_
              refine wp_icmp_ne (tgt := 143) dX12_operand_132 (by decide) (fun _ => ?_) (fun h132 => absurd h132 (hvn))
              refine wp_iload dX12_operand_143 rfl ?_
              refine wp_if_ge (tgt := 153) dX12_operand_145 (by decide) (fun _ => ?_) (fun h145 => absurd h145 (fun q => q (nI_pos' (by omega))))
              refine wp_aload_n dX12_operand_153 rfl ?_
              refine wp_geti dX12_operand_154 fl_RX12_250 rfl (fk_33 hF1) ?_
              rw [h41]
              refine wp_if_le (tgt := 162) dX12_operand_157 (by decide) (fun _ => ?_) (fun h157 => absurd h157 (by decide))
              refine wp_aload_n dX12_operand_162 rfl ?_
              refine wp_aload_n dX12_operand_163 rfl ?_
              refine wp_geti dX12_operand_164 fl_RX12_238 rfl (fk_33 hF1) ?_
              rw [h45, h1]
              refine wp_iconst (v := 2) dX12_operand_167 (by decide) ?_
              refine wp_icmp_ne (tgt := 175) dX12_operand_168 (by decide) (fun _ => ?_) (fun h168 => absurd h168 (by decide))
              refine wp_bipush (v := 20) dX12_operand_175 (by decide) ?_
              refine wp_iload dX12_operand_177 rfl ?_
              refine wp_iadd dX12_operand_179 ?_
              rw [show (20 : Int32) = nI 20 from rfl, nI_add]
              refine wp_aload_n dX12_operand_180 rfl ?_
              refine wp_geti dX12_operand_181 fl_RX12_235 rfl (fk_33 hF1) ?_
              rw [h47]
              refine wp_callv2 (ci := 12) dX12_operand_184 lk_RX12_274 ok_X12_step im_X12_step se_X12_step rfl rfl (fk_33 hF1) (Nat.le_of_ble_eq_true rfl) (Nat.le_of_ble_eq_true rfl) ?_
              refine c_X12_step (a := 20 + nmI (wvI bf s (le bf N s - s))) (b := 0) hF hM (by omega) (fun H2 hM2 => ?_)
              rw [← hit] at hM2
              exact fin H2 hM2
      rcases h67 with h7 | h6
      · have h2 := t.1.mp h7
        refine wp_aload_n dX12_operand_87 rfl ?_
        refine wp_geti dX12_operand_88 fl_RX12_271 rfl (fk_33 hF1) ?_
        rw [h51]
        refine wp_bipush (v := 8) dX12_operand_91 (by decide) ?_
        refine wp_icmp_lt (tgt := 104) dX12_operand_93 (by decide) (fun _ => ?_) (fun h93 => absurd h93 (fun q => q (nI_lt (a := deepW W) (b := 8) (by omega) (by decide))))
        refine wp_iload_n dX12_operand_104 rfl ?_
        refine wp_if_eq (tgt := 209) dX12_operand_105 (by decide) (fun h105 => absurd h105 (by decide)) (fun _ => ?_)
        refine wp_aload_n dX12_operand_108 rfl ?_
        refine wp_geti dX12_operand_109 fl_RX12_238 rfl (fk_33 hF1) ?_
        rw [h45, h2]
        refine wp_iconst (v := 1) dX12_operand_112 (by decide) ?_
        refine wp_icmp_ne (tgt := 123) dX12_operand_113 (by decide) (fun _ => ?_) (fun h113 => absurd h113 (by decide))
        refine wp_iconst (v := 0) dX12_operand_123 (by decide) ?_
        refine wp_istore dX12_operand_124 (by decide) ?_
        exact fromV 0 (fun _ => rfl) (fun z => by omega)
      · have h1 : srt bf N s = 1 := t.2.2.2.2.1.mp (by omega)
        refine wp_aload_n dX12_operand_87 rfl ?_
        refine wp_geti dX12_operand_88 fl_RX12_271 rfl (fk_33 hF1) ?_
        rw [h51]
        refine wp_bipush (v := 8) dX12_operand_91 (by decide) ?_
        refine wp_icmp_lt (tgt := 104) dX12_operand_93 (by decide) (fun _ => ?_) (fun h93 => absurd h93 (fun q => q (nI_lt (a := deepW W) (b := 8) (by omega) (by decide))))
        refine wp_iload_n dX12_operand_104 rfl ?_
        refine wp_if_eq (tgt := 209) dX12_operand_105 (by decide) (fun h105 => absurd h105 (by decide)) (fun _ => ?_)
        refine wp_aload_n dX12_operand_108 rfl ?_
        refine wp_geti dX12_operand_109 fl_RX12_238 rfl (fk_33 hF1) ?_
        rw [h45, h1]
        refine wp_iconst (v := 1) dX12_operand_112 (by decide) ?_
        refine wp_icmp_ne (tgt := 123) dX12_operand_113 (by decide) (fun h113 => absurd h113 (fun q => q rfl)) (fun _ => ?_)
        refine wp_aload_n dX12_operand_116 rfl ?_
        refine wp_callv0 (ci := 12) dX12_operand_117 lk_RX12_311 ok_X12_named im_X12_named se_X12_named rfl rfl (fk_33 hF1) (Nat.le_of_ble_eq_true rfl) (Nat.le_of_ble_eq_true rfl) ?_
        refine c_X12_named hF hM h1 ?_
        refine wp_goto (tgt := 124) dX12_operand_120 (by decide) ?_
        refine wp_istore dX12_operand_124 (by decide) ?_
        exact fromV _ (fun z => by omega) (fun _ => rfl)
    · rw [bI_f h67]
      have hold1 : ∀ (x u' pc9 : Nat), True := fun _ _ _ => trivial
      by_cases h40 : tkA bf N s = 40
      · obtain ⟨n1, n2, n3, n4⟩ := nxt_gt hB hbd.1 (by omega) h8
        have hst : ∀ tk2 : Nat → Nat, tk2 s = tkA bf N s → stO tk2 (nxtT bf N) (itmT bf N) (unkT bf N) u W s v o = goN tk2 (nxtT bf N) 0 (51 :: W) s v o := fun tk2 e2 => by rw [stO, e2, if_neg hdp, if_neg h67, if_pos h40]
        have hs40 : srt bf N s = 40 := by have := t.2.2.2.2.2.1 (Or.inl (by omega)); omega
        refine wp_aload_n dX12_operand_87 rfl ?_
        refine wp_geti dX12_operand_88 fl_RX12_271 rfl (fk_33 hF1) ?_
        rw [h51]
        refine wp_bipush (v := 8) dX12_operand_91 (by decide) ?_
        refine wp_icmp_lt (tgt := 104) dX12_operand_93 (by decide) (fun _ => ?_) (fun h93 => absurd h93 (fun q => q (nI_lt (a := deepW W) (b := 8) (by omega) (by decide))))
        refine wp_iload_n dX12_operand_104 rfl ?_
        refine wp_if_eq (tgt := 209) dX12_operand_105 (by decide) (fun _ => ?_) (fun h105 => absurd h105 (fun q => q rfl))
        refine wp_aload_n dX12_operand_209 rfl ?_
        refine wp_geti dX12_operand_210 fl_RX12_238 rfl (fk_33 hF1) ?_
        rw [h45, hs40]
        refine wp_bipush (v := 40) dX12_operand_213 (by decide) ?_
        refine wp_icmp_ne (tgt := 230) dX12_operand_215 (by decide) (fun h215 => absurd h215 (fun q => q rfl)) (fun _ => ?_)
        refine wp_aload_n dX12_operand_218 rfl ?_
        refine wp_bipush (v := 51) dX12_operand_219 (by decide) ?_
        refine wp_callv1 (ci := 12) dX12_operand_221 lk_RX12_320 ok_X12_hold im_X12_hold se_X12_hold rfl rfl (fk_33 hF1) (Nat.le_of_ble_eq_true rfl) (Nat.le_of_ble_eq_true rfl) ?_
        refine c_X12_hold (x := 51) (by decide) hF hM (by omega) (fun H2 hM2 => ?_)
        have hF2 := MR_fix hF hM2
        refine wp_aload_n dX12_operand_224 rfl ?_
        refine wp_callv0 (ci := 12) dX12_operand_225 lk_RX12_317 ok_X12_next im_X12_next se_X12_next rfl rfl (fk_33 hF2) (Nat.le_of_ble_eq_true rfl) (Nat.le_of_ble_eq_true rfl) ?_
        refine wp_deep (d := 0 + 1) (by omega) (c_nextM hF hM2 (by omega) h8 (fun H3 hM3 => ?_))
        refine wp_iconst (v := 0) dX12_operand_228 (by decide) ?_
        refine wp_ireturn rfl dX12_operand_229 ?_
        exact hq1 0 _ _ _ hst H3 hM3
      · by_cases h45' : tkA bf N s = 45
        · obtain ⟨n1, n2, n3, n4⟩ := nxt_gt hB hbd.1 (by omega) h8
          have hst : ∀ tk2 : Nat → Nat, tk2 s = tkA bf N s → stO tk2 (nxtT bf N) (itmT bf N) (unkT bf N) u W s v o = goN tk2 (nxtT bf N) 1 (50 :: W) s v o := fun tk2 e2 => by rw [stO, e2, if_neg hdp, if_neg h67, if_neg h40, if_pos h45']
          have hs45 : srt bf N s = 45 := by have := t.2.2.2.2.2.1 (Or.inl (by omega)); omega
          refine wp_aload_n dX12_operand_87 rfl ?_
          refine wp_geti dX12_operand_88 fl_RX12_271 rfl (fk_33 hF1) ?_
          rw [h51]
          refine wp_bipush (v := 8) dX12_operand_91 (by decide) ?_
          refine wp_icmp_lt (tgt := 104) dX12_operand_93 (by decide) (fun _ => ?_) (fun h93 => absurd h93 (fun q => q (nI_lt (a := deepW W) (b := 8) (by omega) (by decide))))
          refine wp_iload_n dX12_operand_104 rfl ?_
          refine wp_if_eq (tgt := 209) dX12_operand_105 (by decide) (fun _ => ?_) (fun h105 => absurd h105 (fun q => q rfl))
          refine wp_aload_n dX12_operand_209 rfl ?_
          refine wp_geti dX12_operand_210 fl_RX12_238 rfl (fk_33 hF1) ?_
          rw [h45, hs45]
          refine wp_bipush (v := 40) dX12_operand_213 (by decide) ?_
          refine wp_icmp_ne (tgt := 230) dX12_operand_215 (by decide) (fun _ => ?_) (fun h215 => absurd h215 (by decide))
          refine wp_aload_n dX12_operand_230 rfl ?_
          refine wp_geti dX12_operand_231 fl_RX12_238 rfl (fk_33 hF1) ?_
          rw [h45, hs45]
          refine wp_bipush (v := 45) dX12_operand_234 (by decide) ?_
          refine wp_icmp_ne (tgt := 251) dX12_operand_236 (by decide) (fun h236 => absurd h236 (fun q => q rfl)) (fun _ => ?_)
          refine wp_aload_n dX12_operand_239 rfl ?_
          refine wp_bipush (v := 50) dX12_operand_240 (by decide) ?_
          refine wp_callv1 (ci := 12) dX12_operand_242 lk_RX12_320 ok_X12_hold im_X12_hold se_X12_hold rfl rfl (fk_33 hF1) (Nat.le_of_ble_eq_true rfl) (Nat.le_of_ble_eq_true rfl) ?_
          refine c_X12_hold (x := 50) (by decide) hF hM (by omega) (fun H2 hM2 => ?_)
          have hF2 := MR_fix hF hM2
          refine wp_aload_n dX12_operand_245 rfl ?_
          refine wp_callv0 (ci := 12) dX12_operand_246 lk_RX12_317 ok_X12_next im_X12_next se_X12_next rfl rfl (fk_33 hF2) (Nat.le_of_ble_eq_true rfl) (Nat.le_of_ble_eq_true rfl) ?_
          refine wp_deep (d := 0 + 1) (by omega) (c_nextM hF hM2 (by omega) h8 (fun H3 hM3 => ?_))
          refine wp_iconst (v := 1) dX12_operand_249 (by decide) ?_
          refine wp_ireturn rfl dX12_operand_250 ?_
          exact hq1 1 _ _ _ hst H3 hM3
        · have g40 : ¬ nI (srt bf N s) = 40 := fun q => by have e := (hsI 40 (by decide)).mp q; have := t.2.2.2.2.2.1 (Or.inr (by omega)); omega
          have g45 : ¬ nI (srt bf N s) = 45 := fun q => by have e := (hsI 45 (by decide)).mp q; have := t.2.2.2.2.2.1 (Or.inr (by omega)); omega
          have wd := (wd_is (s := s) hB).2.2.2.2
          have fail : ¬ (u = 0 ∧ tkA bf N s = 5) → Wp mX12_operand (d + 3) 0 0 277 [some (.ref 33), some (.int (nI u)), some (.int kx), some (.int 0), none] [] H1 Q := by
            intro hn5
            have hst : stO (tkA bf N) (nxtT bf N) (itmT bf N) (unkT bf N) u W s v o = .inl (2, s) := by rw [stO, if_neg hdp, if_neg h67, if_neg h40, if_neg h45', if_neg hn5]
            refine wp_aload_n dX12_operand_277 rfl ?_
            refine wp_iconst (v := 2) dX12_operand_278 (by decide) ?_
            refine wp_callv1 (ci := 12) dX12_operand_279 lk_RX12_308 ok_X12_wrong im_X12_wrong se_X12_wrong rfl rfl (fk_33 hF1) (Nat.le_of_ble_eq_true rfl) (Nat.le_of_ble_eq_true rfl) ?_
            refine c_X12_wrong (k := 2) (by decide) (by decide) hF hM (fun H' hb' => ?_)
            rw [if_neg h8] at hb'
            refine wp_iload_n dX12_operand_282 rfl ?_
            refine wp_ireturn rfl dX12_operand_283 ?_
            exact hq2 _ hst H' hb'
          refine wp_aload_n dX12_operand_87 rfl ?_
          refine wp_geti dX12_operand_88 fl_RX12_271 rfl (fk_33 hF1) ?_
          rw [h51]
          refine wp_bipush (v := 8) dX12_operand_91 (by decide) ?_
          refine wp_icmp_lt (tgt := 104) dX12_operand_93 (by decide) (fun _ => ?_) (fun h93 => absurd h93 (fun q => q (nI_lt (a := deepW W) (b := 8) (by omega) (by decide))))
          refine wp_iload_n dX12_operand_104 rfl ?_
          refine wp_if_eq (tgt := 209) dX12_operand_105 (by decide) (fun _ => ?_) (fun h105 => absurd h105 (fun q => q rfl))
          refine wp_aload_n dX12_operand_209 rfl ?_
          refine wp_geti dX12_operand_210 fl_RX12_238 rfl (fk_33 hF1) ?_
          rw [h45]
          refine wp_bipush (v := 40) dX12_operand_213 (by decide) ?_
          refine wp_icmp_ne (tgt := 230) dX12_operand_215 (by decide) (fun _ => ?_) (fun h215 => absurd h215 (g40))
          refine wp_aload_n dX12_operand_230 rfl ?_
          refine wp_geti dX12_operand_231 fl_RX12_238 rfl (fk_33 hF1) ?_
          rw [h45]
          refine wp_bipush (v := 45) dX12_operand_234 (by decide) ?_
          refine wp_icmp_ne (tgt := 251) dX12_operand_236 (by decide) (fun _ => ?_) (fun h236 => absurd h236 (g45))
          refine wp_iload_n dX12_operand_251 rfl ?_
          refine wp_if_ne (tgt := 277) dX12_operand_252 (by decide) (fun h252 => ?_) (fun h252 => ?_)
          · first
                | exact fail (fun z => h252 (by rw [z.1]; rfl))
                | exact fail (fun z => h262 (wd.mpr z.2))
          · refine wp_aload_n dX12_operand_255 rfl ?_
            refine wp_ldc2_w dX12_operand_256 co_RX12_306 ?_
            refine wp_callv1 (ci := 12) dX12_operand_259 lk_RX12_286 ok_X12_isWord im_X12_isWord se_X12_isWord rfl rfl (fk_33 hF1) (Nat.le_of_ble_eq_true rfl) (Nat.le_of_ble_eq_true rfl) ?_
            refine c_X12_isWord hF hM ?_
            refine wp_ifb_eq (tgt := 277) dX12_operand_262 (by decide) (fun h262 => ?_) (fun h262 => ?_)
            · first
                  | exact fail (fun z => h252 (by rw [z.1]; rfl))
                  | exact fail (fun z => h262 (wd.mpr z.2))
            · refine wp_aload_n dX12_operand_265 rfl ?_
              refine wp_bipush (v := 40) dX12_operand_266 (by decide) ?_
              refine wp_callv1 (ci := 12) dX12_operand_268 lk_RX12_320 ok_X12_hold im_X12_hold se_X12_hold rfl rfl (fk_33 hF1) (Nat.le_of_ble_eq_true rfl) (Nat.le_of_ble_eq_true rfl) ?_
              refine c_X12_hold (x := 40) (by decide) hF hM (by omega) (fun H2 hM2 => ?_)
              have hF2 := MR_fix hF hM2
              refine wp_aload_n dX12_operand_271 rfl ?_
              refine wp_callv0 (ci := 12) dX12_operand_272 lk_RX12_317 ok_X12_next im_X12_next se_X12_next rfl rfl (fk_33 hF2) (Nat.le_of_ble_eq_true rfl) (Nat.le_of_ble_eq_true rfl) ?_
              refine wp_deep (d := 0 + 1) (by omega) (c_nextM hF hM2 (by have := wd.mp h262; omega) h8 (fun H3 hM3 => ?_))
              refine wp_iconst (v := 0) dX12_operand_275 (by decide) ?_
              refine wp_ireturn rfl dX12_operand_276 ?_
              exact hq1 0 _ _ _ (fun tk2 e2 => by rw [stO, e2, if_neg hdp, if_neg h67, if_neg h40, if_neg h45', if_pos ⟨(nI_eq (a := u) (b := 0) (by omega) (by decide)).mp h252, wd.mp h262⟩]) H3 hM3
/-- a token that can't be, where an operand is due -/
theorem c_operBad {u : Nat} (hu : u = 0 ∨ u = 1) (hF : Fix H) (hM : MR H bf N s v o W H1) (h8 : tkA bf N s = 8) (hq : ∀ H', MB H (1, s) H' → Q (some (.int (nI u))) H') : Wp mX12_operand (d + 3) 0 0 0 [some (.ref 33), some (.int (nI u)), none, none, none] [] H1 Q := by
  have hF1 := MR_fix hF hM
  have hB := hM.2.1.1
  have h45 := hM.2.2.1.1
  have t := tk_srt hB (s := s)
  have h51 := hM.2.2.2.2.2.2.2.1.2.2
  have hs3 := t.2.1.mp h8
  have wd := (wd_is (s := s) hB).2.2.2.2
  refine l_oper1 hF hM (fun kx => ?_)
  rw [bI_f (by omega : ¬ (tkA bf N s = 7 ∨ tkA bf N s = 6))]
  have fail : Wp mX12_operand (d + 3) 0 0 277 [some (.ref 33), some (.int (nI u)), some (.int kx), some (.int 0), none] [] H1 Q := by
    refine wp_aload_n dX12_operand_277 rfl ?_
    refine wp_iconst (v := 2) dX12_operand_278 (by decide) ?_
    refine wp_callv1 (ci := 12) dX12_operand_279 lk_RX12_308 ok_X12_wrong im_X12_wrong se_X12_wrong rfl rfl (fk_33 hF1) (Nat.le_of_ble_eq_true rfl) (Nat.le_of_ble_eq_true rfl) ?_
    refine c_X12_wrong (k := 2) (by decide) (by decide) hF hM (fun H' hb' => ?_)
    rw [if_pos h8] at hb'
    refine wp_iload_n dX12_operand_282 rfl ?_
    refine wp_ireturn rfl dX12_operand_283 ?_
    exact hq H' hb'
  refine wp_aload_n dX12_operand_87 rfl ?_
  refine wp_geti dX12_operand_88 fl_RX12_271 rfl (fk_33 hF1) ?_
  rw [h51]
  refine wp_bipush (v := 8) dX12_operand_91 (by decide) ?_
  refine wp_icmp_lt (tgt := 104) dX12_operand_93 (by decide) (fun h93 => ?_) (fun h93 => ?_)
  · refine wp_iload_n dX12_operand_104 rfl ?_
    refine wp_if_eq (tgt := 209) dX12_operand_105 (by decide) (fun _ => ?_) (fun h105 => absurd h105 (fun q => q rfl))
    refine wp_aload_n dX12_operand_209 rfl ?_
    refine wp_geti dX12_operand_210 fl_RX12_238 rfl (fk_33 hF1) ?_
    rw [h45, hs3]
    refine wp_bipush (v := 40) dX12_operand_213 (by decide) ?_
    refine wp_icmp_ne (tgt := 230) dX12_operand_215 (by decide) (fun _ => ?_) (fun h215 => absurd h215 (by decide))
    refine wp_aload_n dX12_operand_230 rfl ?_
    refine wp_geti dX12_operand_231 fl_RX12_238 rfl (fk_33 hF1) ?_
    rw [h45, hs3]
    refine wp_bipush (v := 45) dX12_operand_234 (by decide) ?_
    refine wp_icmp_ne (tgt := 251) dX12_operand_236 (by decide) (fun _ => ?_) (fun h236 => absurd h236 (by decide))
    refine wp_iload_n dX12_operand_251 rfl ?_
    refine wp_if_ne (tgt := 277) dX12_operand_252 (by decide) (fun h252 => ?_) (fun h252 => ?_)
    · exact fail
    · refine wp_aload_n dX12_operand_255 rfl ?_
      refine wp_ldc2_w dX12_operand_256 co_RX12_306 ?_
      refine wp_callv1 (ci := 12) dX12_operand_259 lk_RX12_286 ok_X12_isWord im_X12_isWord se_X12_isWord rfl rfl (fk_33 hF1) (Nat.le_of_ble_eq_true rfl) (Nat.le_of_ble_eq_true rfl) ?_
      refine c_X12_isWord hF hM ?_
      refine wp_ifb_eq (tgt := 277) dX12_operand_262 (by decide) (fun _ => ?_) (fun h262 => absurd h262 (fun z => by have := wd.mp z; omega))
      exact fail
  · refine wp_aload_n dX12_operand_96 rfl ?_
    refine wp_iconst (v := 2) dX12_operand_97 (by decide) ?_
    refine wp_callv1 (ci := 12) dX12_operand_98 lk_RX12_308 ok_X12_wrong im_X12_wrong se_X12_wrong rfl rfl (fk_33 hF1) (Nat.le_of_ble_eq_true rfl) (Nat.le_of_ble_eq_true rfl) ?_
    refine c_X12_wrong (k := 2) (by decide) (by decide) hF hM (fun H' hb' => ?_)
    rw [if_pos h8] at hb'
    refine wp_goto (tgt := 282) dX12_operand_101 (by decide) ?_
    refine wp_iload_n dX12_operand_282 rfl ?_
    refine wp_ireturn rfl dX12_operand_283 ?_
    exact hq H' hb'
end MQ2
