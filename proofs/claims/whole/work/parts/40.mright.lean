/-! ===== the reference's rightOf, right, strength ===== -/
def mlam (H : PH) (n : Nat) (z : Int32) : Prop := ∀ h, h < n → mb z h → hI H 38 h = 0
def mels (H : PH) (m : Nat) (fr tt : Nat → Nat) (i : Nat) (z : Int32) : Prop := ∃ e, e < m ∧ e ≠ i ∧ hI H 47 e = 0 ∧ ¬ (hI H 46 e &&& z) = 0 ∧ ¬ (e ≠ i ∧ mFol H fr tt e i) ∧ ¬ (i ≠ e ∧ mFol H fr tt i e)
def mfrs (H : PH) (fr tt ord : Nat → Nat) (m n i : Nat) (z : Int32) : Prop := ∀ h, h < n → mb z h → mCost H fr tt i ≤ strM H fr tt ord m i h ∧ hI H 33 4 ≤ strM H fr tt ord m i h
noncomputable def rgt (H : PH) (fr tt ord : Nat → Nat) (m n i : Nat) (z : Int32) : Int32 :=
  if z = 0 then 1 else if bI (mdAll H n n z) = 0 then 2 else if bI (mlam H n z) = 0 then 3 else if ¬ bI (mels H m fr tt i z) = 0 then 4 else if bI (mfrs H fr tt ord m n i z) = 0 then 5 else 0
section MR
variable {d m n i : Nat} {fr tt ord pos : Nat → Nat} {z : Int32} {H : PH} {Q : Option Value → PH → Prop}
theorem l_X12_right3 (hF : Fix H) (hM : MJ H m fr tt) (hO : OP H m ord pos) (hn : hI H 33 0 = nI n) (h16' : n ≤ 16) (hi : i < m) (hdi : hI H 47 i = 0) (hq : Q (some (.int (if bI (mfrs H fr tt ord m n i z) = 0 then 5 else 0))) H) : ∀ (f k : Nat), n - k = f → k ≤ n → (∀ h, h < k → mb z h → mCost H fr tt i ≤ strM H fr tt ord m i h ∧ hI H 33 4 ≤ strM H fr tt ord m i h) → Wp mX12_rightOf (d + 4) 0 0 115 [some (.ref 33), some (.int (nI i)), some (.int z), some (.int (nI k))] [] H Q := by
  intro f
  induction f with
  | zero =>
    intro k hf hk hb
    have hin : k = n := by omega
    subst hin
    refine wp_iload_n dX12_rightOf_115 rfl ?_
    refine wp_aload_n dX12_rightOf_116 rfl ?_
    refine wp_geti dX12_rightOf_117 fl_RX12_132 rfl (fk_33 hF) ?_
    refine wp_icmp_ge (tgt := 167) dX12_rightOf_120 (by decide) (fun _ => ?_) (fun h120 => absurd h120 (by rw [hn]; exact fun h => h (nI_le (Nat.le_refl _) (by omega))))
    refine wp_iconst (v := 0) dX12_rightOf_167 (by decide) ?_
    refine wp_ireturn rfl dX12_rightOf_168 ?_
    have hb' : mfrs H fr tt ord m k i z := hb
    rw [if_neg (fun q => bI_eq0.mp q hb')] at hq
    exact hq
  | succ f ih =>
    intro k hf hk hb
    have hlt : k < n := by omega
    refine wp_iload_n dX12_rightOf_115 rfl ?_
    refine wp_aload_n dX12_rightOf_116 rfl ?_
    refine wp_geti dX12_rightOf_117 fl_RX12_132 rfl (fk_33 hF) ?_
    refine wp_icmp_ge (tgt := 167) dX12_rightOf_120 (by decide) (fun h120 => absurd h120 (by rw [hn]; exact nI_ge (by omega) (by omega))) (fun _ => ?_)
    refine wp_iload_n dX12_rightOf_123 rfl ?_
    refine wp_iload_n dX12_rightOf_124 rfl ?_
    refine wp_ishr dX12_rightOf_125 ?_
    refine wp_iconst (v := 1) dX12_rightOf_126 (by decide) ?_
    refine wp_iand dX12_rightOf_127 ?_
    refine wp_iconst (v := 1) dX12_rightOf_128 (by decide) ?_
    refine wp_icmp_ne (tgt := 161) dX12_rightOf_129 (by decide) (fun h129 => ?_) (fun h129 => ?_)
    · refine wp_incN dX12_rightOf_161 rfl (by decide) ?_
      refine wp_goto (tgt := 115) dX12_rightOf_164 (by decide) ?_
      refine ih (k + 1) (by omega) (by omega) (fun g hg => ?_)
      rcases Nat.lt_succ_iff_lt_or_eq.mp hg with q | q
      · exact hb g q
      · subst q; first | exact fun q => absurd q h129 | exact fun _ => ⟨Int32.not_lt.mp h143, h156⟩
    · refine wp_aload_n dX12_rightOf_132 rfl ?_
      refine wp_iload_n dX12_rightOf_133 rfl ?_
      refine wp_iload_n dX12_rightOf_134 rfl ?_
      refine wp_callv2 (ci := 12) dX12_rightOf_135 lk_RX12_207 ok_X12_strengthAt im_X12_strengthAt se_X12_strengthAt rfl rfl (fk_33 hF) (Nat.le_of_ble_eq_true rfl) (Nat.le_of_ble_eq_true rfl) ?_
      refine c_X12_strengthAt hF hM hO hi hdi (by omega) ?_
      refine wp_aload_n dX12_rightOf_138 rfl ?_
      refine wp_iload_n dX12_rightOf_139 rfl ?_
      refine wp_callv1 (ci := 12) dX12_rightOf_140 lk_RX12_204 ok_X12_costOf im_X12_costOf se_X12_costOf rfl rfl (fk_33 hF) (Nat.le_of_ble_eq_true rfl) (Nat.le_of_ble_eq_true rfl) ?_
      refine c_X12_costOf hF hM hi ?_
      refine wp_icmp_lt (tgt := 159) dX12_rightOf_143 (by decide) (fun h143 => ?_) (fun h143 => ?_)
      · refine wp_iconst (v := 5) dX12_rightOf_159 (by decide) ?_
        refine wp_ireturn rfl dX12_rightOf_160 ?_
        rw [if_pos (bI_f (fun q => by
            have q9 := q k hlt h129
            first | exact absurd h143 (Int32.not_lt.mpr q9.1) | exact h156 q9.2))] at hq
        exact hq
      · refine wp_aload_n dX12_rightOf_146 rfl ?_
        refine wp_iload_n dX12_rightOf_147 rfl ?_
        refine wp_iload_n dX12_rightOf_148 rfl ?_
        refine wp_callv2 (ci := 12) dX12_rightOf_149 lk_RX12_207 ok_X12_strengthAt im_X12_strengthAt se_X12_strengthAt rfl rfl (fk_33 hF) (Nat.le_of_ble_eq_true rfl) (Nat.le_of_ble_eq_true rfl) ?_
        refine c_X12_strengthAt hF hM hO hi hdi (by omega) ?_
        refine wp_aload_n dX12_rightOf_152 rfl ?_
        refine wp_geti dX12_rightOf_153 fl_RX12_142 rfl (fk_33 hF) ?_
        refine wp_icmp_ge (tgt := 161) dX12_rightOf_156 (by decide) (fun h156 => ?_) (fun h156 => ?_)
        · refine wp_incN dX12_rightOf_161 rfl (by decide) ?_
          refine wp_goto (tgt := 115) dX12_rightOf_164 (by decide) ?_
          refine ih (k + 1) (by omega) (by omega) (fun g hg => ?_)
          rcases Nat.lt_succ_iff_lt_or_eq.mp hg with q | q
          · exact hb g q
          · subst q; first | exact fun q => absurd q h129 | exact fun _ => ⟨Int32.not_lt.mp h143, h156⟩
        · refine wp_iconst (v := 5) dX12_rightOf_159 (by decide) ?_
          refine wp_ireturn rfl dX12_rightOf_160 ?_
          rw [if_pos (bI_f (fun q => by
              have q9 := q k hlt h129
              first | exact absurd h143 (Int32.not_lt.mpr q9.1) | exact h156 q9.2))] at hq
          exact hq
theorem l_X12_right2 (hF : Fix H) (hM : MJ H m fr tt) (hO : OP H m ord pos) (hn : hI H 33 0 = nI n) (h16' : n ≤ 16) (hi : i < m) (hdi : hI H 47 i = 0) (hq : Q (some (.int (if ¬ bI (mels H m fr tt i z) = 0 then 4 else if bI (mfrs H fr tt ord m n i z) = 0 then 5 else 0))) H) : ∀ (f e : Nat), m - e = f → e ≤ m → (∀ g, g < e → ¬ (g ≠ i ∧ hI H 47 g = 0 ∧ ¬ (hI H 46 g &&& z) = 0 ∧ ¬ (g ≠ i ∧ mFol H fr tt g i) ∧ ¬ (i ≠ g ∧ mFol H fr tt i g))) → Wp mX12_rightOf (d + 4) 0 0 54 [some (.ref 33), some (.int (nI i)), some (.int z), some (.int (nI e))] [] H Q := by
  have hm := hM.1
  have h10' := hM.2.1
  intro f
  induction f with
  | zero =>
    intro e hf he hb
    have hin : e = m := by omega
    subst hin
    refine wp_iload_n dX12_rightOf_54 rfl ?_
    refine wp_aload_n dX12_rightOf_55 rfl ?_
    refine wp_geti dX12_rightOf_56 fl_RX12_159 rfl (fk_33 hF) ?_
    refine wp_icmp_ge (tgt := 113) dX12_rightOf_59 (by decide) (fun _ => ?_) (fun h59 => absurd h59 (by rw [hm]; exact fun h => h (nI_le (Nat.le_refl _) (by omega))))
    refine wp_iconst (v := 0) dX12_rightOf_113 (by decide) ?_
    refine wp_istore_n dX12_rightOf_114 (by decide) ?_
    rw [if_neg (fun q => q (bI_f (fun ⟨g, q1, q2⟩ => hb g q1 q2)))] at hq
    exact l_X12_right3 hF hM hO hn h16' hi hdi hq n 0 (by omega) (by omega) (fun g hg => absurd hg (Nat.not_lt_zero g))
  | succ f ih =>
    intro e hf he hb
    have hlt : e < m := by omega
    refine wp_iload_n dX12_rightOf_54 rfl ?_
    refine wp_aload_n dX12_rightOf_55 rfl ?_
    refine wp_geti dX12_rightOf_56 fl_RX12_159 rfl (fk_33 hF) ?_
    refine wp_icmp_ge (tgt := 113) dX12_rightOf_59 (by decide) (fun h59 => absurd h59 (by rw [hm]; exact nI_ge (by omega) (by omega))) (fun _ => ?_)
    refine wp_iload_n dX12_rightOf_62 rfl ?_
    refine wp_iload_n dX12_rightOf_63 rfl ?_
    refine wp_icmp_eq (tgt := 107) dX12_rightOf_64 (by decide) (fun h64 => ?_) (fun h64 => ?_)
    · refine wp_incN dX12_rightOf_107 rfl (by decide) ?_
      refine wp_goto (tgt := 54) dX12_rightOf_110 (by decide) ?_
      refine ih (e + 1) (by omega) (by omega) (fun g hg => ?_)
      rcases Nat.lt_succ_iff_lt_or_eq.mp hg with q | q
      · exact hb g q
      · subst q
        rintro ⟨q1, q2, q3, q4, q5⟩
        first
          | exact q1 ((nI_eq (by omega) (by omega)).mp h64)
          | exact h73 q2
          | exact q3 h84
          | exact q4 h93
          | exact q5 h102
    · refine wp_aload_n dX12_rightOf_67 rfl ?_
      refine wp_geta dX12_rightOf_68 fl_RX12_60 rfl (fk_33 hF) (fr_33_19 hF) ?_
      refine wp_iload_n dX12_rightOf_71 rfl ?_
      refine wp_baloadN dX12_rightOf_72 (fk_47 hF) (by decide) (by omega) (by decide) ?_
      refine wp_if_ne (tgt := 107) dX12_rightOf_73 (by decide) (fun h73 => ?_) (fun h73 => ?_)
      · refine wp_incN dX12_rightOf_107 rfl (by decide) ?_
        refine wp_goto (tgt := 54) dX12_rightOf_110 (by decide) ?_
        refine ih (e + 1) (by omega) (by omega) (fun g hg => ?_)
        rcases Nat.lt_succ_iff_lt_or_eq.mp hg with q | q
        · exact hb g q
        · subst q
          rintro ⟨q1, q2, q3, q4, q5⟩
          first
            | exact q1 ((nI_eq (by omega) (by omega)).mp h64)
            | exact h73 q2
            | exact q3 h84
            | exact q4 h93
            | exact q5 h102
      · refine wp_aload_n dX12_rightOf_76 rfl ?_
        refine wp_geta dX12_rightOf_77 fl_RX12_57 rfl (fk_33 hF) (fr_33_18 hF) ?_
        refine wp_iload_n dX12_rightOf_80 rfl ?_
        refine wp_ialoadN dX12_rightOf_81 (fk_46 hF) (by omega) (by decide) ?_
        refine wp_iload_n dX12_rightOf_82 rfl ?_
        refine wp_iand dX12_rightOf_83 ?_
        refine wp_if_eq (tgt := 107) dX12_rightOf_84 (by decide) (fun h84 => ?_) (fun h84 => ?_)
        · refine wp_incN dX12_rightOf_107 rfl (by decide) ?_
          refine wp_goto (tgt := 54) dX12_rightOf_110 (by decide) ?_
          refine ih (e + 1) (by omega) (by omega) (fun g hg => ?_)
          rcases Nat.lt_succ_iff_lt_or_eq.mp hg with q | q
          · exact hb g q
          · subst q
            rintro ⟨q1, q2, q3, q4, q5⟩
            first
              | exact q1 ((nI_eq (by omega) (by omega)).mp h64)
              | exact h73 q2
              | exact q3 h84
              | exact q4 h93
              | exact q5 h102
        · refine wp_aload_n dX12_rightOf_87 rfl ?_
          refine wp_iload_n dX12_rightOf_88 rfl ?_
          refine wp_iload_n dX12_rightOf_89 rfl ?_
          refine wp_callv2 (ci := 12) dX12_rightOf_90 lk_RX12_181 ok_X12_isBehind im_X12_isBehind se_X12_isBehind rfl rfl (fk_33 hF) (Nat.le_of_ble_eq_true rfl) (Nat.le_of_ble_eq_true rfl) ?_
          refine c_X12_isBehind hF hM hlt hi ?_
          refine wp_ifb_ne (tgt := 107) dX12_rightOf_93 (by decide) (fun h93 => ?_) (fun h93 => ?_)
          · refine wp_incN dX12_rightOf_107 rfl (by decide) ?_
            refine wp_goto (tgt := 54) dX12_rightOf_110 (by decide) ?_
            refine ih (e + 1) (by omega) (by omega) (fun g hg => ?_)
            rcases Nat.lt_succ_iff_lt_or_eq.mp hg with q | q
            · exact hb g q
            · subst q
              rintro ⟨q1, q2, q3, q4, q5⟩
              first
                | exact q1 ((nI_eq (by omega) (by omega)).mp h64)
                | exact h73 q2
                | exact q3 h84
                | exact q4 h93
                | exact q5 h102
          · refine wp_aload_n dX12_rightOf_96 rfl ?_
            refine wp_iload_n dX12_rightOf_97 rfl ?_
            refine wp_iload_n dX12_rightOf_98 rfl ?_
            refine wp_callv2 (ci := 12) dX12_rightOf_99 lk_RX12_181 ok_X12_isBehind im_X12_isBehind se_X12_isBehind rfl rfl (fk_33 hF) (Nat.le_of_ble_eq_true rfl) (Nat.le_of_ble_eq_true rfl) ?_
            refine c_X12_isBehind hF hM hi hlt ?_
            refine wp_ifb_ne (tgt := 107) dX12_rightOf_102 (by decide) (fun h102 => ?_) (fun h102 => ?_)
            · refine wp_incN dX12_rightOf_107 rfl (by decide) ?_
              refine wp_goto (tgt := 54) dX12_rightOf_110 (by decide) ?_
              refine ih (e + 1) (by omega) (by omega) (fun g hg => ?_)
              rcases Nat.lt_succ_iff_lt_or_eq.mp hg with q | q
              · exact hb g q
              · subst q
                rintro ⟨q1, q2, q3, q4, q5⟩
                first
                  | exact q1 ((nI_eq (by omega) (by omega)).mp h64)
                  | exact h73 q2
                  | exact q3 h84
                  | exact q4 h93
                  | exact q5 h102
            · refine wp_iconst (v := 4) dX12_rightOf_105 (by decide) ?_
              refine wp_ireturn rfl dX12_rightOf_106 ?_
              rw [if_pos (fun q => bI_eq0.mp q ⟨e, hlt, fun q => h64 (by rw [q]), h73, h84, h93, h102⟩)] at hq; exact hq
theorem l_X12_right1 (hF : Fix H) (hM : MJ H m fr tt) (hO : OP H m ord pos) (hn : hI H 33 0 = nI n) (h16' : n ≤ 16) (hi : i < m) (hdi : hI H 47 i = 0) (hq : Q (some (.int (if bI (mlam H n z) = 0 then 3 else if ¬ bI (mels H m fr tt i z) = 0 then 4 else if bI (mfrs H fr tt ord m n i z) = 0 then 5 else 0))) H) : ∀ (f k : Nat), n - k = f → k ≤ n → (∀ h, h < k → mb z h → hI H 38 h = 0) → Wp mX12_rightOf (d + 4) 0 0 18 [some (.ref 33), some (.int (nI i)), some (.int z), some (.int (nI k))] [] H Q := by
  intro f
  induction f with
  | zero =>
    intro k hf hk hb
    have hin : k = n := by omega
    subst hin
    refine wp_iload_n dX12_rightOf_18 rfl ?_
    refine wp_aload_n dX12_rightOf_19 rfl ?_
    refine wp_geti dX12_rightOf_20 fl_RX12_132 rfl (fk_33 hF) ?_
    refine wp_icmp_ge (tgt := 52) dX12_rightOf_23 (by decide) (fun _ => ?_) (fun h23 => absurd h23 (by rw [hn]; exact fun h => h (nI_le (Nat.le_refl _) (by omega))))
    refine wp_iconst (v := 0) dX12_rightOf_52 (by decide) ?_
    refine wp_istore_n dX12_rightOf_53 (by decide) ?_
    have hb' : mlam H k z := hb
    rw [if_neg (fun q => bI_eq0.mp q hb')] at hq
    exact l_X12_right2 hF hM hO hn h16' hi hdi hq m 0 (by omega) (by omega) (fun g hg => absurd hg (Nat.not_lt_zero g))
  | succ f ih =>
    intro k hf hk hb
    have hlt : k < n := by omega
    refine wp_iload_n dX12_rightOf_18 rfl ?_
    refine wp_aload_n dX12_rightOf_19 rfl ?_
    refine wp_geti dX12_rightOf_20 fl_RX12_132 rfl (fk_33 hF) ?_
    refine wp_icmp_ge (tgt := 52) dX12_rightOf_23 (by decide) (fun h23 => absurd h23 (by rw [hn]; exact nI_ge (by omega) (by omega))) (fun _ => ?_)
    refine wp_iload_n dX12_rightOf_26 rfl ?_
    refine wp_iload_n dX12_rightOf_27 rfl ?_
    refine wp_ishr dX12_rightOf_28 ?_
    refine wp_iconst (v := 1) dX12_rightOf_29 (by decide) ?_
    refine wp_iand dX12_rightOf_30 ?_
    refine wp_iconst (v := 1) dX12_rightOf_31 (by decide) ?_
    refine wp_icmp_ne (tgt := 46) dX12_rightOf_32 (by decide) (fun h32 => ?_) (fun h32 => ?_)
    · refine wp_incN dX12_rightOf_46 rfl (by decide) ?_
      refine wp_goto (tgt := 18) dX12_rightOf_49 (by decide) ?_
      refine ih (k + 1) (by omega) (by omega) (fun g hg => ?_)
      rcases Nat.lt_succ_iff_lt_or_eq.mp hg with q | q
      · exact hb g q
      · subst q; first | exact fun q => absurd q h32 | exact fun _ => h41
    · refine wp_aload_n dX12_rightOf_35 rfl ?_
      refine wp_geta dX12_rightOf_36 fl_RX12_32 rfl (fk_33 hF) (fr_33_9 hF) ?_
      refine wp_iload_n dX12_rightOf_39 rfl ?_
      refine wp_baloadN dX12_rightOf_40 (fk_38 hF) (by decide) (by omega) (by decide) ?_
      refine wp_if_eq (tgt := 46) dX12_rightOf_41 (by decide) (fun h41 => ?_) (fun h41 => ?_)
      · refine wp_incN dX12_rightOf_46 rfl (by decide) ?_
        refine wp_goto (tgt := 18) dX12_rightOf_49 (by decide) ?_
        refine ih (k + 1) (by omega) (by omega) (fun g hg => ?_)
        rcases Nat.lt_succ_iff_lt_or_eq.mp hg with q | q
        · exact hb g q
        · subst q; first | exact fun q => absurd q h32 | exact fun _ => h41
      · refine wp_iconst (v := 3) dX12_rightOf_44 (by decide) ?_
        refine wp_ireturn rfl dX12_rightOf_45 ?_
        rw [if_pos (bI_f (fun q => h41 (q k hlt h32)))] at hq; exact hq
theorem c_X12_rightOf (hF : Fix H) (hM : MJ H m fr tt) (hO : OP H m ord pos) (hn : hI H 33 0 = nI n) (h16' : n ≤ 16) (hi : i < m) (hdi : hI H 47 i = 0) (hq : Q (some (.int (rgt H fr tt ord m n i z))) H) : Wp mX12_rightOf (d + 4) 0 0 0 [some (.ref 33), some (.int (nI i)), some (.int z), none] [] H Q := by
  unfold rgt at hq
  refine wp_iload_n dX12_rightOf_0 rfl ?_
  refine wp_if_ne (tgt := 6) dX12_rightOf_1 (by decide) (fun h1 => ?_) (fun h1 => ?_)
  · refine wp_aload_n dX12_rightOf_6 rfl ?_
    refine wp_iload_n dX12_rightOf_7 rfl ?_
    refine wp_callv1 (ci := 12) dX12_rightOf_8 lk_RX12_156 ok_X12_doMatch im_X12_doMatch se_X12_doMatch rfl rfl (fk_33 hF) (Nat.le_of_ble_eq_true rfl) (Nat.le_of_ble_eq_true rfl) ?_
    refine c_X12_doMatch hF hn h16' ?_
    refine wp_ifb_ne (tgt := 16) dX12_rightOf_11 (by decide) (fun h11 => ?_) (fun h11 => ?_)
    · refine wp_iconst (v := 0) dX12_rightOf_16 (by decide) ?_
      refine wp_istore_n dX12_rightOf_17 (by decide) ?_
      rw [if_neg h1, if_neg (fun q => bI_eq0.mp q h11)] at hq
      exact l_X12_right1 hF hM hO hn h16' hi hdi hq n 0 (by omega) (by omega) (fun g hg => absurd hg (Nat.not_lt_zero g))
    · refine wp_iconst (v := 2) dX12_rightOf_14 (by decide) ?_
      refine wp_ireturn rfl dX12_rightOf_15 ?_
      rw [if_neg h1, if_pos (bI_f h11)] at hq; exact hq
  · refine wp_iconst (v := 1) dX12_rightOf_4 (by decide) ?_
    refine wp_ireturn rfl dX12_rightOf_5 ?_
    rw [if_pos h1] at hq; exact hq
theorem c_X12_right (hF : Fix H) (hM : MJ H m fr tt) (hO : OP H m ord pos) (hn : hI H 33 0 = nI n) (h16' : n ≤ 16) {x : Int32} (hq1 : ∀ j, j < m → x = nI j → hI H 47 j = 0 → Q (some (.int (rgt H fr tt ord m n j (hI H 46 j)))) H) (hq2 : ¬ mOn H m x → Q (some (.int (-1))) H) : Wp mX12_right (d + 5) 0 0 0 [some (.ref 33), some (.int x)] [] H Q := by
  have h10' := hM.2.1
  refine wp_aload_n dX12_right_0 rfl ?_
  refine wp_iload_n dX12_right_1 rfl ?_
  refine wp_callv1 (ci := 12) dX12_right_2 lk_RX12_169 ok_X12_isOn im_X12_isOn se_X12_isOn rfl rfl (fk_33 hF) (Nat.le_of_ble_eq_true rfl) (Nat.le_of_ble_eq_true rfl) ?_
  refine c_X12_isOn hF hM.1 hM.2.1 ?_
  refine wp_ifb_eq (tgt := 22) dX12_right_5 (by decide) (fun h5 => ?_) (fun h5 => ?_)
  · refine wp_iconst (v := -1) dX12_right_22 (by decide) ?_
    refine wp_ireturn rfl dX12_right_23 ?_
    first | exact hq1 j hj rfl hd | exact hq2 h5
  · obtain ⟨j, hj, rfl, hd⟩ := h5
    refine wp_aload_n dX12_right_8 rfl ?_
    refine wp_iload_n dX12_right_9 rfl ?_
    refine wp_aload_n dX12_right_10 rfl ?_
    refine wp_geta dX12_right_11 fl_RX12_57 rfl (fk_33 hF) (fr_33_18 hF) ?_
    refine wp_iload_n dX12_right_14 rfl ?_
    refine wp_ialoadN dX12_right_15 (fk_46 hF) (by omega) (by decide) ?_
    refine wp_callv2 (ci := 12) dX12_right_16 lk_RX12_210 ok_X12_rightOf im_X12_rightOf se_X12_rightOf rfl rfl (fk_33 hF) (Nat.le_of_ble_eq_true rfl) (Nat.le_of_ble_eq_true rfl) ?_
    refine c_X12_rightOf hF hM hO hn h16' hj hd ?_
    refine wp_goto (tgt := 23) dX12_right_19 (by decide) ?_
    refine wp_ireturn rfl dX12_right_23 ?_
    first | exact hq1 j hj rfl hd | exact hq2 h5
theorem c_X12_strength (hF : Fix H) (hM : MJ H m fr tt) (hO : OP H m ord pos) (hn : hI H 33 0 = nI n) (h16' : n ≤ 16) {x y : Int32} (hq1 : ∀ j h, j < m → h < n → x = nI j → y = nI h → hI H 47 j = 0 → mb (hI H 46 j) h → Q (some (.int (strM H fr tt ord m j h))) H) (hq2 : (¬ ∃ j h, j < m ∧ h < n ∧ x = nI j ∧ y = nI h ∧ hI H 47 j = 0 ∧ mb (hI H 46 j) h) → Q (some (.int (-1))) H) : Wp mX12_strength (d + 4) 0 0 0 [some (.ref 33), some (.int x), some (.int y)] [] H Q := by
  have h10' := hM.2.1
  refine wp_aload_n dX12_strength_0 rfl ?_
  refine wp_iload_n dX12_strength_1 rfl ?_
  refine wp_callv1 (ci := 12) dX12_strength_2 lk_RX12_169 ok_X12_isOn im_X12_isOn se_X12_isOn rfl rfl (fk_33 hF) (Nat.le_of_ble_eq_true rfl) (Nat.le_of_ble_eq_true rfl) ?_
  refine c_X12_isOn hF hM.1 hM.2.1 ?_
  refine wp_ifb_eq (tgt := 39) dX12_strength_5 (by decide) (fun h5 => ?_) (fun h5 => ?_)
  · refine wp_iconst (v := -1) dX12_strength_39 (by decide) ?_
    refine wp_ireturn rfl dX12_strength_40 ?_
    first
        | exact hq1 j g hj hg rfl rfl hd h27
        | (refine hq2 (fun ⟨j', g', q1, q2, q3, q4, q5, q6⟩ => ?_)
           first
             | exact h5 ⟨j', q1, q3, q5⟩
             | exact h13 ⟨by rw [q4]; exact nI_pos' (by omega), by rw [q4]; exact nI_lt q2 (by omega)⟩
             | (have e9 : j' = j := (nI_eq (by omega) (by omega)).mp q3.symm
                have e8 : g' = g := (nI_eq (by omega) (by omega)).mp q4.symm
                subst e9; subst e8; exact h27 q6))
  · refine wp_aload_n dX12_strength_8 rfl ?_
    refine wp_iload_n dX12_strength_9 rfl ?_
    refine wp_callv1 (ci := 12) dX12_strength_10 lk_RX12_135 ok_X12_isHorse im_X12_isHorse se_X12_isHorse rfl rfl (fk_33 hF) (Nat.le_of_ble_eq_true rfl) (Nat.le_of_ble_eq_true rfl) ?_
    refine c_X12_isHorse hF hn ?_
    refine wp_ifb_eq (tgt := 39) dX12_strength_13 (by decide) (fun h13 => ?_) (fun h13 => ?_)
    · refine wp_iconst (v := -1) dX12_strength_39 (by decide) ?_
      refine wp_ireturn rfl dX12_strength_40 ?_
      first
          | exact hq1 j g hj hg rfl rfl hd h27
          | (refine hq2 (fun ⟨j', g', q1, q2, q3, q4, q5, q6⟩ => ?_)
             first
               | exact h5 ⟨j', q1, q3, q5⟩
               | exact h13 ⟨by rw [q4]; exact nI_pos' (by omega), by rw [q4]; exact nI_lt q2 (by omega)⟩
               | (have e9 : j' = j := (nI_eq (by omega) (by omega)).mp q3.symm
                  have e8 : g' = g := (nI_eq (by omega) (by omega)).mp q4.symm
                  subst e9; subst e8; exact h27 q6))
    · obtain ⟨j, hj, rfl, hd⟩ := h5
      obtain ⟨g, hg, rfl⟩ := in_of (n := n) (by omega) h13
      refine wp_aload_n dX12_strength_16 rfl ?_
      refine wp_geta dX12_strength_17 fl_RX12_57 rfl (fk_33 hF) (fr_33_18 hF) ?_
      refine wp_iload_n dX12_strength_20 rfl ?_
      refine wp_ialoadN dX12_strength_21 (fk_46 hF) (by omega) (by decide) ?_
      refine wp_iload_n dX12_strength_22 rfl ?_
      refine wp_ishr dX12_strength_23 ?_
      refine wp_iconst (v := 1) dX12_strength_24 (by decide) ?_
      refine wp_iand dX12_strength_25 ?_
      refine wp_iconst (v := 1) dX12_strength_26 (by decide) ?_
      refine wp_icmp_ne (tgt := 39) dX12_strength_27 (by decide) (fun h27 => ?_) (fun h27 => ?_)
      · refine wp_iconst (v := -1) dX12_strength_39 (by decide) ?_
        refine wp_ireturn rfl dX12_strength_40 ?_
        first
            | exact hq1 j g hj hg rfl rfl hd h27
            | (refine hq2 (fun ⟨j', g', q1, q2, q3, q4, q5, q6⟩ => ?_)
               first
                 | exact h5 ⟨j', q1, q3, q5⟩
                 | exact h13 ⟨by rw [q4]; exact nI_pos' (by omega), by rw [q4]; exact nI_lt q2 (by omega)⟩
                 | (have e9 : j' = j := (nI_eq (by omega) (by omega)).mp q3.symm
                    have e8 : g' = g := (nI_eq (by omega) (by omega)).mp q4.symm
                    subst e9; subst e8; exact h27 q6))
      · refine wp_aload_n dX12_strength_30 rfl ?_
        refine wp_iload_n dX12_strength_31 rfl ?_
        refine wp_iload_n dX12_strength_32 rfl ?_
        refine wp_callv2 (ci := 12) dX12_strength_33 lk_RX12_207 ok_X12_strengthAt im_X12_strengthAt se_X12_strengthAt rfl rfl (fk_33 hF) (Nat.le_of_ble_eq_true rfl) (Nat.le_of_ble_eq_true rfl) ?_
        refine c_X12_strengthAt hF hM hO hj hd (by omega) ?_
        refine wp_goto (tgt := 40) dX12_strength_36 (by decide) ?_
        refine wp_ireturn rfl dX12_strength_40 ?_
        first
            | exact hq1 j g hj hg rfl rfl hd h27
            | (refine hq2 (fun ⟨j', g', q1, q2, q3, q4, q5, q6⟩ => ?_)
               first
                 | exact h5 ⟨j', q1, q3, q5⟩
                 | exact h13 ⟨by rw [q4]; exact nI_pos' (by omega), by rw [q4]; exact nI_lt q2 (by omega)⟩
                 | (have e9 : j' = j := (nI_eq (by omega) (by omega)).mp q3.symm
                    have e8 : g' = g := (nI_eq (by omega) (by omega)).mp q4.symm
                    subst e9; subst e8; exact h27 q6))
end MR
