/-! ===== CarriageHire$Teams: strength, freshness, flaws, stand-ins ===== -/
abbrev skp (H : PH) (jo ord : Nat → Nat) (i hh t : Nat) : Prop := ¬ hI H (jo (ord t)) 8 = 0 ∨ (ord t ≠ i ∧ ¬ hb (hI H (jo (ord t)) 7) hh)
def rst (H : PH) (jo fr tt : Nat → Nat) (c : Nat) (v : Int32) : Option Nat → Int32
  | none => v
  | some p => minI (v + maxI (hI H (jo c) 3 - cEnd H jo fr tt p) 0) 1000
def strF (H : PH) (jo fr tt ord : Nat → Nat) (i hh : Nat) : Nat → Nat → Int32 → Option Nat → Int32
  | 0, _, v, _ => v
  | f + 1, t, v, ah => if skp H jo ord i hh t then strF H jo fr tt ord i hh f (t + 1) v ah else if ord t = i then rst H jo fr tt (ord t) v ah else strF H jo fr tt ord i hh f (t + 1) (maxI (rst H jo fr tt (ord t) v ah - cCost H jo fr tt (ord t)) 0) (some (ord t))
section Str
variable {d m n i hh : Nat} {jo fr tt ord ho : Nat → Nat} {H : PH} {Q : Option Value → PH → Prop}
theorem l_X10_strengthAt (hF : Fix H) (hJ : JS H m jo fr tt) (hO : ∀ t, t < m → hI H 8 t = nI (ord t) ∧ ord t < m) (hi : i < m) : ∀ (f t : Nat) (v : Int32) (ah : Option Nat), m - t = f → t ≤ m → (∀ p, ah = some p → p < m) → Q (some (.int (strF H jo fr tt ord i hh f t v ah))) H → Wp mX10_strengthAt (d + 3) 0 0 15 [some (.ref 13), some (.int (nI i)), some (.int (nI hh)), some (.int v), some (va_rf (ah.map jo)), some (.int (nI t)), none, none, none] [] H Q := by
  have hJ0 := hJ
  obtain ⟨hm, h10, -, hk, -⟩ := hJ
  intro f
  induction f with
  | zero =>
    intro t v ah hf ht hah hq
    have hin : t = m := by omega
    subst hin
    refine wp_iload dX10_strengthAt_15 rfl ?_
    refine wp_aload_n dX10_strengthAt_17 rfl ?_
    refine wp_geta dX10_strengthAt_18 fl_RX10_15 rfl (fk_13 hF) (fr_13_1 hF) ?_
    refine wp_geti dX10_strengthAt_21 fl_RX10_77 rfl (fk_5 hF) ?_
    refine wp_icmp_ge (tgt := 146) dX10_strengthAt_24 (by decide) (fun _ => ?_) (fun h24 => absurd h24 (by rw [hm]; exact fun h => h (nI_le (Nat.le_refl _) (by omega))))
    refine wp_iload_n dX10_strengthAt_146 rfl ?_
    refine wp_ireturn rfl dX10_strengthAt_147 ?_
    exact hq
  | succ f ih =>
    intro t v ah hf ht hah hq
    have hlt : t < m := by omega
    have hot := hO t hlt
    have hns : ∀ hd : hI H (jo (ord t)) 8 = 0, (ord t = i ∨ hb (hI H (jo (ord t)) 7) hh) → ¬ skp H jo ord i hh t := fun hd h q => q.elim (fun q => q hd) (fun q => h.elim q.1 q.2)
    have hi9 : nI (ord t) = nI i → ord t = i := fun q => (nI_eq (by omega) (by omega)).mp q
    rw [strF] at hq
    cases ah with
    | none =>
      refine wp_iload dX10_strengthAt_15 rfl ?_
      refine wp_aload_n dX10_strengthAt_17 rfl ?_
      refine wp_geta dX10_strengthAt_18 fl_RX10_15 rfl (fk_13 hF) (fr_13_1 hF) ?_
      refine wp_geti dX10_strengthAt_21 fl_RX10_77 rfl (fk_5 hF) ?_
      refine wp_icmp_ge (tgt := 146) dX10_strengthAt_24 (by decide) (fun h24 => absurd h24 (by rw [hm]; exact nI_ge (by omega) (by omega))) (fun _ => ?_)
      refine wp_aload_n dX10_strengthAt_27 rfl ?_
      refine wp_geta dX10_strengthAt_28 fl_RX10_15 rfl (fk_13 hF) (fr_13_1 hF) ?_
      refine wp_iload dX10_strengthAt_31 rfl ?_
      refine wp_callv1 (ci := 1) dX10_strengthAt_33 lk_RX10_101 ok_X1_numberInOrder im_X1_numberInOrder se_X1_numberInOrder rfl rfl (fk_5 hF) (Nat.le_of_ble_eq_true rfl) (Nat.le_of_ble_eq_true rfl) ?_
      refine c_X1_numberInOrder hF hm h10 hlt ?_
      rw [hot.1]
      refine wp_istore dX10_strengthAt_36 (by decide) ?_
      refine wp_aload_n dX10_strengthAt_38 rfl ?_
      refine wp_geta dX10_strengthAt_39 fl_RX10_15 rfl (fk_13 hF) (fr_13_1 hF) ?_
      refine wp_iload dX10_strengthAt_42 rfl ?_
      refine wp_callv1 (ci := 1) dX10_strengthAt_44 lk_RX10_27 ok_X1_findKept im_X1_findKept se_X1_findKept rfl rfl (fk_5 hF) (Nat.le_of_ble_eq_true rfl) (Nat.le_of_ble_eq_true rfl) ?_
      refine c_X1_findKeptN hF hJ0 hot.2 (fun hd => ?_) (fun hd => ?_)
      · refine wp_astore dX10_strengthAt_47 (by decide) ?_
        refine wp_aload dX10_strengthAt_49 rfl ?_
        refine wp_ifnull (r := some _) (tgt := 140) dX10_strengthAt_51 (by decide) (fun h => by cases h) (fun _ _ => ?_)
        refine wp_iload dX10_strengthAt_54 rfl ?_
        refine wp_iload_n dX10_strengthAt_56 rfl ?_
        refine wp_icmp_eq (tgt := 75) dX10_strengthAt_57 (by decide) (fun h57 => ?_) (fun h57 => ?_)
        · refine wp_aloadN dX10_strengthAt_75 rfl ?_
          refine wp_ifnull (r := none) (tgt := 112) dX10_strengthAt_77 (by decide) (fun _ => ?_) (fun _ h => by cases h)
          refine wp_iload dX10_strengthAt_112 rfl ?_
          refine wp_iload_n dX10_strengthAt_114 rfl ?_
          refine wp_icmp_ne (tgt := 120) dX10_strengthAt_115 (by decide) (fun h115 => ?_) (fun h115 => ?_)
          · refine wp_iload_n dX10_strengthAt_120 rfl ?_
            refine wp_aload_n dX10_strengthAt_121 rfl ?_
            refine wp_geta dX10_strengthAt_122 fl_RX10_15 rfl (fk_13 hF) (fr_13_1 hF) ?_
            refine wp_aload dX10_strengthAt_125 rfl ?_
            refine wp_callv1 (ci := 1) dX10_strengthAt_127 lk_RX10_84 ok_X1_costOf im_X1_costOf se_X1_costOf rfl rfl (fk_5 hF) (Nat.le_of_ble_eq_true rfl) (Nat.le_of_ble_eq_true rfl) ?_
            refine c_X1_costOf hF hJ0 hot.2 ?_
            refine wp_isub dX10_strengthAt_130 ?_
            refine wp_iconst (v := 0) dX10_strengthAt_131 (by decide) ?_
            refine wp_calls2 dX10_strengthAt_132 lk_RX10_88 ok_J9_max_7cf53 st_J9_max_7cf53 (Nat.le_of_ble_eq_true rfl) (Nat.le_of_ble_eq_true rfl) ?_
            refine c_J9_max_7cf53 ?_
            refine wp_istore_n dX10_strengthAt_135 (by decide) ?_
            refine wp_aload dX10_strengthAt_136 rfl ?_
            refine wp_astore dX10_strengthAt_138 (by decide) ?_
            refine wp_incN dX10_strengthAt_140 rfl (by decide) ?_
            refine wp_goto (tgt := 15) dX10_strengthAt_143 (by decide) ?_
            refine wp_forget 6 (wp_forget 7 (wp_forget 8 ?_))
            first
              | (rw [if_pos (Or.inl hd)] at hq; exact ih (t + 1) v none (by omega) (by omega) hah hq)
              | (rw [if_pos (Or.inr ⟨fun q => h57 (by rw [q]), h69⟩)] at hq; exact ih (t + 1) v none (by omega) (by omega) hah hq)
              | (rw [if_neg (hns hd (Or.inr h69)), if_neg (fun q => h115 (by rw [q]))] at hq; exact ih (t + 1) _ (some (ord t)) (by omega) (by omega) (fun p hp => by cases hp; exact hot.2) hq)
              | exact absurd h57 h115
          · refine wp_iload_n dX10_strengthAt_118 rfl ?_
            refine wp_ireturn rfl dX10_strengthAt_119 ?_
            first
                | (rw [if_neg (hns hd (Or.inl (hi9 h57))), if_pos (hi9 h57)] at hq; exact hq)
                | (rw [if_neg (hns hd (Or.inr h69)), if_pos (hi9 h115)] at hq; exact hq)
        · refine wp_aload dX10_strengthAt_60 rfl ?_
          refine wp_geti dX10_strengthAt_62 fl_RX10_50 rfl (hk (ord t) hot.2) ?_
          refine wp_iload_n dX10_strengthAt_65 rfl ?_
          refine wp_calls2 dX10_strengthAt_66 lk_RX10_56 ok_X11_hasBit st_X11_hasBit (Nat.le_of_ble_eq_true rfl) (Nat.le_of_ble_eq_true rfl) ?_
          refine c_X11_hasBit ?_
          refine wp_ifb_ne (tgt := 75) dX10_strengthAt_69 (by decide) (fun h69 => ?_) (fun h69 => ?_)
          · refine wp_aloadN dX10_strengthAt_75 rfl ?_
            refine wp_ifnull (r := none) (tgt := 112) dX10_strengthAt_77 (by decide) (fun _ => ?_) (fun _ h => by cases h)
            refine wp_iload dX10_strengthAt_112 rfl ?_
            refine wp_iload_n dX10_strengthAt_114 rfl ?_
            refine wp_icmp_ne (tgt := 120) dX10_strengthAt_115 (by decide) (fun h115 => ?_) (fun h115 => ?_)
            · refine wp_iload_n dX10_strengthAt_120 rfl ?_
              refine wp_aload_n dX10_strengthAt_121 rfl ?_
              refine wp_geta dX10_strengthAt_122 fl_RX10_15 rfl (fk_13 hF) (fr_13_1 hF) ?_
              refine wp_aload dX10_strengthAt_125 rfl ?_
              refine wp_callv1 (ci := 1) dX10_strengthAt_127 lk_RX10_84 ok_X1_costOf im_X1_costOf se_X1_costOf rfl rfl (fk_5 hF) (Nat.le_of_ble_eq_true rfl) (Nat.le_of_ble_eq_true rfl) ?_
              refine c_X1_costOf hF hJ0 hot.2 ?_
              refine wp_isub dX10_strengthAt_130 ?_
              refine wp_iconst (v := 0) dX10_strengthAt_131 (by decide) ?_
              refine wp_calls2 dX10_strengthAt_132 lk_RX10_88 ok_J9_max_7cf53 st_J9_max_7cf53 (Nat.le_of_ble_eq_true rfl) (Nat.le_of_ble_eq_true rfl) ?_
              refine c_J9_max_7cf53 ?_
              refine wp_istore_n dX10_strengthAt_135 (by decide) ?_
              refine wp_aload dX10_strengthAt_136 rfl ?_
              refine wp_astore dX10_strengthAt_138 (by decide) ?_
              refine wp_incN dX10_strengthAt_140 rfl (by decide) ?_
              refine wp_goto (tgt := 15) dX10_strengthAt_143 (by decide) ?_
              refine wp_forget 6 (wp_forget 7 (wp_forget 8 ?_))
              first
                | (rw [if_pos (Or.inl hd)] at hq; exact ih (t + 1) v none (by omega) (by omega) hah hq)
                | (rw [if_pos (Or.inr ⟨fun q => h57 (by rw [q]), h69⟩)] at hq; exact ih (t + 1) v none (by omega) (by omega) hah hq)
                | (rw [if_neg (hns hd (Or.inr h69)), if_neg (fun q => h115 (by rw [q]))] at hq; exact ih (t + 1) _ (some (ord t)) (by omega) (by omega) (fun p hp => by cases hp; exact hot.2) hq)
                | exact absurd h57 h115
            · refine wp_iload_n dX10_strengthAt_118 rfl ?_
              refine wp_ireturn rfl dX10_strengthAt_119 ?_
              first
                  | (rw [if_neg (hns hd (Or.inl (hi9 h57))), if_pos (hi9 h57)] at hq; exact hq)
                  | (rw [if_neg (hns hd (Or.inr h69)), if_pos (hi9 h115)] at hq; exact hq)
          · refine wp_goto (tgt := 140) dX10_strengthAt_72 (by decide) ?_
            refine wp_incN dX10_strengthAt_140 rfl (by decide) ?_
            refine wp_goto (tgt := 15) dX10_strengthAt_143 (by decide) ?_
            refine wp_forget 6 (wp_forget 7 (wp_forget 8 ?_))
            first
              | (rw [if_pos (Or.inl hd)] at hq; exact ih (t + 1) v none (by omega) (by omega) hah hq)
              | (rw [if_pos (Or.inr ⟨fun q => h57 (by rw [q]), h69⟩)] at hq; exact ih (t + 1) v none (by omega) (by omega) hah hq)
              | (rw [if_neg (hns hd (Or.inr h69)), if_neg (fun q => h115 (by rw [q]))] at hq; exact ih (t + 1) _ (some (ord t)) (by omega) (by omega) (fun p hp => by cases hp; exact hot.2) hq)
              | exact absurd h57 h115
      · refine wp_astoreN dX10_strengthAt_47 (by decide) ?_
        refine wp_aloadN dX10_strengthAt_49 rfl ?_
        refine wp_ifnull (r := none) (tgt := 140) dX10_strengthAt_51 (by decide) (fun _ => ?_) (fun _ h => by cases h)
        refine wp_incN dX10_strengthAt_140 rfl (by decide) ?_
        refine wp_goto (tgt := 15) dX10_strengthAt_143 (by decide) ?_
        refine wp_forget 6 (wp_forget 7 (wp_forget 8 ?_))
        first
          | (rw [if_pos (Or.inl hd)] at hq; exact ih (t + 1) v none (by omega) (by omega) hah hq)
          | (rw [if_pos (Or.inr ⟨fun q => h57 (by rw [q]), h69⟩)] at hq; exact ih (t + 1) v none (by omega) (by omega) hah hq)
          | (rw [if_neg (hns hd (Or.inr h69)), if_neg (fun q => h115 (by rw [q]))] at hq; exact ih (t + 1) _ (some (ord t)) (by omega) (by omega) (fun p hp => by cases hp; exact hot.2) hq)
          | exact absurd h57 h115
    | some p0 =>
      have hp0 : p0 < m := hah p0 rfl
      refine wp_iload dX10_strengthAt_15 rfl ?_
      refine wp_aload_n dX10_strengthAt_17 rfl ?_
      refine wp_geta dX10_strengthAt_18 fl_RX10_15 rfl (fk_13 hF) (fr_13_1 hF) ?_
      refine wp_geti dX10_strengthAt_21 fl_RX10_77 rfl (fk_5 hF) ?_
      refine wp_icmp_ge (tgt := 146) dX10_strengthAt_24 (by decide) (fun h24 => absurd h24 (by rw [hm]; exact nI_ge (by omega) (by omega))) (fun _ => ?_)
      refine wp_aload_n dX10_strengthAt_27 rfl ?_
      refine wp_geta dX10_strengthAt_28 fl_RX10_15 rfl (fk_13 hF) (fr_13_1 hF) ?_
      refine wp_iload dX10_strengthAt_31 rfl ?_
      refine wp_callv1 (ci := 1) dX10_strengthAt_33 lk_RX10_101 ok_X1_numberInOrder im_X1_numberInOrder se_X1_numberInOrder rfl rfl (fk_5 hF) (Nat.le_of_ble_eq_true rfl) (Nat.le_of_ble_eq_true rfl) ?_
      refine c_X1_numberInOrder hF hm h10 hlt ?_
      rw [hot.1]
      refine wp_istore dX10_strengthAt_36 (by decide) ?_
      refine wp_aload_n dX10_strengthAt_38 rfl ?_
      refine wp_geta dX10_strengthAt_39 fl_RX10_15 rfl (fk_13 hF) (fr_13_1 hF) ?_
      refine wp_iload dX10_strengthAt_42 rfl ?_
      refine wp_callv1 (ci := 1) dX10_strengthAt_44 lk_RX10_27 ok_X1_findKept im_X1_findKept se_X1_findKept rfl rfl (fk_5 hF) (Nat.le_of_ble_eq_true rfl) (Nat.le_of_ble_eq_true rfl) ?_
      refine c_X1_findKeptN hF hJ0 hot.2 (fun hd => ?_) (fun hd => ?_)
      · refine wp_astore dX10_strengthAt_47 (by decide) ?_
        refine wp_aload dX10_strengthAt_49 rfl ?_
        refine wp_ifnull (r := some _) (tgt := 140) dX10_strengthAt_51 (by decide) (fun h => by cases h) (fun _ _ => ?_)
        refine wp_iload dX10_strengthAt_54 rfl ?_
        refine wp_iload_n dX10_strengthAt_56 rfl ?_
        refine wp_icmp_eq (tgt := 75) dX10_strengthAt_57 (by decide) (fun h57 => ?_) (fun h57 => ?_)
        · refine wp_aload dX10_strengthAt_75 rfl ?_
          refine wp_ifnull (r := some _) (tgt := 112) dX10_strengthAt_77 (by decide) (fun h => by cases h) (fun _ _ => ?_)
          refine wp_aload dX10_strengthAt_80 rfl ?_
          refine wp_geti dX10_strengthAt_82 fl_RX10_104 rfl (hk (ord t) hot.2) ?_
          refine wp_aload_n dX10_strengthAt_85 rfl ?_
          refine wp_geta dX10_strengthAt_86 fl_RX10_15 rfl (fk_13 hF) (fr_13_1 hF) ?_
          refine wp_aload dX10_strengthAt_89 rfl ?_
          refine wp_callv1 (ci := 1) dX10_strengthAt_91 lk_RX10_107 ok_X1_endOf im_X1_endOf se_X1_endOf rfl rfl (fk_5 hF) (Nat.le_of_ble_eq_true rfl) (Nat.le_of_ble_eq_true rfl) ?_
          refine c_X1_endOf hF hJ0 hp0 ?_
          refine wp_isub dX10_strengthAt_94 ?_
          refine wp_iconst (v := 0) dX10_strengthAt_95 (by decide) ?_
          refine wp_calls2 dX10_strengthAt_96 lk_RX10_88 ok_J9_max_7cf53 st_J9_max_7cf53 (Nat.le_of_ble_eq_true rfl) (Nat.le_of_ble_eq_true rfl) ?_
          refine c_J9_max_7cf53 ?_
          refine wp_istore dX10_strengthAt_99 (by decide) ?_
          refine wp_iload_n dX10_strengthAt_101 rfl ?_
          refine wp_iload dX10_strengthAt_102 rfl ?_
          refine wp_iadd dX10_strengthAt_104 ?_
          refine wp_sipush (v := 1000) dX10_strengthAt_105 (by decide) ?_
          refine wp_calls2 dX10_strengthAt_108 lk_RX10_110 ok_J9_min_7cf53 st_J9_min_7cf53 (Nat.le_of_ble_eq_true rfl) (Nat.le_of_ble_eq_true rfl) ?_
          refine c_J9_min_7cf53 ?_
          refine wp_istore_n dX10_strengthAt_111 (by decide) ?_
          refine wp_iload dX10_strengthAt_112 rfl ?_
          refine wp_iload_n dX10_strengthAt_114 rfl ?_
          refine wp_icmp_ne (tgt := 120) dX10_strengthAt_115 (by decide) (fun h115 => ?_) (fun h115 => ?_)
          · refine wp_iload_n dX10_strengthAt_120 rfl ?_
            refine wp_aload_n dX10_strengthAt_121 rfl ?_
            refine wp_geta dX10_strengthAt_122 fl_RX10_15 rfl (fk_13 hF) (fr_13_1 hF) ?_
            refine wp_aload dX10_strengthAt_125 rfl ?_
            refine wp_callv1 (ci := 1) dX10_strengthAt_127 lk_RX10_84 ok_X1_costOf im_X1_costOf se_X1_costOf rfl rfl (fk_5 hF) (Nat.le_of_ble_eq_true rfl) (Nat.le_of_ble_eq_true rfl) ?_
            refine c_X1_costOf hF hJ0 hot.2 ?_
            refine wp_isub dX10_strengthAt_130 ?_
            refine wp_iconst (v := 0) dX10_strengthAt_131 (by decide) ?_
            refine wp_calls2 dX10_strengthAt_132 lk_RX10_88 ok_J9_max_7cf53 st_J9_max_7cf53 (Nat.le_of_ble_eq_true rfl) (Nat.le_of_ble_eq_true rfl) ?_
            refine c_J9_max_7cf53 ?_
            refine wp_istore_n dX10_strengthAt_135 (by decide) ?_
            refine wp_aload dX10_strengthAt_136 rfl ?_
            refine wp_astore dX10_strengthAt_138 (by decide) ?_
            refine wp_incN dX10_strengthAt_140 rfl (by decide) ?_
            refine wp_goto (tgt := 15) dX10_strengthAt_143 (by decide) ?_
            refine wp_forget 6 (wp_forget 7 (wp_forget 8 ?_))
            first
              | (rw [if_pos (Or.inl hd)] at hq; exact ih (t + 1) v (some p0) (by omega) (by omega) hah hq)
              | (rw [if_pos (Or.inr ⟨fun q => h57 (by rw [q]), h69⟩)] at hq; exact ih (t + 1) v (some p0) (by omega) (by omega) hah hq)
              | (rw [if_neg (hns hd (Or.inr h69)), if_neg (fun q => h115 (by rw [q]))] at hq; exact ih (t + 1) _ (some (ord t)) (by omega) (by omega) (fun p hp => by cases hp; exact hot.2) hq)
              | exact absurd h57 h115
          · refine wp_iload_n dX10_strengthAt_118 rfl ?_
            refine wp_ireturn rfl dX10_strengthAt_119 ?_
            first
                | (rw [if_neg (hns hd (Or.inl (hi9 h57))), if_pos (hi9 h57)] at hq; exact hq)
                | (rw [if_neg (hns hd (Or.inr h69)), if_pos (hi9 h115)] at hq; exact hq)
        · refine wp_aload dX10_strengthAt_60 rfl ?_
          refine wp_geti dX10_strengthAt_62 fl_RX10_50 rfl (hk (ord t) hot.2) ?_
          refine wp_iload_n dX10_strengthAt_65 rfl ?_
          refine wp_calls2 dX10_strengthAt_66 lk_RX10_56 ok_X11_hasBit st_X11_hasBit (Nat.le_of_ble_eq_true rfl) (Nat.le_of_ble_eq_true rfl) ?_
          refine c_X11_hasBit ?_
          refine wp_ifb_ne (tgt := 75) dX10_strengthAt_69 (by decide) (fun h69 => ?_) (fun h69 => ?_)
          · refine wp_aload dX10_strengthAt_75 rfl ?_
            refine wp_ifnull (r := some _) (tgt := 112) dX10_strengthAt_77 (by decide) (fun h => by cases h) (fun _ _ => ?_)
            refine wp_aload dX10_strengthAt_80 rfl ?_
            refine wp_geti dX10_strengthAt_82 fl_RX10_104 rfl (hk (ord t) hot.2) ?_
            refine wp_aload_n dX10_strengthAt_85 rfl ?_
            refine wp_geta dX10_strengthAt_86 fl_RX10_15 rfl (fk_13 hF) (fr_13_1 hF) ?_
            refine wp_aload dX10_strengthAt_89 rfl ?_
            refine wp_callv1 (ci := 1) dX10_strengthAt_91 lk_RX10_107 ok_X1_endOf im_X1_endOf se_X1_endOf rfl rfl (fk_5 hF) (Nat.le_of_ble_eq_true rfl) (Nat.le_of_ble_eq_true rfl) ?_
            refine c_X1_endOf hF hJ0 hp0 ?_
            refine wp_isub dX10_strengthAt_94 ?_
            refine wp_iconst (v := 0) dX10_strengthAt_95 (by decide) ?_
            refine wp_calls2 dX10_strengthAt_96 lk_RX10_88 ok_J9_max_7cf53 st_J9_max_7cf53 (Nat.le_of_ble_eq_true rfl) (Nat.le_of_ble_eq_true rfl) ?_
            refine c_J9_max_7cf53 ?_
            refine wp_istore dX10_strengthAt_99 (by decide) ?_
            refine wp_iload_n dX10_strengthAt_101 rfl ?_
            refine wp_iload dX10_strengthAt_102 rfl ?_
            refine wp_iadd dX10_strengthAt_104 ?_
            refine wp_sipush (v := 1000) dX10_strengthAt_105 (by decide) ?_
            refine wp_calls2 dX10_strengthAt_108 lk_RX10_110 ok_J9_min_7cf53 st_J9_min_7cf53 (Nat.le_of_ble_eq_true rfl) (Nat.le_of_ble_eq_true rfl) ?_
            refine c_J9_min_7cf53 ?_
            refine wp_istore_n dX10_strengthAt_111 (by decide) ?_
            refine wp_iload dX10_strengthAt_112 rfl ?_
            refine wp_iload_n dX10_strengthAt_114 rfl ?_
            refine wp_icmp_ne (tgt := 120) dX10_strengthAt_115 (by decide) (fun h115 => ?_) (fun h115 => ?_)
            · refine wp_iload_n dX10_strengthAt_120 rfl ?_
              refine wp_aload_n dX10_strengthAt_121 rfl ?_
              refine wp_geta dX10_strengthAt_122 fl_RX10_15 rfl (fk_13 hF) (fr_13_1 hF) ?_
              refine wp_aload dX10_strengthAt_125 rfl ?_
              refine wp_callv1 (ci := 1) dX10_strengthAt_127 lk_RX10_84 ok_X1_costOf im_X1_costOf se_X1_costOf rfl rfl (fk_5 hF) (Nat.le_of_ble_eq_true rfl) (Nat.le_of_ble_eq_true rfl) ?_
              refine c_X1_costOf hF hJ0 hot.2 ?_
              refine wp_isub dX10_strengthAt_130 ?_
              refine wp_iconst (v := 0) dX10_strengthAt_131 (by decide) ?_
              refine wp_calls2 dX10_strengthAt_132 lk_RX10_88 ok_J9_max_7cf53 st_J9_max_7cf53 (Nat.le_of_ble_eq_true rfl) (Nat.le_of_ble_eq_true rfl) ?_
              refine c_J9_max_7cf53 ?_
              refine wp_istore_n dX10_strengthAt_135 (by decide) ?_
              refine wp_aload dX10_strengthAt_136 rfl ?_
              refine wp_astore dX10_strengthAt_138 (by decide) ?_
              refine wp_incN dX10_strengthAt_140 rfl (by decide) ?_
              refine wp_goto (tgt := 15) dX10_strengthAt_143 (by decide) ?_
              refine wp_forget 6 (wp_forget 7 (wp_forget 8 ?_))
              first
                | (rw [if_pos (Or.inl hd)] at hq; exact ih (t + 1) v (some p0) (by omega) (by omega) hah hq)
                | (rw [if_pos (Or.inr ⟨fun q => h57 (by rw [q]), h69⟩)] at hq; exact ih (t + 1) v (some p0) (by omega) (by omega) hah hq)
                | (rw [if_neg (hns hd (Or.inr h69)), if_neg (fun q => h115 (by rw [q]))] at hq; exact ih (t + 1) _ (some (ord t)) (by omega) (by omega) (fun p hp => by cases hp; exact hot.2) hq)
                | exact absurd h57 h115
            · refine wp_iload_n dX10_strengthAt_118 rfl ?_
              refine wp_ireturn rfl dX10_strengthAt_119 ?_
              first
                  | (rw [if_neg (hns hd (Or.inl (hi9 h57))), if_pos (hi9 h57)] at hq; exact hq)
                  | (rw [if_neg (hns hd (Or.inr h69)), if_pos (hi9 h115)] at hq; exact hq)
          · refine wp_goto (tgt := 140) dX10_strengthAt_72 (by decide) ?_
            refine wp_incN dX10_strengthAt_140 rfl (by decide) ?_
            refine wp_goto (tgt := 15) dX10_strengthAt_143 (by decide) ?_
            refine wp_forget 6 (wp_forget 7 (wp_forget 8 ?_))
            first
              | (rw [if_pos (Or.inl hd)] at hq; exact ih (t + 1) v (some p0) (by omega) (by omega) hah hq)
              | (rw [if_pos (Or.inr ⟨fun q => h57 (by rw [q]), h69⟩)] at hq; exact ih (t + 1) v (some p0) (by omega) (by omega) hah hq)
              | (rw [if_neg (hns hd (Or.inr h69)), if_neg (fun q => h115 (by rw [q]))] at hq; exact ih (t + 1) _ (some (ord t)) (by omega) (by omega) (fun p hp => by cases hp; exact hot.2) hq)
              | exact absurd h57 h115
      · refine wp_astoreN dX10_strengthAt_47 (by decide) ?_
        refine wp_aloadN dX10_strengthAt_49 rfl ?_
        refine wp_ifnull (r := none) (tgt := 140) dX10_strengthAt_51 (by decide) (fun _ => ?_) (fun _ h => by cases h)
        refine wp_incN dX10_strengthAt_140 rfl (by decide) ?_
        refine wp_goto (tgt := 15) dX10_strengthAt_143 (by decide) ?_
        refine wp_forget 6 (wp_forget 7 (wp_forget 8 ?_))
        first
          | (rw [if_pos (Or.inl hd)] at hq; exact ih (t + 1) v (some p0) (by omega) (by omega) hah hq)
          | (rw [if_pos (Or.inr ⟨fun q => h57 (by rw [q]), h69⟩)] at hq; exact ih (t + 1) v (some p0) (by omega) (by omega) hah hq)
          | (rw [if_neg (hns hd (Or.inr h69)), if_neg (fun q => h115 (by rw [q]))] at hq; exact ih (t + 1) _ (some (ord t)) (by omega) (by omega) (fun p hp => by cases hp; exact hot.2) hq)
          | exact absurd h57 h115
def strC (H : PH) (jo fr tt ord ho : Nat → Nat) (m i hh : Nat) : Int32 := strF H jo fr tt ord i hh m 0 (hI H (ho hh) 3) none
theorem c_X10_strengthAt (hF : Fix H) (hJ : JS H m jo fr tt) (hO : ∀ t, t < m → hI H 8 t = nI (ord t) ∧ ord t < m) (hS : HS H n ho) (hi : i < m) (hh1 : hh < n) (hq : Q (some (.int (strC H jo fr tt ord ho m i hh))) H) : Wp mX10_strengthAt (d + 3) 0 0 0 [some (.ref 13), some (.int (nI i)), some (.int (nI hh)), none, none, none, none, none, none] [] H Q := by
  have h16 := hS.2.1
  refine wp_aload_n dX10_strengthAt_0 rfl ?_
  refine wp_geta dX10_strengthAt_1 fl_RX10_9 rfl (fk_13 hF) (fr_13_0 hF) ?_
  refine wp_iload_n dX10_strengthAt_4 rfl ?_
  refine wp_callv1 (ci := 8) dX10_strengthAt_5 lk_RX10_98 ok_X8_firstStrength im_X8_firstStrength se_X8_firstStrength rfl rfl (fk_2 hF) (Nat.le_of_ble_eq_true rfl) (Nat.le_of_ble_eq_true rfl) ?_
  refine c_X8_firstStrength hF hS (fun j hj hxj => ?_) (fun hx => absurd ⟨nI_pos' (by omega), nI_lt hh1 (by omega)⟩ hx)
  have e9 : j = hh := (nI_eq (by omega) (by omega)).mp hxj.symm
  subst e9
  refine wp_istore_n dX10_strengthAt_8 (by decide) ?_
  refine wp_aconst_null dX10_strengthAt_9 ?_
  refine wp_astoreN dX10_strengthAt_10 (by decide) ?_
  refine wp_iconst (v := 0) dX10_strengthAt_12 (by decide) ?_
  refine wp_istore dX10_strengthAt_13 (by decide) ?_
  exact l_X10_strengthAt hF hJ hO hi m 0 _ none (by omega) (by omega) (fun p hp => by cases hp) hq
def frs (H : PH) (jo fr tt ord ho : Nat → Nat) (m n i : Nat) (z w : Int32) : Prop := ∀ h, h < n → hb z h → w ≤ strC H jo fr tt ord ho m i h
theorem l_X10_allFresh (hF : Fix H) (hJ : JS H m jo fr tt) (hO : ∀ t, t < m → hI H 8 t = nI (ord t) ∧ ord t < m) (hS : HS H n ho) (hi : i < m) {z w : Int32} (hq : Q (some (.int (bI (frs H jo fr tt ord ho m n i z w)))) H) : ∀ (f e : Nat), n - e = f → e ≤ n → (∀ h, h < e → hb z h → w ≤ strC H jo fr tt ord ho m i h) → Wp mX10_allFresh (d + 4) 0 0 20 [some (.ref 13), some (.int (nI i)), some (.ref (jo i)), some (.int z), some (.int w), some (.int (nI e))] [] H Q := by
  have hn := hS.1
  have h16 := hS.2.1
  intro f
  induction f with
  | zero =>
    intro e hf he hbb
    have hin : e = n := by omega
    subst hin
    refine wp_iload dX10_allFresh_20 rfl ?_
    refine wp_aload_n dX10_allFresh_22 rfl ?_
    refine wp_geta dX10_allFresh_23 fl_RX10_9 rfl (fk_13 hF) (fr_13_0 hF) ?_
    refine wp_geti dX10_allFresh_26 fl_RX10_94 rfl (fk_2 hF) ?_
    refine wp_icmp_ge (tgt := 61) dX10_allFresh_29 (by decide) (fun _ => ?_) (fun h29 => absurd h29 (by rw [hn]; exact fun h => h (nI_le (Nat.le_refl _) (by omega))))
    refine wp_iconst (v := 1) dX10_allFresh_61 (by decide) ?_
    refine wp_zreturn rfl (Or.inr rfl) dX10_allFresh_62 ?_
    exact bq_t hq hbb
  | succ f ih =>
    intro e hf he hbb
    have hlt : e < n := by omega
    refine wp_iload dX10_allFresh_20 rfl ?_
    refine wp_aload_n dX10_allFresh_22 rfl ?_
    refine wp_geta dX10_allFresh_23 fl_RX10_9 rfl (fk_13 hF) (fr_13_0 hF) ?_
    refine wp_geti dX10_allFresh_26 fl_RX10_94 rfl (fk_2 hF) ?_
    refine wp_icmp_ge (tgt := 61) dX10_allFresh_29 (by decide) (fun h29 => absurd h29 (by rw [hn]; exact nI_ge (by omega) (by omega))) (fun _ => ?_)
    refine wp_iload_n dX10_allFresh_32 rfl ?_
    refine wp_iload dX10_allFresh_33 rfl ?_
    refine wp_calls2 dX10_allFresh_35 lk_RX10_56 ok_X11_hasBit st_X11_hasBit (Nat.le_of_ble_eq_true rfl) (Nat.le_of_ble_eq_true rfl) ?_
    refine c_X11_hasBit ?_
    refine wp_ifb_eq (tgt := 55) dX10_allFresh_38 (by decide) (fun h38 => ?_) (fun h38 => ?_)
    · refine wp_incN dX10_allFresh_55 rfl (by decide) ?_
      refine wp_goto (tgt := 20) dX10_allFresh_58 (by decide) ?_
      refine ih (e + 1) (by omega) (by omega) (fun g hg => ?_)
      rcases Nat.lt_succ_iff_lt_or_eq.mp hg with q | q
      · exact hbb g q
      · subst q; first | exact fun q => absurd q h38 | exact fun _ => h50
    · refine wp_aload_n dX10_allFresh_41 rfl ?_
      refine wp_iload_n dX10_allFresh_42 rfl ?_
      refine wp_iload dX10_allFresh_43 rfl ?_
      refine wp_callv2 (ci := 10) dX10_allFresh_45 lk_RX10_95 ok_X10_strengthAt im_X10_strengthAt se_X10_strengthAt rfl rfl (fk_13 hF) (Nat.le_of_ble_eq_true rfl) (Nat.le_of_ble_eq_true rfl) ?_
      refine c_X10_strengthAt hF hJ hO hS hi hlt ?_
      refine wp_iload dX10_allFresh_48 rfl ?_
      refine wp_icmp_ge (tgt := 55) dX10_allFresh_50 (by decide) (fun h50 => ?_) (fun h50 => ?_)
      · refine wp_incN dX10_allFresh_55 rfl (by decide) ?_
        refine wp_goto (tgt := 20) dX10_allFresh_58 (by decide) ?_
        refine ih (e + 1) (by omega) (by omega) (fun g hg => ?_)
        rcases Nat.lt_succ_iff_lt_or_eq.mp hg with q | q
        · exact hbb g q
        · subst q; first | exact fun q => absurd q h38 | exact fun _ => h50
      · refine wp_iconst (v := 0) dX10_allFresh_53 (by decide) ?_
        refine wp_zreturn rfl (Or.inl rfl) dX10_allFresh_54 ?_
        exact bq_f hq (fun q => h50 (q e hlt h38))
theorem c_X10_allFresh (hF : Fix H) (hJ : JS H m jo fr tt) (hO : ∀ t, t < m → hI H 8 t = nI (ord t) ∧ ord t < m) (hS : HS H n ho) (hi : i < m) {z : Int32} (hq : Q (some (.int (bI (frs H jo fr tt ord ho m n i z (maxI (cCost H jo fr tt i) (hI H 13 2)))))) H) : Wp mX10_allFresh (d + 4) 0 0 0 [some (.ref 13), some (.int (nI i)), some (.ref (jo i)), some (.int z), none, none] [] H Q := by
  refine wp_aload_n dX10_allFresh_0 rfl ?_
  refine wp_geta dX10_allFresh_1 fl_RX10_15 rfl (fk_13 hF) (fr_13_1 hF) ?_
  refine wp_aload_n dX10_allFresh_4 rfl ?_
  refine wp_callv1 (ci := 1) dX10_allFresh_5 lk_RX10_84 ok_X1_costOf im_X1_costOf se_X1_costOf rfl rfl (fk_5 hF) (Nat.le_of_ble_eq_true rfl) (Nat.le_of_ble_eq_true rfl) ?_
  refine c_X1_costOf hF hJ hi ?_
  refine wp_aload_n dX10_allFresh_8 rfl ?_
  refine wp_geti dX10_allFresh_9 fl_RX10_23 rfl (fk_13 hF) ?_
  refine wp_calls2 dX10_allFresh_12 lk_RX10_88 ok_J9_max_7cf53 st_J9_max_7cf53 (Nat.le_of_ble_eq_true rfl) (Nat.le_of_ble_eq_true rfl) ?_
  refine c_J9_max_7cf53 ?_
  refine wp_istore dX10_allFresh_15 (by decide) ?_
  refine wp_iconst (v := 0) dX10_allFresh_17 (by decide) ?_
  refine wp_istore dX10_allFresh_18 (by decide) ?_
  exact l_X10_allFresh hF hJ hO hS hi hq n 0 (by omega) (by omega) (fun g hg => absurd hg (Nat.not_lt_zero g))
/-- 2 to 5, or 0 -/
noncomputable def flw (H : PH) (jo fr tt ord ho : Nat → Nat) (m n i : Nat) (z : Int32) : Int32 :=
  if bI (allA H ho n z) = 0 then 2 else if ¬ bI (¬ ∀ i, i < n → hb z i → hI H (ho i) 4 = 0) = 0 then 3 else if ¬ bI (els H m jo fr tt i z) = 0 then 4 else if bI (frs H jo fr tt ord ho m n i z (maxI (cCost H jo fr tt i) (hI H 13 2))) = 0 then 5 else 0
theorem c_X10_flawOf (hF : Fix H) (hJ : JS H m jo fr tt) (hO : ∀ t, t < m → hI H 8 t = nI (ord t) ∧ ord t < m) (hS : HS H n ho) (hi : i < m) {z : Int32} (hq : Q (some (.int (flw H jo fr tt ord ho m n i z))) H) : Wp mX10_flawOf (d + 5) 0 0 0 [some (.ref 13), some (.int (nI i)), some (.ref (jo i)), some (.int z)] [] H Q := by
  unfold flw at hq
  refine wp_aload_n dX10_flawOf_0 rfl ?_
  refine wp_geta dX10_flawOf_1 fl_RX10_9 rfl (fk_13 hF) (fr_13_0 hF) ?_
  refine wp_iload_n dX10_flawOf_4 rfl ?_
  refine wp_callv1 (ci := 8) dX10_flawOf_5 lk_RX10_64 ok_X8_allAlike im_X8_allAlike se_X8_allAlike rfl rfl (fk_2 hF) (Nat.le_of_ble_eq_true rfl) (Nat.le_of_ble_eq_true rfl) ?_
  refine c_X8_allAlike hF hS ?_
  refine wp_ifb_ne (tgt := 13) dX10_flawOf_8 (by decide) (fun h8 => ?_) (fun h8 => ?_)
  · refine wp_aload_n dX10_flawOf_13 rfl ?_
    refine wp_geta dX10_flawOf_14 fl_RX10_9 rfl (fk_13 hF) (fr_13_0 hF) ?_
    refine wp_iload_n dX10_flawOf_17 rfl ?_
    refine wp_callv1 (ci := 8) dX10_flawOf_18 lk_RX10_67 ok_X8_anyLame im_X8_anyLame se_X8_anyLame rfl rfl (fk_2 hF) (Nat.le_of_ble_eq_true rfl) (Nat.le_of_ble_eq_true rfl) ?_
    refine c_X8_anyLame hF hS ?_
    refine wp_ifb_eq (tgt := 26) dX10_flawOf_21 (by decide) (fun h21 => ?_) (fun h21 => ?_)
    · refine wp_aload_n dX10_flawOf_26 rfl ?_
      refine wp_iload_n dX10_flawOf_27 rfl ?_
      refine wp_aload_n dX10_flawOf_28 rfl ?_
      refine wp_iload_n dX10_flawOf_29 rfl ?_
      refine wp_callv3 (ci := 10) dX10_flawOf_30 lk_RX10_70 ok_X10_isElsewhere im_X10_isElsewhere se_X10_isElsewhere rfl rfl (fk_13 hF) (Nat.le_of_ble_eq_true rfl) (Nat.le_of_ble_eq_true rfl) ?_
      refine c_X10_isElsewhere hF hJ hi ?_
      refine wp_ifb_eq (tgt := 38) dX10_flawOf_33 (by decide) (fun h33 => ?_) (fun h33 => ?_)
      · refine wp_aload_n dX10_flawOf_38 rfl ?_
        refine wp_iload_n dX10_flawOf_39 rfl ?_
        refine wp_aload_n dX10_flawOf_40 rfl ?_
        refine wp_iload_n dX10_flawOf_41 rfl ?_
        refine wp_callv3 (ci := 10) dX10_flawOf_42 lk_RX10_74 ok_X10_allFresh im_X10_allFresh se_X10_allFresh rfl rfl (fk_13 hF) (Nat.le_of_ble_eq_true rfl) (Nat.le_of_ble_eq_true rfl) ?_
        refine c_X10_allFresh hF hJ hO hS hi ?_
        refine wp_ifb_eq (tgt := 52) dX10_flawOf_45 (by decide) (fun h45 => ?_) (fun h45 => ?_)
        · refine wp_iconst (v := 5) dX10_flawOf_52 (by decide) ?_
          refine wp_ireturn rfl dX10_flawOf_53 ?_
          first
              | (rw [if_neg (fun q => bI_eq0.mp q h8), if_neg (fun q => q (bI_f h21)), if_neg (fun q => q (bI_f h33)), if_neg (fun q => bI_eq0.mp q h45)] at hq; exact hq)
              | (rw [if_neg (fun q => bI_eq0.mp q h8), if_neg (fun q => q (bI_f h21)), if_neg (fun q => q (bI_f h33)), if_pos (bI_f h45)] at hq; exact hq)
        · refine wp_iconst (v := 0) dX10_flawOf_48 (by decide) ?_
          refine wp_goto (tgt := 53) dX10_flawOf_49 (by decide) ?_
          refine wp_ireturn rfl dX10_flawOf_53 ?_
          first
              | (rw [if_neg (fun q => bI_eq0.mp q h8), if_neg (fun q => q (bI_f h21)), if_neg (fun q => q (bI_f h33)), if_neg (fun q => bI_eq0.mp q h45)] at hq; exact hq)
              | (rw [if_neg (fun q => bI_eq0.mp q h8), if_neg (fun q => q (bI_f h21)), if_neg (fun q => q (bI_f h33)), if_pos (bI_f h45)] at hq; exact hq)
      · refine wp_iconst (v := 4) dX10_flawOf_36 (by decide) ?_
        refine wp_ireturn rfl dX10_flawOf_37 ?_
        rw [if_neg (fun q => bI_eq0.mp q h8), if_neg (fun q => q (bI_f h21)), if_pos (fun q => bI_eq0.mp q h33)] at hq; exact hq
    · refine wp_iconst (v := 3) dX10_flawOf_24 (by decide) ?_
      refine wp_ireturn rfl dX10_flawOf_25 ?_
      rw [if_neg (fun q => bI_eq0.mp q h8), if_pos (fun q => bI_eq0.mp q h21)] at hq; exact hq
  · refine wp_iconst (v := 2) dX10_flawOf_11 (by decide) ?_
    refine wp_ireturn rfl dX10_flawOf_12 ?_
    rw [if_pos (bI_f h8)] at hq; exact hq
theorem c_X10_standingOf (hF : Fix H) (hJ : JS H m jo fr tt) (hO : ∀ t, t < m → hI H 8 t = nI (ord t) ∧ ord t < m) (hS : HS H n ho) {x : Int32} (hq1 : ∀ j, j < m → x = nI j → hI H (jo j) 8 = 0 → Q (some (.int (if hI H (jo j) 7 = 0 then 1 else flw H jo fr tt ord ho m n j (hI H (jo j) 7)))) H) (hq2 : ¬ kept H m jo x → Q (some (.int (-1))) H) : Wp mX10_standingOf (d + 6) 0 0 0 [some (.ref 13), some (.int x), none] [] H Q := by
  have hJ0 := hJ
  obtain ⟨-, h10, -, hk, -⟩ := hJ
  refine wp_aload_n dX10_standingOf_0 rfl ?_
  refine wp_geta dX10_standingOf_1 fl_RX10_15 rfl (fk_13 hF) (fr_13_1 hF) ?_
  refine wp_iload_n dX10_standingOf_4 rfl ?_
  refine wp_callv1 (ci := 1) dX10_standingOf_5 lk_RX10_27 ok_X1_findKept im_X1_findKept se_X1_findKept rfl rfl (fk_5 hF) (Nat.le_of_ble_eq_true rfl) (Nat.le_of_ble_eq_true rfl) ?_
  refine c_X1_findKept hF hJ0 (fun j hj hxj hd => ?_) (fun hx => ?_)
  · refine wp_astore_n dX10_standingOf_8 (by decide) ?_
    refine wp_aload_n dX10_standingOf_9 rfl ?_
    refine wp_ifnonnull (r := some _) (tgt := 15) dX10_standingOf_10 (by decide) (fun h => by cases h) (fun _ _ => ?_)
    refine wp_aload_n dX10_standingOf_15 rfl ?_
    refine wp_geti dX10_standingOf_16 fl_RX10_50 rfl (hk j hj) ?_
    refine wp_if_ne (tgt := 26) dX10_standingOf_19 (by decide) (fun h19 => ?_) (fun h19 => ?_)
    · subst hxj
      refine wp_aload_n dX10_standingOf_26 rfl ?_
      refine wp_iload_n dX10_standingOf_27 rfl ?_
      refine wp_aload_n dX10_standingOf_28 rfl ?_
      refine wp_aload_n dX10_standingOf_29 rfl ?_
      refine wp_geti dX10_standingOf_30 fl_RX10_50 rfl (hk j hj) ?_
      refine wp_callv3 (ci := 10) dX10_standingOf_33 lk_RX10_60 ok_X10_flawOf im_X10_flawOf se_X10_flawOf rfl rfl (fk_13 hF) (Nat.le_of_ble_eq_true rfl) (Nat.le_of_ble_eq_true rfl) ?_
      refine c_X10_flawOf hF hJ0 hO hS hj ?_
      refine wp_ireturn rfl dX10_standingOf_36 ?_
      first
          | (have h9 := hq1 j hj hxj hd; rw [if_pos h19] at h9; exact h9)
          | (have h9 := hq1 j hj rfl hd; rw [if_neg h19] at h9; exact h9)
    · refine wp_iconst (v := 1) dX10_standingOf_22 (by decide) ?_
      refine wp_goto (tgt := 36) dX10_standingOf_23 (by decide) ?_
      refine wp_ireturn rfl dX10_standingOf_36 ?_
      first
          | (have h9 := hq1 j hj hxj hd; rw [if_pos h19] at h9; exact h9)
          | (have h9 := hq1 j hj rfl hd; rw [if_neg h19] at h9; exact h9)
  · refine wp_astore_nN dX10_standingOf_8 (by decide) ?_
    refine wp_aload_nN dX10_standingOf_9 rfl ?_
    refine wp_ifnonnull (r := none) (tgt := 15) dX10_standingOf_10 (by decide) (fun _ => ?_) (fun _ h => by cases h)
    refine wp_iconst (v := -1) dX10_standingOf_13 (by decide) ?_
    refine wp_ireturn rfl dX10_standingOf_14 ?_
    exact hq2 hx
end Str
