/-! ===== CarriageHire$Stable: loops, a new HORSE ===== -/
theorem Fix_sRa {H : PH} {a k : Nat} {v : Option Nat} (h : Fix H) (hx : ∀ e ∈ fixR, e.1.1 ≠ a) : Fix (sR H a k v) := Fix_sR h (fun e he q => hx e he (by rw [q]))
def hNew (H : PH) (n : Nat) (c h p s : Int32) : PH := sI (sR (sI (sI (sI (sI (nC H 3 5) (hN H + 1) 0 c) (hN H + 1) 1 h) (hN H + 1) 2 p) (hN H + 1) 3 s) 3 n (some (hN H + 1))) 2 2 (nI (n + 1))
theorem hI_nC' {H : PH} {kk n a k : Nat} (h : a ≤ hN H) : hI (nC H kk n) a k = hI H a k := by rw [hI_nC, u1_ne (by omega)]
theorem hK_nC' {H : PH} {kk n a : Nat} (h : a ≤ hN H) : hK (nC H kk n) a = hK H a := by rw [hK_nC, u1_ne (by omega)]
theorem hR_nC' {H : PH} {kk n a k : Nat} (h : a ≤ hN H) : hR (nC H kk n) a k = hR H a k := by rw [hR_nC, u1_ne (by omega)]
theorem hL_nC' {H : PH} {kk n a k : Nat} (h : a ≤ hN H) : hL (nC H kk n) a k = hL H a k := by rw [hL_nC, u1_ne (by omega)]
abbrev hCan (c h p s : Int32) : Prop := (0 ≤ c ∧ c ≤ 7) ∧ (100 ≤ h ∧ h ≤ 200) ∧ (1 ≤ p ∧ p ≤ 20) ∧ (0 ≤ s ∧ s ≤ 1000)
theorem c_X8_add {d n : Nat} {ho : Nat → Nat} {c h p s : Int32} {H : PH} {Q : Option Value → PH → Prop} (hF : Fix H) (hS : HS H n ho)
    (hq1 : hCan c h p s → n < 16 → Q (some (.int (nI n))) (hNew H n c h p s)) (hq2 : ¬ (hCan c h p s ∧ n < 16) → Q (some (.int (-1))) H) :
    Wp mX8_add (d + 2) 1 5 0 [some (.ref 2), some (.int c), some (.int h), some (.int p), some (.int s), none] [] H Q := by
  obtain ⟨hn, h16, hr, hk, hl, -⟩ := hS
  have h69 : 69 ≤ hN H := hF.2.2
  have hne : (2 = hN H + 1) = False := by simp; omega
  have hbad : ¬ hCan c h p s → Wp mX8_add (d + 2) 1 5 48 [some (.ref 2), some (.int c), some (.int h), some (.int p), some (.int s), none] [] H Q := by
    intro hb
    refine wp_iconst (v := 0) dX8_add_48 (by decide) ?_
    refine wp_istore dX8_add_49 (by decide) ?_
    refine wp_iload dX8_add_51 rfl ?_
    refine wp_if_eq (tgt := 65) dX8_add_53 (by decide) (fun _ => ?_) (fun h53 => absurd h53 (fun h => h rfl))
    refine wp_iconst (v := -1) dX8_add_65 (by decide) ?_
    refine wp_ireturn rfl dX8_add_66 ?_
    exact hq2 (fun q => hb q.1)
  refine wp_iload_n dX8_add_0 rfl ?_
  refine wp_iconst (v := 0) dX8_add_1 (by decide) ?_
  refine wp_bipush (v := 7) dX8_add_2 (by decide) ?_
  refine wp_calls3 dX8_add_4 lk_RX8_28 ok_X11_within st_X11_within (Nat.le_of_ble_eq_true rfl) (Nat.le_of_ble_eq_true rfl) ?_
  refine c_X11_within ?_
  refine wp_ifb_eq (tgt := 48) dX8_add_7 (by decide) (fun h7 => ?_) (fun h7 => ?_)
  · exact hbad (by first | exact fun q => h7 q.1 | exact fun q => h19 q.2.1 | exact fun q => h29 q.2.2.1 | exact fun q => h41 q.2.2.2)
  · refine wp_iload_n dX8_add_10 rfl ?_
    refine wp_bipush (v := 100) dX8_add_11 (by decide) ?_
    refine wp_sipush (v := 200) dX8_add_13 (by decide) ?_
    refine wp_calls3 dX8_add_16 lk_RX8_28 ok_X11_within st_X11_within (Nat.le_of_ble_eq_true rfl) (Nat.le_of_ble_eq_true rfl) ?_
    refine c_X11_within ?_
    refine wp_ifb_eq (tgt := 48) dX8_add_19 (by decide) (fun h19 => ?_) (fun h19 => ?_)
    · exact hbad (by first | exact fun q => h7 q.1 | exact fun q => h19 q.2.1 | exact fun q => h29 q.2.2.1 | exact fun q => h41 q.2.2.2)
    · refine wp_iload_n dX8_add_22 rfl ?_
      refine wp_iconst (v := 1) dX8_add_23 (by decide) ?_
      refine wp_bipush (v := 20) dX8_add_24 (by decide) ?_
      refine wp_calls3 dX8_add_26 lk_RX8_28 ok_X11_within st_X11_within (Nat.le_of_ble_eq_true rfl) (Nat.le_of_ble_eq_true rfl) ?_
      refine c_X11_within ?_
      refine wp_ifb_eq (tgt := 48) dX8_add_29 (by decide) (fun h29 => ?_) (fun h29 => ?_)
      · exact hbad (by first | exact fun q => h7 q.1 | exact fun q => h19 q.2.1 | exact fun q => h29 q.2.2.1 | exact fun q => h41 q.2.2.2)
      · refine wp_iload dX8_add_32 rfl ?_
        refine wp_iconst (v := 0) dX8_add_34 (by decide) ?_
        refine wp_sipush (v := 1000) dX8_add_35 (by decide) ?_
        refine wp_calls3 dX8_add_38 lk_RX8_28 ok_X11_within st_X11_within (Nat.le_of_ble_eq_true rfl) (Nat.le_of_ble_eq_true rfl) ?_
        refine c_X11_within ?_
        refine wp_ifb_eq (tgt := 48) dX8_add_41 (by decide) (fun h41 => ?_) (fun h41 => ?_)
        · exact hbad (by first | exact fun q => h7 q.1 | exact fun q => h19 q.2.1 | exact fun q => h29 q.2.2.1 | exact fun q => h41 q.2.2.2)
        · refine wp_iconst (v := 1) dX8_add_44 (by decide) ?_
          refine wp_goto (tgt := 49) dX8_add_45 (by decide) ?_
          refine wp_istore dX8_add_49 (by decide) ?_
          refine wp_iload dX8_add_51 rfl ?_
          refine wp_if_eq (tgt := 65) dX8_add_53 (by decide) (fun h53 => absurd h53 (by decide)) (fun _ => ?_)
          refine wp_aload_n dX8_add_56 rfl ?_
          refine wp_geti dX8_add_57 fl_RX8_32 rfl (fk_2 hF) ?_
          rw [hn]
          refine wp_bipush (v := 16) dX8_add_60 (by decide) ?_
          refine wp_icmp_lt (tgt := 67) dX8_add_62 (by decide) (fun h62 => ?_) (fun h62 => ?_)
          · have hn9 : n < 16 := Nat.lt_of_not_le (fun q => absurd h62 (nI_nlt q (by omega)))
            refine wp_aload_n dX8_add_67 rfl ?_
            refine wp_geta dX8_add_68 fl_RX8_11 rfl (fk_2 hF) (fr_2_0 hF) ?_
            refine wp_aload_n dX8_add_71 rfl ?_
            refine wp_geti dX8_add_72 fl_RX8_32 rfl (fk_2 hF) ?_
            rw [hn]
            refine wp_new (kc := 0) (ks := 0) (ci := 2) dX8_add_75 rfl cl_RX8_9 ?_
            refine wp_dup dX8_add_78 rfl ?_
            refine wp_iload_n dX8_add_79 rfl ?_
            refine wp_iload_n dX8_add_80 rfl ?_
            refine wp_iload_n dX8_add_81 rfl ?_
            refine wp_iload dX8_add_82 rfl ?_
            refine wp_calli4 dX8_add_84 lk_RX8_35 ok_X2_init rfl im_X2_init rfl (Nat.le_of_ble_eq_true rfl) (Nat.le_of_ble_eq_true rfl) ?_
            refine c_X2_init (by rw [hK_nC, u1_eq]) ?_
            refine wp_aastoreN (ci := 2) dX8_add_87 (fk_3 (Fix_sI (Fix_sI (Fix_sI (Fix_sI (Fix_nC hF)))))) (by decide) ((by show hK (nC H 3 5) (hN H + 1) = (3, 5); rw [hK_nC, u1_eq])) (by omega) (by decide) ?_
            refine wp_aload_n dX8_add_88 rfl ?_
            refine wp_dup dX8_add_89 rfl ?_
            refine wp_geti dX8_add_90 fl_RX8_32 rfl (fk_2 (Fix_sRa (Fix_sI (Fix_sI (Fix_sI (Fix_sI (Fix_nC hF))))) (by decide))) ?_
            simp only [hI_sR, hI_sI', hne, false_and, ↓reduceIte, hI_nC' (show 2 ≤ hN H by omega), hn, nI_1]
            refine wp_iconst (v := 1) dX8_add_93 (by decide) ?_
            refine wp_iadd dX8_add_94 ?_
            rw [nI_1]
            refine wp_puti dX8_add_95 fl_RX8_32 (mp_8_2 _ _) rfl (fk_2 (Fix_sRa (Fix_sI (Fix_sI (Fix_sI (Fix_sI (Fix_nC hF))))) (by decide))) ?_
            refine wp_aload_n dX8_add_98 rfl ?_
            refine wp_geti dX8_add_99 fl_RX8_32 rfl (fk_2 (Fix_sI (Fix_sRa (Fix_sI (Fix_sI (Fix_sI (Fix_sI (Fix_nC hF))))) (by decide)))) ?_
            simp only [hI_sI', and_self, ↓reduceIte]
            refine wp_iconst (v := 1) dX8_add_102 (by decide) ?_
            refine wp_isub dX8_add_103 ?_
            refine wp_ireturn rfl dX8_add_104 ?_
            rw [nI_pred]
            exact hq1 ⟨h7, h19, h29, h41⟩ hn9
          · refine wp_iconst (v := -1) dX8_add_65 (by decide) ?_
            refine wp_ireturn rfl dX8_add_66 ?_
            exact hq2 (fun q => h62 (nI_lt q.2 (by decide)))
theorem l_X8_anyLame {d n : Nat} {ho : Nat → Nat} {x : Int32} {H : PH} {Q : Option Value → PH → Prop} (hF : Fix H) (hS : HS H n ho) (hq : Q (some (.int (bI (¬ ∀ i, i < n → hb x i → hI H (ho i) 4 = 0)))) H) : ∀ (j i : Nat), n - i = j → i ≤ n → (∀ e, e < i → hb x e → hI H (ho e) 4 = 0) → Wp mX8_anyLame (d + 1) 0 0 2 [some (.ref 2), some (.int x), some (.int (nI i))] [] H Q := by
  obtain ⟨hn, h16, hr, hk, hl, -⟩ := hS
  intro j
  induction j with
  | zero =>
    intro i hj hi hbb
    have hin : i = n := by omega
    subst hin
    refine wp_iload_n dX8_anyLame_2 rfl ?_
    refine wp_aload_n dX8_anyLame_3 rfl ?_
    refine wp_geti dX8_anyLame_4 fl_RX8_32 rfl (fk_2 hF) ?_
    refine wp_icmp_ge (tgt := 38) dX8_anyLame_7 (by decide) (fun _ => ?_) (fun h7 => absurd h7 (by rw [hn]; exact fun h => h (nI_le (Nat.le_refl _) (by omega))))
    refine wp_iconst (v := 0) dX8_anyLame_38 (by decide) ?_
    refine wp_zreturn rfl (Or.inl rfl) dX8_anyLame_39 ?_
    exact bq_f hq (fun q => q hbb)
  | succ j ih =>
    intro i hj hi hbb
    have hlt : i < n := by omega
    refine wp_iload_n dX8_anyLame_2 rfl ?_
    refine wp_aload_n dX8_anyLame_3 rfl ?_
    refine wp_geti dX8_anyLame_4 fl_RX8_32 rfl (fk_2 hF) ?_
    refine wp_icmp_ge (tgt := 38) dX8_anyLame_7 (by decide) (fun h7 => absurd h7 (by rw [hn]; exact nI_ge (by omega) (by omega))) (fun _ => ?_)
    refine wp_iload_n dX8_anyLame_10 rfl ?_
    refine wp_iload_n dX8_anyLame_11 rfl ?_
    refine wp_calls2 dX8_anyLame_12 lk_RX8_61 ok_X11_hasBit st_X11_hasBit (Nat.le_of_ble_eq_true rfl) (Nat.le_of_ble_eq_true rfl) ?_
    refine c_X11_hasBit ?_
    refine wp_ifb_eq (tgt := 32) dX8_anyLame_15 (by decide) (fun h15 => ?_) (fun h15 => ?_)
    · refine wp_incN dX8_anyLame_32 rfl (by decide) ?_
      refine wp_goto (tgt := 2) dX8_anyLame_35 (by decide) ?_
      refine ih (i + 1) (by omega) (by omega) (fun e he => ?_)
      rcases Nat.lt_succ_iff_lt_or_eq.mp he with h | h
      · exact hbb e h
      · subst h; first | exact fun q => absurd q h15 | exact fun _ => h27
    · refine wp_aload_n dX8_anyLame_18 rfl ?_
      refine wp_geta dX8_anyLame_19 fl_RX8_11 rfl (fk_2 hF) (fr_2_0 hF) ?_
      refine wp_iload_n dX8_anyLame_22 rfl ?_
      refine wp_aaloadA dX8_anyLame_23 (fk_3 hF) (by decide) (by omega) (by decide) (hr i hlt) ?_
      refine wp_geti dX8_anyLame_24 fl_RX8_42 rfl (hk i hlt) ?_
      refine wp_if_eq (tgt := 32) dX8_anyLame_27 (by decide) (fun h27 => ?_) (fun h27 => ?_)
      · refine wp_incN dX8_anyLame_32 rfl (by decide) ?_
        refine wp_goto (tgt := 2) dX8_anyLame_35 (by decide) ?_
        refine ih (i + 1) (by omega) (by omega) (fun e he => ?_)
        rcases Nat.lt_succ_iff_lt_or_eq.mp he with h | h
        · exact hbb e h
        · subst h; first | exact fun q => absurd q h15 | exact fun _ => h27
      · refine wp_iconst (v := 1) dX8_anyLame_30 (by decide) ?_
        refine wp_zreturn rfl (Or.inr rfl) dX8_anyLame_31 ?_
        exact bq_t hq (fun q => h27 (q i hlt h15))
theorem c_X8_anyLame {d n : Nat} {ho : Nat → Nat} {x : Int32} {H : PH} {Q : Option Value → PH → Prop} (hF : Fix H) (hS : HS H n ho) (hq : Q (some (.int (bI (¬ ∀ i, i < n → hb x i → hI H (ho i) 4 = 0)))) H) : Wp mX8_anyLame (d + 1) 0 0 0 [some (.ref 2), some (.int x), none] [] H Q := by
  refine wp_iconst (v := 0) dX8_anyLame_0 (by decide) ?_
  refine wp_istore_n dX8_anyLame_1 (by decide) ?_
  exact l_X8_anyLame hF hS hq n 0 (by omega) (by omega) (fun e he => absurd he (Nat.not_lt_zero e))
abbrev allA (H : PH) (ho : Nat → Nat) (n : Nat) (x : Int32) : Prop := ∀ a, a < n → ∀ b, b < n → a < b → hb x a → hb x b → alk H ho a b
theorem l_X8_allAlike2 {d n a : Nat} {ho : Nat → Nat} {x : Int32} {H : PH} {Q : Option Value → PH → Prop} (hF : Fix H) (hS : HS H n ho) (ha : a < n) (hq : ¬ allA H ho n x → Q (some (.int 0)) H)
    (kont : (∀ b, b < n → a < b → hb x a → hb x b → alk H ho a b) → Wp mX8_allAlike (d + 2) 0 0 2 [some (.ref 2), some (.int x), some (.int (nI (a + 1))), none] [] H Q) :
    ∀ (j b : Nat), n - b = j → a < b → b ≤ n → (∀ e, e < b → a < e → hb x a → hb x e → alk H ho a e) → Wp mX8_allAlike (d + 2) 0 0 14 [some (.ref 2), some (.int x), some (.int (nI a)), some (.int (nI b))] [] H Q := by
  obtain ⟨hn, h16, hr, hk, hl, -⟩ := hS
  intro j
  induction j with
  | zero =>
    intro b hj hab hb1 hbb
    have hin : b = n := by omega
    subst hin
    refine wp_iload_n dX8_allAlike_14 rfl ?_
    refine wp_aload_n dX8_allAlike_15 rfl ?_
    refine wp_geti dX8_allAlike_16 fl_RX8_32 rfl (fk_2 hF) ?_
    refine wp_icmp_ge (tgt := 65) dX8_allAlike_19 (by decide) (fun _ => ?_) (fun h19 => absurd h19 (by rw [hn]; exact fun h => h (nI_le (Nat.le_refl _) (by omega))))
    refine wp_incN dX8_allAlike_65 rfl (by decide) ?_
    refine wp_goto (tgt := 2) dX8_allAlike_68 (by decide) ?_
    exact wp_forget 3 (kont hbb)
  | succ j ih =>
    intro b hj hab hb1 hbb
    have hlt : b < n := by omega
    refine wp_iload_n dX8_allAlike_14 rfl ?_
    refine wp_aload_n dX8_allAlike_15 rfl ?_
    refine wp_geti dX8_allAlike_16 fl_RX8_32 rfl (fk_2 hF) ?_
    refine wp_icmp_ge (tgt := 65) dX8_allAlike_19 (by decide) (fun h19 => absurd h19 (by rw [hn]; exact nI_ge (by omega) (by omega))) (fun _ => ?_)
    refine wp_iload_n dX8_allAlike_22 rfl ?_
    refine wp_iload_n dX8_allAlike_23 rfl ?_
    refine wp_calls2 dX8_allAlike_24 lk_RX8_61 ok_X11_hasBit st_X11_hasBit (Nat.le_of_ble_eq_true rfl) (Nat.le_of_ble_eq_true rfl) ?_
    refine c_X11_hasBit ?_
    refine wp_ifb_eq (tgt := 59) dX8_allAlike_27 (by decide) (fun h27 => ?_) (fun h27 => ?_)
    · refine wp_incN dX8_allAlike_59 rfl (by decide) ?_
      refine wp_goto (tgt := 14) dX8_allAlike_62 (by decide) ?_
      refine ih (b + 1) (by omega) (by omega) (by omega) (fun e he => ?_)
      rcases Nat.lt_succ_iff_lt_or_eq.mp he with h | h
      · exact hbb e h
      · subst h; first | exact fun _ q => absurd q h27 | exact fun _ _ q => absurd q h35 | exact fun _ _ _ => h54
    · refine wp_iload_n dX8_allAlike_30 rfl ?_
      refine wp_iload_n dX8_allAlike_31 rfl ?_
      refine wp_calls2 dX8_allAlike_32 lk_RX8_61 ok_X11_hasBit st_X11_hasBit (Nat.le_of_ble_eq_true rfl) (Nat.le_of_ble_eq_true rfl) ?_
      refine c_X11_hasBit ?_
      refine wp_ifb_eq (tgt := 59) dX8_allAlike_35 (by decide) (fun h35 => ?_) (fun h35 => ?_)
      · refine wp_incN dX8_allAlike_59 rfl (by decide) ?_
        refine wp_goto (tgt := 14) dX8_allAlike_62 (by decide) ?_
        refine ih (b + 1) (by omega) (by omega) (by omega) (fun e he => ?_)
        rcases Nat.lt_succ_iff_lt_or_eq.mp he with h | h
        · exact hbb e h
        · subst h; first | exact fun _ q => absurd q h27 | exact fun _ _ q => absurd q h35 | exact fun _ _ _ => h54
      · refine wp_aload_n dX8_allAlike_38 rfl ?_
        refine wp_aload_n dX8_allAlike_39 rfl ?_
        refine wp_geta dX8_allAlike_40 fl_RX8_11 rfl (fk_2 hF) (fr_2_0 hF) ?_
        refine wp_iload_n dX8_allAlike_43 rfl ?_
        refine wp_aaloadA dX8_allAlike_44 (fk_3 hF) (by decide) (by omega) (by decide) (hr a ha) ?_
        refine wp_aload_n dX8_allAlike_45 rfl ?_
        refine wp_geta dX8_allAlike_46 fl_RX8_11 rfl (fk_2 hF) (fr_2_0 hF) ?_
        refine wp_iload_n dX8_allAlike_49 rfl ?_
        refine wp_aaloadA dX8_allAlike_50 (fk_3 hF) (by decide) (by omega) (by decide) (hr b hlt) ?_
        refine wp_callv2 (ci := 8) dX8_allAlike_51 lk_RX8_65 ok_X8_alike im_X8_alike se_X8_alike rfl rfl (fk_2 hF) (Nat.le_of_ble_eq_true rfl) (Nat.le_of_ble_eq_true rfl) ?_
        refine c_X8_alike hF (hk a ha) (hk b hlt) ?_
        refine wp_ifb_ne (tgt := 59) dX8_allAlike_54 (by decide) (fun h54 => ?_) (fun h54 => ?_)
        · refine wp_incN dX8_allAlike_59 rfl (by decide) ?_
          refine wp_goto (tgt := 14) dX8_allAlike_62 (by decide) ?_
          refine ih (b + 1) (by omega) (by omega) (by omega) (fun e he => ?_)
          rcases Nat.lt_succ_iff_lt_or_eq.mp he with h | h
          · exact hbb e h
          · subst h; first | exact fun _ q => absurd q h27 | exact fun _ _ q => absurd q h35 | exact fun _ _ _ => h54
        · refine wp_iconst (v := 0) dX8_allAlike_57 (by decide) ?_
          refine wp_zreturn rfl (Or.inl rfl) dX8_allAlike_58 ?_
          exact hq (fun q => h54 (q a ha b hlt hab h27 h35))
theorem l_X8_allAlike {d n : Nat} {ho : Nat → Nat} {x : Int32} {H : PH} {Q : Option Value → PH → Prop} (hF : Fix H) (hS : HS H n ho) (hq : Q (some (.int (bI (allA H ho n x)))) H) : ∀ (j a : Nat), n - a = j → a ≤ n → (∀ e, e < a → ∀ b, b < n → e < b → hb x e → hb x b → alk H ho e b) → Wp mX8_allAlike (d + 2) 0 0 2 [some (.ref 2), some (.int x), some (.int (nI a)), none] [] H Q := by
  have hS0 := hS
  obtain ⟨hn, h16, hr, hk, hl, -⟩ := hS
  intro j
  induction j with
  | zero =>
    intro a hj hi hbb
    have hin : a = n := by omega
    subst hin
    refine wp_iload_n dX8_allAlike_2 rfl ?_
    refine wp_aload_n dX8_allAlike_3 rfl ?_
    refine wp_geti dX8_allAlike_4 fl_RX8_32 rfl (fk_2 hF) ?_
    refine wp_icmp_ge (tgt := 71) dX8_allAlike_7 (by decide) (fun _ => ?_) (fun h7 => absurd h7 (by rw [hn]; exact fun h => h (nI_le (Nat.le_refl _) (by omega))))
    refine wp_iconst (v := 1) dX8_allAlike_71 (by decide) ?_
    refine wp_zreturn rfl (Or.inr rfl) dX8_allAlike_72 ?_
    exact bq_t hq hbb
  | succ j ih =>
    intro a hj hi hbb
    have hlt : a < n := by omega
    refine wp_iload_n dX8_allAlike_2 rfl ?_
    refine wp_aload_n dX8_allAlike_3 rfl ?_
    refine wp_geti dX8_allAlike_4 fl_RX8_32 rfl (fk_2 hF) ?_
    refine wp_icmp_ge (tgt := 71) dX8_allAlike_7 (by decide) (fun h7 => absurd h7 (by rw [hn]; exact nI_ge (by omega) (by omega))) (fun _ => ?_)
    refine wp_iload_n dX8_allAlike_10 rfl ?_
    refine wp_iconst (v := 1) dX8_allAlike_11 (by decide) ?_
    refine wp_iadd dX8_allAlike_12 ?_
    rw [nI_1]
    refine wp_istore_n dX8_allAlike_13 (by decide) ?_
    refine l_X8_allAlike2 hF hS0 hlt (fun q => bq_f hq q) (fun q9 => ih (a + 1) (by omega) (by omega) (fun e he => ?_)) _ (a + 1) rfl (by omega) (by omega) (fun e he h => by omega)
    rcases Nat.lt_succ_iff_lt_or_eq.mp he with h | h
    · exact hbb e h
    · subst h; exact q9
theorem c_X8_allAlike {d n : Nat} {ho : Nat → Nat} {x : Int32} {H : PH} {Q : Option Value → PH → Prop} (hF : Fix H) (hS : HS H n ho) (hq : Q (some (.int (bI (allA H ho n x)))) H) : Wp mX8_allAlike (d + 2) 0 0 0 [some (.ref 2), some (.int x), none, none] [] H Q := by
  refine wp_iconst (v := 0) dX8_allAlike_0 (by decide) ?_
  refine wp_istore_n dX8_allAlike_1 (by decide) ?_
  exact l_X8_allAlike hF hS hq n 0 (by omega) (by omega) (fun e he => absurd he (Nat.not_lt_zero e))
