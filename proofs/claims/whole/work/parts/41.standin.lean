/-! ===== stand-ins: class and reference ===== -/
/-- the best of those below e: least difference, then least number -/
def siV (ok : Nat → Prop) (D : Nat → Int32) (e : Nat) : Option Nat → Prop
  | none => ∀ g, g < e → ¬ ok g
  | some b => b < e ∧ ok b ∧ ∀ g, g < e → ok g → D b ≤ D g ∧ (D b = D g → b ≤ g)
theorem siV_skip {ok : Nat → Prop} {D : Nat → Int32} {e : Nat} {o : Option Nat} (h : siV ok D e o) (hn : ¬ ok e) : siV ok D (e + 1) o := by
  cases o with
  | none =>
    intro g hg
    rcases Nat.lt_succ_iff_lt_or_eq.mp hg with q | q
    · exact h g q
    · subst q; exact hn
  | some b =>
    refine ⟨Nat.lt_succ_of_lt h.1, h.2.1, fun g hg hok => ?_⟩
    rcases Nat.lt_succ_iff_lt_or_eq.mp hg with q | q
    · exact h.2.2 g q hok
    · subst q; exact absurd hok hn
theorem siV_keep {ok : Nat → Prop} {D : Nat → Int32} {e b : Nat} (h : siV ok D e (some b)) (hn : D b ≤ D e) : siV ok D (e + 1) (some b) := by
  refine ⟨Nat.lt_succ_of_lt h.1, h.2.1, fun g hg hok => ?_⟩
  rcases Nat.lt_succ_iff_lt_or_eq.mp hg with q | q
  · exact h.2.2 g q hok
  · subst q; exact ⟨hn, fun _ => Nat.le_of_lt h.1⟩
theorem siV_take0 {ok : Nat → Prop} {D : Nat → Int32} {e : Nat} (h : siV ok D e none) (ho : ok e) : siV ok D (e + 1) (some e) := by
  refine ⟨Nat.lt_succ_self e, ho, fun g hg hok => ?_⟩
  rcases Nat.lt_succ_iff_lt_or_eq.mp hg with q | q
  · exact absurd hok (h g q)
  · subst q; exact ⟨Int32.le_refl _, fun _ => Nat.le_refl _⟩
theorem siV_take {ok : Nat → Prop} {D : Nat → Int32} {e b : Nat} (h : siV ok D e (some b)) (ho : ok e) (hd : D e < D b) : siV ok D (e + 1) (some e) := by
  refine ⟨Nat.lt_succ_self e, ho, fun g hg hok => ?_⟩
  rcases Nat.lt_succ_iff_lt_or_eq.mp hg with q | q
  · have h9 := Int32.lt_of_lt_of_le hd (h.2.2 g q hok).1
    exact ⟨Int32.le_of_lt h9, fun e9 => absurd h9 (by rw [e9]; exact Int32.lt_irrefl)⟩
  · subst q; exact ⟨Int32.le_refl _, fun _ => Nat.le_refl _⟩
def tmN (z : Int32) (hx e : Nat) : Int32 := (z &&& (((1 : Int32) <<< (nI hx &&& 31)) ^^^ (-1))) ||| ((1 : Int32) <<< (nI e &&& 31))
def okC (H : PH) (jo fr tt ord ho : Nat → Nat) (m n i hx e : Nat) : Prop := ¬ hb (hI H (jo i) 7) e ∧ flw H jo fr tt ord ho m n i (tmN (hI H (jo i) 7) hx e) = 0
theorem nI_m1 {b : Nat} (h : b < 2 ^ 31) : ¬ nI b = -1 := fun e => nI_pos h (by rw [e]; decide)
section SI
variable {d m n i hx : Nat} {jo fr tt ord ho pos : Nat → Nat} {H : PH} {Q : Option Value → PH → Prop}
theorem l_X10_bestStandIn (hF : Fix H) (hJ : JS H m jo fr tt) (hO : ∀ t, t < m → hI H 8 t = nI (ord t) ∧ ord t < m) (hS : HS H n ho) (hi : i < m) (hhx : hx < n) (hq : ∀ o, siV (okC H jo fr tt ord ho m n i hx) (fun e => dif H ho e hx) n o → Q (some (.int (befV o))) H) :
    ∀ (f e : Nat) (o : Option Nat), n - e = f → e ≤ n → siV (okC H jo fr tt ord ho m n i hx) (fun e => dif H ho e hx) e o → Wp mX10_bestStandIn (d + 6) 0 0 21 [some (.ref 13), some (.int (nI i)), some (.int (nI hx)), some (.ref (jo i)), some (.int (befV o)), some (.int (nI e)), none, none] [] H Q := by
  have hn := hS.1
  have h16' := hS.2.1
  have hk := hJ.2.2.2.1 i hi
  intro f
  induction f with
  | zero =>
    intro e o hf he ho
    have hin : e = n := by omega
    subst hin
    refine wp_iload dX10_bestStandIn_21 rfl ?_
    refine wp_aload_n dX10_bestStandIn_23 rfl ?_
    refine wp_geta dX10_bestStandIn_24 fl_RX10_9 rfl (fk_13 hF) (fr_13_0 hF) ?_
    refine wp_geti dX10_bestStandIn_27 fl_RX10_94 rfl (fk_2 hF) ?_
    refine wp_icmp_ge (tgt := 124) dX10_bestStandIn_30 (by decide) (fun _ => ?_) (fun h30 => absurd h30 (by rw [hn]; exact fun h => h (nI_le (Nat.le_refl _) (by omega))))
    refine wp_iload dX10_bestStandIn_124 rfl ?_
    refine wp_ireturn rfl dX10_bestStandIn_126 ?_
    exact hq o ho
  | succ f ih =>
    intro e o hf he hso
    have hlt : e < n := by omega
    cases o with
    | none =>
      refine wp_iload dX10_bestStandIn_21 rfl ?_
      refine wp_aload_n dX10_bestStandIn_23 rfl ?_
      refine wp_geta dX10_bestStandIn_24 fl_RX10_9 rfl (fk_13 hF) (fr_13_0 hF) ?_
      refine wp_geti dX10_bestStandIn_27 fl_RX10_94 rfl (fk_2 hF) ?_
      refine wp_icmp_ge (tgt := 124) dX10_bestStandIn_30 (by decide) (fun h30 => absurd h30 (by rw [hn]; exact nI_ge (by omega) (by omega))) (fun _ => ?_)
      refine wp_iload dX10_bestStandIn_33 rfl ?_
      refine wp_iconst (v := -1) dX10_bestStandIn_35 (by decide) ?_
      refine wp_icmp_eq (tgt := 62) dX10_bestStandIn_36 (by decide) (fun _ => ?_) (fun h36 => absurd h36 (fun h => h rfl))
      refine wp_iconst (v := 1) dX10_bestStandIn_62 (by decide) ?_
      refine wp_goto (tgt := 67) dX10_bestStandIn_63 (by decide) ?_
      refine wp_istore dX10_bestStandIn_67 (by decide) ?_
      refine wp_aload_n dX10_bestStandIn_69 rfl ?_
      refine wp_geti dX10_bestStandIn_70 fl_RX10_50 rfl (hk) ?_
      refine wp_iconst (v := 1) dX10_bestStandIn_73 (by decide) ?_
      refine wp_iload_n dX10_bestStandIn_74 rfl ?_
      refine wp_ishl dX10_bestStandIn_75 ?_
      refine wp_iconst (v := -1) dX10_bestStandIn_76 (by decide) ?_
      refine wp_ixor dX10_bestStandIn_77 ?_
      refine wp_iand dX10_bestStandIn_78 ?_
      refine wp_iconst (v := 1) dX10_bestStandIn_79 (by decide) ?_
      refine wp_iload dX10_bestStandIn_80 rfl ?_
      refine wp_ishl dX10_bestStandIn_82 ?_
      refine wp_ior dX10_bestStandIn_83 ?_
      refine wp_istore dX10_bestStandIn_84 (by decide) ?_
      refine wp_iload dX10_bestStandIn_86 rfl ?_
      refine wp_if_eq (tgt := 118) dX10_bestStandIn_88 (by decide) (fun h88 => absurd h88 (by decide)) (fun _ => ?_)
      refine wp_aload_n dX10_bestStandIn_91 rfl ?_
      refine wp_geti dX10_bestStandIn_92 fl_RX10_50 rfl (hk) ?_
      refine wp_iload dX10_bestStandIn_95 rfl ?_
      refine wp_calls2 dX10_bestStandIn_97 lk_RX10_56 ok_X11_hasBit st_X11_hasBit (Nat.le_of_ble_eq_true rfl) (Nat.le_of_ble_eq_true rfl) ?_
      refine c_X11_hasBit ?_
      refine wp_ifb_ne (tgt := 118) dX10_bestStandIn_100 (by decide) (fun h100 => ?_) (fun h100 => ?_)
      · refine wp_incN dX10_bestStandIn_118 rfl (by decide) ?_
        refine wp_goto (tgt := 21) dX10_bestStandIn_121 (by decide) ?_
        refine wp_forget 6 (wp_forget 7 ?_)
        first
          | exact ih (e + 1) none (by omega) (by omega) (siV_skip hso (fun q => by first | exact q.1 h100 | exact h111 q.2))
          | exact ih (e + 1) (some e) (by omega) (by omega) (siV_take0 hso ⟨h100, h111⟩)
      · refine wp_aload_n dX10_bestStandIn_103 rfl ?_
        refine wp_iload_n dX10_bestStandIn_104 rfl ?_
        refine wp_aload_n dX10_bestStandIn_105 rfl ?_
        refine wp_iload dX10_bestStandIn_106 rfl ?_
        refine wp_callv3 (ci := 10) dX10_bestStandIn_108 lk_RX10_60 ok_X10_flawOf im_X10_flawOf se_X10_flawOf rfl rfl (fk_13 hF) (Nat.le_of_ble_eq_true rfl) (Nat.le_of_ble_eq_true rfl) ?_
        refine c_X10_flawOf hF hJ hO hS hi ?_
        refine wp_if_ne (tgt := 118) dX10_bestStandIn_111 (by decide) (fun h111 => ?_) (fun h111 => ?_)
        · refine wp_incN dX10_bestStandIn_118 rfl (by decide) ?_
          refine wp_goto (tgt := 21) dX10_bestStandIn_121 (by decide) ?_
          refine wp_forget 6 (wp_forget 7 ?_)
          first
            | exact ih (e + 1) none (by omega) (by omega) (siV_skip hso (fun q => by first | exact q.1 h100 | exact h111 q.2))
            | exact ih (e + 1) (some e) (by omega) (by omega) (siV_take0 hso ⟨h100, h111⟩)
        · refine wp_iload dX10_bestStandIn_114 rfl ?_
          refine wp_istore dX10_bestStandIn_116 (by decide) ?_
          refine wp_incN dX10_bestStandIn_118 rfl (by decide) ?_
          refine wp_goto (tgt := 21) dX10_bestStandIn_121 (by decide) ?_
          refine wp_forget 6 (wp_forget 7 ?_)
          first
            | exact ih (e + 1) none (by omega) (by omega) (siV_skip hso (fun q => by first | exact q.1 h100 | exact h111 q.2))
            | exact ih (e + 1) (some e) (by omega) (by omega) (siV_take0 hso ⟨h100, h111⟩)
    | some b =>
      have hbn : b < n := by have := hso.1; omega
      refine wp_iload dX10_bestStandIn_21 rfl ?_
      refine wp_aload_n dX10_bestStandIn_23 rfl ?_
      refine wp_geta dX10_bestStandIn_24 fl_RX10_9 rfl (fk_13 hF) (fr_13_0 hF) ?_
      refine wp_geti dX10_bestStandIn_27 fl_RX10_94 rfl (fk_2 hF) ?_
      refine wp_icmp_ge (tgt := 124) dX10_bestStandIn_30 (by decide) (fun h30 => absurd h30 (by rw [hn]; exact nI_ge (by omega) (by omega))) (fun _ => ?_)
      refine wp_iload dX10_bestStandIn_33 rfl ?_
      refine wp_iconst (v := -1) dX10_bestStandIn_35 (by decide) ?_
      refine wp_icmp_eq (tgt := 62) dX10_bestStandIn_36 (by decide) (fun h36 => absurd h36 (nI_m1 (by omega))) (fun _ => ?_)
      refine wp_aload_n dX10_bestStandIn_39 rfl ?_
      refine wp_geta dX10_bestStandIn_40 fl_RX10_9 rfl (fk_13 hF) (fr_13_0 hF) ?_
      refine wp_iload dX10_bestStandIn_43 rfl ?_
      refine wp_iload_n dX10_bestStandIn_45 rfl ?_
      refine wp_callv2 (ci := 8) dX10_bestStandIn_46 lk_RX10_113 ok_X8_difference im_X8_difference se_X8_difference rfl rfl (fk_2 hF) (Nat.le_of_ble_eq_true rfl) (Nat.le_of_ble_eq_true rfl) ?_
      refine c_X8_difference hF hS hlt hhx ?_
      refine wp_aload_n dX10_bestStandIn_49 rfl ?_
      refine wp_geta dX10_bestStandIn_50 fl_RX10_9 rfl (fk_13 hF) (fr_13_0 hF) ?_
      refine wp_iload dX10_bestStandIn_53 rfl ?_
      refine wp_iload_n dX10_bestStandIn_55 rfl ?_
      refine wp_callv2 (ci := 8) dX10_bestStandIn_56 lk_RX10_113 ok_X8_difference im_X8_difference se_X8_difference rfl rfl (fk_2 hF) (Nat.le_of_ble_eq_true rfl) (Nat.le_of_ble_eq_true rfl) ?_
      refine c_X8_difference hF hS hbn hhx ?_
      refine wp_icmp_ge (tgt := 66) dX10_bestStandIn_59 (by decide) (fun h59 => ?_) (fun h59 => ?_)
      · refine wp_iconst (v := 0) dX10_bestStandIn_66 (by decide) ?_
        refine wp_istore dX10_bestStandIn_67 (by decide) ?_
        refine wp_aload_n dX10_bestStandIn_69 rfl ?_
        refine wp_geti dX10_bestStandIn_70 fl_RX10_50 rfl (hk) ?_
        refine wp_iconst (v := 1) dX10_bestStandIn_73 (by decide) ?_
        refine wp_iload_n dX10_bestStandIn_74 rfl ?_
        refine wp_ishl dX10_bestStandIn_75 ?_
        refine wp_iconst (v := -1) dX10_bestStandIn_76 (by decide) ?_
        refine wp_ixor dX10_bestStandIn_77 ?_
        refine wp_iand dX10_bestStandIn_78 ?_
        refine wp_iconst (v := 1) dX10_bestStandIn_79 (by decide) ?_
        refine wp_iload dX10_bestStandIn_80 rfl ?_
        refine wp_ishl dX10_bestStandIn_82 ?_
        refine wp_ior dX10_bestStandIn_83 ?_
        refine wp_istore dX10_bestStandIn_84 (by decide) ?_
        refine wp_iload dX10_bestStandIn_86 rfl ?_
        refine wp_if_eq (tgt := 118) dX10_bestStandIn_88 (by decide) (fun _ => ?_) (fun h88 => absurd rfl h88)
        refine wp_incN dX10_bestStandIn_118 rfl (by decide) ?_
        refine wp_goto (tgt := 21) dX10_bestStandIn_121 (by decide) ?_
        refine wp_forget 6 (wp_forget 7 ?_)
        first
          | exact ih (e + 1) (some b) (by omega) (by omega) (siV_keep hso h59)
          | exact ih (e + 1) (some b) (by omega) (by omega) (siV_skip hso (fun q => by first | exact q.1 h100 | exact h111 q.2))
          | exact ih (e + 1) (some e) (by omega) (by omega) (siV_take hso ⟨h100, h111⟩ (Int32.not_le.mp h59))
      · refine wp_iconst (v := 1) dX10_bestStandIn_62 (by decide) ?_
        refine wp_goto (tgt := 67) dX10_bestStandIn_63 (by decide) ?_
        refine wp_istore dX10_bestStandIn_67 (by decide) ?_
        refine wp_aload_n dX10_bestStandIn_69 rfl ?_
        refine wp_geti dX10_bestStandIn_70 fl_RX10_50 rfl (hk) ?_
        refine wp_iconst (v := 1) dX10_bestStandIn_73 (by decide) ?_
        refine wp_iload_n dX10_bestStandIn_74 rfl ?_
        refine wp_ishl dX10_bestStandIn_75 ?_
        refine wp_iconst (v := -1) dX10_bestStandIn_76 (by decide) ?_
        refine wp_ixor dX10_bestStandIn_77 ?_
        refine wp_iand dX10_bestStandIn_78 ?_
        refine wp_iconst (v := 1) dX10_bestStandIn_79 (by decide) ?_
        refine wp_iload dX10_bestStandIn_80 rfl ?_
        refine wp_ishl dX10_bestStandIn_82 ?_
        refine wp_ior dX10_bestStandIn_83 ?_
        refine wp_istore dX10_bestStandIn_84 (by decide) ?_
        refine wp_iload dX10_bestStandIn_86 rfl ?_
        refine wp_if_eq (tgt := 118) dX10_bestStandIn_88 (by decide) (fun h88 => absurd h88 (by decide)) (fun _ => ?_)
        refine wp_aload_n dX10_bestStandIn_91 rfl ?_
        refine wp_geti dX10_bestStandIn_92 fl_RX10_50 rfl (hk) ?_
        refine wp_iload dX10_bestStandIn_95 rfl ?_
        refine wp_calls2 dX10_bestStandIn_97 lk_RX10_56 ok_X11_hasBit st_X11_hasBit (Nat.le_of_ble_eq_true rfl) (Nat.le_of_ble_eq_true rfl) ?_
        refine c_X11_hasBit ?_
        refine wp_ifb_ne (tgt := 118) dX10_bestStandIn_100 (by decide) (fun h100 => ?_) (fun h100 => ?_)
        · refine wp_incN dX10_bestStandIn_118 rfl (by decide) ?_
          refine wp_goto (tgt := 21) dX10_bestStandIn_121 (by decide) ?_
          refine wp_forget 6 (wp_forget 7 ?_)
          first
            | exact ih (e + 1) (some b) (by omega) (by omega) (siV_keep hso h59)
            | exact ih (e + 1) (some b) (by omega) (by omega) (siV_skip hso (fun q => by first | exact q.1 h100 | exact h111 q.2))
            | exact ih (e + 1) (some e) (by omega) (by omega) (siV_take hso ⟨h100, h111⟩ (Int32.not_le.mp h59))
        · refine wp_aload_n dX10_bestStandIn_103 rfl ?_
          refine wp_iload_n dX10_bestStandIn_104 rfl ?_
          refine wp_aload_n dX10_bestStandIn_105 rfl ?_
          refine wp_iload dX10_bestStandIn_106 rfl ?_
          refine wp_callv3 (ci := 10) dX10_bestStandIn_108 lk_RX10_60 ok_X10_flawOf im_X10_flawOf se_X10_flawOf rfl rfl (fk_13 hF) (Nat.le_of_ble_eq_true rfl) (Nat.le_of_ble_eq_true rfl) ?_
          refine c_X10_flawOf hF hJ hO hS hi ?_
          refine wp_if_ne (tgt := 118) dX10_bestStandIn_111 (by decide) (fun h111 => ?_) (fun h111 => ?_)
          · refine wp_incN dX10_bestStandIn_118 rfl (by decide) ?_
            refine wp_goto (tgt := 21) dX10_bestStandIn_121 (by decide) ?_
            refine wp_forget 6 (wp_forget 7 ?_)
            first
              | exact ih (e + 1) (some b) (by omega) (by omega) (siV_keep hso h59)
              | exact ih (e + 1) (some b) (by omega) (by omega) (siV_skip hso (fun q => by first | exact q.1 h100 | exact h111 q.2))
              | exact ih (e + 1) (some e) (by omega) (by omega) (siV_take hso ⟨h100, h111⟩ (Int32.not_le.mp h59))
          · refine wp_iload dX10_bestStandIn_114 rfl ?_
            refine wp_istore dX10_bestStandIn_116 (by decide) ?_
            refine wp_incN dX10_bestStandIn_118 rfl (by decide) ?_
            refine wp_goto (tgt := 21) dX10_bestStandIn_121 (by decide) ?_
            refine wp_forget 6 (wp_forget 7 ?_)
            first
              | exact ih (e + 1) (some b) (by omega) (by omega) (siV_keep hso h59)
              | exact ih (e + 1) (some b) (by omega) (by omega) (siV_skip hso (fun q => by first | exact q.1 h100 | exact h111 q.2))
              | exact ih (e + 1) (some e) (by omega) (by omega) (siV_take hso ⟨h100, h111⟩ (Int32.not_le.mp h59))
theorem c_X10_bestStandIn (hF : Fix H) (hJ : JS H m jo fr tt) (hO : ∀ t, t < m → hI H 8 t = nI (ord t) ∧ ord t < m) (hS : HS H n ho) (hi : i < m) (hdi : hI H (jo i) 8 = 0) (hhx : hx < n) (hq : ∀ o, siV (okC H jo fr tt ord ho m n i hx) (fun e => dif H ho e hx) n o → Q (some (.int (befV o))) H) : Wp mX10_bestStandIn (d + 6) 0 0 0 [some (.ref 13), some (.int (nI i)), some (.int (nI hx)), none, none, none, none, none] [] H Q := by
  refine wp_aload_n dX10_bestStandIn_0 rfl ?_
  refine wp_geta dX10_bestStandIn_1 fl_RX10_15 rfl (fk_13 hF) (fr_13_1 hF) ?_
  refine wp_iload_n dX10_bestStandIn_4 rfl ?_
  refine wp_callv1 (ci := 1) dX10_bestStandIn_5 lk_RX10_27 ok_X1_findKept im_X1_findKept se_X1_findKept rfl rfl (fk_5 hF) (Nat.le_of_ble_eq_true rfl) (Nat.le_of_ble_eq_true rfl) ?_
  refine c_X1_findKeptN hF hJ hi (fun _ => ?_) (fun hd => absurd hdi hd)
  refine wp_astore_n dX10_bestStandIn_8 (by decide) ?_
  refine wp_aload_n dX10_bestStandIn_9 rfl ?_
  refine wp_ifnonnull (r := some _) (tgt := 15) dX10_bestStandIn_10 (by decide) (fun h => by cases h) (fun _ _ => ?_)
  refine wp_iconst (v := -1) dX10_bestStandIn_15 (by decide) ?_
  refine wp_istore dX10_bestStandIn_16 (by decide) ?_
  refine wp_iconst (v := 0) dX10_bestStandIn_18 (by decide) ?_
  refine wp_istore dX10_bestStandIn_19 (by decide) ?_
  exact l_X10_bestStandIn hF hJ hO hS hi hhx hq n 0 none (by omega) (by omega) (fun g hg => absurd hg (Nat.not_lt_zero g))
def okM (H : PH) (fr tt ord : Nat → Nat) (m n i hx e : Nat) : Prop := ¬ mb (hI H 46 i) e ∧ rgt H fr tt ord m n i (tmN (hI H 46 i) hx e) = 0
def difM (H : PH) (hx e : Nat) : Int32 := farI (hI H 35 e) (hI H 35 hx) + 5 * farI (hI H 36 e) (hI H 36 hx)
theorem l_X12_standIn (hF : Fix H) (hM : MJ H m fr tt) (hO : OP H m ord pos) (hn : hI H 33 0 = nI n) (h16' : n ≤ 16) (hi : i < m) (hdi : hI H 47 i = 0) (hhx : hx < n) (hq : ∀ o, siV (okM H fr tt ord m n i hx) (difM H hx) n o → Q (some (.int (befV o))) H) :
    ∀ (f e : Nat) (o : Option Nat) (l : Int32), n - e = f → e ≤ n → siV (okM H fr tt ord m n i hx) (difM H hx) e o → (∀ b, o = some b → l = difM H hx b) → Wp mX12_standIn (d + 5) 0 0 53 [some (.ref 33), some (.int (nI i)), some (.int (nI hx)), some (.int (hI H 46 i &&& (((1 : Int32) <<< (nI hx &&& 31)) ^^^ (-1)))), some (.int (befV o)), some (.int l), some (.int (nI e)), none] [] H Q := by
  have h10' := hM.2.1
  intro f
  induction f with
  | zero =>
    intro e o l hf he hso hl
    have hin : e = n := by omega
    subst hin
    refine wp_iload dX12_standIn_53 rfl ?_
    refine wp_aload_n dX12_standIn_55 rfl ?_
    refine wp_geti dX12_standIn_56 fl_RX12_132 rfl (fk_33 hF) ?_
    refine wp_icmp_ge (tgt := 160) dX12_standIn_59 (by decide) (fun _ => ?_) (fun h59 => absurd h59 (by rw [hn]; exact fun h => h (nI_le (Nat.le_refl _) (by omega))))
    refine wp_iload dX12_standIn_160 rfl ?_
    refine wp_ireturn rfl dX12_standIn_162 ?_
    exact hq o hso
  | succ f ih =>
    intro e o l hf he hso hl
    have hlt : e < n := by omega
    cases o with
    | none =>
      refine wp_iload dX12_standIn_53 rfl ?_
      refine wp_aload_n dX12_standIn_55 rfl ?_
      refine wp_geti dX12_standIn_56 fl_RX12_132 rfl (fk_33 hF) ?_
      refine wp_icmp_ge (tgt := 160) dX12_standIn_59 (by decide) (fun h59 => absurd h59 (by rw [hn]; exact nI_ge (by omega) (by omega))) (fun _ => ?_)
      refine wp_aload_n dX12_standIn_62 rfl ?_
      refine wp_geta dX12_standIn_63 fl_RX12_57 rfl (fk_33 hF) (fr_33_18 hF) ?_
      refine wp_iload_n dX12_standIn_66 rfl ?_
      refine wp_ialoadN dX12_standIn_67 (fk_46 hF) (by omega) (by decide) ?_
      refine wp_iload dX12_standIn_68 rfl ?_
      refine wp_ishr dX12_standIn_70 ?_
      refine wp_iconst (v := 1) dX12_standIn_71 (by decide) ?_
      refine wp_iand dX12_standIn_72 ?_
      refine wp_iconst (v := 1) dX12_standIn_73 (by decide) ?_
      refine wp_icmp_eq (tgt := 154) dX12_standIn_74 (by decide) (fun h74 => ?_) (fun h74 => ?_)
      · refine wp_incN dX12_standIn_154 rfl (by decide) ?_
        refine wp_goto (tgt := 53) dX12_standIn_157 (by decide) ?_
        refine wp_forget 7 ?_
        first
          | exact ih (e + 1) none l (by omega) (by omega) (siV_skip hso (fun q => by first | exact q.1 h74 | exact h88 q.2)) hl
          | exact ih (e + 1) (some e) _ (by omega) (by omega) (siV_take0 hso ⟨h74, h88⟩) (fun b hb => by cases hb; rfl)
      · refine wp_aload_n dX12_standIn_77 rfl ?_
        refine wp_iload_n dX12_standIn_78 rfl ?_
        refine wp_iload_n dX12_standIn_79 rfl ?_
        refine wp_iconst (v := 1) dX12_standIn_80 (by decide) ?_
        refine wp_iload dX12_standIn_81 rfl ?_
        refine wp_ishl dX12_standIn_83 ?_
        refine wp_ior dX12_standIn_84 ?_
        refine wp_callv2 (ci := 12) dX12_standIn_85 lk_RX12_210 ok_X12_rightOf im_X12_rightOf se_X12_rightOf rfl rfl (fk_33 hF) (Nat.le_of_ble_eq_true rfl) (Nat.le_of_ble_eq_true rfl) ?_
        refine c_X12_rightOf hF hM hO hn h16' hi hdi ?_
        refine wp_if_eq (tgt := 94) dX12_standIn_88 (by decide) (fun h88 => ?_) (fun h88 => ?_)
        · refine wp_aload_n dX12_standIn_94 rfl ?_
          refine wp_geta dX12_standIn_95 fl_RX12_23 rfl (fk_33 hF) (fr_33_6 hF) ?_
          refine wp_iload dX12_standIn_98 rfl ?_
          refine wp_ialoadN dX12_standIn_100 (fk_35 hF) (by omega) (by decide) ?_
          refine wp_aload_n dX12_standIn_101 rfl ?_
          refine wp_geta dX12_standIn_102 fl_RX12_23 rfl (fk_33 hF) (fr_33_6 hF) ?_
          refine wp_iload_n dX12_standIn_105 rfl ?_
          refine wp_ialoadN dX12_standIn_106 (fk_35 hF) (by omega) (by decide) ?_
          refine wp_calls2 dX12_standIn_107 lk_RX12_145 ok_X12_far st_X12_far (Nat.le_of_ble_eq_true rfl) (Nat.le_of_ble_eq_true rfl) ?_
          refine c_X12_far ?_
          refine wp_iconst (v := 5) dX12_standIn_110 (by decide) ?_
          refine wp_aload_n dX12_standIn_111 rfl ?_
          refine wp_geta dX12_standIn_112 fl_RX12_26 rfl (fk_33 hF) (fr_33_7 hF) ?_
          refine wp_iload dX12_standIn_115 rfl ?_
          refine wp_ialoadN dX12_standIn_117 (fk_36 hF) (by omega) (by decide) ?_
          refine wp_aload_n dX12_standIn_118 rfl ?_
          refine wp_geta dX12_standIn_119 fl_RX12_26 rfl (fk_33 hF) (fr_33_7 hF) ?_
          refine wp_iload_n dX12_standIn_122 rfl ?_
          refine wp_ialoadN dX12_standIn_123 (fk_36 hF) (by omega) (by decide) ?_
          refine wp_calls2 dX12_standIn_124 lk_RX12_145 ok_X12_far st_X12_far (Nat.le_of_ble_eq_true rfl) (Nat.le_of_ble_eq_true rfl) ?_
          refine c_X12_far ?_
          refine wp_imul dX12_standIn_127 ?_
          refine wp_iadd dX12_standIn_128 ?_
          refine wp_istore dX12_standIn_129 (by decide) ?_
          refine wp_iload dX12_standIn_131 rfl ?_
          refine wp_if_lt (tgt := 146) dX12_standIn_133 (by decide) (fun _ => ?_) (fun h133 => absurd h133 (fun h => h (by decide)))
          refine wp_iload dX12_standIn_146 rfl ?_
          refine wp_istore dX12_standIn_148 (by decide) ?_
          refine wp_iload dX12_standIn_150 rfl ?_
          refine wp_istore dX12_standIn_152 (by decide) ?_
          refine wp_incN dX12_standIn_154 rfl (by decide) ?_
          refine wp_goto (tgt := 53) dX12_standIn_157 (by decide) ?_
          refine wp_forget 7 ?_
          first
            | exact ih (e + 1) none l (by omega) (by omega) (siV_skip hso (fun q => by first | exact q.1 h74 | exact h88 q.2)) hl
            | exact ih (e + 1) (some e) _ (by omega) (by omega) (siV_take0 hso ⟨h74, h88⟩) (fun b hb => by cases hb; rfl)
        · refine wp_goto (tgt := 154) dX12_standIn_91 (by decide) ?_
          refine wp_incN dX12_standIn_154 rfl (by decide) ?_
          refine wp_goto (tgt := 53) dX12_standIn_157 (by decide) ?_
          refine wp_forget 7 ?_
          first
            | exact ih (e + 1) none l (by omega) (by omega) (siV_skip hso (fun q => by first | exact q.1 h74 | exact h88 q.2)) hl
            | exact ih (e + 1) (some e) _ (by omega) (by omega) (siV_take0 hso ⟨h74, h88⟩) (fun b hb => by cases hb; rfl)
    | some b =>
      have hbn : b < n := by have := hso.1; omega
      have hlb := hl b rfl
      refine wp_iload dX12_standIn_53 rfl ?_
      refine wp_aload_n dX12_standIn_55 rfl ?_
      refine wp_geti dX12_standIn_56 fl_RX12_132 rfl (fk_33 hF) ?_
      refine wp_icmp_ge (tgt := 160) dX12_standIn_59 (by decide) (fun h59 => absurd h59 (by rw [hn]; exact nI_ge (by omega) (by omega))) (fun _ => ?_)
      refine wp_aload_n dX12_standIn_62 rfl ?_
      refine wp_geta dX12_standIn_63 fl_RX12_57 rfl (fk_33 hF) (fr_33_18 hF) ?_
      refine wp_iload_n dX12_standIn_66 rfl ?_
      refine wp_ialoadN dX12_standIn_67 (fk_46 hF) (by omega) (by decide) ?_
      refine wp_iload dX12_standIn_68 rfl ?_
      refine wp_ishr dX12_standIn_70 ?_
      refine wp_iconst (v := 1) dX12_standIn_71 (by decide) ?_
      refine wp_iand dX12_standIn_72 ?_
      refine wp_iconst (v := 1) dX12_standIn_73 (by decide) ?_
      refine wp_icmp_eq (tgt := 154) dX12_standIn_74 (by decide) (fun h74 => ?_) (fun h74 => ?_)
      · refine wp_incN dX12_standIn_154 rfl (by decide) ?_
        refine wp_goto (tgt := 53) dX12_standIn_157 (by decide) ?_
        refine wp_forget 7 ?_
        first
          | exact ih (e + 1) (some b) l (by omega) (by omega) (siV_skip hso (fun q => by first | exact q.1 h74 | exact h88 q.2)) hl
          | exact ih (e + 1) (some b) l (by omega) (by omega) (siV_keep hso (by rw [← hlb]; exact Int32.not_lt.mp h140)) hl
          | exact ih (e + 1) (some e) _ (by omega) (by omega) (siV_take hso ⟨h74, h88⟩ (by rw [← hlb]; exact h140)) (fun b' hb => by cases hb; rfl)
      · refine wp_aload_n dX12_standIn_77 rfl ?_
        refine wp_iload_n dX12_standIn_78 rfl ?_
        refine wp_iload_n dX12_standIn_79 rfl ?_
        refine wp_iconst (v := 1) dX12_standIn_80 (by decide) ?_
        refine wp_iload dX12_standIn_81 rfl ?_
        refine wp_ishl dX12_standIn_83 ?_
        refine wp_ior dX12_standIn_84 ?_
        refine wp_callv2 (ci := 12) dX12_standIn_85 lk_RX12_210 ok_X12_rightOf im_X12_rightOf se_X12_rightOf rfl rfl (fk_33 hF) (Nat.le_of_ble_eq_true rfl) (Nat.le_of_ble_eq_true rfl) ?_
        refine c_X12_rightOf hF hM hO hn h16' hi hdi ?_
        refine wp_if_eq (tgt := 94) dX12_standIn_88 (by decide) (fun h88 => ?_) (fun h88 => ?_)
        · refine wp_aload_n dX12_standIn_94 rfl ?_
          refine wp_geta dX12_standIn_95 fl_RX12_23 rfl (fk_33 hF) (fr_33_6 hF) ?_
          refine wp_iload dX12_standIn_98 rfl ?_
          refine wp_ialoadN dX12_standIn_100 (fk_35 hF) (by omega) (by decide) ?_
          refine wp_aload_n dX12_standIn_101 rfl ?_
          refine wp_geta dX12_standIn_102 fl_RX12_23 rfl (fk_33 hF) (fr_33_6 hF) ?_
          refine wp_iload_n dX12_standIn_105 rfl ?_
          refine wp_ialoadN dX12_standIn_106 (fk_35 hF) (by omega) (by decide) ?_
          refine wp_calls2 dX12_standIn_107 lk_RX12_145 ok_X12_far st_X12_far (Nat.le_of_ble_eq_true rfl) (Nat.le_of_ble_eq_true rfl) ?_
          refine c_X12_far ?_
          refine wp_iconst (v := 5) dX12_standIn_110 (by decide) ?_
          refine wp_aload_n dX12_standIn_111 rfl ?_
          refine wp_geta dX12_standIn_112 fl_RX12_26 rfl (fk_33 hF) (fr_33_7 hF) ?_
          refine wp_iload dX12_standIn_115 rfl ?_
          refine wp_ialoadN dX12_standIn_117 (fk_36 hF) (by omega) (by decide) ?_
          refine wp_aload_n dX12_standIn_118 rfl ?_
          refine wp_geta dX12_standIn_119 fl_RX12_26 rfl (fk_33 hF) (fr_33_7 hF) ?_
          refine wp_iload_n dX12_standIn_122 rfl ?_
          refine wp_ialoadN dX12_standIn_123 (fk_36 hF) (by omega) (by decide) ?_
          refine wp_calls2 dX12_standIn_124 lk_RX12_145 ok_X12_far st_X12_far (Nat.le_of_ble_eq_true rfl) (Nat.le_of_ble_eq_true rfl) ?_
          refine c_X12_far ?_
          refine wp_imul dX12_standIn_127 ?_
          refine wp_iadd dX12_standIn_128 ?_
          refine wp_istore dX12_standIn_129 (by decide) ?_
          refine wp_iload dX12_standIn_131 rfl ?_
          refine wp_if_lt (tgt := 146) dX12_standIn_133 (by decide) (fun h133 => absurd h133 (nI_pos (by omega))) (fun _ => ?_)
          refine wp_iload dX12_standIn_136 rfl ?_
          refine wp_iload dX12_standIn_138 rfl ?_
          refine wp_icmp_lt (tgt := 146) dX12_standIn_140 (by decide) (fun h140 => ?_) (fun h140 => ?_)
          · refine wp_iload dX12_standIn_146 rfl ?_
            refine wp_istore dX12_standIn_148 (by decide) ?_
            refine wp_iload dX12_standIn_150 rfl ?_
            refine wp_istore dX12_standIn_152 (by decide) ?_
            refine wp_incN dX12_standIn_154 rfl (by decide) ?_
            refine wp_goto (tgt := 53) dX12_standIn_157 (by decide) ?_
            refine wp_forget 7 ?_
            first
              | exact ih (e + 1) (some b) l (by omega) (by omega) (siV_skip hso (fun q => by first | exact q.1 h74 | exact h88 q.2)) hl
              | exact ih (e + 1) (some b) l (by omega) (by omega) (siV_keep hso (by rw [← hlb]; exact Int32.not_lt.mp h140)) hl
              | exact ih (e + 1) (some e) _ (by omega) (by omega) (siV_take hso ⟨h74, h88⟩ (by rw [← hlb]; exact h140)) (fun b' hb => by cases hb; rfl)
          · refine wp_goto (tgt := 154) dX12_standIn_143 (by decide) ?_
            refine wp_incN dX12_standIn_154 rfl (by decide) ?_
            refine wp_goto (tgt := 53) dX12_standIn_157 (by decide) ?_
            refine wp_forget 7 ?_
            first
              | exact ih (e + 1) (some b) l (by omega) (by omega) (siV_skip hso (fun q => by first | exact q.1 h74 | exact h88 q.2)) hl
              | exact ih (e + 1) (some b) l (by omega) (by omega) (siV_keep hso (by rw [← hlb]; exact Int32.not_lt.mp h140)) hl
              | exact ih (e + 1) (some e) _ (by omega) (by omega) (siV_take hso ⟨h74, h88⟩ (by rw [← hlb]; exact h140)) (fun b' hb => by cases hb; rfl)
        · refine wp_goto (tgt := 154) dX12_standIn_91 (by decide) ?_
          refine wp_incN dX12_standIn_154 rfl (by decide) ?_
          refine wp_goto (tgt := 53) dX12_standIn_157 (by decide) ?_
          refine wp_forget 7 ?_
          first
            | exact ih (e + 1) (some b) l (by omega) (by omega) (siV_skip hso (fun q => by first | exact q.1 h74 | exact h88 q.2)) hl
            | exact ih (e + 1) (some b) l (by omega) (by omega) (siV_keep hso (by rw [← hlb]; exact Int32.not_lt.mp h140)) hl
            | exact ih (e + 1) (some e) _ (by omega) (by omega) (siV_take hso ⟨h74, h88⟩ (by rw [← hlb]; exact h140)) (fun b' hb => by cases hb; rfl)
theorem c_X12_standIn (hF : Fix H) (hM : MJ H m fr tt) (hO : OP H m ord pos) (hn : hI H 33 0 = nI n) (h16' : n ≤ 16) {x y : Int32} (hq1 : ∀ j h, j < m → h < n → x = nI j → y = nI h → hI H 47 j = 0 → ¬ (hI H 46 j >>> (nI h &&& 31) &&& 1) = 0 → ∀ o, siV (okM H fr tt ord m n j h) (difM H h) n o → Q (some (.int (befV o))) H) (hq2 : (¬ ∃ j h, j < m ∧ h < n ∧ x = nI j ∧ y = nI h ∧ hI H 47 j = 0 ∧ ¬ (hI H 46 j >>> (nI h &&& 31) &&& 1) = 0) → Q (some (.int (-1))) H) : Wp mX12_standIn (d + 5) 0 0 0 [some (.ref 33), some (.int x), some (.int y), none, none, none, none, none] [] H Q := by
  have h10' := hM.2.1
  refine wp_aload_n dX12_standIn_0 rfl ?_
  refine wp_iload_n dX12_standIn_1 rfl ?_
  refine wp_callv1 (ci := 12) dX12_standIn_2 lk_RX12_169 ok_X12_isOn im_X12_isOn se_X12_isOn rfl rfl (fk_33 hF) (Nat.le_of_ble_eq_true rfl) (Nat.le_of_ble_eq_true rfl) ?_
  refine c_X12_isOn hF hM.1 hM.2.1 ?_
  refine wp_ifb_eq (tgt := 29) dX12_standIn_5 (by decide) (fun h5 => ?_) (fun h5 => ?_)
  · refine wp_iconst (v := -1) dX12_standIn_29 (by decide) ?_
    refine wp_ireturn rfl dX12_standIn_30 ?_
    refine hq2 (fun ⟨j', g', q1, q2, q3, q4, q5, q6⟩ => ?_)
    first
      | exact h5 ⟨j', q1, q3, q5⟩
      | exact h13 ⟨by rw [q4]; exact nI_pos' (by omega), by rw [q4]; exact nI_lt q2 (by omega)⟩
      | (have e9 : j' = j := (nI_eq (by omega) (by omega)).mp q3.symm
         have e8 : g' = g := (nI_eq (by omega) (by omega)).mp q4.symm
         subst e9; subst e8; exact q6 h26)
  · refine wp_aload_n dX12_standIn_8 rfl ?_
    refine wp_iload_n dX12_standIn_9 rfl ?_
    refine wp_callv1 (ci := 12) dX12_standIn_10 lk_RX12_135 ok_X12_isHorse im_X12_isHorse se_X12_isHorse rfl rfl (fk_33 hF) (Nat.le_of_ble_eq_true rfl) (Nat.le_of_ble_eq_true rfl) ?_
    refine c_X12_isHorse hF hn ?_
    refine wp_ifb_eq (tgt := 29) dX12_standIn_13 (by decide) (fun h13 => ?_) (fun h13 => ?_)
    · refine wp_iconst (v := -1) dX12_standIn_29 (by decide) ?_
      refine wp_ireturn rfl dX12_standIn_30 ?_
      refine hq2 (fun ⟨j', g', q1, q2, q3, q4, q5, q6⟩ => ?_)
      first
        | exact h5 ⟨j', q1, q3, q5⟩
        | exact h13 ⟨by rw [q4]; exact nI_pos' (by omega), by rw [q4]; exact nI_lt q2 (by omega)⟩
        | (have e9 : j' = j := (nI_eq (by omega) (by omega)).mp q3.symm
           have e8 : g' = g := (nI_eq (by omega) (by omega)).mp q4.symm
           subst e9; subst e8; exact q6 h26)
    · obtain ⟨j, hj, rfl, hd⟩ := h5
      obtain ⟨g, hg, rfl⟩ := in_of (n := n) (by omega) h13
      refine wp_aload_n dX12_standIn_16 rfl ?_
      refine wp_geta dX12_standIn_17 fl_RX12_57 rfl (fk_33 hF) (fr_33_18 hF) ?_
      refine wp_iload_n dX12_standIn_20 rfl ?_
      refine wp_ialoadN dX12_standIn_21 (fk_46 hF) (by omega) (by decide) ?_
      refine wp_iload_n dX12_standIn_22 rfl ?_
      refine wp_ishr dX12_standIn_23 ?_
      refine wp_iconst (v := 1) dX12_standIn_24 (by decide) ?_
      refine wp_iand dX12_standIn_25 ?_
      refine wp_if_ne (tgt := 31) dX12_standIn_26 (by decide) (fun h26 => ?_) (fun h26 => ?_)
      · refine wp_aload_n dX12_standIn_31 rfl ?_
        refine wp_geta dX12_standIn_32 fl_RX12_57 rfl (fk_33 hF) (fr_33_18 hF) ?_
        refine wp_iload_n dX12_standIn_35 rfl ?_
        refine wp_ialoadN dX12_standIn_36 (fk_46 hF) (by omega) (by decide) ?_
        refine wp_iconst (v := 1) dX12_standIn_37 (by decide) ?_
        refine wp_iload_n dX12_standIn_38 rfl ?_
        refine wp_ishl dX12_standIn_39 ?_
        refine wp_iconst (v := -1) dX12_standIn_40 (by decide) ?_
        refine wp_ixor dX12_standIn_41 ?_
        refine wp_iand dX12_standIn_42 ?_
        refine wp_istore_n dX12_standIn_43 (by decide) ?_
        refine wp_iconst (v := -1) dX12_standIn_44 (by decide) ?_
        refine wp_istore dX12_standIn_45 (by decide) ?_
        refine wp_iconst (v := 0) dX12_standIn_47 (by decide) ?_
        refine wp_istore dX12_standIn_48 (by decide) ?_
        refine wp_iconst (v := 0) dX12_standIn_50 (by decide) ?_
        refine wp_istore dX12_standIn_51 (by decide) ?_
        exact l_X12_standIn hF hM hO hn h16' hj hd hg (fun o h9 => hq1 j g hj hg rfl rfl hd h26 o h9) n 0 none 0 (by omega) (by omega) (fun g hg => absurd hg (Nat.not_lt_zero g)) (fun b hb => by cases hb)
      · refine wp_iconst (v := -1) dX12_standIn_29 (by decide) ?_
        refine wp_ireturn rfl dX12_standIn_30 ?_
        refine hq2 (fun ⟨j', g', q1, q2, q3, q4, q5, q6⟩ => ?_)
        first
          | exact h5 ⟨j', q1, q3, q5⟩
          | exact h13 ⟨by rw [q4]; exact nI_pos' (by omega), by rw [q4]; exact nI_lt q2 (by omega)⟩
          | (have e9 : j' = j := (nI_eq (by omega) (by omega)).mp q3.symm
             have e8 : g' = g := (nI_eq (by omega) (by omega)).mp q4.symm
             subst e9; subst e8; exact q6 h26)
end SI
