/-! ===== CarriageHire$Stable: pairs and sets that MATCH ===== -/
def is4 (a _ : Nat) : Prop := a = 4
def lmF (al : Nat → Nat → Bool) (a : Nat) : Nat → Nat
  | 0 => 0
  | b + 1 => lmF al a b + (if a < b ∧ al a b = true then 2 ^ b else 0)
theorem lmF_succ (al : Nat → Nat → Bool) (a b : Nat) : lmF al a (b + 1) = lmF al a b + (if a < b ∧ al a b = true then 2 ^ b else 0) := rfl
theorem lmF_lt (al : Nat → Nat → Bool) (a : Nat) : ∀ b, lmF al a b < 2 ^ b
  | 0 => Nat.one_pos
  | b + 1 => by
    have h := lmF_lt al a b
    have h2 : 2 ^ (b + 1) = 2 ^ b + 2 ^ b := by rw [Nat.pow_succ]; omega
    unfold lmF
    split <;> omega
theorem lmF_0 (al : Nat → Nat → Bool) (a : Nat) : ∀ b, b ≤ a + 1 → lmF al a b = 0
  | 0, _ => rfl
  | b + 1, h => by unfold lmF; rw [lmF_0 al a b (by omega), if_neg (by omega)]
theorem sh1 {b : Nat} (h : b < 31) : (1 : Int32) <<< (nI b &&& 31) = nI (2 ^ b) := by
  have h1 := pk_shlN (n := 1) (nI b &&& 31) b (s_l b (by omega)) (by rw [Nat.one_mul]; exact Nat.pow_lt_pow_right (by decide) (by omega))
  rw [Nat.one_mul] at h1
  exact h1
theorem or_pow {x b : Nat} (h : x < 2 ^ b) (hb : b < 31) : nI x ||| (1 : Int32) <<< (nI b &&& 31) = nI (x + 2 ^ b) := by
  rw [sh1 hb, fa_or, Nat.or_comm]
  have := fa_or_sum (a := x) (k := b) 1 h
  rw [Nat.mul_one, fa_or] at this
  rw [this, Nat.add_comm]
def alB (H : PH) (ho : Nat → Nat) (i j : Nat) : Bool := decide (alk H ho i j)
theorem alk_eq {H H1 : PH} {ho : Nat → Nat} {i j : Nat} (he : eqX is4 H H1) (hi : 69 < ho i) (hj : 69 < ho j) : alk H1 ho i j ↔ alk H ho i j := by
  have e : ∀ a k, a ≠ 4 → hI H1 a k = hI H a k := fun a k h => he.2.2.2.2 a k h
  unfold alk
  rw [e (ho i) 0 (by omega), e (ho i) 1 (by omega), e (ho i) 2 (by omega), e (ho j) 0 (by omega), e (ho j) 1 (by omega), e (ho j) 2 (by omega), e 2 3 (by decide), e 2 4 (by decide)]
def paired (H : PH) (ho : Nat → Nat) (n a : Nat) (H' : PH) : Prop := eqX is4 H H' ∧ ∀ e, e < a → hI H' 4 e = nI (lmF (alB H ho) e n)
theorem l_X8_pairUp2 {d n a : Nat} {ho : Nat → Nat} {H : PH} {Q : Option Value → PH → Prop} (hF : Fix H) (hS : HS H n ho) (ha : a < n)
    (kont : ∀ H', paired H ho n (a + 1) H' → Wp mX8_pairUp (d + 2) 0 0 2 [some (.ref 2), some (.int (nI (a + 1))), none] [] H' Q) :
    ∀ (j b : Nat) (H1 : PH), n - b = j → a < b → b ≤ n → paired H ho n a H1 → hI H1 4 a = nI (lmF (alB H ho) a b) → Wp mX8_pairUp (d + 2) 0 0 21 [some (.ref 2), some (.int (nI a)), some (.int (nI b))] [] H1 Q := by
  obtain ⟨hn0, h16, hr0, hk0, hl, -⟩ := hS
  intro j
  induction j with
  | zero =>
    intro b H1 hj hab hb1 hp hc
    have hin : b = n := by omega
    subst hin
    have hF1 := Fix_eqX hp.1 hF
    have hn : hI H1 2 2 = nI b := (hp.1.2.2.2.2 2 2 (by unfold is4; decide)).trans hn0
    refine wp_iload_n dX8_pairUp_21 rfl ?_
    refine wp_aload_n dX8_pairUp_22 rfl ?_
    refine wp_geti dX8_pairUp_23 fl_RX8_32 rfl (fk_2 hF1) ?_
    refine wp_icmp_ge (tgt := 66) dX8_pairUp_26 (by decide) (fun _ => ?_) (fun h26 => absurd h26 (by rw [hn]; exact fun h => h (nI_le (Nat.le_refl _) (by omega))))
    refine wp_incN dX8_pairUp_66 rfl (by decide) ?_
    refine wp_goto (tgt := 2) dX8_pairUp_69 (by decide) ?_
    refine wp_forget 2 (kont H1 ⟨hp.1, fun e he => ?_⟩)
    rcases Nat.lt_succ_iff_lt_or_eq.mp he with h | h
    · exact hp.2 e h
    · subst h; exact hc
  | succ j ih =>
    intro b H1 hj hab hb1 hp hc
    have hlt : b < n := by omega
    have hF1 := Fix_eqX hp.1 hF
    have hn : hI H1 2 2 = nI n := (hp.1.2.2.2.2 2 2 (by unfold is4; decide)).trans hn0
    have hr : ∀ i, i < n → hR H1 3 i = some (ho i) := fun i hi => by rw [hp.1.2.2.2.1]; exact hr0 i hi
    have hk : ∀ i, i < n → hK H1 (ho i) = (3, 5) := fun i hi => by rw [hp.1.2.1]; exact hk0 i hi
    have hal := alk_eq hp.1 (hl a ha) (hl b hlt)
    refine wp_iload_n dX8_pairUp_21 rfl ?_
    refine wp_aload_n dX8_pairUp_22 rfl ?_
    refine wp_geti dX8_pairUp_23 fl_RX8_32 rfl (fk_2 hF1) ?_
    refine wp_icmp_ge (tgt := 66) dX8_pairUp_26 (by decide) (fun h26 => absurd h26 (by rw [hn]; exact nI_ge (by omega) (by omega))) (fun _ => ?_)
    refine wp_aload_n dX8_pairUp_29 rfl ?_
    refine wp_aload_n dX8_pairUp_30 rfl ?_
    refine wp_geta dX8_pairUp_31 fl_RX8_11 rfl (fk_2 hF1) (fr_2_0 hF1) ?_
    refine wp_iload_n dX8_pairUp_34 rfl ?_
    refine wp_aaloadA dX8_pairUp_35 (fk_3 hF1) (by decide) (by omega) (by decide) (hr a ha) ?_
    refine wp_aload_n dX8_pairUp_36 rfl ?_
    refine wp_geta dX8_pairUp_37 fl_RX8_11 rfl (fk_2 hF1) (fr_2_0 hF1) ?_
    refine wp_iload_n dX8_pairUp_40 rfl ?_
    refine wp_aaloadA dX8_pairUp_41 (fk_3 hF1) (by decide) (by omega) (by decide) (hr b hlt) ?_
    refine wp_callv2 (ci := 8) dX8_pairUp_42 lk_RX8_65 ok_X8_alike im_X8_alike se_X8_alike rfl rfl (fk_2 hF1) (Nat.le_of_ble_eq_true rfl) (Nat.le_of_ble_eq_true rfl) ?_
    refine c_X8_alike hF1 (hk a ha) (hk b hlt) ?_
    refine wp_ifb_eq (tgt := 60) dX8_pairUp_45 (by decide) (fun h45 => ?_) (fun h45 => ?_)
    · refine wp_incN dX8_pairUp_60 rfl (by decide) ?_
      refine wp_goto (tgt := 21) dX8_pairUp_63 (by decide) ?_
      first
          | (refine ih (b + 1) H1 (by omega) (by omega) (by omega) hp ?_
             rw [hc, lmF_succ, if_neg (fun q => h45 (hal.mpr (of_decide_eq_true q.2))), Nat.add_zero])
          | (refine ih (b + 1) _ (by omega) (by omega) (by omega) ⟨eqX_sI hp.1 rfl, fun e he => ?_⟩ ?_
             · rw [hI_sI', if_neg (by omega)]; exact hp.2 e he
             · rw [hI_sI', if_pos ⟨rfl, rfl⟩, lmF_succ, if_pos ⟨by omega, decide_eq_true (hal.mp h45)⟩])
    · refine wp_aload_n dX8_pairUp_48 rfl ?_
      refine wp_geta dX8_pairUp_49 fl_RX8_17 rfl (fk_2 hF1) (fr_2_1 hF1) ?_
      refine wp_iload_n dX8_pairUp_52 rfl ?_
      refine wp_dup2 dX8_pairUp_53 rfl rfl ?_
      refine wp_ialoadN dX8_pairUp_54 (fk_4 hF1) (by omega) (by decide) ?_
      rw [hc]
      refine wp_iconst (v := 1) dX8_pairUp_55 (by decide) ?_
      refine wp_iload_n dX8_pairUp_56 rfl ?_
      refine wp_ishl dX8_pairUp_57 ?_
      refine wp_ior dX8_pairUp_58 ?_
      rw [or_pow (lmF_lt _ _ _) (by omega)]
      refine wp_iastoreN dX8_pairUp_59 (fk_4 hF1) (by omega) (by decide) ?_
      refine wp_incN dX8_pairUp_60 rfl (by decide) ?_
      refine wp_goto (tgt := 21) dX8_pairUp_63 (by decide) ?_
      first
          | (refine ih (b + 1) H1 (by omega) (by omega) (by omega) hp ?_
             rw [hc, lmF_succ, if_neg (fun q => h45 (hal.mpr (of_decide_eq_true q.2))), Nat.add_zero])
          | (refine ih (b + 1) _ (by omega) (by omega) (by omega) ⟨eqX_sI hp.1 rfl, fun e he => ?_⟩ ?_
             · rw [hI_sI', if_neg (by omega)]; exact hp.2 e he
             · rw [hI_sI', if_pos ⟨rfl, rfl⟩, lmF_succ, if_pos ⟨by omega, decide_eq_true (hal.mp h45)⟩])
theorem l_X8_pairUp {d n : Nat} {ho : Nat → Nat} {H : PH} {Q : Option Value → PH → Prop} (hF : Fix H) (hS : HS H n ho) (hq : ∀ H', paired H ho n n H' → Q none H') :
    ∀ (j a : Nat) (H1 : PH), n - a = j → a ≤ n → paired H ho n a H1 → Wp mX8_pairUp (d + 2) 0 0 2 [some (.ref 2), some (.int (nI a)), none] [] H1 Q := by
  have hS0 := hS
  obtain ⟨hn0, h16, -⟩ := hS
  intro j
  induction j with
  | zero =>
    intro a H1 hj ha hp
    have hin : a = n := by omega
    subst hin
    have hF1 := Fix_eqX hp.1 hF
    have hn : hI H1 2 2 = nI a := (hp.1.2.2.2.2 2 2 (by unfold is4; decide)).trans hn0
    refine wp_iload_n dX8_pairUp_2 rfl ?_
    refine wp_aload_n dX8_pairUp_3 rfl ?_
    refine wp_geti dX8_pairUp_4 fl_RX8_32 rfl (fk_2 hF1) ?_
    refine wp_icmp_ge (tgt := 72) dX8_pairUp_7 (by decide) (fun _ => ?_) (fun h7 => absurd h7 (by rw [hn]; exact fun h => h (nI_le (Nat.le_refl _) (by omega))))
    refine wp_return rfl dX8_pairUp_72 ?_
    exact hq H1 hp
  | succ j ih =>
    intro a H1 hj ha hp
    have hlt : a < n := by omega
    have hF1 := Fix_eqX hp.1 hF
    have hn : hI H1 2 2 = nI n := (hp.1.2.2.2.2 2 2 (by unfold is4; decide)).trans hn0
    refine wp_iload_n dX8_pairUp_2 rfl ?_
    refine wp_aload_n dX8_pairUp_3 rfl ?_
    refine wp_geti dX8_pairUp_4 fl_RX8_32 rfl (fk_2 hF1) ?_
    refine wp_icmp_ge (tgt := 72) dX8_pairUp_7 (by decide) (fun h7 => absurd h7 (by rw [hn]; exact nI_ge (by omega) (by omega))) (fun _ => ?_)
    refine wp_aload_n dX8_pairUp_10 rfl ?_
    refine wp_geta dX8_pairUp_11 fl_RX8_17 rfl (fk_2 hF1) (fr_2_1 hF1) ?_
    refine wp_iload_n dX8_pairUp_14 rfl ?_
    refine wp_iconst (v := 0) dX8_pairUp_15 (by decide) ?_
    refine wp_iastoreN dX8_pairUp_16 (fk_4 hF1) (by omega) (by decide) ?_
    refine wp_iload_n dX8_pairUp_17 rfl ?_
    refine wp_iconst (v := 1) dX8_pairUp_18 (by decide) ?_
    refine wp_iadd dX8_pairUp_19 ?_
    rw [nI_1]
    refine wp_istore_n dX8_pairUp_20 (by decide) ?_
    refine l_X8_pairUp2 hF hS0 hlt (fun H' hp' => ih (a + 1) H' (by omega) (by omega) hp') _ (a + 1) _ rfl (by omega) (by omega) ⟨eqX_sI hp.1 rfl, fun e he => ?_⟩ ?_
    · rw [hI_sI', if_neg (by omega)]; exact hp.2 e he
    · rw [hI_sI', if_pos ⟨rfl, rfl⟩, lmF_0 _ _ _ (Nat.le_refl _)]; rfl
theorem c_X8_pairUp {d n : Nat} {ho : Nat → Nat} {H : PH} {Q : Option Value → PH → Prop} (hF : Fix H) (hS : HS H n ho) (hq : ∀ H', paired H ho n n H' → Q none H') : Wp mX8_pairUp (d + 2) 0 0 0 [some (.ref 2), none, none] [] H Q := by
  refine wp_iconst (v := 0) dX8_pairUp_0 (by decide) ?_
  refine wp_istore_n dX8_pairUp_1 (by decide) ?_
  exact l_X8_pairUp hF hS hq n 0 H (by omega) (by omega) ⟨eqX_rfl, fun e he => absurd he (Nat.not_lt_zero e)⟩
theorem hb_nI {k i : Nat} (hk : k < 65536) (hi : i < 16) : hb (nI k) i ↔ k.testBit i = true := by
  unfold hb
  rw [nx_bit hk hi]
  simp
theorem ush_nI {x k : Nat} (hx : x < 2 ^ 32) (hk : k < 32) : ush (nI x) (nI k) = nI (x / 2 ^ k) := pk_ushrN hx (nI k) k (s_u k hk)
theorem bcI_nI {x : Nat} (h : x < 65536) : bcI (nI x) = nI (bcN x) := by
  have l1 : (1431655765 : Int32) = nI 1431655765 := rfl
  have l2 : (858993459 : Int32) = nI 858993459 := rfl
  have l3 : (252645135 : Int32) = nI 252645135 := rfl
  have l4 : (63 : Int32) = nI 63 := rfl
  have e1 : bc1 (nI x) = nI (bn1 x) := by
    unfold bc1 bn1
    rw [show (1 : Int32) = nI 1 from rfl, ush_nI (by omega) (by omega), l1, fa_and, pk_sub (Nat.le_trans Nat.and_le_left (by omega))]
  have b1 : bn1 x < 65536 := by unfold bn1; omega
  unfold bcI bcN
  rw [e1]
  generalize bn1 x = a at *
  have e2 : bc2 (nI a) = nI (bn2 a) := by
    unfold bc2 bn2
    rw [show (2 : Int32) = nI 2 from rfl, ush_nI (by omega) (by omega), l2, fa_and, fa_and, nI_add]
  have b2 : bn2 a < 131072 := by
    unfold bn2
    have := Nat.and_le_left (n := a) (m := 0x33333333)
    have := Nat.and_le_left (n := a / 4) (m := 0x33333333)
    omega
  rw [e2]
  generalize bn2 a = b at *
  have e3 : bc3 (nI b) = nI (bn3 b) := by
    unfold bc3 bn3
    rw [show (4 : Int32) = nI 4 from rfl, ush_nI (by omega) (by omega), l3, nI_add, fa_and]
  have b3 : bn3 b < 262144 := by
    unfold bn3
    have := Nat.and_le_left (n := b + b / 16) (m := 0x0f0f0f0f)
    omega
  rw [e3]
  generalize bn3 b = c at *
  have e4 : bc4 (nI c) = nI (bn4 c) := by
    unfold bc4 bn4
    rw [show (8 : Int32) = nI 8 from rfl, ush_nI (by omega) (by omega), nI_add]
  have b4 : bn4 c < 2 ^ 20 := by unfold bn4; omega
  rw [e4]
  generalize bn4 c = e at *
  have e5 : bc5 (nI e) = nI (bn5 e) := by
    unfold bc5 bn5
    rw [show (16 : Int32) = nI 16 from rfl, ush_nI (by omega) (by omega), nI_add]
  rw [e5, l4, fa_and]
theorem bc_pop {x : Nat} (h : x < 65536) : bcI (nI x) = nI (pop x) := by rw [bcI_nI h, bcN_pop h]
def f4c (lm : Nat → Nat) (o b c : Nat) : Nat := if b < c ∧ o.testBit c = true then pop (o &&& lm c) else 0
def ofTwo (lm : Nat → Nat) (a b : Nat) : Nat := if (lm a).testBit b = true then lm a &&& lm b else 0
def f4b (lm : Nat → Nat) (n a b : Nat) : Nat := if a < b then fb_sm (f4c lm (ofTwo lm a b) b) n else 0
def fours (lm : Nat → Nat) (n a : Nat) : Nat := fb_sm (f4b lm n a) n
theorem sm_0 {f : Nat → Nat} : ∀ {n : Nat}, (∀ k, k < n → f k = 0) → fb_sm f n = 0
  | 0, _ => rfl
  | n + 1, h => by rw [fb_sm_succ, sm_0 (fun k hk => h k (by omega)), h n (by omega)]
theorem and16 {x y : Nat} (h : x < 65536) : x &&& y < 65536 := Nat.lt_of_le_of_lt Nat.and_le_left h
section Fours
variable {d n a : Nat} {lm : Nat → Nat} {H : PH} {Q : Option Value → PH → Prop}
theorem l_X8_countFours2 (hF : Fix H) (hn : hI H 2 2 = nI n) (h16 : n ≤ 16) (hm : ∀ i, i < n → hI H 4 i = nI (lm i)) (hl : ∀ i, lm i < 65536) {S b o : Nat} (hbn : b < n) (ho : o < 65536)
    (kont : Wp mX8_countFours (d + 1) 0 0 6 [some (.ref 2), some (.int (nI a)), some (.int (nI (S + fb_sm (f4c lm o b) n))), some (.int (nI (b + 1))), none, none] [] H Q) :
    ∀ (j c : Nat), n - c = j → b < c → c ≤ n → Wp mX8_countFours (d + 1) 0 0 51 [some (.ref 2), some (.int (nI a)), some (.int (nI (S + fb_sm (f4c lm o b) c))), some (.int (nI b)), some (.int (nI o)), some (.int (nI c))] [] H Q := by
  intro j
  induction j with
  | zero =>
    intro c hj hbc hc
    have hin : c = n := by omega
    subst hin
    refine wp_iload dX8_countFours_51 rfl ?_
    refine wp_aload_n dX8_countFours_53 rfl ?_
    refine wp_geti dX8_countFours_54 fl_RX8_32 rfl (fk_2 hF) ?_
    refine wp_icmp_ge (tgt := 96) dX8_countFours_57 (by decide) (fun _ => ?_) (fun h57 => absurd h57 (by rw [hn]; exact fun h => h (nI_le (Nat.le_refl _) (by omega))))
    refine wp_incN dX8_countFours_96 rfl (by decide) ?_
    refine wp_goto (tgt := 6) dX8_countFours_99 (by decide) ?_
    exact wp_forget 4 (wp_forget 5 kont)
  | succ j ih =>
    intro c hj hbc hc
    have hlt : c < n := by omega
    have hbit : hb (nI o) c ↔ o.testBit c = true := hb_nI ho (by omega)
    refine wp_iload dX8_countFours_51 rfl ?_
    refine wp_aload_n dX8_countFours_53 rfl ?_
    refine wp_geti dX8_countFours_54 fl_RX8_32 rfl (fk_2 hF) ?_
    refine wp_icmp_ge (tgt := 96) dX8_countFours_57 (by decide) (fun h57 => absurd h57 (by rw [hn]; exact nI_ge (by omega) (by omega))) (fun _ => ?_)
    refine wp_iload_n dX8_countFours_60 rfl ?_
    refine wp_iload dX8_countFours_61 rfl ?_
    refine wp_iload dX8_countFours_63 rfl ?_
    refine wp_calls2 dX8_countFours_65 lk_RX8_61 ok_X11_hasBit st_X11_hasBit (Nat.le_of_ble_eq_true rfl) (Nat.le_of_ble_eq_true rfl) ?_
    refine c_X11_hasBit ?_
    refine wp_ifb_eq (tgt := 87) dX8_countFours_68 (by decide) (fun h68 => ?_) (fun h68 => ?_)
    · refine wp_iconst (v := 0) dX8_countFours_87 (by decide) ?_
      refine wp_iadd dX8_countFours_88 ?_
      first
          | rw [nI_add]
          | rw [show (0 : Int32) = nI 0 from rfl, nI_add]
      refine wp_istore_n dX8_countFours_89 (by decide) ?_
      refine wp_incN dX8_countFours_90 rfl (by decide) ?_
      refine wp_goto (tgt := 51) dX8_countFours_93 (by decide) ?_
      have h9 := ih (c + 1) (by omega) (by omega) (by omega)
      rw [fb_sm_succ, f4c] at h9
      first
        | (rw [if_pos ⟨hbc, hbit.mp h68⟩, ← Nat.add_assoc] at h9; exact h9)
        | (rw [if_neg (fun q => h68 (hbit.mpr q.2)), ← Nat.add_assoc] at h9; exact h9)
    · refine wp_iload dX8_countFours_71 rfl ?_
      refine wp_aload_n dX8_countFours_73 rfl ?_
      refine wp_geta dX8_countFours_74 fl_RX8_17 rfl (fk_2 hF) (fr_2_1 hF) ?_
      refine wp_iload dX8_countFours_77 rfl ?_
      refine wp_ialoadN dX8_countFours_79 (fk_4 hF) (by omega) (by decide) ?_
      rw [hm c hlt]
      refine wp_iand dX8_countFours_80 ?_
      rw [fa_and]
      refine wp_calls1 dX8_countFours_81 lk_RX8_75 ok_J6_bitCount_0f7a4 st_J6_bitCount_0f7a4 (Nat.le_of_ble_eq_true rfl) (Nat.le_of_ble_eq_true rfl) ?_
      refine c_J6_bitCount_0f7a4 ?_
      rw [bc_pop (and16 ho)]
      refine wp_goto (tgt := 88) dX8_countFours_84 (by decide) ?_
      refine wp_iadd dX8_countFours_88 ?_
      first
          | rw [nI_add]
          | rw [show (0 : Int32) = nI 0 from rfl, nI_add]
      refine wp_istore_n dX8_countFours_89 (by decide) ?_
      refine wp_incN dX8_countFours_90 rfl (by decide) ?_
      refine wp_goto (tgt := 51) dX8_countFours_93 (by decide) ?_
      have h9 := ih (c + 1) (by omega) (by omega) (by omega)
      rw [fb_sm_succ, f4c] at h9
      first
        | (rw [if_pos ⟨hbc, hbit.mp h68⟩, ← Nat.add_assoc] at h9; exact h9)
        | (rw [if_neg (fun q => h68 (hbit.mpr q.2)), ← Nat.add_assoc] at h9; exact h9)
theorem l_X8_countFours (hF : Fix H) (hn : hI H 2 2 = nI n) (h16 : n ≤ 16) (hm : ∀ i, i < n → hI H 4 i = nI (lm i)) (hl : ∀ i, lm i < 65536) (ha : a < n) (hq : Q (some (.int (nI (fours lm n a)))) H) :
    ∀ (j b : Nat), n - b = j → a < b → b ≤ n → Wp mX8_countFours (d + 1) 0 0 6 [some (.ref 2), some (.int (nI a)), some (.int (nI (fb_sm (f4b lm n a) b))), some (.int (nI b)), none, none] [] H Q := by
  intro j
  induction j with
  | zero =>
    intro b hj hab hbn
    have hin : b = n := by omega
    subst hin
    refine wp_iload_n dX8_countFours_6 rfl ?_
    refine wp_aload_n dX8_countFours_7 rfl ?_
    refine wp_geti dX8_countFours_8 fl_RX8_32 rfl (fk_2 hF) ?_
    refine wp_icmp_ge (tgt := 102) dX8_countFours_11 (by decide) (fun _ => ?_) (fun h11 => absurd h11 (by rw [hn]; exact fun h => h (nI_le (Nat.le_refl _) (by omega))))
    refine wp_iload_n dX8_countFours_102 rfl ?_
    refine wp_ireturn rfl dX8_countFours_103 ?_
    exact hq
  | succ j ih =>
    intro b hj hab hbn
    have hlt : b < n := by omega
    have hbit : hb (nI (lm a)) b ↔ (lm a).testBit b = true := hb_nI (hl a) (by omega)
    have hk := ih (b + 1) (by omega) (by omega) (by omega)
    rw [fb_sm_succ, f4b, if_pos hab] at hk
    have h0 : ∀ o, fb_sm (f4c lm o b) (b + 1) = 0 := fun o => sm_0 (fun k hk => by unfold f4c; rw [if_neg (by omega)])
    have hgo : ∀ o, o = ofTwo lm a b → o < 65536 → Wp mX8_countFours (d + 1) 0 0 51 [some (.ref 2), some (.int (nI a)), some (.int (nI (fb_sm (f4b lm n a) b))), some (.int (nI b)), some (.int (nI o)), some (.int (nI (b + 1)))] [] H Q := by
      intro o ho ho2
      subst ho
      have := l_X8_countFours2 (d := d) (a := a) hF hn h16 hm hl (S := fb_sm (f4b lm n a) b) hlt ho2 hk _ (b + 1) rfl (by omega) (by omega)
      rw [h0, Nat.add_zero] at this
      exact this
    refine wp_iload_n dX8_countFours_6 rfl ?_
    refine wp_aload_n dX8_countFours_7 rfl ?_
    refine wp_geti dX8_countFours_8 fl_RX8_32 rfl (fk_2 hF) ?_
    refine wp_icmp_ge (tgt := 102) dX8_countFours_11 (by decide) (fun h11 => absurd h11 (by rw [hn]; exact nI_ge (by omega) (by omega))) (fun _ => ?_)
    refine wp_aload_n dX8_countFours_14 rfl ?_
    refine wp_geta dX8_countFours_15 fl_RX8_17 rfl (fk_2 hF) (fr_2_1 hF) ?_
    refine wp_iload_n dX8_countFours_18 rfl ?_
    refine wp_ialoadN dX8_countFours_19 (fk_4 hF) (by omega) (by decide) ?_
    rw [hm a ha]
    refine wp_iload_n dX8_countFours_20 rfl ?_
    refine wp_calls2 dX8_countFours_21 lk_RX8_61 ok_X11_hasBit st_X11_hasBit (Nat.le_of_ble_eq_true rfl) (Nat.le_of_ble_eq_true rfl) ?_
    refine c_X11_hasBit ?_
    refine wp_ifb_eq (tgt := 43) dX8_countFours_24 (by decide) (fun h24 => ?_) (fun h24 => ?_)
    · refine wp_iconst (v := 0) dX8_countFours_43 (by decide) ?_
      refine wp_istore dX8_countFours_44 (by decide) ?_
      refine wp_iload_n dX8_countFours_46 rfl ?_
      refine wp_iconst (v := 1) dX8_countFours_47 (by decide) ?_
      refine wp_iadd dX8_countFours_48 ?_
      rw [nI_1]
      refine wp_istore dX8_countFours_49 (by decide) ?_
      first
          | exact hgo _ (by unfold ofTwo; rw [if_pos (hbit.mp h24)]) (and16 (hl a))
          | exact hgo 0 (by unfold ofTwo; rw [if_neg (fun q => h24 (hbit.mpr q))]) (by decide)
    · refine wp_aload_n dX8_countFours_27 rfl ?_
      refine wp_geta dX8_countFours_28 fl_RX8_17 rfl (fk_2 hF) (fr_2_1 hF) ?_
      refine wp_iload_n dX8_countFours_31 rfl ?_
      refine wp_ialoadN dX8_countFours_32 (fk_4 hF) (by omega) (by decide) ?_
      rw [hm a ha]
      refine wp_aload_n dX8_countFours_33 rfl ?_
      refine wp_geta dX8_countFours_34 fl_RX8_17 rfl (fk_2 hF) (fr_2_1 hF) ?_
      refine wp_iload_n dX8_countFours_37 rfl ?_
      refine wp_ialoadN dX8_countFours_38 (fk_4 hF) (by omega) (by decide) ?_
      rw [hm b hlt]
      refine wp_iand dX8_countFours_39 ?_
      rw [fa_and]
      refine wp_goto (tgt := 44) dX8_countFours_40 (by decide) ?_
      refine wp_istore dX8_countFours_44 (by decide) ?_
      refine wp_iload_n dX8_countFours_46 rfl ?_
      refine wp_iconst (v := 1) dX8_countFours_47 (by decide) ?_
      refine wp_iadd dX8_countFours_48 ?_
      rw [nI_1]
      refine wp_istore dX8_countFours_49 (by decide) ?_
      first
          | exact hgo _ (by unfold ofTwo; rw [if_pos (hbit.mp h24)]) (and16 (hl a))
          | exact hgo 0 (by unfold ofTwo; rw [if_neg (fun q => h24 (hbit.mpr q))]) (by decide)
theorem c_X8_countFours (hF : Fix H) (hn : hI H 2 2 = nI n) (h16 : n ≤ 16) (hm : ∀ i, i < n → hI H 4 i = nI (lm i)) (hl : ∀ i, lm i < 65536) (ha : a < n) (hq : Q (some (.int (nI (fours lm n a)))) H) : Wp mX8_countFours (d + 1) 0 0 0 [some (.ref 2), some (.int (nI a)), none, none, none, none] [] H Q := by
  have h0 : fb_sm (f4b lm n a) (a + 1) = 0 := sm_0 (fun k hk => by unfold f4b; rw [if_neg (by omega)])
  have hk := l_X8_countFours (d := d) hF hn h16 hm hl ha hq _ (a + 1) rfl (by omega) (by omega)
  rw [h0] at hk
  refine wp_iconst (v := 0) dX8_countFours_0 (by decide) ?_
  refine wp_istore_n dX8_countFours_1 (by decide) ?_
  refine wp_iload_n dX8_countFours_2 rfl ?_
  refine wp_iconst (v := 1) dX8_countFours_3 (by decide) ?_
  refine wp_iadd dX8_countFours_4 ?_
  rw [nI_1]
  refine wp_istore_n dX8_countFours_5 (by decide) ?_
  exact hk
def setsF (lm : Nat → Nat) (n k a : Nat) : Nat := if k = 2 then pop (lm a) else fours lm n a
theorem l_X8_countSets {k : Nat} (hk2 : k < 8) (hF : Fix H) (hn : hI H 2 2 = nI n) (h16 : n ≤ 16) (hm : ∀ i, i < n → hI H 4 i = nI (lm i)) (hl : ∀ i, lm i < 65536) (hq : Q (some (.int (nI (fb_sm (setsF lm n k) n)))) H) :
    ∀ (j a : Nat), n - a = j → a ≤ n → Wp mX8_countSets (d + 2) 0 0 8 [some (.ref 2), some (.int (nI k)), some (.int (nI (fb_sm (setsF lm n k) a))), some (.int (nI a))] [] H Q := by
  intro j
  induction j with
  | zero =>
    intro a hj ha
    have hin : a = n := by omega
    subst hin
    refine wp_iload_n dX8_countSets_8 rfl ?_
    refine wp_aload_n dX8_countSets_9 rfl ?_
    refine wp_geti dX8_countSets_10 fl_RX8_32 rfl (fk_2 hF) ?_
    refine wp_icmp_ge (tgt := 47) dX8_countSets_13 (by decide) (fun _ => ?_) (fun h13 => absurd h13 (by rw [hn]; exact fun h => h (nI_le (Nat.le_refl _) (by omega))))
    refine wp_iload_n dX8_countSets_47 rfl ?_
    refine wp_ireturn rfl dX8_countSets_48 ?_
    exact hq
  | succ j ih =>
    intro a hj ha
    have hlt : a < n := by omega
    have hk := ih (a + 1) (by omega) (by omega)
    rw [fb_sm_succ, setsF] at hk
    have e2 : nI k = 2 ↔ k = 2 := nI_eq (b := 2) (by omega) (by omega)
    refine wp_iload_n dX8_countSets_8 rfl ?_
    refine wp_aload_n dX8_countSets_9 rfl ?_
    refine wp_geti dX8_countSets_10 fl_RX8_32 rfl (fk_2 hF) ?_
    refine wp_icmp_ge (tgt := 47) dX8_countSets_13 (by decide) (fun h13 => absurd h13 (by rw [hn]; exact nI_ge (by omega) (by omega))) (fun _ => ?_)
    refine wp_iload_n dX8_countSets_16 rfl ?_
    refine wp_iload_n dX8_countSets_17 rfl ?_
    refine wp_iconst (v := 2) dX8_countSets_18 (by decide) ?_
    refine wp_icmp_ne (tgt := 34) dX8_countSets_19 (by decide) (fun h19 => ?_) (fun h19 => ?_)
    · refine wp_aload_n dX8_countSets_34 rfl ?_
      refine wp_iload_n dX8_countSets_35 rfl ?_
      refine wp_callv1 (ci := 8) dX8_countSets_36 lk_RX8_80 ok_X8_countFours im_X8_countFours se_X8_countFours rfl rfl (fk_2 hF) (Nat.le_of_ble_eq_true rfl) (Nat.le_of_ble_eq_true rfl) ?_
      refine c_X8_countFours hF hn h16 hm hl hlt ?_
      refine wp_iadd dX8_countSets_39 ?_
      rw [nI_add]
      refine wp_istore_n dX8_countSets_40 (by decide) ?_
      refine wp_incN dX8_countSets_41 rfl (by decide) ?_
      refine wp_goto (tgt := 8) dX8_countSets_44 (by decide) ?_
      first
          | (rw [if_pos (e2.mp h19)] at hk; exact hk)
          | (rw [if_neg (fun q => h19 (e2.mpr q))] at hk; exact hk)
    · refine wp_aload_n dX8_countSets_22 rfl ?_
      refine wp_geta dX8_countSets_23 fl_RX8_17 rfl (fk_2 hF) (fr_2_1 hF) ?_
      refine wp_iload_n dX8_countSets_26 rfl ?_
      refine wp_ialoadN dX8_countSets_27 (fk_4 hF) (by omega) (by decide) ?_
      rw [hm a hlt]
      refine wp_calls1 dX8_countSets_28 lk_RX8_75 ok_J6_bitCount_0f7a4 st_J6_bitCount_0f7a4 (Nat.le_of_ble_eq_true rfl) (Nat.le_of_ble_eq_true rfl) ?_
      refine c_J6_bitCount_0f7a4 ?_
      rw [bc_pop (hl a)]
      refine wp_goto (tgt := 39) dX8_countSets_31 (by decide) ?_
      refine wp_iadd dX8_countSets_39 ?_
      rw [nI_add]
      refine wp_istore_n dX8_countSets_40 (by decide) ?_
      refine wp_incN dX8_countSets_41 rfl (by decide) ?_
      refine wp_goto (tgt := 8) dX8_countSets_44 (by decide) ?_
      first
          | (rw [if_pos (e2.mp h19)] at hk; exact hk)
          | (rw [if_neg (fun q => h19 (e2.mpr q))] at hk; exact hk)
end Fours
theorem c_X8_countSets {d n k : Nat} {ho : Nat → Nat} {H : PH} {Q : Option Value → PH → Prop} (hk2 : k < 8) (hF : Fix H) (hS : HS H n ho) (hq : ∀ H', eqX is4 H H' → Q (some (.int (nI (fb_sm (setsF (fun a => lmF (alB H ho) a n) n k) n)))) H') : Wp mX8_countSets (d + 3) 0 0 0 [some (.ref 2), some (.int (nI k)), none, none] [] H Q := by
  have h16 := hS.2.1
  have hl : ∀ i, (fun a => lmF (alB H ho) a n) i < 65536 := fun i => Nat.lt_of_lt_of_le (lmF_lt _ _ _) (Nat.pow_le_pow_right (by decide) h16 (n := 2))
  refine wp_aload_n dX8_countSets_0 rfl ?_
  refine wp_callv0 (ci := 8) dX8_countSets_1 lk_RX8_72 ok_X8_pairUp im_X8_pairUp se_X8_pairUp rfl rfl (fk_2 hF) (Nat.le_of_ble_eq_true rfl) (Nat.le_of_ble_eq_true rfl) ?_
  refine c_X8_pairUp hF hS (fun H' hp => ?_)
  have hF1 := Fix_eqX hp.1 hF
  have hn : hI H' 2 2 = nI n := (hp.1.2.2.2.2 2 2 (by unfold is4; decide)).trans hS.1
  refine wp_iconst (v := 0) dX8_countSets_4 (by decide) ?_
  refine wp_istore_n dX8_countSets_5 (by decide) ?_
  refine wp_iconst (v := 0) dX8_countSets_6 (by decide) ?_
  refine wp_istore_n dX8_countSets_7 (by decide) ?_
  exact l_X8_countSets hk2 hF1 hn h16 (fun i hi => hp.2 i hi) hl (hq H' hp.1) n 0 (by omega) (by omega)
/-! ===== the reference's matches ===== -/
noncomputable def cB (p : Prop) : Bool := @decide p (Classical.propDecidable p)
theorem cB_t {p : Prop} (h : p) : cB p = true := by unfold cB; exact @decide_eq_true p (Classical.propDecidable p) h
theorem cB_f {p : Prop} (h : ¬ p) : cB p = false := by unfold cB; exact @decide_eq_false p (Classical.propDecidable p) h
theorem cB_iff {p : Prop} : cB p = true ↔ p := ⟨fun h => Classical.byContradiction (fun q => by rw [cB_f q] at h; cases h), cB_t⟩
noncomputable def mtP (H : PH) (n k S : Nat) : Bool := cB (mny (nI S) 16 = nI k ∧ mdAll H n n (nI S))
theorem l_X12_matches {d n k : Nat} {H : PH} {Q : Option Value → PH → Prop} (hF : Fix H) (hn : hI H 33 0 = nI n) (h16 : n ≤ 16) (hq : Q (some (.int (nI (fb_ct (mtP H n k) (2 ^ n))))) H) :
    ∀ (j S : Nat), 2 ^ n - S = j → S ≤ 2 ^ n → Wp mX12_matches (d + 2) 0 0 16 [some (.ref 33), some (.int (nI k)), some (.int (nI (fb_ct (mtP H n k) S))), some (.int (nI S))] [] H Q := by
  have hp : 2 ^ n ≤ 65536 := Nat.pow_le_pow_right (by decide) h16 (n := 2)
  intro j
  induction j with
  | zero =>
    intro S hj hS
    have hin : S = 2 ^ n := by omega
    subst hin
    refine wp_iload_n dX12_matches_16 rfl ?_
    refine wp_iconst (v := 1) dX12_matches_17 (by decide) ?_
    refine wp_aload_n dX12_matches_18 rfl ?_
    refine wp_geti dX12_matches_19 fl_RX12_132 rfl (fk_33 hF) ?_
    rw [hn]
    refine wp_ishl dX12_matches_22 ?_
    rw [sh1 (by omega)]
    refine wp_icmp_ge (tgt := 56) dX12_matches_23 (by decide) (fun _ => ?_) (fun h23 => absurd h23 (fun h => h (nI_le (Nat.le_refl _) (by omega))))
    refine wp_iload_n dX12_matches_56 rfl ?_
    refine wp_ireturn rfl dX12_matches_57 ?_
    exact hq
  | succ j ih =>
    intro S hj hS
    have hlt : S < 2 ^ n := by omega
    have hk := ih (S + 1) (by omega) (by omega)
    rw [fb_ct_succ] at hk
    refine wp_iload_n dX12_matches_16 rfl ?_
    refine wp_iconst (v := 1) dX12_matches_17 (by decide) ?_
    refine wp_aload_n dX12_matches_18 rfl ?_
    refine wp_geti dX12_matches_19 fl_RX12_132 rfl (fk_33 hF) ?_
    rw [hn]
    refine wp_ishl dX12_matches_22 ?_
    rw [sh1 (by omega)]
    refine wp_icmp_ge (tgt := 56) dX12_matches_23 (by decide) (fun h23 => absurd h23 (nI_ge hlt (by omega))) (fun _ => ?_)
    refine wp_iload_n dX12_matches_26 rfl ?_
    refine wp_iload_n dX12_matches_27 rfl ?_
    refine wp_calls1 dX12_matches_28 lk_RX12_152 ok_X12_many st_X12_many (Nat.le_of_ble_eq_true rfl) (Nat.le_of_ble_eq_true rfl) ?_
    refine c_X12_many ?_
    refine wp_iload_n dX12_matches_31 rfl ?_
    refine wp_icmp_ne (tgt := 47) dX12_matches_32 (by decide) (fun h32 => ?_) (fun h32 => ?_)
    · refine wp_iconst (v := 0) dX12_matches_47 (by decide) ?_
      refine wp_iadd dX12_matches_48 ?_
      refine wp_istore_n dX12_matches_49 (by decide) ?_
      refine wp_incN dX12_matches_50 rfl (by decide) ?_
      refine wp_goto (tgt := 16) dX12_matches_53 (by decide) ?_
      first
          | (rw [show mtP H n k S = true from cB_t ⟨h32, h40⟩, if_pos rfl, ← nI_1] at hk; exact hk)
          | (rw [show mtP H n k S = false from cB_f (by first | exact fun q => h32 q.1 | exact fun q => h40 q.2), if_neg (by decide), Nat.add_zero] at hk
             have e : nI (fb_ct (mtP H n k) S) + 0 = nI (fb_ct (mtP H n k) S) := by rw [show (0 : Int32) = nI 0 from rfl, nI_add, Nat.add_zero]
             rw [e]; exact hk)
    · refine wp_aload_n dX12_matches_35 rfl ?_
      refine wp_iload_n dX12_matches_36 rfl ?_
      refine wp_callv1 (ci := 12) dX12_matches_37 lk_RX12_156 ok_X12_doMatch im_X12_doMatch se_X12_doMatch rfl rfl (fk_33 hF) (Nat.le_of_ble_eq_true rfl) (Nat.le_of_ble_eq_true rfl) ?_
      refine c_X12_doMatch hF hn h16 ?_
      refine wp_ifb_eq (tgt := 47) dX12_matches_40 (by decide) (fun h40 => ?_) (fun h40 => ?_)
      · refine wp_iconst (v := 0) dX12_matches_47 (by decide) ?_
        refine wp_iadd dX12_matches_48 ?_
        refine wp_istore_n dX12_matches_49 (by decide) ?_
        refine wp_incN dX12_matches_50 rfl (by decide) ?_
        refine wp_goto (tgt := 16) dX12_matches_53 (by decide) ?_
        first
            | (rw [show mtP H n k S = true from cB_t ⟨h32, h40⟩, if_pos rfl, ← nI_1] at hk; exact hk)
            | (rw [show mtP H n k S = false from cB_f (by first | exact fun q => h32 q.1 | exact fun q => h40 q.2), if_neg (by decide), Nat.add_zero] at hk
               have e : nI (fb_ct (mtP H n k) S) + 0 = nI (fb_ct (mtP H n k) S) := by rw [show (0 : Int32) = nI 0 from rfl, nI_add, Nat.add_zero]
               rw [e]; exact hk)
      · refine wp_iconst (v := 1) dX12_matches_43 (by decide) ?_
        refine wp_goto (tgt := 48) dX12_matches_44 (by decide) ?_
        refine wp_iadd dX12_matches_48 ?_
        refine wp_istore_n dX12_matches_49 (by decide) ?_
        refine wp_incN dX12_matches_50 rfl (by decide) ?_
        refine wp_goto (tgt := 16) dX12_matches_53 (by decide) ?_
        first
            | (rw [show mtP H n k S = true from cB_t ⟨h32, h40⟩, if_pos rfl, ← nI_1] at hk; exact hk)
            | (rw [show mtP H n k S = false from cB_f (by first | exact fun q => h32 q.1 | exact fun q => h40 q.2), if_neg (by decide), Nat.add_zero] at hk
               have e : nI (fb_ct (mtP H n k) S) + 0 = nI (fb_ct (mtP H n k) S) := by rw [show (0 : Int32) = nI 0 from rfl, nI_add, Nat.add_zero]
               rw [e]; exact hk)
theorem c_X12_matches {d n : Nat} {x : Int32} {H : PH} {Q : Option Value → PH → Prop} (hF : Fix H) (hn : hI H 33 0 = nI n) (h16 : n ≤ 16) (hq1 : ∀ k, x = nI k → (k = 2 ∨ k = 4) → Q (some (.int (nI (fb_ct (mtP H n k) (2 ^ n))))) H) (hq2 : ¬ (x = 2 ∨ x = 4) → Q (some (.int (-1))) H) : Wp mX12_matches (d + 2) 0 0 0 [some (.ref 33), some (.int x), none, none] [] H Q := by
  have go : ∀ k, x = nI k → (k = 2 ∨ k = 4) → Wp mX12_matches (d + 2) 0 0 12 [some (.ref 33), some (.int x), none, none] [] H Q := by
    intro k hx hk
    subst hx
    refine wp_iconst (v := 0) dX12_matches_12 (by decide) ?_
    refine wp_istore_n dX12_matches_13 (by decide) ?_
    refine wp_iconst (v := 0) dX12_matches_14 (by decide) ?_
    refine wp_istore_n dX12_matches_15 (by decide) ?_
    exact l_X12_matches hF hn h16 (hq1 k rfl hk) _ 0 rfl (Nat.zero_le _)
  refine wp_iload_n dX12_matches_0 rfl ?_
  refine wp_iconst (v := 2) dX12_matches_1 (by decide) ?_
  refine wp_icmp_eq (tgt := 12) dX12_matches_2 (by decide) (fun h2 => ?_) (fun h2 => ?_)
  · first
        | exact go 2 h2 (Or.inl rfl)
        | exact go 4 h7 (Or.inr rfl)
  · refine wp_iload_n dX12_matches_5 rfl ?_
    refine wp_iconst (v := 4) dX12_matches_6 (by decide) ?_
    refine wp_icmp_eq (tgt := 12) dX12_matches_7 (by decide) (fun h7 => ?_) (fun h7 => ?_)
    · first
          | exact go 2 h2 (Or.inl rfl)
          | exact go 4 h7 (Or.inr rfl)
    · refine wp_iconst (v := -1) dX12_matches_10 (by decide) ?_
      refine wp_ireturn rfl dX12_matches_11 ?_
      exact hq2 (fun q => q.elim h2 h7)
theorem c_X11_matches {d n : Nat} {x : Int32} {ho : Nat → Nat} {H : PH} {Q : Option Value → PH → Prop} (hF : Fix H) (hS : HS H n ho) (hq1 : ∀ k H', x = nI k → (k = 2 ∨ k = 4) → eqX is4 H H' → Q (some (.int (nI (fb_sm (setsF (fun a => lmF (alB H ho) a n) n k) n)))) H') (hq2 : ¬ (x = 2 ∨ x = 4) → Q (some (.int (-1))) H) : Wp mX11_matches (d + 4) 0 0 0 [some (.ref 1), some (.int x)] [] H Q := by
  have go : ∀ k, x = nI k → (k = 2 ∨ k = 4) → Wp mX11_matches (d + 4) 0 0 10 [some (.ref 1), some (.int x)] [] H Q := by
    intro k hx hk
    subst hx
    refine wp_aload_n dX11_matches_10 rfl ?_
    refine wp_geta dX11_matches_11 fl_RX11_10 rfl (fk_1 hF) (fr_1_0 hF) ?_
    refine wp_iload_n dX11_matches_14 rfl ?_
    refine wp_callv1 (ci := 8) dX11_matches_15 lk_RX11_115 ok_X8_countSets im_X8_countSets se_X8_countSets rfl rfl (fk_2 hF) (Nat.le_of_ble_eq_true rfl) (Nat.le_of_ble_eq_true rfl) ?_
    refine c_X8_countSets (k := k) (by omega) hF hS (fun H' he => ?_)
    refine wp_goto (tgt := 22) dX11_matches_18 (by decide) ?_
    refine wp_ireturn rfl dX11_matches_22 ?_
    exact hq1 k H' rfl hk he
  refine wp_iload_n dX11_matches_0 rfl ?_
  refine wp_iconst (v := 2) dX11_matches_1 (by decide) ?_
  refine wp_icmp_eq (tgt := 10) dX11_matches_2 (by decide) (fun h2 => ?_) (fun h2 => ?_)
  · first
        | exact go 2 h2 (Or.inl rfl)
        | exact go 4 h7 (Or.inr rfl)
  · refine wp_iload_n dX11_matches_5 rfl ?_
    refine wp_iconst (v := 4) dX11_matches_6 (by decide) ?_
    refine wp_icmp_ne (tgt := 21) dX11_matches_7 (by decide) (fun h7 => ?_) (fun h7 => ?_)
    · refine wp_iconst (v := -1) dX11_matches_21 (by decide) ?_
      refine wp_ireturn rfl dX11_matches_22 ?_
      exact hq2 (fun q => q.elim h2 h7)
    · first
          | exact go 2 h2 (Or.inl rfl)
          | exact go 4 h7 (Or.inr rfl)
