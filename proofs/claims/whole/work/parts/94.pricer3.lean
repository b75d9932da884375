/-! ===== Pricer: step, valueOf ===== -/
def isPr (a k : Nat) : Prop := (a = 20 ∧ k = 2) ∨ a = 21
def CQ7 (H : PH) (S : List Int32) (H' : PH) : Prop := eqX isPr H H' ∧ hI H' 20 2 = nI S.length ∧ ∀ i y, S.reverse[i]? = some y → hI H' 21 i = y
theorem rv_top {S : List Int32} {a : Int32} : (a :: S).reverse[S.length]? = some a := by rw [List.reverse_cons, List.getElem?_append_right (by rw [List.length_reverse]; exact Nat.le_refl _), List.length_reverse, Nat.sub_self]; rfl
theorem rv_low {S : List Int32} {a y : Int32} {i : Nat} (h : S.reverse[i]? = some y) : (a :: S).reverse[i]? = some y := by rw [List.reverse_cons, List.getElem?_append_left (List.getElem?_eq_some_iff.mp h).1]; exact h
section PRD
variable {d : Nat} {H : PH} {Q : Option Value → PH → Prop} {H1 : PH} {S : List Int32} {nm : Nat → Int32}
theorem CQ_fix (hF : Fix H) (hP : CQ7 H S H1) : Fix H1 := Fix_eqX hP.1 hF
theorem l_X7_push {v : Int32} (hF : Fix H) (hP : CQ7 H S H1) (hl : S.length < 100) (hq : ∀ H', CQ7 H (v :: S) H' → Q none H') : Wp mX7_push d 0 0 0 [some (.ref 20), some (.int v)] [] H1 Q := by
  refine c_X7_push (CQ_fix hF hP) hP.2.1 hl (hq _ ⟨eqX_sI (eqX_sI hP.1 (Or.inr rfl)) (Or.inl ⟨rfl, rfl⟩), by rw [psh, hI_sI', if_pos ⟨rfl, rfl⟩]; rfl, fun i y hi => ?_⟩)
  rw [psh, hI_sI', if_neg (by omega), hI_sI']
  rw [List.reverse_cons] at hi
  rcases getA hi with ⟨z1, z2⟩ | ⟨z1, z2⟩
  · rw [List.length_reverse] at z1
    rw [if_neg (by omega)]; exact hP.2.2 i y z2
  · rw [List.length_reverse] at z1
    subst z1; subst z2
    rw [if_pos ⟨rfl, rfl⟩]
theorem l_X7_pop {a : Int32} (hF : Fix H) (hP : CQ7 H (a :: S) H1) (hl : S.length < 100) (hq : ∀ H', CQ7 H S H' → Q (some (.int a)) H') : Wp mX7_pop d 0 0 0 [some (.ref 20)] [] H1 Q := by
  refine c_X7_pop (CQ_fix hF hP) (h := S.length) hP.2.1 hl ?_
  rw [hP.2.2 _ _ rv_top]
  refine hq _ ⟨eqX_sI hP.1 (Or.inl ⟨rfl, rfl⟩), by rw [hI_sI', if_pos ⟨rfl, rfl⟩], fun i y hi => ?_⟩
  rw [hI_sI', if_neg (by omega)]; exact hP.2.2 i y (rv_low hi)
theorem nmk {k : Nat} (hk : k < 6) : ¬ (-(nI (k + 1)) : Int32) < -6 ∧ (-(nI (k + 1)) : Int32) < 0 ∧ (-1 : Int32) - (-(nI (k + 1))) = nI k := by
  have : k = 0 ∨ k = 1 ∨ k = 2 ∨ k = 3 ∨ k = 4 ∨ k = 5 := by omega
  rcases this with r | r | r | r | r | r <;> subst r <;> decide
theorem c_X7_valueOfName {k : Nat} (hk : k < 6) (hF : Fix H) (hq : Q (some (.int (hI H 22 k))) H) : Wp mX7_valueOfName d 0 0 0 [some (.ref 20), some (.int (-(nI (k + 1)))), none] [] H Q := by
  have e := (nmk hk).2.2
  refine wp_iconst (v := -1) dX7_valueOfName_0 (by decide) ?_
  refine wp_iload_n dX7_valueOfName_1 rfl ?_
  refine wp_isub dX7_valueOfName_2 ?_
  rw [e]
  refine wp_istore_n dX7_valueOfName_3 (by decide) ?_
  refine wp_iload_n dX7_valueOfName_4 rfl ?_
  refine wp_if_lt (tgt := 26) dX7_valueOfName_5 (by decide) (fun h5 => absurd h5 (fun q => Int32.not_lt.mpr (nI_pos' (by omega)) q)) (fun _ => ?_)
  refine wp_iload_n dX7_valueOfName_8 rfl ?_
  refine wp_aload_n dX7_valueOfName_9 rfl ?_
  refine wp_geta dX7_valueOfName_10 fl_RX7_15 rfl (fk_20 hF) (fr_20_1 hF) ?_
  refine wp_alen dX7_valueOfName_13 (fk_22 hF) (by simp) ?_
  refine wp_icmp_ge (tgt := 26) dX7_valueOfName_14 (by decide) (fun h14 => absurd h14 (nI_ge (a := k) (b := 6) hk (by decide))) (fun _ => ?_)
  refine wp_aload_n dX7_valueOfName_17 rfl ?_
  refine wp_geta dX7_valueOfName_18 fl_RX7_15 rfl (fk_20 hF) (fr_20_1 hF) ?_
  refine wp_iload_n dX7_valueOfName_21 rfl ?_
  refine wp_ialoadN dX7_valueOfName_22 (fk_22 hF) (by omega) (by decide) ?_
  refine wp_goto (tgt := 27) dX7_valueOfName_23 (by decide) ?_
  refine wp_ireturn rfl dX7_valueOfName_27 ?_
  exact hq
theorem c_X7_step {x : Nat × Nat} {h : Nat} (hF : Fix H) (hP : CQ7 H S H1) (hnm : ∀ k, k < 6 → hI H 22 k = nm k) (hok : okI x) (he : ef x S.length = some h) (hh : h ≤ 100) (hS : S.length ≤ 100) (hq : ∀ H', CQ7 H (ev1 nm x S) H' → Q none H') : Wp mX7_step (d + 1) 0 0 0 [some (.ref 20), some (.int (encC x)), none, none] [] H1 Q := by
  have hF1 := CQ_fix hF hP
  obtain ⟨x1, x2⟩ := x
  rcases hok with ⟨h0, hn⟩ | ⟨ha, hb, hc⟩ | ⟨ha, hb, hc⟩
  · have h0 : x1 = 0 := h0
    have hn : x2 < 1000000 := hn
    subst h0
    have hle : S.length + 1 ≤ 100 := by cases he; exact hh
    have hq : ∀ H', CQ7 H (nI x2 :: S) H' → Q none H' := hq
    rw [show encC (0, x2) = nI x2 from rfl]
    have p0 : 0 ≤ nI x2 := nI_pos' (by omega)
    refine wp_iload_n dX7_step_0 rfl ?_
    refine wp_bipush (v := -6) dX7_step_1 (by decide) ?_
    refine wp_icmp_lt (tgt := 26) dX7_step_3 (by decide) (fun h3 => absurd h3 (Int32.not_lt.mpr (Int32.le_trans (by decide : (-6 : Int32) ≤ 0) p0))) (fun _ => ?_)
    refine wp_aload_n dX7_step_6 rfl ?_
    refine wp_iload_n dX7_step_7 rfl ?_
    refine wp_if_lt (tgt := 15) dX7_step_8 (by decide) (fun h8 => absurd h8 (Int32.not_lt.mpr p0)) (fun _ => ?_)
    refine wp_iload_n dX7_step_11 rfl ?_
    refine wp_goto (tgt := 20) dX7_step_12 (by decide) ?_
    refine wp_callv1 (ci := 7) dX7_step_20 lk_RX7_76 ok_X7_push im_X7_push se_X7_push rfl rfl (fk_20 hF1) (Nat.le_of_ble_eq_true rfl) (Nat.le_of_ble_eq_true rfl) ?_
    refine l_X7_push hF hP (by omega) (fun H' hP' => ?_)
    refine wp_goto (tgt := 89) dX7_step_23 (by decide) ?_
    refine wp_return rfl dX7_step_89 ?_
    exact hq H' hP'
  · have ha : 20 ≤ x1 := ha
    have hb : x1 < 26 := hb
    have hc : x2 = 0 := hc
    subst hc
    obtain ⟨k, hk⟩ : ∃ k, x1 = 20 + k := ⟨x1 - 20, by omega⟩
    subst hk
    have hk6 : k < 6 := by omega
    have hle : S.length + 1 ≤ 100 := by
      unfold ef at he
      rw [if_pos (by show 20 + k < 40; omega)] at he
      cases he; exact hh
    have ee : ev1 nm (20 + k, 0) S = nm k :: S := by
      unfold ev1
      rw [if_pos (by show 20 + k < 40; omega), if_neg (by show ¬ 20 + k = 0; omega)]
      show nm (20 + k - 20) :: S = _
      rw [Nat.add_sub_cancel_left]
    rw [ee] at hq
    have ec : encC (20 + k, 0) = -(nI (k + 1)) := by
      unfold encC
      rw [if_neg (by show ¬ 20 + k = 0; omega), if_pos (by show 20 + k < 40; omega)]
      show -(nI (20 + k - 19)) = _
      rw [show 20 + k - 19 = k + 1 by omega]
    rw [ec]
    obtain ⟨n1, n2, n3⟩ := nmk hk6
    have hv : hI H1 22 k = nm k := by rw [hP.1.2.2.2.2 22 k (by unfold isPr; omega)]; exact hnm k hk6
    refine wp_iload_n dX7_step_0 rfl ?_
    refine wp_bipush (v := -6) dX7_step_1 (by decide) ?_
    refine wp_icmp_lt (tgt := 26) dX7_step_3 (by decide) (fun h3 => absurd h3 (n1)) (fun _ => ?_)
    refine wp_aload_n dX7_step_6 rfl ?_
    refine wp_iload_n dX7_step_7 rfl ?_
    refine wp_if_lt (tgt := 15) dX7_step_8 (by decide) (fun _ => ?_) (fun h8 => absurd h8 (fun q => q n2))
    refine wp_aload_n dX7_step_15 rfl ?_
    refine wp_iload_n dX7_step_16 rfl ?_
    refine wp_callv1 (ci := 7) dX7_step_17 lk_RX7_72 ok_X7_valueOfName im_X7_valueOfName se_X7_valueOfName rfl rfl (fk_20 hF1) (Nat.le_of_ble_eq_true rfl) (Nat.le_of_ble_eq_true rfl) ?_
    refine c_X7_valueOfName hk6 hF1 ?_
    rw [hv]
    refine wp_callv1 (ci := 7) dX7_step_20 lk_RX7_76 ok_X7_push im_X7_push se_X7_push rfl rfl (fk_20 hF1) (Nat.le_of_ble_eq_true rfl) (Nat.le_of_ble_eq_true rfl) ?_
    refine l_X7_push hF hP (by omega) (fun H' hP' => ?_)
    refine wp_goto (tgt := 89) dX7_step_23 (by decide) ?_
    refine wp_return rfl dX7_step_89 ?_
    exact hq H' hP'
  · have ha : 40 ≤ x1 := ha
    have hb : x1 ≤ 50 := hb
    have hc : x2 = 0 := hc
    subst hc
    have hne : S ≠ [] := fun z => by
      subst z
      unfold ef at he
      rw [if_neg (by show ¬ x1 < 40; omega)] at he
      split at he
      · cases he
      · cases he
    obtain ⟨a, S1, hS1⟩ := List.exists_cons_of_ne_nil hne
    subst hS1
    have hl1 : S1.length + 1 ≤ 100 := hS
    by_cases q40 : x1 = 40
    · subst q40
      have hq : ∀ H', CQ7 H (bI (a = 0) :: S1) H' → Q none H' := hq
      rw [show encC (40, 0) = (-9 : Int32) from rfl]
      refine wp_iload_n dX7_step_0 rfl ?_
      refine wp_bipush (v := -6) dX7_step_1 (by decide) ?_
      refine wp_icmp_lt (tgt := 26) dX7_step_3 (by decide) (fun _ => ?_) (fun h3 => absurd h3 (fun q => q (by decide)))
      refine wp_iload_n dX7_step_26 rfl ?_
      refine wp_bipush (v := -9) dX7_step_27 (by decide) ?_
      refine wp_icmp_ne (tgt := 51) dX7_step_29 (by decide) (fun h29 => absurd h29 (fun q => q rfl)) (fun _ => ?_)
      refine wp_aload_n dX7_step_32 rfl ?_
      refine wp_aload_n dX7_step_33 rfl ?_
      refine wp_callv0 (ci := 7) dX7_step_34 lk_RX7_69 ok_X7_pop im_X7_pop se_X7_pop rfl rfl (fk_20 hF1) (Nat.le_of_ble_eq_true rfl) (Nat.le_of_ble_eq_true rfl) ?_
      refine l_X7_pop hF hP (by omega) (fun H2 hP2 => ?_)
      have hF2 := CQ_fix hF hP2
      refine wp_if_ne (tgt := 44) dX7_step_37 (by decide) (fun h37 => ?_) (fun h37 => ?_)
      · refine wp_iconst (v := 0) dX7_step_44 (by decide) ?_
        refine wp_callv1 (ci := 7) dX7_step_45 lk_RX7_76 ok_X7_push im_X7_push se_X7_push rfl rfl (fk_20 hF2) (Nat.le_of_ble_eq_true rfl) (Nat.le_of_ble_eq_true rfl) ?_
        refine l_X7_push hF hP2 (by omega) (fun H' hP' => ?_)
        refine wp_goto (tgt := 89) dX7_step_48 (by decide) ?_
        refine wp_return rfl dX7_step_89 ?_
        first
            | exact hq H' (by rw [bI_t h37]; exact hP')
            | exact hq H' (by rw [bI_f h37]; exact hP')
      · refine wp_iconst (v := 1) dX7_step_40 (by decide) ?_
        refine wp_goto (tgt := 45) dX7_step_41 (by decide) ?_
        refine wp_callv1 (ci := 7) dX7_step_45 lk_RX7_76 ok_X7_push im_X7_push se_X7_push rfl rfl (fk_20 hF2) (Nat.le_of_ble_eq_true rfl) (Nat.le_of_ble_eq_true rfl) ?_
        refine l_X7_push hF hP2 (by omega) (fun H' hP' => ?_)
        refine wp_goto (tgt := 89) dX7_step_48 (by decide) ?_
        refine wp_return rfl dX7_step_89 ?_
        first
            | exact hq H' (by rw [bI_t h37]; exact hP')
            | exact hq H' (by rw [bI_f h37]; exact hP')
    · by_cases q50 : x1 = 50
      · subst q50
        have hq : ∀ H', CQ7 H ((-a) :: S1) H' → Q none H' := hq
        rw [show encC (50, 0) = (-10 : Int32) from rfl]
        refine wp_iload_n dX7_step_0 rfl ?_
        refine wp_bipush (v := -6) dX7_step_1 (by decide) ?_
        refine wp_icmp_lt (tgt := 26) dX7_step_3 (by decide) (fun _ => ?_) (fun h3 => absurd h3 (fun q => q (by decide)))
        refine wp_iload_n dX7_step_26 rfl ?_
        refine wp_bipush (v := -9) dX7_step_27 (by decide) ?_
        refine wp_icmp_ne (tgt := 51) dX7_step_29 (by decide) (fun _ => ?_) (fun h29 => absurd h29 (by decide))
        refine wp_iload_n dX7_step_51 rfl ?_
        refine wp_bipush (v := -10) dX7_step_52 (by decide) ?_
        refine wp_icmp_ne (tgt := 69) dX7_step_54 (by decide) (fun h54 => absurd h54 (fun q => q rfl)) (fun _ => ?_)
        refine wp_aload_n dX7_step_57 rfl ?_
        refine wp_aload_n dX7_step_58 rfl ?_
        refine wp_callv0 (ci := 7) dX7_step_59 lk_RX7_69 ok_X7_pop im_X7_pop se_X7_pop rfl rfl (fk_20 hF1) (Nat.le_of_ble_eq_true rfl) (Nat.le_of_ble_eq_true rfl) ?_
        refine l_X7_pop hF hP (by omega) (fun H2 hP2 => ?_)
        have hF2 := CQ_fix hF hP2
        refine wp_ineg dX7_step_62 ?_
        refine wp_callv1 (ci := 7) dX7_step_63 lk_RX7_76 ok_X7_push im_X7_push se_X7_push rfl rfl (fk_20 hF2) (Nat.le_of_ble_eq_true rfl) (Nat.le_of_ble_eq_true rfl) ?_
        refine l_X7_push hF hP2 (by omega) (fun H' hP' => ?_)
        refine wp_goto (tgt := 89) dX7_step_66 (by decide) ?_
        refine wp_return rfl dX7_step_89 ?_
        exact hq H' hP'
      · have h4 : 41 ≤ x1 ∧ x1 ≤ 49 := by omega
        have he2 : 2 ≤ S1.length + 1 := by
          unfold ef at he
          rw [if_neg (by show ¬ x1 < 40; omega), if_neg (by show ¬ (x1 = 40 ∨ x1 = 50); omega)] at he
          split at he
          · assumption
          · cases he
        cases S1 with
        | nil => exact absurd he2 (by decide)
        | cons b S2 =>
          have hl2 : S2.length + 1 + 1 ≤ 100 := hl1
          have ee : ev1 nm (x1, 0) (a :: b :: S2) = jn x1 b a :: S2 := by
            unfold ev1
            rw [if_neg (by show ¬ x1 < 40; omega)]
            show (if x1 = 40 then _ else if x1 = 50 then _ else _) = _
            rw [if_neg q40, if_neg q50]
          rw [ee] at hq
          have ec : encC (x1, 0) < -6 ∧ ¬ encC (x1, 0) = -9 ∧ ¬ encC (x1, 0) = -10 := by
            have : x1 = 41 ∨ x1 = 42 ∨ x1 = 43 ∨ x1 = 44 ∨ x1 = 45 ∨ x1 = 46 ∨ x1 = 47 ∨ x1 = 48 ∨ x1 = 49 := by omega
            rcases this with r | r | r | r | r | r | r | r | r <;> subst r <;> decide
          refine wp_iload_n dX7_step_0 rfl ?_
          refine wp_bipush (v := -6) dX7_step_1 (by decide) ?_
          refine wp_icmp_lt (tgt := 26) dX7_step_3 (by decide) (fun _ => ?_) (fun h3 => absurd h3 (fun q => q ec.1))
          refine wp_iload_n dX7_step_26 rfl ?_
          refine wp_bipush (v := -9) dX7_step_27 (by decide) ?_
          refine wp_icmp_ne (tgt := 51) dX7_step_29 (by decide) (fun _ => ?_) (fun h29 => absurd h29 (ec.2.1))
          refine wp_iload_n dX7_step_51 rfl ?_
          refine wp_bipush (v := -10) dX7_step_52 (by decide) ?_
          refine wp_icmp_ne (tgt := 69) dX7_step_54 (by decide) (fun _ => ?_) (fun h54 => absurd h54 (ec.2.2))
          refine wp_aload_n dX7_step_69 rfl ?_
          refine wp_callv0 (ci := 7) dX7_step_70 lk_RX7_69 ok_X7_pop im_X7_pop se_X7_pop rfl rfl (fk_20 hF1) (Nat.le_of_ble_eq_true rfl) (Nat.le_of_ble_eq_true rfl) ?_
          refine l_X7_pop hF hP (by show S2.length + 1 < 100; omega) (fun H2 hP2 => ?_)
          have hF2 := CQ_fix hF hP2
          refine wp_istore_n dX7_step_73 (by decide) ?_
          refine wp_aload_n dX7_step_74 rfl ?_
          refine wp_callv0 (ci := 7) dX7_step_75 lk_RX7_69 ok_X7_pop im_X7_pop se_X7_pop rfl rfl (fk_20 hF2) (Nat.le_of_ble_eq_true rfl) (Nat.le_of_ble_eq_true rfl) ?_
          refine l_X7_pop hF hP2 (by omega) (fun H3 hP3 => ?_)
          have hF3 := CQ_fix hF hP3
          refine wp_istore_n dX7_step_78 (by decide) ?_
          refine wp_aload_n dX7_step_79 rfl ?_
          refine wp_iload_n dX7_step_80 rfl ?_
          refine wp_iload_n dX7_step_81 rfl ?_
          refine wp_iload_n dX7_step_82 rfl ?_
          refine wp_calls3 dX7_step_83 lk_RX7_79 ok_X7_joined st_X7_joined (Nat.le_of_ble_eq_true rfl) (Nat.le_of_ble_eq_true rfl) ?_
          refine c_X7_joined h4 ?_
          refine wp_callv1 (ci := 7) dX7_step_86 lk_RX7_76 ok_X7_push im_X7_push se_X7_push rfl rfl (fk_20 hF3) (Nat.le_of_ble_eq_true rfl) (Nat.le_of_ble_eq_true rfl) ?_
          refine l_X7_push hF hP3 (by omega) (fun H' hP' => ?_)
          refine wp_return rfl dX7_step_89 ?_
          exact hq H' hP'
end PRD
