/-! ===== the reference's isOpen, settleOnes, sign ===== -/
section MS5
variable {d : Nat} {H : PH} {Q : Option Value → PH → Prop} {bf : Nat → Int32} {N s v : Nat} {o : OL} {W : List Nat} {H1 : PH}
theorem tk_mem {k x : Nat} {L : List Nat} (h : L[k]? = some x) : (51 ∈ L.take (k + 1) ↔ 51 ∈ L.take k ∨ x = 51) := by
  rw [List.take_add_one, h, List.mem_append]
  constructor
  · rintro (z | z)
    · exact Or.inl z
    · exact Or.inr (List.mem_singleton.mp z).symm
  · rintro (z | z)
    · exact Or.inl z
    · exact Or.inr (List.mem_singleton.mpr z.symm)
theorem bI_c {p q : Prop} (h : p ↔ q) : bI p = bI q := by rw [propext h]
theorem l_isOpen (hF : Fix H) (hM : MR H bf N s v o W H1) (hb : RB9 o W) (hq : Q (some (.int (bI (51 ∈ W)))) H1) : ∀ n k, n + k = W.length → Wp mX12_isOpen d 0 0 4 [some (.ref 33), some (.int (bI (51 ∈ W.reverse.take k))), some (.int (nI k))] [] H1 Q := by
  have hF1 := MR_fix hF hM
  have h50 := hM.2.2.2.2.2.2.2.1.1
  have b2 := hb.2.1
  intro n
  induction n with
  | zero =>
    intro k hk
    have hk' : k = W.length := by omega
    subst hk'
    have e : bI (51 ∈ W.reverse.take W.length) = bI (51 ∈ W) := bI_c (by rw [List.take_of_length_le (by rw [List.length_reverse]; exact Nat.le_refl _), List.mem_reverse])
    rw [e]
    refine wp_iload_n dX12_isOpen_4 rfl ?_
    refine wp_aload_n dX12_isOpen_5 rfl ?_
    refine wp_geti dX12_isOpen_6 fl_RX12_268 rfl (fk_33 hF1) ?_
    rw [h50]
    refine wp_icmp_ge (tgt := 39) dX12_isOpen_9 (by decide) (fun _ => ?_) (fun h9 => absurd h9 (fun h => h (nI_le (Nat.le_refl _) (by omega))))
    refine wp_iload_n dX12_isOpen_39 rfl ?_
    refine wp_zreturn rfl (bI_01 _) dX12_isOpen_40 ?_
    exact hq
  | succ n ih =>
    intro k hk
    have hlt : k < W.reverse.length := by rw [List.length_reverse]; omega
    have hg : W.reverse[k]? = some W.reverse[k] := List.getElem?_eq_getElem hlt
    have hx := hM.2.2.2.2.2.2.2.1.2.1 k _ hg
    have h100 := hb.2.2.2 W.reverse[k] (List.mem_reverse.mp (List.getElem_mem hlt))
    have hk1 := ih (k + 1) (by omega)
    have ht := tk_mem hg
    generalize W.reverse[k] = x at *
    have e51 : nI x = 51 ↔ x = 51 := nI_eq (a := x) (b := 51) (by omega) (by decide)
    rw [bI_c ht] at hk1
    by_cases q : 51 ∈ W.reverse.take k
    · rw [bI_t q]
      rw [bI_t (Or.inl q)] at hk1
      refine wp_iload_n dX12_isOpen_4 rfl ?_
      refine wp_aload_n dX12_isOpen_5 rfl ?_
      refine wp_geti dX12_isOpen_6 fl_RX12_268 rfl (fk_33 hF1) ?_
      rw [h50]
      refine wp_icmp_ge (tgt := 39) dX12_isOpen_9 (by decide) (fun h9 => absurd h9 (nI_ge (by omega : k < W.length) (by omega))) (fun _ => ?_)
      refine wp_iload_n dX12_isOpen_12 rfl ?_
      refine wp_if_ne (tgt := 27) dX12_isOpen_13 (by decide) (fun _ => ?_) (fun h13 => absurd h13 (by decide))
      refine wp_iconst (v := 1) dX12_isOpen_27 (by decide) ?_
      refine wp_goto (tgt := 32) dX12_isOpen_28 (by decide) ?_
      refine wp_istore_n dX12_isOpen_32 (by decide) ?_
      refine wp_incN dX12_isOpen_33 rfl (by decide) ?_
      refine wp_goto (tgt := 4) dX12_isOpen_36 (by decide) ?_
      exact hk1
    · rw [bI_f q]
      by_cases q2 : x = 51
      · rw [bI_t (Or.inr q2)] at hk1
        refine wp_iload_n dX12_isOpen_4 rfl ?_
        refine wp_aload_n dX12_isOpen_5 rfl ?_
        refine wp_geti dX12_isOpen_6 fl_RX12_268 rfl (fk_33 hF1) ?_
        rw [h50]
        refine wp_icmp_ge (tgt := 39) dX12_isOpen_9 (by decide) (fun h9 => absurd h9 (nI_ge (by omega : k < W.length) (by omega))) (fun _ => ?_)
        refine wp_iload_n dX12_isOpen_12 rfl ?_
        refine wp_if_ne (tgt := 27) dX12_isOpen_13 (by decide) (fun h13 => absurd h13 (fun z => z rfl)) (fun _ => ?_)
        refine wp_aload_n dX12_isOpen_16 rfl ?_
        refine wp_geta dX12_isOpen_17 fl_RX12_108 rfl (fk_33 hF1) (fr_33_49 hF1) ?_
        refine wp_iload_n dX12_isOpen_20 rfl ?_
        refine wp_ialoadN dX12_isOpen_21 (fk_62 hF1) (by omega) (by decide) ?_
        rw [hx]
        refine wp_bipush (v := 51) dX12_isOpen_22 (by decide) ?_
        refine wp_icmp_ne (tgt := 31) dX12_isOpen_24 (by decide) (fun h24 => absurd h24 (fun z => z (e51.mpr q2))) (fun _ => ?_)
        refine wp_iconst (v := 1) dX12_isOpen_27 (by decide) ?_
        refine wp_goto (tgt := 32) dX12_isOpen_28 (by decide) ?_
        refine wp_istore_n dX12_isOpen_32 (by decide) ?_
        refine wp_incN dX12_isOpen_33 rfl (by decide) ?_
        refine wp_goto (tgt := 4) dX12_isOpen_36 (by decide) ?_
        exact hk1
      · rw [bI_f (fun z => z.elim q q2)] at hk1
        refine wp_iload_n dX12_isOpen_4 rfl ?_
        refine wp_aload_n dX12_isOpen_5 rfl ?_
        refine wp_geti dX12_isOpen_6 fl_RX12_268 rfl (fk_33 hF1) ?_
        rw [h50]
        refine wp_icmp_ge (tgt := 39) dX12_isOpen_9 (by decide) (fun h9 => absurd h9 (nI_ge (by omega : k < W.length) (by omega))) (fun _ => ?_)
        refine wp_iload_n dX12_isOpen_12 rfl ?_
        refine wp_if_ne (tgt := 27) dX12_isOpen_13 (by decide) (fun h13 => absurd h13 (fun z => z rfl)) (fun _ => ?_)
        refine wp_aload_n dX12_isOpen_16 rfl ?_
        refine wp_geta dX12_isOpen_17 fl_RX12_108 rfl (fk_33 hF1) (fr_33_49 hF1) ?_
        refine wp_iload_n dX12_isOpen_20 rfl ?_
        refine wp_ialoadN dX12_isOpen_21 (fk_62 hF1) (by omega) (by decide) ?_
        rw [hx]
        refine wp_bipush (v := 51) dX12_isOpen_22 (by decide) ?_
        refine wp_icmp_ne (tgt := 31) dX12_isOpen_24 (by decide) (fun _ => ?_) (fun h24 => absurd h24 (fun z => q2 (e51.mp z)))
        refine wp_iconst (v := 0) dX12_isOpen_31 (by decide) ?_
        refine wp_istore_n dX12_isOpen_32 (by decide) ?_
        refine wp_incN dX12_isOpen_33 rfl (by decide) ?_
        refine wp_goto (tgt := 4) dX12_isOpen_36 (by decide) ?_
        exact hk1
theorem c_X12_isOpen (hF : Fix H) (hM : MR H bf N s v o W H1) (hb : RB9 o W) (hq : Q (some (.int (bI (51 ∈ W)))) H1) : Wp mX12_isOpen d 0 0 0 [some (.ref 33), none, none] [] H1 Q := by
  have hF1 := MR_fix hF hM
  have h := l_isOpen (d := d) hF hM hb hq W.length 0 (by omega)
  rw [bI_f (by rw [List.take_zero]; exact List.not_mem_nil)] at h
  refine wp_iconst (v := 0) dX12_isOpen_0 (by decide) ?_
  refine wp_istore_n dX12_isOpen_1 (by decide) ?_
  refine wp_iconst (v := 0) dX12_isOpen_2 (by decide) ?_
  refine wp_istore_n dX12_isOpen_3 (by decide) ?_
  exact h
def pO (z : Bool) (x : Nat) : Bool := if z = true then pA x else pS 0 x
theorem pO_iff (z : Bool) (x : Nat) : pO z x = true ↔ x ≠ 51 ∧ (z = true → x ≠ 41) := by
  unfold pO pA pS
  cases z
  · rw [if_neg (by decide), decide_eq_true_iff]; exact ⟨fun h => ⟨h.2, fun z => by cases z⟩, fun h => ⟨Nat.zero_le _, h.1⟩⟩
  · rw [if_pos rfl, decide_eq_true_iff]; exact ⟨fun h => ⟨h.2, fun _ => h.1⟩, fun h => ⟨h.2 rfl, h.1⟩⟩
theorem RB_pop {x : Nat} (hb : RB9 o (x :: W)) : RB9 (o ++ [(x, 0)]) W := by
  obtain ⟨b1, b2, b3, b4⟩ := hb
  have b1' : o.length + (W.length + 1) ≤ 600 := b1
  have b2' : W.length + 1 ≤ 390 := b2
  refine ⟨by rw [List.length_append]; show o.length + 1 + W.length ≤ 600; omega, by omega, ?_, fun y hy => b4 y (List.mem_cons_of_mem _ hy)⟩
  have : deepW (x :: W) = deepW W + (if isN x = true then 1 else 0) := rfl
  omega
theorem l_ones {z : Bool} {zi : Int32} (hz : (z = true ∧ zi = 1) ∨ (z = false ∧ zi = 0)) (hF : Fix H) : ∀ (W : List Nat) (o : OL) (H1 : PH) (l3 : Option Value), MR H bf N s v o W H1 → RB9 o W → (∀ H', MR H bf N s v (stp (pO z) W o).2 (stp (pO z) W o).1 H' → Q none H') → Wp mX12_settleOnes (d + 2) 0 0 2 [some (.ref 33), some (.int zi), some (.int 1), l3] [] H1 Q
  | [], o, H1, l3, hM, hb, hq => by
    have hF1 := MR_fix hF hM
    have h50 : hI H1 33 50 = nI 0 := hM.2.2.2.2.2.2.2.1.1
    have fin : Wp mX12_settleOnes (d + 2) 0 0 2 [some (.ref 33), some (.int zi), some (.int 0), some (.int 51)] [] H1 Q := by
      refine wp_iload_n dX12_settleOnes_2 rfl ?_
      refine wp_if_eq (tgt := 63) dX12_settleOnes_3 (by decide) (fun _ => ?_) (fun h3 => absurd h3 (fun q => q rfl))
      refine wp_return rfl dX12_settleOnes_63 ?_
      exact hq H1 hM
    refine wp_iload_n dX12_settleOnes_2 rfl ?_
    refine wp_if_eq (tgt := 63) dX12_settleOnes_3 (by decide) (fun h3 => absurd h3 (by decide)) (fun _ => ?_)
    refine wp_aload_n dX12_settleOnes_6 rfl ?_
    refine wp_geti dX12_settleOnes_7 fl_RX12_268 rfl (fk_33 hF1) ?_
    rw [h50]
    refine wp_if_ne (tgt := 18) dX12_settleOnes_10 (by decide) (fun h10 => absurd h10 (fun q => q rfl)) (fun _ => ?_)
    refine wp_bipush (v := 51) dX12_settleOnes_13 (by decide) ?_
    refine wp_goto (tgt := 29) dX12_settleOnes_15 (by decide) ?_
    refine wp_istore_n dX12_settleOnes_29 (by decide) ?_
    refine wp_iload_n dX12_settleOnes_30 rfl ?_
    refine wp_bipush (v := 51) dX12_settleOnes_31 (by decide) ?_
    refine wp_icmp_eq (tgt := 50) dX12_settleOnes_33 (by decide) (fun _ => ?_) (fun h33 => absurd h33 (fun q => q rfl))
    refine wp_iconst (v := 0) dX12_settleOnes_50 (by decide) ?_
    refine wp_istore_n dX12_settleOnes_51 (by decide) ?_
    refine wp_iload_n dX12_settleOnes_52 rfl ?_
    refine wp_if_eq (tgt := 60) dX12_settleOnes_53 (by decide) (fun _ => ?_) (fun h53 => absurd h53 (fun q => q rfl))
    refine wp_goto (tgt := 2) dX12_settleOnes_60 (by decide) ?_
    exact fin
  | x :: W, o, H1, l3, hM, hb, hq => by
    have hF1 := MR_fix hF hM
    have h50 : hI H1 33 50 = nI (W.length + 1) := hM.2.2.2.2.2.2.2.1.1
    have h62 := top_62 hM
    have hb' := RB_pop hb
    obtain ⟨b1, b2, b3, b4⟩ := hb
    have b1' : o.length + (W.length + 1) ≤ 600 := b1
    have b2' : W.length + 1 ≤ 390 := b2
    have hx := b4 x (List.mem_cons_self ..)
    have ex : ∀ k : Nat, k < 100 → (nI x = nI k ↔ x = k) := fun k hk => nI_eq (by omega) (by omega)
    have h50n : ¬ nI (W.length + 1) = 0 := fun q => by have := (nI_eq (a := W.length + 1) (b := 0) (by omega) (by decide)).mp q; omega
    by_cases q : pO z x = true
    · obtain ⟨p1, p2⟩ := (pO_iff z x).mp q
      rw [stp_t q] at hq
      have rec' := fun H' l3 hM' => l_ones hz hF W (o ++ [(x, 0)]) H' l3 hM' hb' hq
      rcases hz with ⟨z1, z2⟩ | ⟨z1, z2⟩
      · subst z2
        refine wp_iload_n dX12_settleOnes_2 rfl ?_
        refine wp_if_eq (tgt := 63) dX12_settleOnes_3 (by decide) (fun h3 => absurd h3 (by decide)) (fun _ => ?_)
        refine wp_aload_n dX12_settleOnes_6 rfl ?_
        refine wp_geti dX12_settleOnes_7 fl_RX12_268 rfl (fk_33 hF1) ?_
        rw [h50]
        refine wp_if_ne (tgt := 18) dX12_settleOnes_10 (by decide) (fun _ => ?_) (fun h10 => absurd h10 (h50n))
        refine wp_aload_n dX12_settleOnes_18 rfl ?_
        refine wp_geta dX12_settleOnes_19 fl_RX12_108 rfl (fk_33 hF1) (fr_33_49 hF1) ?_
        refine wp_aload_n dX12_settleOnes_22 rfl ?_
        refine wp_geti dX12_settleOnes_23 fl_RX12_268 rfl (fk_33 hF1) ?_
        rw [h50]
        refine wp_iconst (v := 1) dX12_settleOnes_26 (by decide) ?_
        refine wp_isub dX12_settleOnes_27 ?_
        rw [nI_pred]
        refine wp_ialoadN dX12_settleOnes_28 (fk_62 hF1) (by omega) (by decide) ?_
        rw [h62]
        refine wp_istore_n dX12_settleOnes_29 (by decide) ?_
        refine wp_iload_n dX12_settleOnes_30 rfl ?_
        refine wp_bipush (v := 51) dX12_settleOnes_31 (by decide) ?_
        refine wp_icmp_eq (tgt := 50) dX12_settleOnes_33 (by decide) (fun h33 => absurd h33 (fun y => p1 ((ex 51 (by decide)).mp y))) (fun _ => ?_)
        refine wp_iload_n dX12_settleOnes_36 rfl ?_
        refine wp_if_eq (tgt := 46) dX12_settleOnes_37 (by decide) (fun h37 => absurd h37 (by decide)) (fun _ => ?_)
        refine wp_iload_n dX12_settleOnes_40 rfl ?_
        refine wp_bipush (v := 41) dX12_settleOnes_41 (by decide) ?_
        refine wp_icmp_eq (tgt := 50) dX12_settleOnes_43 (by decide) (fun h43 => absurd h43 (fun y => p2 z1 ((ex 41 (by decide)).mp y))) (fun _ => ?_)
        refine wp_iconst (v := 1) dX12_settleOnes_46 (by decide) ?_
        refine wp_goto (tgt := 51) dX12_settleOnes_47 (by decide) ?_
        refine wp_istore_n dX12_settleOnes_51 (by decide) ?_
        refine wp_iload_n dX12_settleOnes_52 rfl ?_
        refine wp_if_eq (tgt := 60) dX12_settleOnes_53 (by decide) (fun h53 => absurd h53 (by decide)) (fun _ => ?_)
        refine wp_aload_n dX12_settleOnes_56 rfl ?_
        refine wp_callv0 (ci := 12) dX12_settleOnes_57 lk_RX12_277 ok_X12_pop im_X12_pop se_X12_pop rfl rfl (fk_33 hF1) (Nat.le_of_ble_eq_true rfl) (Nat.le_of_ble_eq_true rfl) ?_
        refine c_X12_pop hx p1 hF hM (by omega) (by omega) (fun H' hM' => ?_)
        refine wp_goto (tgt := 2) dX12_settleOnes_60 (by decide) ?_
        exact rec' H' _ hM'
      · subst z2
        refine wp_iload_n dX12_settleOnes_2 rfl ?_
        refine wp_if_eq (tgt := 63) dX12_settleOnes_3 (by decide) (fun h3 => absurd h3 (by decide)) (fun _ => ?_)
        refine wp_aload_n dX12_settleOnes_6 rfl ?_
        refine wp_geti dX12_settleOnes_7 fl_RX12_268 rfl (fk_33 hF1) ?_
        rw [h50]
        refine wp_if_ne (tgt := 18) dX12_settleOnes_10 (by decide) (fun _ => ?_) (fun h10 => absurd h10 (h50n))
        refine wp_aload_n dX12_settleOnes_18 rfl ?_
        refine wp_geta dX12_settleOnes_19 fl_RX12_108 rfl (fk_33 hF1) (fr_33_49 hF1) ?_
        refine wp_aload_n dX12_settleOnes_22 rfl ?_
        refine wp_geti dX12_settleOnes_23 fl_RX12_268 rfl (fk_33 hF1) ?_
        rw [h50]
        refine wp_iconst (v := 1) dX12_settleOnes_26 (by decide) ?_
        refine wp_isub dX12_settleOnes_27 ?_
        rw [nI_pred]
        refine wp_ialoadN dX12_settleOnes_28 (fk_62 hF1) (by omega) (by decide) ?_
        rw [h62]
        refine wp_istore_n dX12_settleOnes_29 (by decide) ?_
        refine wp_iload_n dX12_settleOnes_30 rfl ?_
        refine wp_bipush (v := 51) dX12_settleOnes_31 (by decide) ?_
        refine wp_icmp_eq (tgt := 50) dX12_settleOnes_33 (by decide) (fun h33 => absurd h33 (fun y => p1 ((ex 51 (by decide)).mp y))) (fun _ => ?_)
        refine wp_iload_n dX12_settleOnes_36 rfl ?_
        refine wp_if_eq (tgt := 46) dX12_settleOnes_37 (by decide) (fun _ => ?_) (fun h37 => absurd h37 (fun y => y rfl))
        refine wp_iconst (v := 1) dX12_settleOnes_46 (by decide) ?_
        refine wp_goto (tgt := 51) dX12_settleOnes_47 (by decide) ?_
        refine wp_istore_n dX12_settleOnes_51 (by decide) ?_
        refine wp_iload_n dX12_settleOnes_52 rfl ?_
        refine wp_if_eq (tgt := 60) dX12_settleOnes_53 (by decide) (fun h53 => absurd h53 (by decide)) (fun _ => ?_)
        refine wp_aload_n dX12_settleOnes_56 rfl ?_
        refine wp_callv0 (ci := 12) dX12_settleOnes_57 lk_RX12_277 ok_X12_pop im_X12_pop se_X12_pop rfl rfl (fk_33 hF1) (Nat.le_of_ble_eq_true rfl) (Nat.le_of_ble_eq_true rfl) ?_
        refine c_X12_pop hx p1 hF hM (by omega) (by omega) (fun H' hM' => ?_)
        refine wp_goto (tgt := 2) dX12_settleOnes_60 (by decide) ?_
        exact rec' H' _ hM'
    · rw [stp_f (by simpa using q)] at hq
      have fin : Wp mX12_settleOnes (d + 2) 0 0 2 [some (.ref 33), some (.int zi), some (.int 0), some (.int (nI x))] [] H1 Q := by
        refine wp_iload_n dX12_settleOnes_2 rfl ?_
        refine wp_if_eq (tgt := 63) dX12_settleOnes_3 (by decide) (fun _ => ?_) (fun h3 => absurd h3 (fun q => q rfl))
        refine wp_return rfl dX12_settleOnes_63 ?_
        exact hq H1 hM
      have q' : ¬ (x ≠ 51 ∧ (z = true → x ≠ 41)) := fun y => q ((pO_iff z x).mpr y)
      by_cases q5 : x = 51
      · have e5 : nI x = 51 := (ex 51 (by decide)).mpr q5
        refine wp_iload_n dX12_settleOnes_2 rfl ?_
        refine wp_if_eq (tgt := 63) dX12_settleOnes_3 (by decide) (fun h3 => absurd h3 (by decide)) (fun _ => ?_)
        refine wp_aload_n dX12_settleOnes_6 rfl ?_
        refine wp_geti dX12_settleOnes_7 fl_RX12_268 rfl (fk_33 hF1) ?_
        rw [h50]
        refine wp_if_ne (tgt := 18) dX12_settleOnes_10 (by decide) (fun _ => ?_) (fun h10 => absurd h10 (h50n))
        refine wp_aload_n dX12_settleOnes_18 rfl ?_
        refine wp_geta dX12_settleOnes_19 fl_RX12_108 rfl (fk_33 hF1) (fr_33_49 hF1) ?_
        refine wp_aload_n dX12_settleOnes_22 rfl ?_
        refine wp_geti dX12_settleOnes_23 fl_RX12_268 rfl (fk_33 hF1) ?_
        rw [h50]
        refine wp_iconst (v := 1) dX12_settleOnes_26 (by decide) ?_
        refine wp_isub dX12_settleOnes_27 ?_
        rw [nI_pred]
        refine wp_ialoadN dX12_settleOnes_28 (fk_62 hF1) (by omega) (by decide) ?_
        rw [h62]
        refine wp_istore_n dX12_settleOnes_29 (by decide) ?_
        refine wp_iload_n dX12_settleOnes_30 rfl ?_
        refine wp_bipush (v := 51) dX12_settleOnes_31 (by decide) ?_
        refine wp_icmp_eq (tgt := 50) dX12_settleOnes_33 (by decide) (fun _ => ?_) (fun h33 => absurd h33 (fun y => y e5))
        refine wp_iconst (v := 0) dX12_settleOnes_50 (by decide) ?_
        refine wp_istore_n dX12_settleOnes_51 (by decide) ?_
        refine wp_iload_n dX12_settleOnes_52 rfl ?_
        refine wp_if_eq (tgt := 60) dX12_settleOnes_53 (by decide) (fun _ => ?_) (fun h53 => absurd h53 (fun q => q rfl))
        refine wp_goto (tgt := 2) dX12_settleOnes_60 (by decide) ?_
        exact fin
      · have z1 : z = true ∧ x = 41 := by
          refine ⟨Classical.byContradiction (fun y => q' ⟨q5, fun w => absurd w y⟩), Classical.byContradiction (fun y => q' ⟨q5, fun _ => y⟩)⟩
        have zi1 : zi = 1 := by rcases hz with w | w; exact w.2; rw [z1.1] at w; cases w.1
        subst zi1
        have e4 : nI x = 41 := (ex 41 (by decide)).mpr z1.2
        refine wp_iload_n dX12_settleOnes_2 rfl ?_
        refine wp_if_eq (tgt := 63) dX12_settleOnes_3 (by decide) (fun h3 => absurd h3 (by decide)) (fun _ => ?_)
        refine wp_aload_n dX12_settleOnes_6 rfl ?_
        refine wp_geti dX12_settleOnes_7 fl_RX12_268 rfl (fk_33 hF1) ?_
        rw [h50]
        refine wp_if_ne (tgt := 18) dX12_settleOnes_10 (by decide) (fun _ => ?_) (fun h10 => absurd h10 (h50n))
        refine wp_aload_n dX12_settleOnes_18 rfl ?_
        refine wp_geta dX12_settleOnes_19 fl_RX12_108 rfl (fk_33 hF1) (fr_33_49 hF1) ?_
        refine wp_aload_n dX12_settleOnes_22 rfl ?_
        refine wp_geti dX12_settleOnes_23 fl_RX12_268 rfl (fk_33 hF1) ?_
        rw [h50]
        refine wp_iconst (v := 1) dX12_settleOnes_26 (by decide) ?_
        refine wp_isub dX12_settleOnes_27 ?_
        rw [nI_pred]
        refine wp_ialoadN dX12_settleOnes_28 (fk_62 hF1) (by omega) (by decide) ?_
        rw [h62]
        refine wp_istore_n dX12_settleOnes_29 (by decide) ?_
        refine wp_iload_n dX12_settleOnes_30 rfl ?_
        refine wp_bipush (v := 51) dX12_settleOnes_31 (by decide) ?_
        refine wp_icmp_eq (tgt := 50) dX12_settleOnes_33 (by decide) (fun h33 => absurd h33 (fun y => q5 ((ex 51 (by decide)).mp y))) (fun _ => ?_)
        refine wp_iload_n dX12_settleOnes_36 rfl ?_
        refine wp_if_eq (tgt := 46) dX12_settleOnes_37 (by decide) (fun h37 => absurd h37 (by decide)) (fun _ => ?_)
        refine wp_iload_n dX12_settleOnes_40 rfl ?_
        refine wp_bipush (v := 41) dX12_settleOnes_41 (by decide) ?_
        refine wp_icmp_eq (tgt := 50) dX12_settleOnes_43 (by decide) (fun _ => ?_) (fun h43 => absurd h43 (fun y => y e4))
        refine wp_iconst (v := 0) dX12_settleOnes_50 (by decide) ?_
        refine wp_istore_n dX12_settleOnes_51 (by decide) ?_
        refine wp_iload_n dX12_settleOnes_52 rfl ?_
        refine wp_if_eq (tgt := 60) dX12_settleOnes_53 (by decide) (fun _ => ?_) (fun h53 => absurd h53 (fun q => q rfl))
        refine wp_goto (tgt := 2) dX12_settleOnes_60 (by decide) ?_
        exact fin
theorem c_X12_settleOnes {z : Bool} {zi : Int32} (hz : (z = true ∧ zi = 1) ∨ (z = false ∧ zi = 0)) (hF : Fix H) (hM : MR H bf N s v o W H1) (hb : RB9 o W) (hq : ∀ H', MR H bf N s v (stp (pO z) W o).2 (stp (pO z) W o).1 H' → Q none H') : Wp mX12_settleOnes (d + 2) 0 0 0 [some (.ref 33), some (.int zi), none, none] [] H1 Q := by
  have hF1 := MR_fix hF hM
  refine wp_iconst (v := 1) dX12_settleOnes_0 (by decide) ?_
  refine wp_istore_n dX12_settleOnes_1 (by decide) ?_
  exact l_ones hz hF W o H1 _ hM hb hq
end MS5
