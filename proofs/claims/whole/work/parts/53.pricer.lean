/-! ===== CarriageHire$Pricer: its pile ===== -/
def psh (H : PH) (h : Nat) (v : Int32) : PH := sI (sI H 21 h v) 20 2 (nI (h + 1))
theorem c_X7_push {d h : Nat} {v : Int32} {H : PH} {Q : Option Value → PH → Prop} (hF : Fix H) (hh : hI H 20 2 = nI h) (hl : h < 100) (hq : Q none (psh H h v)) : Wp mX7_push d 0 0 0 [some (.ref 20), some (.int v)] [] H Q := by
  refine wp_aload_n dX7_push_0 rfl ?_
  refine wp_geti dX7_push_1 fl_RX7_56 rfl (fk_20 hF) ?_
  rw [hh]
  refine wp_aload_n dX7_push_4 rfl ?_
  refine wp_geta dX7_push_5 fl_RX7_9 rfl (fk_20 hF) (fr_20_0 hF) ?_
  refine wp_alen dX7_push_8 (fk_21 hF) (by simp) ?_
  refine wp_icmp_ge (tgt := 32) dX7_push_9 (by decide) (fun h9 => absurd h9 (nI_ge (a := h) (b := 100) hl (by decide))) (fun _ => ?_)
  refine wp_aload_n dX7_push_12 rfl ?_
  refine wp_geta dX7_push_13 fl_RX7_9 rfl (fk_20 hF) (fr_20_0 hF) ?_
  refine wp_aload_n dX7_push_16 rfl ?_
  refine wp_geti dX7_push_17 fl_RX7_56 rfl (fk_20 hF) ?_
  rw [hh]
  refine wp_iload_n dX7_push_20 rfl ?_
  refine wp_iastoreN dX7_push_21 (fk_21 hF) (by omega) (by decide) ?_
  refine wp_aload_n dX7_push_22 rfl ?_
  refine wp_dup dX7_push_23 rfl ?_
  refine wp_geti dX7_push_24 fl_RX7_56 rfl (fk_20 (Fix_sI hF)) ?_
  simp only [hI_sI', Nat.reduceEqDiff, false_and, ↓reduceIte, hh]
  refine wp_iconst (v := 1) dX7_push_27 (by decide) ?_
  refine wp_iadd dX7_push_28 ?_
  rw [nI_1]
  refine wp_puti dX7_push_29 fl_RX7_56 (mp_7_2 _ _) rfl (fk_20 (Fix_sI hF)) ?_
  refine wp_return rfl dX7_push_32 ?_
  exact hq
theorem c_X7_pop {d h : Nat} {H : PH} {Q : Option Value → PH → Prop} (hF : Fix H) (hh : hI H 20 2 = nI (h + 1)) (hl : h < 100) (hq : Q (some (.int (hI H 21 h))) (sI H 20 2 (nI h))) : Wp mX7_pop d 0 0 0 [some (.ref 20)] [] H Q := by
  refine wp_aload_n dX7_pop_0 rfl ?_
  refine wp_geti dX7_pop_1 fl_RX7_56 rfl (fk_20 hF) ?_
  rw [hh]
  refine wp_if_gt (tgt := 9) dX7_pop_4 (by decide) (fun _ => ?_) (fun h4 => absurd h4 (fun q => q (nI_lt (a := 0) (b := h + 1) (by omega) (by omega))))
  refine wp_aload_n dX7_pop_9 rfl ?_
  refine wp_dup dX7_pop_10 rfl ?_
  refine wp_geti dX7_pop_11 fl_RX7_56 rfl (fk_20 hF) ?_
  rw [hh]
  refine wp_iconst (v := 1) dX7_pop_14 (by decide) ?_
  refine wp_isub dX7_pop_15 ?_
  rw [nI_pred]
  refine wp_puti dX7_pop_16 fl_RX7_56 (mp_7_2 _ _) rfl (fk_20 hF) ?_
  refine wp_aload_n dX7_pop_19 rfl ?_
  refine wp_geta dX7_pop_20 fl_RX7_9 rfl (fk_20 (Fix_sI hF)) (fr_20_0 (Fix_sI hF)) ?_
  refine wp_aload_n dX7_pop_23 rfl ?_
  refine wp_geti dX7_pop_24 fl_RX7_56 rfl (fk_20 (Fix_sI hF)) ?_
  simp only [hI_sI', and_self, ↓reduceIte]
  refine wp_ialoadN dX7_pop_27 (fk_21 (Fix_sI hF)) (by omega) (by decide) ?_
  simp only [hI_sI', Nat.reduceEqDiff, false_and, ↓reduceIte]
  refine wp_ireturn rfl dX7_pop_28 ?_
  exact hq
