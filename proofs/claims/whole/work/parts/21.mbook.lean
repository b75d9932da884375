/-! ===== the reference's book ===== -/
abbrev mdHit (H : PH) (c m k : Int32) (i : Nat) : Prop := hI H 65 i = c ∧ hI H 68 i ≤ k ∧ (hI H 69 i < 0 ∨ k < hI H 69 i) ∧ hI H 66 i ≤ m ∧ m < hI H 67 i
def mdNew (H : PH) (n : Nat) (c f t u : Int32) : PH := sI (sI (sI (sI (sI (sI H 65 n c) 66 n f) 67 n t) 68 n u) 69 n (-1)) 33 54 (nI (n + 1))
theorem c_X12_broken {d n : Nat} {c f t u : Int32} {H : PH} {Q : Option Value → PH → Prop} (hF : Fix H) (hn : hI H 33 54 = nI n) (hn4 : n ≤ 40)
    (hq1 : ((0 ≤ c ∧ c ≤ 5) ∧ (0 ≤ f ∧ f ≤ 2000) ∧ f < t ∧ t ≤ 3000 ∧ (0 ≤ u ∧ u ≤ 5000)) → n < 40 → Q (some (.int (nI n))) (mdNew H n c f t u))
    (hq2 : ¬ (((0 ≤ c ∧ c ≤ 5) ∧ (0 ≤ f ∧ f ≤ 2000) ∧ f < t ∧ t ≤ 3000 ∧ (0 ≤ u ∧ u ≤ 5000)) ∧ n < 40) → Q (some (.int (-1))) H) :
    Wp mX12_broken d 0 0 0 [some (.ref 33), some (.int c), some (.int f), some (.int t), some (.int u)] [] H Q := by
  have hbad : ¬ (((0 ≤ c ∧ c ≤ 5) ∧ (0 ≤ f ∧ f ≤ 2000) ∧ f < t ∧ t ≤ 3000 ∧ (0 ≤ u ∧ u ≤ 5000)) ∧ n < 40) → Wp mX12_broken d 0 0 54 [some (.ref 33), some (.int c), some (.int f), some (.int t), some (.int u)] [] H Q := by
    intro hb
    refine wp_iconst (v := -1) dX12_broken_54 (by decide) ?_
    refine wp_ireturn rfl dX12_broken_55 ?_
    exact hq2 hb
  refine wp_aload_n dX12_broken_0 rfl ?_
  refine wp_geti dX12_broken_1 fl_RX12_337 rfl (fk_33 hF) ?_
  refine wp_bipush (v := 40) dX12_broken_4 (by decide) ?_
  refine wp_icmp_eq (tgt := 54) dX12_broken_6 (by decide) (fun h6 => ?_) (fun h6 => ?_)
  · exact hbad (fun q => by
        first
          | exact absurd q.2 (by rw [(nI_eq (a := n) (b := 40) (by omega) (by omega)).mp (hn.symm.trans h6)]; decide)
          | exact absurd h10 (Int32.not_lt.mpr q.1.1.1)
          | exact absurd h15 (Int32.not_lt.mpr q.1.1.2)
          | exact absurd h19 (Int32.not_lt.mpr q.1.2.1.1)
          | exact absurd h26 (Int32.not_lt.mpr q.1.2.1.2)
          | exact absurd h31 (Int32.not_le.mpr q.1.2.2.1)
          | exact absurd h38 (Int32.not_lt.mpr q.1.2.2.2.1)
          | exact absurd h43 (Int32.not_lt.mpr q.1.2.2.2.2.1)
          | exact absurd q.1.2.2.2.2.2 h51)
  · refine wp_iload_n dX12_broken_9 rfl ?_
    refine wp_if_lt (tgt := 54) dX12_broken_10 (by decide) (fun h10 => ?_) (fun h10 => ?_)
    · exact hbad (fun q => by
          first
            | exact absurd q.2 (by rw [(nI_eq (a := n) (b := 40) (by omega) (by omega)).mp (hn.symm.trans h6)]; decide)
            | exact absurd h10 (Int32.not_lt.mpr q.1.1.1)
            | exact absurd h15 (Int32.not_lt.mpr q.1.1.2)
            | exact absurd h19 (Int32.not_lt.mpr q.1.2.1.1)
            | exact absurd h26 (Int32.not_lt.mpr q.1.2.1.2)
            | exact absurd h31 (Int32.not_le.mpr q.1.2.2.1)
            | exact absurd h38 (Int32.not_lt.mpr q.1.2.2.2.1)
            | exact absurd h43 (Int32.not_lt.mpr q.1.2.2.2.2.1)
            | exact absurd q.1.2.2.2.2.2 h51)
    · refine wp_iload_n dX12_broken_13 rfl ?_
      refine wp_iconst (v := 5) dX12_broken_14 (by decide) ?_
      refine wp_icmp_gt (tgt := 54) dX12_broken_15 (by decide) (fun h15 => ?_) (fun h15 => ?_)
      · exact hbad (fun q => by
            first
              | exact absurd q.2 (by rw [(nI_eq (a := n) (b := 40) (by omega) (by omega)).mp (hn.symm.trans h6)]; decide)
              | exact absurd h10 (Int32.not_lt.mpr q.1.1.1)
              | exact absurd h15 (Int32.not_lt.mpr q.1.1.2)
              | exact absurd h19 (Int32.not_lt.mpr q.1.2.1.1)
              | exact absurd h26 (Int32.not_lt.mpr q.1.2.1.2)
              | exact absurd h31 (Int32.not_le.mpr q.1.2.2.1)
              | exact absurd h38 (Int32.not_lt.mpr q.1.2.2.2.1)
              | exact absurd h43 (Int32.not_lt.mpr q.1.2.2.2.2.1)
              | exact absurd q.1.2.2.2.2.2 h51)
      · refine wp_iload_n dX12_broken_18 rfl ?_
        refine wp_if_lt (tgt := 54) dX12_broken_19 (by decide) (fun h19 => ?_) (fun h19 => ?_)
        · exact hbad (fun q => by
              first
                | exact absurd q.2 (by rw [(nI_eq (a := n) (b := 40) (by omega) (by omega)).mp (hn.symm.trans h6)]; decide)
                | exact absurd h10 (Int32.not_lt.mpr q.1.1.1)
                | exact absurd h15 (Int32.not_lt.mpr q.1.1.2)
                | exact absurd h19 (Int32.not_lt.mpr q.1.2.1.1)
                | exact absurd h26 (Int32.not_lt.mpr q.1.2.1.2)
                | exact absurd h31 (Int32.not_le.mpr q.1.2.2.1)
                | exact absurd h38 (Int32.not_lt.mpr q.1.2.2.2.1)
                | exact absurd h43 (Int32.not_lt.mpr q.1.2.2.2.2.1)
                | exact absurd q.1.2.2.2.2.2 h51)
        · refine wp_iload_n dX12_broken_22 rfl ?_
          refine wp_sipush (v := 2000) dX12_broken_23 (by decide) ?_
          refine wp_icmp_gt (tgt := 54) dX12_broken_26 (by decide) (fun h26 => ?_) (fun h26 => ?_)
          · exact hbad (fun q => by
                first
                  | exact absurd q.2 (by rw [(nI_eq (a := n) (b := 40) (by omega) (by omega)).mp (hn.symm.trans h6)]; decide)
                  | exact absurd h10 (Int32.not_lt.mpr q.1.1.1)
                  | exact absurd h15 (Int32.not_lt.mpr q.1.1.2)
                  | exact absurd h19 (Int32.not_lt.mpr q.1.2.1.1)
                  | exact absurd h26 (Int32.not_lt.mpr q.1.2.1.2)
                  | exact absurd h31 (Int32.not_le.mpr q.1.2.2.1)
                  | exact absurd h38 (Int32.not_lt.mpr q.1.2.2.2.1)
                  | exact absurd h43 (Int32.not_lt.mpr q.1.2.2.2.2.1)
                  | exact absurd q.1.2.2.2.2.2 h51)
          · refine wp_iload_n dX12_broken_29 rfl ?_
            refine wp_iload_n dX12_broken_30 rfl ?_
            refine wp_icmp_le (tgt := 54) dX12_broken_31 (by decide) (fun h31 => ?_) (fun h31 => ?_)
            · exact hbad (fun q => by
                  first
                    | exact absurd q.2 (by rw [(nI_eq (a := n) (b := 40) (by omega) (by omega)).mp (hn.symm.trans h6)]; decide)
                    | exact absurd h10 (Int32.not_lt.mpr q.1.1.1)
                    | exact absurd h15 (Int32.not_lt.mpr q.1.1.2)
                    | exact absurd h19 (Int32.not_lt.mpr q.1.2.1.1)
                    | exact absurd h26 (Int32.not_lt.mpr q.1.2.1.2)
                    | exact absurd h31 (Int32.not_le.mpr q.1.2.2.1)
                    | exact absurd h38 (Int32.not_lt.mpr q.1.2.2.2.1)
                    | exact absurd h43 (Int32.not_lt.mpr q.1.2.2.2.2.1)
                    | exact absurd q.1.2.2.2.2.2 h51)
            · refine wp_iload_n dX12_broken_34 rfl ?_
              refine wp_sipush (v := 3000) dX12_broken_35 (by decide) ?_
              refine wp_icmp_gt (tgt := 54) dX12_broken_38 (by decide) (fun h38 => ?_) (fun h38 => ?_)
              · exact hbad (fun q => by
                    first
                      | exact absurd q.2 (by rw [(nI_eq (a := n) (b := 40) (by omega) (by omega)).mp (hn.symm.trans h6)]; decide)
                      | exact absurd h10 (Int32.not_lt.mpr q.1.1.1)
                      | exact absurd h15 (Int32.not_lt.mpr q.1.1.2)
                      | exact absurd h19 (Int32.not_lt.mpr q.1.2.1.1)
                      | exact absurd h26 (Int32.not_lt.mpr q.1.2.1.2)
                      | exact absurd h31 (Int32.not_le.mpr q.1.2.2.1)
                      | exact absurd h38 (Int32.not_lt.mpr q.1.2.2.2.1)
                      | exact absurd h43 (Int32.not_lt.mpr q.1.2.2.2.2.1)
                      | exact absurd q.1.2.2.2.2.2 h51)
              · refine wp_iload dX12_broken_41 rfl ?_
                refine wp_if_lt (tgt := 54) dX12_broken_43 (by decide) (fun h43 => ?_) (fun h43 => ?_)
                · exact hbad (fun q => by
                      first
                        | exact absurd q.2 (by rw [(nI_eq (a := n) (b := 40) (by omega) (by omega)).mp (hn.symm.trans h6)]; decide)
                        | exact absurd h10 (Int32.not_lt.mpr q.1.1.1)
                        | exact absurd h15 (Int32.not_lt.mpr q.1.1.2)
                        | exact absurd h19 (Int32.not_lt.mpr q.1.2.1.1)
                        | exact absurd h26 (Int32.not_lt.mpr q.1.2.1.2)
                        | exact absurd h31 (Int32.not_le.mpr q.1.2.2.1)
                        | exact absurd h38 (Int32.not_lt.mpr q.1.2.2.2.1)
                        | exact absurd h43 (Int32.not_lt.mpr q.1.2.2.2.2.1)
                        | exact absurd q.1.2.2.2.2.2 h51)
                · refine wp_iload dX12_broken_46 rfl ?_
                  refine wp_sipush (v := 5000) dX12_broken_48 (by decide) ?_
                  refine wp_icmp_le (tgt := 56) dX12_broken_51 (by decide) (fun h51 => ?_) (fun h51 => ?_)
                  · have hn9 : n < 40 := by
                        rcases Nat.lt_or_ge n 40 with q | q
                        · exact q
                        · exact absurd (by rw [hn, show n = 40 by omega]; rfl) h6
                    refine wp_aload_n dX12_broken_56 rfl ?_
                    refine wp_geta dX12_broken_57 fl_RX12_117 rfl (fk_33 hF) (fr_33_55 hF) ?_
                    refine wp_aload_n dX12_broken_60 rfl ?_
                    refine wp_geti dX12_broken_61 fl_RX12_337 rfl (fk_33 hF) ?_
                    rw [hn]
                    refine wp_iload_n dX12_broken_64 rfl ?_
                    refine wp_iastoreN dX12_broken_65 (fk_65 hF) (by omega) (by decide) ?_
                    refine wp_aload_n dX12_broken_66 rfl ?_
                    refine wp_geta dX12_broken_67 fl_RX12_120 rfl (fk_33 (Fix_sI hF)) (fr_33_56 (Fix_sI hF)) ?_
                    refine wp_aload_n dX12_broken_70 rfl ?_
                    refine wp_geti dX12_broken_71 fl_RX12_337 rfl (fk_33 (Fix_sI hF)) ?_
                    simp only [hI_sI', Nat.reduceEqDiff, false_and, ↓reduceIte, hn]
                    refine wp_iload_n dX12_broken_74 rfl ?_
                    refine wp_iastoreN dX12_broken_75 (fk_66 (Fix_sI hF)) (by omega) (by decide) ?_
                    refine wp_aload_n dX12_broken_76 rfl ?_
                    refine wp_geta dX12_broken_77 fl_RX12_123 rfl (fk_33 (Fix_sI (Fix_sI hF))) (fr_33_57 (Fix_sI (Fix_sI hF))) ?_
                    refine wp_aload_n dX12_broken_80 rfl ?_
                    refine wp_geti dX12_broken_81 fl_RX12_337 rfl (fk_33 (Fix_sI (Fix_sI hF))) ?_
                    simp only [hI_sI', Nat.reduceEqDiff, false_and, ↓reduceIte, hn]
                    refine wp_iload_n dX12_broken_84 rfl ?_
                    refine wp_iastoreN dX12_broken_85 (fk_67 (Fix_sI (Fix_sI hF))) (by omega) (by decide) ?_
                    refine wp_aload_n dX12_broken_86 rfl ?_
                    refine wp_geta dX12_broken_87 fl_RX12_126 rfl (fk_33 (Fix_sI (Fix_sI (Fix_sI hF)))) (fr_33_58 (Fix_sI (Fix_sI (Fix_sI hF)))) ?_
                    refine wp_aload_n dX12_broken_90 rfl ?_
                    refine wp_geti dX12_broken_91 fl_RX12_337 rfl (fk_33 (Fix_sI (Fix_sI (Fix_sI hF)))) ?_
                    simp only [hI_sI', Nat.reduceEqDiff, false_and, ↓reduceIte, hn]
                    refine wp_iload dX12_broken_94 rfl ?_
                    refine wp_iastoreN dX12_broken_96 (fk_68 (Fix_sI (Fix_sI (Fix_sI hF)))) (by omega) (by decide) ?_
                    refine wp_aload_n dX12_broken_97 rfl ?_
                    refine wp_geta dX12_broken_98 fl_RX12_129 rfl (fk_33 (Fix_sI (Fix_sI (Fix_sI (Fix_sI hF))))) (fr_33_59 (Fix_sI (Fix_sI (Fix_sI (Fix_sI hF))))) ?_
                    refine wp_aload_n dX12_broken_101 rfl ?_
                    refine wp_geti dX12_broken_102 fl_RX12_337 rfl (fk_33 (Fix_sI (Fix_sI (Fix_sI (Fix_sI hF))))) ?_
                    simp only [hI_sI', Nat.reduceEqDiff, false_and, ↓reduceIte, hn]
                    refine wp_iconst (v := -1) dX12_broken_105 (by decide) ?_
                    refine wp_iastoreN dX12_broken_106 (fk_69 (Fix_sI (Fix_sI (Fix_sI (Fix_sI hF))))) (by omega) (by decide) ?_
                    refine wp_aload_n dX12_broken_107 rfl ?_
                    refine wp_dup dX12_broken_108 rfl ?_
                    refine wp_geti dX12_broken_109 fl_RX12_337 rfl (fk_33 (Fix_sI (Fix_sI (Fix_sI (Fix_sI (Fix_sI hF)))))) ?_
                    simp only [hI_sI', Nat.reduceEqDiff, false_and, ↓reduceIte, hn]
                    refine wp_iconst (v := 1) dX12_broken_112 (by decide) ?_
                    refine wp_iadd dX12_broken_113 ?_
                    refine wp_puti dX12_broken_114 fl_RX12_337 (mp_12_54 _ _) rfl (fk_33 (Fix_sI (Fix_sI (Fix_sI (Fix_sI (Fix_sI hF)))))) ?_
                    refine wp_aload_n dX12_broken_117 rfl ?_
                    refine wp_geti dX12_broken_118 fl_RX12_337 rfl (fk_33 (Fix_sI (Fix_sI (Fix_sI (Fix_sI (Fix_sI (Fix_sI hF))))))) ?_
                    simp only [hI_sI', and_self, ↓reduceIte]
                    refine wp_iconst (v := 1) dX12_broken_121 (by decide) ?_
                    refine wp_isub dX12_broken_122 ?_
                    refine wp_ireturn rfl dX12_broken_123 ?_
                    rw [← nI_succ, nI_pred]
                    exact hq1 ⟨⟨Int32.not_lt.mp h10, Int32.not_lt.mp h15⟩, ⟨Int32.not_lt.mp h19, Int32.not_lt.mp h26⟩, Int32.not_le.mp h31, Int32.not_lt.mp h38, ⟨Int32.not_lt.mp h43, h51⟩⟩ hn9
                  · exact hbad (fun q => by
                        first
                          | exact absurd q.2 (by rw [(nI_eq (a := n) (b := 40) (by omega) (by omega)).mp (hn.symm.trans h6)]; decide)
                          | exact absurd h10 (Int32.not_lt.mpr q.1.1.1)
                          | exact absurd h15 (Int32.not_lt.mpr q.1.1.2)
                          | exact absurd h19 (Int32.not_lt.mpr q.1.2.1.1)
                          | exact absurd h26 (Int32.not_lt.mpr q.1.2.1.2)
                          | exact absurd h31 (Int32.not_le.mpr q.1.2.2.1)
                          | exact absurd h38 (Int32.not_lt.mpr q.1.2.2.2.1)
                          | exact absurd h43 (Int32.not_lt.mpr q.1.2.2.2.2.1)
                          | exact absurd q.1.2.2.2.2.2 h51)
theorem c_X12_untell {d n : Nat} {e mi : Int32} {H : PH} {Q : Option Value → PH → Prop} (hF : Fix H) (hn : hI H 33 54 = nI n) (hn4 : n ≤ 40)
    (hq1 : ∀ j, j < n → e = nI j → hI H 69 j < 0 → (hI H 68 j ≤ mi ∧ mi ≤ 5000) → Q (some (.int 1)) (sI H 69 j mi))
    (hq2 : (¬ ∃ j, j < n ∧ e = nI j ∧ hI H 69 j < 0 ∧ (hI H 68 j ≤ mi ∧ mi ≤ 5000)) → Q (some (.int 0)) H) :
    Wp mX12_untell d 0 0 0 [some (.ref 33), some (.int e), some (.int mi)] [] H Q := by
  have hbad : (¬ ∃ j, j < n ∧ e = nI j ∧ hI H 69 j < 0 ∧ (hI H 68 j ≤ mi ∧ mi ≤ 5000)) → Wp mX12_untell d 0 0 38 [some (.ref 33), some (.int e), some (.int mi)] [] H Q := by
    intro hb
    refine wp_iconst (v := 0) dX12_untell_38 (by decide) ?_
    refine wp_zreturn rfl (Or.inl rfl) dX12_untell_39 ?_
    exact hq2 hb
  refine wp_iload_n dX12_untell_0 rfl ?_
  refine wp_if_lt (tgt := 38) dX12_untell_1 (by decide) (fun h1 => ?_) (fun h1 => ?_)
  · exact hbad (by
        rintro ⟨j, q1, q2, q3, q4⟩
        first
          | exact absurd h1 (by rw [q2]; exact nI_pos (by omega))
          | exact absurd h9 (by rw [q2, hn]; exact nI_ge q1 (by omega))
          | (have e9 : j = j0 := (nI_eq (by omega) (by omega)).mp q2.symm
             subst e9
             first | exact absurd h18 (Int32.not_le.mpr q3) | exact absurd h28 (Int32.not_lt.mpr q4.1) | exact absurd q4.2 h35))
  · refine wp_iload_n dX12_untell_4 rfl ?_
    refine wp_aload_n dX12_untell_5 rfl ?_
    refine wp_geti dX12_untell_6 fl_RX12_337 rfl (fk_33 hF) ?_
    refine wp_icmp_ge (tgt := 38) dX12_untell_9 (by decide) (fun h9 => ?_) (fun h9 => ?_)
    · exact hbad (by
          rintro ⟨j, q1, q2, q3, q4⟩
          first
            | exact absurd h1 (by rw [q2]; exact nI_pos (by omega))
            | exact absurd h9 (by rw [q2, hn]; exact nI_ge q1 (by omega))
            | (have e9 : j = j0 := (nI_eq (by omega) (by omega)).mp q2.symm
               subst e9
               first | exact absurd h18 (Int32.not_le.mpr q3) | exact absurd h28 (Int32.not_lt.mpr q4.1) | exact absurd q4.2 h35))
    · obtain ⟨j0, hj0, rfl⟩ : ∃ j, j < n ∧ e = nI j := by
          rcases pk_ix e (n := n) (by omega) with q | q | q
          · exact absurd q h1
          · exact absurd (by rw [hn]; exact q) h9
          · exact q
      refine wp_aload_n dX12_untell_12 rfl ?_
      refine wp_geta dX12_untell_13 fl_RX12_129 rfl (fk_33 hF) (fr_33_59 hF) ?_
      refine wp_iload_n dX12_untell_16 rfl ?_
      refine wp_ialoadN dX12_untell_17 (fk_69 hF) (by omega) (by decide) ?_
      refine wp_if_ge (tgt := 38) dX12_untell_18 (by decide) (fun h18 => ?_) (fun h18 => ?_)
      · exact hbad (by
            rintro ⟨j, q1, q2, q3, q4⟩
            first
              | exact absurd h1 (by rw [q2]; exact nI_pos (by omega))
              | exact absurd h9 (by rw [q2, hn]; exact nI_ge q1 (by omega))
              | (have e9 : j = j0 := (nI_eq (by omega) (by omega)).mp q2.symm
                 subst e9
                 first | exact absurd h18 (Int32.not_le.mpr q3) | exact absurd h28 (Int32.not_lt.mpr q4.1) | exact absurd q4.2 h35))
      · refine wp_iload_n dX12_untell_21 rfl ?_
        refine wp_aload_n dX12_untell_22 rfl ?_
        refine wp_geta dX12_untell_23 fl_RX12_126 rfl (fk_33 hF) (fr_33_58 hF) ?_
        refine wp_iload_n dX12_untell_26 rfl ?_
        refine wp_ialoadN dX12_untell_27 (fk_68 hF) (by omega) (by decide) ?_
        refine wp_icmp_lt (tgt := 38) dX12_untell_28 (by decide) (fun h28 => ?_) (fun h28 => ?_)
        · exact hbad (by
              rintro ⟨j, q1, q2, q3, q4⟩
              first
                | exact absurd h1 (by rw [q2]; exact nI_pos (by omega))
                | exact absurd h9 (by rw [q2, hn]; exact nI_ge q1 (by omega))
                | (have e9 : j = j0 := (nI_eq (by omega) (by omega)).mp q2.symm
                   subst e9
                   first | exact absurd h18 (Int32.not_le.mpr q3) | exact absurd h28 (Int32.not_lt.mpr q4.1) | exact absurd q4.2 h35))
        · refine wp_iload_n dX12_untell_31 rfl ?_
          refine wp_sipush (v := 5000) dX12_untell_32 (by decide) ?_
          refine wp_icmp_le (tgt := 40) dX12_untell_35 (by decide) (fun h35 => ?_) (fun h35 => ?_)
          · refine wp_aload_n dX12_untell_40 rfl ?_
            refine wp_geta dX12_untell_41 fl_RX12_129 rfl (fk_33 hF) (fr_33_59 hF) ?_
            refine wp_iload_n dX12_untell_44 rfl ?_
            refine wp_iload_n dX12_untell_45 rfl ?_
            refine wp_iastoreN dX12_untell_46 (fk_69 hF) (by omega) (by decide) ?_
            refine wp_iconst (v := 1) dX12_untell_47 (by decide) ?_
            refine wp_zreturn rfl (Or.inr rfl) dX12_untell_48 ?_
            exact hq1 j0 hj0 rfl (Int32.not_le.mp h18) ⟨Int32.not_lt.mp h28, h35⟩
          · exact hbad (by
                rintro ⟨j, q1, q2, q3, q4⟩
                first
                  | exact absurd h1 (by rw [q2]; exact nI_pos (by omega))
                  | exact absurd h9 (by rw [q2, hn]; exact nI_ge q1 (by omega))
                  | (have e9 : j = j0 := (nI_eq (by omega) (by omega)).mp q2.symm
                     subst e9
                     first | exact absurd h18 (Int32.not_le.mpr q3) | exact absurd h28 (Int32.not_lt.mpr q4.1) | exact absurd q4.2 h35))
theorem l_X12_isWhole {d n : Nat} {c m k : Int32} {H : PH} {Q : Option Value → PH → Prop} (hF : Fix H) (hn : hI H 33 54 = nI n) (hn4 : n ≤ 40) (hq : Q (some (.int (bI (∀ i, i < n → ¬ mdHit H c m k i)))) H) : ∀ (j i : Nat) (x : Int32), n - i = j → i ≤ n → x = bI (∀ e, e < i → ¬ mdHit H c m k e) → Wp mX12_isWhole d 0 0 6 [some (.ref 33), some (.int c), some (.int m), some (.int k), some (.int x), some (.int (nI i))] [] H Q := by
  intro j
  induction j with
  | zero =>
    intro i x hj hi hx
    have hin : i = n := by omega
    subst hin
    refine wp_iload dX12_isWhole_6 rfl ?_
    refine wp_aload_n dX12_isWhole_8 rfl ?_
    refine wp_geti dX12_isWhole_9 fl_RX12_337 rfl (fk_33 hF) ?_
    refine wp_icmp_ge (tgt := 98) dX12_isWhole_12 (by decide) (fun _ => ?_) (fun h12 => absurd h12 (by rw [hn]; exact fun h => h (nI_le (Nat.le_refl _) (by omega))))
    refine wp_iload dX12_isWhole_98 rfl ?_
    refine wp_zreturn rfl (by rw [hx]; exact bI_01 _) dX12_isWhole_100 ?_
    rw [hx]; exact hq
  | succ j ih =>
    intro i x hj hi hx
    refine wp_iload dX12_isWhole_6 rfl ?_
    refine wp_aload_n dX12_isWhole_8 rfl ?_
    refine wp_geti dX12_isWhole_9 fl_RX12_337 rfl (fk_33 hF) ?_
    refine wp_icmp_ge (tgt := 98) dX12_isWhole_12 (by decide) (fun h12 => absurd h12 (by rw [hn]; exact nI_ge (by omega) (by omega))) (fun _ => ?_)
    refine wp_iload dX12_isWhole_15 rfl ?_
    refine wp_if_eq (tgt := 98) dX12_isWhole_17 (by decide) (fun h17 => ?_) (fun h17 => ?_)
    · refine wp_iload dX12_isWhole_98 rfl ?_
      refine wp_zreturn rfl (Or.inl h17) dX12_isWhole_100 ?_
      have hb := bI_eq0.mp (hx.symm.trans h17)
      rw [h17]
      exact bq_f hq (fun q => hb (fun e he => q e (by omega)))
    · refine wp_aload_n dX12_isWhole_20 rfl ?_
      refine wp_geta dX12_isWhole_21 fl_RX12_117 rfl (fk_33 hF) (fr_33_55 hF) ?_
      refine wp_iload dX12_isWhole_24 rfl ?_
      refine wp_ialoadN dX12_isWhole_26 (fk_65 hF) (by omega) (by decide) ?_
      refine wp_iload_n dX12_isWhole_27 rfl ?_
      refine wp_icmp_ne (tgt := 85) dX12_isWhole_28 (by decide) (fun h28 => ?_) (fun h28 => ?_)
      · refine wp_iconst (v := 1) dX12_isWhole_85 (by decide) ?_
        refine wp_goto (tgt := 90) dX12_isWhole_86 (by decide) ?_
        refine wp_istore dX12_isWhole_90 (by decide) ?_
        refine wp_incN dX12_isWhole_92 rfl (by decide) ?_
        refine wp_goto (tgt := 6) dX12_isWhole_95 (by decide) ?_
        refine ih (i + 1) _ (by omega) (by omega) ?_
        have hb := bI_eq1.mp ((bI_01 _).resolve_left (fun q => h17 (hx.trans q)))
        first
          | (refine (bI_t (fun e he => ?_)).symm
             rcases Nat.lt_succ_iff_lt_or_eq.mp he with h | h
             · exact hb e h
             · subst h; first | exact fun q => h28 q.1 | exact fun q => absurd h39 (Int32.not_lt.mpr q.2.1) | exact fun q => q.2.2.1.elim (fun q9 => h49 q9) (fun q9 => absurd h60 (Int32.not_le.mpr q9)) | exact fun q => absurd h71 (Int32.not_lt.mpr q.2.2.2.1) | exact fun q => h82 q.2.2.2.2)
          | exact (bI_f (fun q => q i (by omega) ⟨h28, Int32.not_lt.mp h39, by first | exact Or.inl h49 | exact Or.inr (Int32.not_le.mp h60), Int32.not_lt.mp h71, h82⟩)).symm
      · refine wp_aload_n dX12_isWhole_31 rfl ?_
        refine wp_geta dX12_isWhole_32 fl_RX12_126 rfl (fk_33 hF) (fr_33_58 hF) ?_
        refine wp_iload dX12_isWhole_35 rfl ?_
        refine wp_ialoadN dX12_isWhole_37 (fk_68 hF) (by omega) (by decide) ?_
        refine wp_iload_n dX12_isWhole_38 rfl ?_
        refine wp_icmp_gt (tgt := 85) dX12_isWhole_39 (by decide) (fun h39 => ?_) (fun h39 => ?_)
        · refine wp_iconst (v := 1) dX12_isWhole_85 (by decide) ?_
          refine wp_goto (tgt := 90) dX12_isWhole_86 (by decide) ?_
          refine wp_istore dX12_isWhole_90 (by decide) ?_
          refine wp_incN dX12_isWhole_92 rfl (by decide) ?_
          refine wp_goto (tgt := 6) dX12_isWhole_95 (by decide) ?_
          refine ih (i + 1) _ (by omega) (by omega) ?_
          have hb := bI_eq1.mp ((bI_01 _).resolve_left (fun q => h17 (hx.trans q)))
          first
            | (refine (bI_t (fun e he => ?_)).symm
               rcases Nat.lt_succ_iff_lt_or_eq.mp he with h | h
               · exact hb e h
               · subst h; first | exact fun q => h28 q.1 | exact fun q => absurd h39 (Int32.not_lt.mpr q.2.1) | exact fun q => q.2.2.1.elim (fun q9 => h49 q9) (fun q9 => absurd h60 (Int32.not_le.mpr q9)) | exact fun q => absurd h71 (Int32.not_lt.mpr q.2.2.2.1) | exact fun q => h82 q.2.2.2.2)
            | exact (bI_f (fun q => q i (by omega) ⟨h28, Int32.not_lt.mp h39, by first | exact Or.inl h49 | exact Or.inr (Int32.not_le.mp h60), Int32.not_lt.mp h71, h82⟩)).symm
        · refine wp_aload_n dX12_isWhole_42 rfl ?_
          refine wp_geta dX12_isWhole_43 fl_RX12_129 rfl (fk_33 hF) (fr_33_59 hF) ?_
          refine wp_iload dX12_isWhole_46 rfl ?_
          refine wp_ialoadN dX12_isWhole_48 (fk_69 hF) (by omega) (by decide) ?_
          refine wp_if_lt (tgt := 63) dX12_isWhole_49 (by decide) (fun h49 => ?_) (fun h49 => ?_)
          · refine wp_iload_n dX12_isWhole_63 rfl ?_
            refine wp_aload_n dX12_isWhole_64 rfl ?_
            refine wp_geta dX12_isWhole_65 fl_RX12_120 rfl (fk_33 hF) (fr_33_56 hF) ?_
            refine wp_iload dX12_isWhole_68 rfl ?_
            refine wp_ialoadN dX12_isWhole_70 (fk_66 hF) (by omega) (by decide) ?_
            refine wp_icmp_lt (tgt := 85) dX12_isWhole_71 (by decide) (fun h71 => ?_) (fun h71 => ?_)
            · refine wp_iconst (v := 1) dX12_isWhole_85 (by decide) ?_
              refine wp_goto (tgt := 90) dX12_isWhole_86 (by decide) ?_
              refine wp_istore dX12_isWhole_90 (by decide) ?_
              refine wp_incN dX12_isWhole_92 rfl (by decide) ?_
              refine wp_goto (tgt := 6) dX12_isWhole_95 (by decide) ?_
              refine ih (i + 1) _ (by omega) (by omega) ?_
              have hb := bI_eq1.mp ((bI_01 _).resolve_left (fun q => h17 (hx.trans q)))
              first
                | (refine (bI_t (fun e he => ?_)).symm
                   rcases Nat.lt_succ_iff_lt_or_eq.mp he with h | h
                   · exact hb e h
                   · subst h; first | exact fun q => h28 q.1 | exact fun q => absurd h39 (Int32.not_lt.mpr q.2.1) | exact fun q => q.2.2.1.elim (fun q9 => h49 q9) (fun q9 => absurd h60 (Int32.not_le.mpr q9)) | exact fun q => absurd h71 (Int32.not_lt.mpr q.2.2.2.1) | exact fun q => h82 q.2.2.2.2)
                | exact (bI_f (fun q => q i (by omega) ⟨h28, Int32.not_lt.mp h39, by first | exact Or.inl h49 | exact Or.inr (Int32.not_le.mp h60), Int32.not_lt.mp h71, h82⟩)).symm
            · refine wp_iload_n dX12_isWhole_74 rfl ?_
              refine wp_aload_n dX12_isWhole_75 rfl ?_
              refine wp_geta dX12_isWhole_76 fl_RX12_123 rfl (fk_33 hF) (fr_33_57 hF) ?_
              refine wp_iload dX12_isWhole_79 rfl ?_
              refine wp_ialoadN dX12_isWhole_81 (fk_67 hF) (by omega) (by decide) ?_
              refine wp_icmp_lt (tgt := 89) dX12_isWhole_82 (by decide) (fun h82 => ?_) (fun h82 => ?_)
              · refine wp_iconst (v := 0) dX12_isWhole_89 (by decide) ?_
                refine wp_istore dX12_isWhole_90 (by decide) ?_
                refine wp_incN dX12_isWhole_92 rfl (by decide) ?_
                refine wp_goto (tgt := 6) dX12_isWhole_95 (by decide) ?_
                refine ih (i + 1) _ (by omega) (by omega) ?_
                have hb := bI_eq1.mp ((bI_01 _).resolve_left (fun q => h17 (hx.trans q)))
                first
                  | (refine (bI_t (fun e he => ?_)).symm
                     rcases Nat.lt_succ_iff_lt_or_eq.mp he with h | h
                     · exact hb e h
                     · subst h; first | exact fun q => h28 q.1 | exact fun q => absurd h39 (Int32.not_lt.mpr q.2.1) | exact fun q => q.2.2.1.elim (fun q9 => h49 q9) (fun q9 => absurd h60 (Int32.not_le.mpr q9)) | exact fun q => absurd h71 (Int32.not_lt.mpr q.2.2.2.1) | exact fun q => h82 q.2.2.2.2)
                  | exact (bI_f (fun q => q i (by omega) ⟨h28, Int32.not_lt.mp h39, by first | exact Or.inl h49 | exact Or.inr (Int32.not_le.mp h60), Int32.not_lt.mp h71, h82⟩)).symm
              · refine wp_iconst (v := 1) dX12_isWhole_85 (by decide) ?_
                refine wp_goto (tgt := 90) dX12_isWhole_86 (by decide) ?_
                refine wp_istore dX12_isWhole_90 (by decide) ?_
                refine wp_incN dX12_isWhole_92 rfl (by decide) ?_
                refine wp_goto (tgt := 6) dX12_isWhole_95 (by decide) ?_
                refine ih (i + 1) _ (by omega) (by omega) ?_
                have hb := bI_eq1.mp ((bI_01 _).resolve_left (fun q => h17 (hx.trans q)))
                first
                  | (refine (bI_t (fun e he => ?_)).symm
                     rcases Nat.lt_succ_iff_lt_or_eq.mp he with h | h
                     · exact hb e h
                     · subst h; first | exact fun q => h28 q.1 | exact fun q => absurd h39 (Int32.not_lt.mpr q.2.1) | exact fun q => q.2.2.1.elim (fun q9 => h49 q9) (fun q9 => absurd h60 (Int32.not_le.mpr q9)) | exact fun q => absurd h71 (Int32.not_lt.mpr q.2.2.2.1) | exact fun q => h82 q.2.2.2.2)
                  | exact (bI_f (fun q => q i (by omega) ⟨h28, Int32.not_lt.mp h39, by first | exact Or.inl h49 | exact Or.inr (Int32.not_le.mp h60), Int32.not_lt.mp h71, h82⟩)).symm
          · refine wp_aload_n dX12_isWhole_52 rfl ?_
            refine wp_geta dX12_isWhole_53 fl_RX12_129 rfl (fk_33 hF) (fr_33_59 hF) ?_
            refine wp_iload dX12_isWhole_56 rfl ?_
            refine wp_ialoadN dX12_isWhole_58 (fk_69 hF) (by omega) (by decide) ?_
            refine wp_iload_n dX12_isWhole_59 rfl ?_
            refine wp_icmp_le (tgt := 85) dX12_isWhole_60 (by decide) (fun h60 => ?_) (fun h60 => ?_)
            · refine wp_iconst (v := 1) dX12_isWhole_85 (by decide) ?_
              refine wp_goto (tgt := 90) dX12_isWhole_86 (by decide) ?_
              refine wp_istore dX12_isWhole_90 (by decide) ?_
              refine wp_incN dX12_isWhole_92 rfl (by decide) ?_
              refine wp_goto (tgt := 6) dX12_isWhole_95 (by decide) ?_
              refine ih (i + 1) _ (by omega) (by omega) ?_
              have hb := bI_eq1.mp ((bI_01 _).resolve_left (fun q => h17 (hx.trans q)))
              first
                | (refine (bI_t (fun e he => ?_)).symm
                   rcases Nat.lt_succ_iff_lt_or_eq.mp he with h | h
                   · exact hb e h
                   · subst h; first | exact fun q => h28 q.1 | exact fun q => absurd h39 (Int32.not_lt.mpr q.2.1) | exact fun q => q.2.2.1.elim (fun q9 => h49 q9) (fun q9 => absurd h60 (Int32.not_le.mpr q9)) | exact fun q => absurd h71 (Int32.not_lt.mpr q.2.2.2.1) | exact fun q => h82 q.2.2.2.2)
                | exact (bI_f (fun q => q i (by omega) ⟨h28, Int32.not_lt.mp h39, by first | exact Or.inl h49 | exact Or.inr (Int32.not_le.mp h60), Int32.not_lt.mp h71, h82⟩)).symm
            · refine wp_iload_n dX12_isWhole_63 rfl ?_
              refine wp_aload_n dX12_isWhole_64 rfl ?_
              refine wp_geta dX12_isWhole_65 fl_RX12_120 rfl (fk_33 hF) (fr_33_56 hF) ?_
              refine wp_iload dX12_isWhole_68 rfl ?_
              refine wp_ialoadN dX12_isWhole_70 (fk_66 hF) (by omega) (by decide) ?_
              refine wp_icmp_lt (tgt := 85) dX12_isWhole_71 (by decide) (fun h71 => ?_) (fun h71 => ?_)
              · refine wp_iconst (v := 1) dX12_isWhole_85 (by decide) ?_
                refine wp_goto (tgt := 90) dX12_isWhole_86 (by decide) ?_
                refine wp_istore dX12_isWhole_90 (by decide) ?_
                refine wp_incN dX12_isWhole_92 rfl (by decide) ?_
                refine wp_goto (tgt := 6) dX12_isWhole_95 (by decide) ?_
                refine ih (i + 1) _ (by omega) (by omega) ?_
                have hb := bI_eq1.mp ((bI_01 _).resolve_left (fun q => h17 (hx.trans q)))
                first
                  | (refine (bI_t (fun e he => ?_)).symm
                     rcases Nat.lt_succ_iff_lt_or_eq.mp he with h | h
                     · exact hb e h
                     · subst h; first | exact fun q => h28 q.1 | exact fun q => absurd h39 (Int32.not_lt.mpr q.2.1) | exact fun q => q.2.2.1.elim (fun q9 => h49 q9) (fun q9 => absurd h60 (Int32.not_le.mpr q9)) | exact fun q => absurd h71 (Int32.not_lt.mpr q.2.2.2.1) | exact fun q => h82 q.2.2.2.2)
                  | exact (bI_f (fun q => q i (by omega) ⟨h28, Int32.not_lt.mp h39, by first | exact Or.inl h49 | exact Or.inr (Int32.not_le.mp h60), Int32.not_lt.mp h71, h82⟩)).symm
              · refine wp_iload_n dX12_isWhole_74 rfl ?_
                refine wp_aload_n dX12_isWhole_75 rfl ?_
                refine wp_geta dX12_isWhole_76 fl_RX12_123 rfl (fk_33 hF) (fr_33_57 hF) ?_
                refine wp_iload dX12_isWhole_79 rfl ?_
                refine wp_ialoadN dX12_isWhole_81 (fk_67 hF) (by omega) (by decide) ?_
                refine wp_icmp_lt (tgt := 89) dX12_isWhole_82 (by decide) (fun h82 => ?_) (fun h82 => ?_)
                · refine wp_iconst (v := 0) dX12_isWhole_89 (by decide) ?_
                  refine wp_istore dX12_isWhole_90 (by decide) ?_
                  refine wp_incN dX12_isWhole_92 rfl (by decide) ?_
                  refine wp_goto (tgt := 6) dX12_isWhole_95 (by decide) ?_
                  refine ih (i + 1) _ (by omega) (by omega) ?_
                  have hb := bI_eq1.mp ((bI_01 _).resolve_left (fun q => h17 (hx.trans q)))
                  first
                    | (refine (bI_t (fun e he => ?_)).symm
                       rcases Nat.lt_succ_iff_lt_or_eq.mp he with h | h
                       · exact hb e h
                       · subst h; first | exact fun q => h28 q.1 | exact fun q => absurd h39 (Int32.not_lt.mpr q.2.1) | exact fun q => q.2.2.1.elim (fun q9 => h49 q9) (fun q9 => absurd h60 (Int32.not_le.mpr q9)) | exact fun q => absurd h71 (Int32.not_lt.mpr q.2.2.2.1) | exact fun q => h82 q.2.2.2.2)
                    | exact (bI_f (fun q => q i (by omega) ⟨h28, Int32.not_lt.mp h39, by first | exact Or.inl h49 | exact Or.inr (Int32.not_le.mp h60), Int32.not_lt.mp h71, h82⟩)).symm
                · refine wp_iconst (v := 1) dX12_isWhole_85 (by decide) ?_
                  refine wp_goto (tgt := 90) dX12_isWhole_86 (by decide) ?_
                  refine wp_istore dX12_isWhole_90 (by decide) ?_
                  refine wp_incN dX12_isWhole_92 rfl (by decide) ?_
                  refine wp_goto (tgt := 6) dX12_isWhole_95 (by decide) ?_
                  refine ih (i + 1) _ (by omega) (by omega) ?_
                  have hb := bI_eq1.mp ((bI_01 _).resolve_left (fun q => h17 (hx.trans q)))
                  first
                    | (refine (bI_t (fun e he => ?_)).symm
                       rcases Nat.lt_succ_iff_lt_or_eq.mp he with h | h
                       · exact hb e h
                       · subst h; first | exact fun q => h28 q.1 | exact fun q => absurd h39 (Int32.not_lt.mpr q.2.1) | exact fun q => q.2.2.1.elim (fun q9 => h49 q9) (fun q9 => absurd h60 (Int32.not_le.mpr q9)) | exact fun q => absurd h71 (Int32.not_lt.mpr q.2.2.2.1) | exact fun q => h82 q.2.2.2.2)
                    | exact (bI_f (fun q => q i (by omega) ⟨h28, Int32.not_lt.mp h39, by first | exact Or.inl h49 | exact Or.inr (Int32.not_le.mp h60), Int32.not_lt.mp h71, h82⟩)).symm
theorem c_X12_isWhole {d n : Nat} {c m k : Int32} {H : PH} {Q : Option Value → PH → Prop} (hF : Fix H) (hn : hI H 33 54 = nI n) (hn4 : n ≤ 40) (hq : Q (some (.int (bI (∀ i, i < n → ¬ mdHit H c m k i)))) H) : Wp mX12_isWhole d 0 0 0 [some (.ref 33), some (.int c), some (.int m), some (.int k), none, none] [] H Q := by
  refine wp_iconst (v := 1) dX12_isWhole_0 (by decide) ?_
  refine wp_istore dX12_isWhole_1 (by decide) ?_
  refine wp_iconst (v := 0) dX12_isWhole_3 (by decide) ?_
  refine wp_istore dX12_isWhole_4 (by decide) ?_
  exact l_X12_isWhole hF hn hn4 hq n 0 _ (by omega) (by omega) ((bI_t (fun e he => absurd he (Nat.not_lt_zero e))).symm)
theorem c_X12_whole {d n : Nat} {c m k : Int32} {H : PH} {Q : Option Value → PH → Prop} (hF : Fix H) (hn : hI H 33 54 = nI n) (hn4 : n ≤ 40) (hq : Q (some (.int (if 0 ≤ c ∧ c ≤ 5 then bI (∀ i, i < n → ¬ mdHit H c m k i) else -1))) H) : Wp mX12_whole (d + 1) 0 0 0 [some (.ref 33), some (.int c), some (.int m), some (.int k)] [] H Q := by
  refine wp_iload_n dX12_whole_0 rfl ?_
  refine wp_if_lt (tgt := 9) dX12_whole_1 (by decide) (fun h1 => ?_) (fun h1 => ?_)
  · refine wp_iconst (v := -1) dX12_whole_9 (by decide) ?_
    refine wp_goto (tgt := 28) dX12_whole_10 (by decide) ?_
    refine wp_ireturn rfl dX12_whole_28 ?_
    first
        | (rw [if_neg (fun q => absurd h1 (Int32.not_lt.mpr q.1))] at hq; exact hq)
        | (rw [if_neg (fun q => h6 q.2)] at hq; exact hq)
        | (rw [if_pos ⟨Int32.not_lt.mp h1, h6⟩] at hq; first | exact bq_t hq h20 | exact bq_f hq h20)
  · refine wp_iload_n dX12_whole_4 rfl ?_
    refine wp_iconst (v := 5) dX12_whole_5 (by decide) ?_
    refine wp_icmp_le (tgt := 13) dX12_whole_6 (by decide) (fun h6 => ?_) (fun h6 => ?_)
    · refine wp_aload_n dX12_whole_13 rfl ?_
      refine wp_iload_n dX12_whole_14 rfl ?_
      refine wp_iload_n dX12_whole_15 rfl ?_
      refine wp_iload_n dX12_whole_16 rfl ?_
      refine wp_callv3 (ci := 12) dX12_whole_17 lk_RX12_340 ok_X12_isWhole im_X12_isWhole se_X12_isWhole rfl rfl (fk_33 hF) (Nat.le_of_ble_eq_true rfl) (Nat.le_of_ble_eq_true rfl) ?_
      refine c_X12_isWhole hF hn hn4 ?_
      refine wp_ifb_eq (tgt := 27) dX12_whole_20 (by decide) (fun h20 => ?_) (fun h20 => ?_)
      · refine wp_iconst (v := 0) dX12_whole_27 (by decide) ?_
        refine wp_ireturn rfl dX12_whole_28 ?_
        first
            | (rw [if_neg (fun q => absurd h1 (Int32.not_lt.mpr q.1))] at hq; exact hq)
            | (rw [if_neg (fun q => h6 q.2)] at hq; exact hq)
            | (rw [if_pos ⟨Int32.not_lt.mp h1, h6⟩] at hq; first | exact bq_t hq h20 | exact bq_f hq h20)
      · refine wp_iconst (v := 1) dX12_whole_23 (by decide) ?_
        refine wp_goto (tgt := 28) dX12_whole_24 (by decide) ?_
        refine wp_ireturn rfl dX12_whole_28 ?_
        first
            | (rw [if_neg (fun q => absurd h1 (Int32.not_lt.mpr q.1))] at hq; exact hq)
            | (rw [if_neg (fun q => h6 q.2)] at hq; exact hq)
            | (rw [if_pos ⟨Int32.not_lt.mp h1, h6⟩] at hq; first | exact bq_t hq h20 | exact bq_f hq h20)
    · refine wp_iconst (v := -1) dX12_whole_9 (by decide) ?_
      refine wp_goto (tgt := 28) dX12_whole_10 (by decide) ?_
      refine wp_ireturn rfl dX12_whole_28 ?_
      first
          | (rw [if_neg (fun q => absurd h1 (Int32.not_lt.mpr q.1))] at hq; exact hq)
          | (rw [if_neg (fun q => h6 q.2)] at hq; exact hq)
          | (rw [if_pos ⟨Int32.not_lt.mp h1, h6⟩] at hq; first | exact bq_t hq h20 | exact bq_f hq h20)
