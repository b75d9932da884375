/-! ===== the reference's HORSES ===== -/
theorem c_X12_isHorse {d n : Nat} {x : Int32} {H : PH} {Q : Option Value → PH → Prop} (hF : Fix H) (hn : hI H 33 0 = nI n) (hq : Q (some (.int (bI (0 ≤ x ∧ x < nI n)))) H) : Wp mX12_isHorse d 0 0 0 [some (.ref 33), some (.int x)] [] H Q := by
  refine wp_iload_n dX12_isHorse_0 rfl ?_
  refine wp_if_lt (tgt := 16) dX12_isHorse_1 (by decide) (fun h1 => ?_) (fun h1 => ?_)
  · refine wp_iconst (v := 0) dX12_isHorse_16 (by decide) ?_
    refine wp_zreturn rfl (Or.inl rfl) dX12_isHorse_17 ?_
    first | exact bq_t hq ⟨Int32.not_lt.mp h1, Int32.not_le.mp h9⟩ | exact bq_f hq (fun q => absurd h1 (Int32.not_lt.mpr q.1)) | exact bq_f hq (fun q => absurd h9 (Int32.not_le.mpr q.2))
  · refine wp_iload_n dX12_isHorse_4 rfl ?_
    refine wp_aload_n dX12_isHorse_5 rfl ?_
    refine wp_geti dX12_isHorse_6 fl_RX12_132 rfl (fk_33 hF) ?_
    rw [hn]
    refine wp_icmp_ge (tgt := 16) dX12_isHorse_9 (by decide) (fun h9 => ?_) (fun h9 => ?_)
    · refine wp_iconst (v := 0) dX12_isHorse_16 (by decide) ?_
      refine wp_zreturn rfl (Or.inl rfl) dX12_isHorse_17 ?_
      first | exact bq_t hq ⟨Int32.not_lt.mp h1, Int32.not_le.mp h9⟩ | exact bq_f hq (fun q => absurd h1 (Int32.not_lt.mpr q.1)) | exact bq_f hq (fun q => absurd h9 (Int32.not_le.mpr q.2))
    · refine wp_iconst (v := 1) dX12_isHorse_12 (by decide) ?_
      refine wp_goto (tgt := 17) dX12_isHorse_13 (by decide) ?_
      refine wp_zreturn rfl (Or.inr rfl) dX12_isHorse_17 ?_
      first | exact bq_t hq ⟨Int32.not_lt.mp h1, Int32.not_le.mp h9⟩ | exact bq_f hq (fun q => absurd h1 (Int32.not_lt.mpr q.1)) | exact bq_f hq (fun q => absurd h9 (Int32.not_le.mpr q.2))
def mhNew (H : PH) (n : Nat) (c h p s : Int32) : PH := sI (sI (sI (sI (sI H 34 n c) 35 n h) 36 n p) 37 n s) 33 0 (nI (n + 1))
theorem c_X12_horse {d n : Nat} {c h p s : Int32} {H : PH} {Q : Option Value → PH → Prop} (hF : Fix H) (hn : hI H 33 0 = nI n) (h16 : n ≤ 16)
    (hq1 : hCan c h p s → n < 16 → Q (some (.int (nI n))) (mhNew H n c h p s)) (hq2 : ¬ (hCan c h p s ∧ n < 16) → Q (some (.int (-1))) H) :
    Wp mX12_horse d 0 0 0 [some (.ref 33), some (.int c), some (.int h), some (.int p), some (.int s)] [] H Q := by
  have hbad : ¬ (hCan c h p s ∧ n < 16) → Wp mX12_horse d 0 0 56 [some (.ref 33), some (.int c), some (.int h), some (.int p), some (.int s)] [] H Q := by
    intro hb
    refine wp_iconst (v := -1) dX12_horse_56 (by decide) ?_
    refine wp_ireturn rfl dX12_horse_57 ?_
    exact hq2 hb
  refine wp_aload_n dX12_horse_0 rfl ?_
  refine wp_geti dX12_horse_1 fl_RX12_132 rfl (fk_33 hF) ?_
  refine wp_bipush (v := 16) dX12_horse_4 (by decide) ?_
  refine wp_icmp_eq (tgt := 56) dX12_horse_6 (by decide) (fun h6 => ?_) (fun h6 => ?_)
  · exact hbad (fun q => by
        first
          | exact absurd q.2 (by rw [(nI_eq (a := n) (b := 16) (by omega) (by omega)).mp (hn.symm.trans h6)]; decide)
          | exact absurd h10 (Int32.not_lt.mpr q.1.1.1)
          | exact absurd h16' (Int32.not_lt.mpr q.1.1.2)
          | exact absurd h22 (Int32.not_lt.mpr q.1.2.1.1)
          | exact absurd h29 (Int32.not_lt.mpr q.1.2.1.2)
          | exact absurd h34 (Int32.not_lt.mpr q.1.2.2.1.1)
          | exact absurd h40 (Int32.not_lt.mpr q.1.2.2.1.2)
          | exact absurd h45 (Int32.not_lt.mpr q.1.2.2.2.1)
          | exact absurd q.1.2.2.2.2 h53
          | exact absurd h16 (Int32.not_lt.mpr q.1.1.2))
  · refine wp_iload_n dX12_horse_9 rfl ?_
    refine wp_if_lt (tgt := 56) dX12_horse_10 (by decide) (fun h10 => ?_) (fun h10 => ?_)
    · exact hbad (fun q => by
          first
            | exact absurd q.2 (by rw [(nI_eq (a := n) (b := 16) (by omega) (by omega)).mp (hn.symm.trans h6)]; decide)
            | exact absurd h10 (Int32.not_lt.mpr q.1.1.1)
            | exact absurd h16' (Int32.not_lt.mpr q.1.1.2)
            | exact absurd h22 (Int32.not_lt.mpr q.1.2.1.1)
            | exact absurd h29 (Int32.not_lt.mpr q.1.2.1.2)
            | exact absurd h34 (Int32.not_lt.mpr q.1.2.2.1.1)
            | exact absurd h40 (Int32.not_lt.mpr q.1.2.2.1.2)
            | exact absurd h45 (Int32.not_lt.mpr q.1.2.2.2.1)
            | exact absurd q.1.2.2.2.2 h53
            | exact absurd h16 (Int32.not_lt.mpr q.1.1.2))
    · refine wp_iload_n dX12_horse_13 rfl ?_
      refine wp_bipush (v := 7) dX12_horse_14 (by decide) ?_
      refine wp_icmp_gt (tgt := 56) dX12_horse_16 (by decide) (fun h16 => ?_) (fun h16 => ?_)
      · exact hbad (fun q => by
            first
              | exact absurd q.2 (by rw [(nI_eq (a := n) (b := 16) (by omega) (by omega)).mp (hn.symm.trans h6)]; decide)
              | exact absurd h10 (Int32.not_lt.mpr q.1.1.1)
              | exact absurd h16' (Int32.not_lt.mpr q.1.1.2)
              | exact absurd h22 (Int32.not_lt.mpr q.1.2.1.1)
              | exact absurd h29 (Int32.not_lt.mpr q.1.2.1.2)
              | exact absurd h34 (Int32.not_lt.mpr q.1.2.2.1.1)
              | exact absurd h40 (Int32.not_lt.mpr q.1.2.2.1.2)
              | exact absurd h45 (Int32.not_lt.mpr q.1.2.2.2.1)
              | exact absurd q.1.2.2.2.2 h53
              | exact absurd h16 (Int32.not_lt.mpr q.1.1.2))
      · refine wp_iload_n dX12_horse_19 rfl ?_
        refine wp_bipush (v := 100) dX12_horse_20 (by decide) ?_
        refine wp_icmp_lt (tgt := 56) dX12_horse_22 (by decide) (fun h22 => ?_) (fun h22 => ?_)
        · exact hbad (fun q => by
              first
                | exact absurd q.2 (by rw [(nI_eq (a := n) (b := 16) (by omega) (by omega)).mp (hn.symm.trans h6)]; decide)
                | exact absurd h10 (Int32.not_lt.mpr q.1.1.1)
                | exact absurd h16' (Int32.not_lt.mpr q.1.1.2)
                | exact absurd h22 (Int32.not_lt.mpr q.1.2.1.1)
                | exact absurd h29 (Int32.not_lt.mpr q.1.2.1.2)
                | exact absurd h34 (Int32.not_lt.mpr q.1.2.2.1.1)
                | exact absurd h40 (Int32.not_lt.mpr q.1.2.2.1.2)
                | exact absurd h45 (Int32.not_lt.mpr q.1.2.2.2.1)
                | exact absurd q.1.2.2.2.2 h53
                | exact absurd h16 (Int32.not_lt.mpr q.1.1.2))
        · refine wp_iload_n dX12_horse_25 rfl ?_
          refine wp_sipush (v := 200) dX12_horse_26 (by decide) ?_
          refine wp_icmp_gt (tgt := 56) dX12_horse_29 (by decide) (fun h29 => ?_) (fun h29 => ?_)
          · exact hbad (fun q => by
                first
                  | exact absurd q.2 (by rw [(nI_eq (a := n) (b := 16) (by omega) (by omega)).mp (hn.symm.trans h6)]; decide)
                  | exact absurd h10 (Int32.not_lt.mpr q.1.1.1)
                  | exact absurd h16' (Int32.not_lt.mpr q.1.1.2)
                  | exact absurd h22 (Int32.not_lt.mpr q.1.2.1.1)
                  | exact absurd h29 (Int32.not_lt.mpr q.1.2.1.2)
                  | exact absurd h34 (Int32.not_lt.mpr q.1.2.2.1.1)
                  | exact absurd h40 (Int32.not_lt.mpr q.1.2.2.1.2)
                  | exact absurd h45 (Int32.not_lt.mpr q.1.2.2.2.1)
                  | exact absurd q.1.2.2.2.2 h53
                  | exact absurd h16 (Int32.not_lt.mpr q.1.1.2))
          · refine wp_iload_n dX12_horse_32 rfl ?_
            refine wp_iconst (v := 1) dX12_horse_33 (by decide) ?_
            refine wp_icmp_lt (tgt := 56) dX12_horse_34 (by decide) (fun h34 => ?_) (fun h34 => ?_)
            · exact hbad (fun q => by
                  first
                    | exact absurd q.2 (by rw [(nI_eq (a := n) (b := 16) (by omega) (by omega)).mp (hn.symm.trans h6)]; decide)
                    | exact absurd h10 (Int32.not_lt.mpr q.1.1.1)
                    | exact absurd h16' (Int32.not_lt.mpr q.1.1.2)
                    | exact absurd h22 (Int32.not_lt.mpr q.1.2.1.1)
                    | exact absurd h29 (Int32.not_lt.mpr q.1.2.1.2)
                    | exact absurd h34 (Int32.not_lt.mpr q.1.2.2.1.1)
                    | exact absurd h40 (Int32.not_lt.mpr q.1.2.2.1.2)
                    | exact absurd h45 (Int32.not_lt.mpr q.1.2.2.2.1)
                    | exact absurd q.1.2.2.2.2 h53
                    | exact absurd h16 (Int32.not_lt.mpr q.1.1.2))
            · refine wp_iload_n dX12_horse_37 rfl ?_
              refine wp_bipush (v := 20) dX12_horse_38 (by decide) ?_
              refine wp_icmp_gt (tgt := 56) dX12_horse_40 (by decide) (fun h40 => ?_) (fun h40 => ?_)
              · exact hbad (fun q => by
                    first
                      | exact absurd q.2 (by rw [(nI_eq (a := n) (b := 16) (by omega) (by omega)).mp (hn.symm.trans h6)]; decide)
                      | exact absurd h10 (Int32.not_lt.mpr q.1.1.1)
                      | exact absurd h16' (Int32.not_lt.mpr q.1.1.2)
                      | exact absurd h22 (Int32.not_lt.mpr q.1.2.1.1)
                      | exact absurd h29 (Int32.not_lt.mpr q.1.2.1.2)
                      | exact absurd h34 (Int32.not_lt.mpr q.1.2.2.1.1)
                      | exact absurd h40 (Int32.not_lt.mpr q.1.2.2.1.2)
                      | exact absurd h45 (Int32.not_lt.mpr q.1.2.2.2.1)
                      | exact absurd q.1.2.2.2.2 h53
                      | exact absurd h16 (Int32.not_lt.mpr q.1.1.2))
              · refine wp_iload dX12_horse_43 rfl ?_
                refine wp_if_lt (tgt := 56) dX12_horse_45 (by decide) (fun h45 => ?_) (fun h45 => ?_)
                · exact hbad (fun q => by
                      first
                        | exact absurd q.2 (by rw [(nI_eq (a := n) (b := 16) (by omega) (by omega)).mp (hn.symm.trans h6)]; decide)
                        | exact absurd h10 (Int32.not_lt.mpr q.1.1.1)
                        | exact absurd h16' (Int32.not_lt.mpr q.1.1.2)
                        | exact absurd h22 (Int32.not_lt.mpr q.1.2.1.1)
                        | exact absurd h29 (Int32.not_lt.mpr q.1.2.1.2)
                        | exact absurd h34 (Int32.not_lt.mpr q.1.2.2.1.1)
                        | exact absurd h40 (Int32.not_lt.mpr q.1.2.2.1.2)
                        | exact absurd h45 (Int32.not_lt.mpr q.1.2.2.2.1)
                        | exact absurd q.1.2.2.2.2 h53
                        | exact absurd h16 (Int32.not_lt.mpr q.1.1.2))
                · refine wp_iload dX12_horse_48 rfl ?_
                  refine wp_sipush (v := 1000) dX12_horse_50 (by decide) ?_
                  refine wp_icmp_le (tgt := 58) dX12_horse_53 (by decide) (fun h53 => ?_) (fun h53 => ?_)
                  · have hn9 : n < 16 := by
                        rcases Nat.lt_or_ge n 16 with q | q
                        · exact q
                        · exact absurd (by rw [hn, show n = 16 by omega]; rfl) h6
                    refine wp_aload_n dX12_horse_58 rfl ?_
                    refine wp_geta dX12_horse_59 fl_RX12_19 rfl (fk_33 hF) (fr_33_5 hF) ?_
                    refine wp_aload_n dX12_horse_62 rfl ?_
                    refine wp_geti dX12_horse_63 fl_RX12_132 rfl (fk_33 hF) ?_
                    rw [hn]
                    refine wp_iload_n dX12_horse_66 rfl ?_
                    refine wp_iastoreN dX12_horse_67 (fk_34 hF) (by omega) (by decide) ?_
                    refine wp_aload_n dX12_horse_68 rfl ?_
                    refine wp_geta dX12_horse_69 fl_RX12_23 rfl (fk_33 (Fix_sI hF)) (fr_33_6 (Fix_sI hF)) ?_
                    refine wp_aload_n dX12_horse_72 rfl ?_
                    refine wp_geti dX12_horse_73 fl_RX12_132 rfl (fk_33 (Fix_sI hF)) ?_
                    simp only [hI_sI', Nat.reduceEqDiff, false_and, ↓reduceIte, hn]
                    refine wp_iload_n dX12_horse_76 rfl ?_
                    refine wp_iastoreN dX12_horse_77 (fk_35 (Fix_sI hF)) (by omega) (by decide) ?_
                    refine wp_aload_n dX12_horse_78 rfl ?_
                    refine wp_geta dX12_horse_79 fl_RX12_26 rfl (fk_33 (Fix_sI (Fix_sI hF))) (fr_33_7 (Fix_sI (Fix_sI hF))) ?_
                    refine wp_aload_n dX12_horse_82 rfl ?_
                    refine wp_geti dX12_horse_83 fl_RX12_132 rfl (fk_33 (Fix_sI (Fix_sI hF))) ?_
                    simp only [hI_sI', Nat.reduceEqDiff, false_and, ↓reduceIte, hn]
                    refine wp_iload_n dX12_horse_86 rfl ?_
                    refine wp_iastoreN dX12_horse_87 (fk_36 (Fix_sI (Fix_sI hF))) (by omega) (by decide) ?_
                    refine wp_aload_n dX12_horse_88 rfl ?_
                    refine wp_geta dX12_horse_89 fl_RX12_29 rfl (fk_33 (Fix_sI (Fix_sI (Fix_sI hF)))) (fr_33_8 (Fix_sI (Fix_sI (Fix_sI hF)))) ?_
                    refine wp_aload_n dX12_horse_92 rfl ?_
                    refine wp_geti dX12_horse_93 fl_RX12_132 rfl (fk_33 (Fix_sI (Fix_sI (Fix_sI hF)))) ?_
                    simp only [hI_sI', Nat.reduceEqDiff, false_and, ↓reduceIte, hn]
                    refine wp_iload dX12_horse_96 rfl ?_
                    refine wp_iastoreN dX12_horse_98 (fk_37 (Fix_sI (Fix_sI (Fix_sI hF)))) (by omega) (by decide) ?_
                    refine wp_aload_n dX12_horse_99 rfl ?_
                    refine wp_dup dX12_horse_100 rfl ?_
                    refine wp_geti dX12_horse_101 fl_RX12_132 rfl (fk_33 (Fix_sI (Fix_sI (Fix_sI (Fix_sI hF))))) ?_
                    simp only [hI_sI', Nat.reduceEqDiff, false_and, ↓reduceIte, hn]
                    refine wp_iconst (v := 1) dX12_horse_104 (by decide) ?_
                    refine wp_iadd dX12_horse_105 ?_
                    rw [nI_1]
                    refine wp_puti dX12_horse_106 fl_RX12_132 (mp_12_0 _ _) rfl (fk_33 (Fix_sI (Fix_sI (Fix_sI (Fix_sI hF))))) ?_
                    refine wp_aload_n dX12_horse_109 rfl ?_
                    refine wp_geti dX12_horse_110 fl_RX12_132 rfl (fk_33 (Fix_sI (Fix_sI (Fix_sI (Fix_sI (Fix_sI hF)))))) ?_
                    simp only [hI_sI', and_self, ↓reduceIte]
                    refine wp_iconst (v := 1) dX12_horse_113 (by decide) ?_
                    refine wp_isub dX12_horse_114 ?_
                    refine wp_ireturn rfl dX12_horse_115 ?_
                    rw [nI_pred]
                    exact hq1 ⟨⟨Int32.not_lt.mp h10, Int32.not_lt.mp h16⟩, ⟨Int32.not_lt.mp h22, Int32.not_lt.mp h29⟩, ⟨Int32.not_lt.mp h34, Int32.not_lt.mp h40⟩, ⟨Int32.not_lt.mp h45, h53⟩⟩ hn9
                  · exact hbad (fun q => by
                        first
                          | exact absurd q.2 (by rw [(nI_eq (a := n) (b := 16) (by omega) (by omega)).mp (hn.symm.trans h6)]; decide)
                          | exact absurd h10 (Int32.not_lt.mpr q.1.1.1)
                          | exact absurd h16' (Int32.not_lt.mpr q.1.1.2)
                          | exact absurd h22 (Int32.not_lt.mpr q.1.2.1.1)
                          | exact absurd h29 (Int32.not_lt.mpr q.1.2.1.2)
                          | exact absurd h34 (Int32.not_lt.mpr q.1.2.2.1.1)
                          | exact absurd h40 (Int32.not_lt.mpr q.1.2.2.1.2)
                          | exact absurd h45 (Int32.not_lt.mpr q.1.2.2.2.1)
                          | exact absurd q.1.2.2.2.2 h53
                          | exact absurd h16 (Int32.not_lt.mpr q.1.1.2))
theorem c_X12_lame {d n : Nat} {x z : Int32} {H : PH} {Q : Option Value → PH → Prop} (hF : Fix H) (hn : hI H 33 0 = nI n) (hn16 : n ≤ 16) (hz : z = 0 ∨ z = 1) (hq1 : ∀ j, j < n → x = nI j → Q (some (.int 1)) (sI H 38 j z)) (hq2 : ¬ (0 ≤ x ∧ x < nI n) → Q (some (.int 0)) H) : Wp mX12_lame (d + 1) 0 0 0 [some (.ref 33), some (.int x), some (.int z)] [] H Q := by
  refine wp_aload_n dX12_lame_0 rfl ?_
  refine wp_iload_n dX12_lame_1 rfl ?_
  refine wp_callv1 (ci := 12) dX12_lame_2 lk_RX12_135 ok_X12_isHorse im_X12_isHorse se_X12_isHorse rfl rfl (fk_33 hF) (Nat.le_of_ble_eq_true rfl) (Nat.le_of_ble_eq_true rfl) ?_
  refine c_X12_isHorse hF hn ?_
  refine wp_ifb_ne (tgt := 10) dX12_lame_5 (by decide) (fun h5 => ?_) (fun h5 => ?_)
  · obtain ⟨j, hj, rfl⟩ := in_of (by omega) h5
    refine wp_aload_n dX12_lame_10 rfl ?_
    refine wp_geta dX12_lame_11 fl_RX12_32 rfl (fk_33 hF) (fr_33_9 hF) ?_
    refine wp_iload_n dX12_lame_14 rfl ?_
    refine wp_iload_n dX12_lame_15 rfl ?_
    refine wp_zastoreN dX12_lame_16 (fk_38 hF) (hz) (by omega) (by decide) ?_
    refine wp_iconst (v := 1) dX12_lame_17 (by decide) ?_
    refine wp_zreturn rfl (Or.inr rfl) dX12_lame_18 ?_
    exact hq1 j hj rfl
  · refine wp_iconst (v := 0) dX12_lame_8 (by decide) ?_
    refine wp_zreturn rfl (Or.inl rfl) dX12_lame_9 ?_
    exact hq2 h5
theorem c_X12_spans {d : Nat} {x z : Int32} {H : PH} {Q : Option Value → PH → Prop} (hF : Fix H) (hq1 : (0 ≤ x ∧ x ≤ 50) → (0 ≤ z ∧ z ≤ 10) → Q (some (.int 1)) (sI (sI H 33 1 x) 33 2 z)) (hq2 : ¬ ((0 ≤ x ∧ x ≤ 50) ∧ (0 ≤ z ∧ z ≤ 10)) → Q (some (.int 0)) H) : Wp mX12_spans d 0 0 0 [some (.ref 33), some (.int x), some (.int z)] [] H Q := by
  refine wp_iload_n dX12_spans_0 rfl ?_
  refine wp_if_lt (tgt := 20) dX12_spans_1 (by decide) (fun h1 => ?_) (fun h1 => ?_)
  · refine wp_iconst (v := 0) dX12_spans_20 (by decide) ?_
    refine wp_zreturn rfl (Or.inl rfl) dX12_spans_21 ?_
    refine hq2 (fun q => ?_)
    first | exact absurd h1 (Int32.not_lt.mpr q.1.1) | exact absurd h7 (Int32.not_lt.mpr q.1.2) | exact absurd h11 (Int32.not_lt.mpr q.2.1) | exact absurd q.2.2 h17
  · refine wp_iload_n dX12_spans_4 rfl ?_
    refine wp_bipush (v := 50) dX12_spans_5 (by decide) ?_
    refine wp_icmp_gt (tgt := 20) dX12_spans_7 (by decide) (fun h7 => ?_) (fun h7 => ?_)
    · refine wp_iconst (v := 0) dX12_spans_20 (by decide) ?_
      refine wp_zreturn rfl (Or.inl rfl) dX12_spans_21 ?_
      refine hq2 (fun q => ?_)
      first | exact absurd h1 (Int32.not_lt.mpr q.1.1) | exact absurd h7 (Int32.not_lt.mpr q.1.2) | exact absurd h11 (Int32.not_lt.mpr q.2.1) | exact absurd q.2.2 h17
    · refine wp_iload_n dX12_spans_10 rfl ?_
      refine wp_if_lt (tgt := 20) dX12_spans_11 (by decide) (fun h11 => ?_) (fun h11 => ?_)
      · refine wp_iconst (v := 0) dX12_spans_20 (by decide) ?_
        refine wp_zreturn rfl (Or.inl rfl) dX12_spans_21 ?_
        refine hq2 (fun q => ?_)
        first | exact absurd h1 (Int32.not_lt.mpr q.1.1) | exact absurd h7 (Int32.not_lt.mpr q.1.2) | exact absurd h11 (Int32.not_lt.mpr q.2.1) | exact absurd q.2.2 h17
      · refine wp_iload_n dX12_spans_14 rfl ?_
        refine wp_bipush (v := 10) dX12_spans_15 (by decide) ?_
        refine wp_icmp_le (tgt := 22) dX12_spans_17 (by decide) (fun h17 => ?_) (fun h17 => ?_)
        · refine wp_aload_n dX12_spans_22 rfl ?_
          refine wp_iload_n dX12_spans_23 rfl ?_
          refine wp_puti dX12_spans_24 fl_RX12_7 (mp_12_1 _ _) rfl (fk_33 hF) ?_
          refine wp_aload_n dX12_spans_27 rfl ?_
          refine wp_iload_n dX12_spans_28 rfl ?_
          refine wp_puti dX12_spans_29 fl_RX12_13 (mp_12_2 _ _) rfl (fk_33 (Fix_sI hF)) ?_
          refine wp_iconst (v := 1) dX12_spans_32 (by decide) ?_
          refine wp_zreturn rfl (Or.inr rfl) dX12_spans_33 ?_
          exact hq1 ⟨Int32.not_lt.mp h1, Int32.not_lt.mp h7⟩ ⟨Int32.not_lt.mp h11, h17⟩
        · refine wp_iconst (v := 0) dX12_spans_20 (by decide) ?_
          refine wp_zreturn rfl (Or.inl rfl) dX12_spans_21 ?_
          refine hq2 (fun q => ?_)
          first | exact absurd h1 (Int32.not_lt.mpr q.1.1) | exact absurd h7 (Int32.not_lt.mpr q.1.2) | exact absurd h11 (Int32.not_lt.mpr q.2.1) | exact absurd q.2.2 h17
def mny (x : Int32) : Nat → Int32
  | 0 => 0
  | k + 1 => mny x k + (x >>> (nI k &&& 31) &&& 1)
theorem l_X12_many {d : Nat} {x : Int32} {H : PH} {Q : Option Value → PH → Prop} (hq : Q (some (.int (mny x 16))) H) : ∀ (j k : Nat), 16 - k = j → k ≤ 16 → Wp mX12_many d 0 0 4 [some (.int x), some (.int (mny x k)), some (.int (nI k))] [] H Q := by
  intro j
  induction j with
  | zero =>
    intro k hj hk
    have hin : k = 16 := by omega
    subst hin
    refine wp_iload_n dX12_many_4 rfl ?_
    refine wp_bipush (v := 16) dX12_many_5 (by decide) ?_
    refine wp_icmp_ge (tgt := 24) dX12_many_7 (by decide) (fun _ => ?_) (fun h7 => absurd h7 (by decide))
    refine wp_iload_n dX12_many_24 rfl ?_
    refine wp_ireturn rfl dX12_many_25 ?_
    exact hq
  | succ j ih =>
    intro k hj hk
    refine wp_iload_n dX12_many_4 rfl ?_
    refine wp_bipush (v := 16) dX12_many_5 (by decide) ?_
    refine wp_icmp_ge (tgt := 24) dX12_many_7 (by decide) (fun h7 => absurd h7 (nI_ge (a := k) (b := 16) (by omega) (by decide))) (fun _ => ?_)
    refine wp_iload_n dX12_many_10 rfl ?_
    refine wp_iload_n dX12_many_11 rfl ?_
    refine wp_iload_n dX12_many_12 rfl ?_
    refine wp_ishr dX12_many_13 ?_
    refine wp_iconst (v := 1) dX12_many_14 (by decide) ?_
    refine wp_iand dX12_many_15 ?_
    refine wp_iadd dX12_many_16 ?_
    refine wp_istore_n dX12_many_17 (by decide) ?_
    refine wp_incN dX12_many_18 rfl (by decide) ?_
    refine wp_goto (tgt := 4) dX12_many_21 (by decide) ?_
    exact ih (k + 1) (by omega) (by omega)
theorem c_X12_many {d : Nat} {x : Int32} {H : PH} {Q : Option Value → PH → Prop} (hq : Q (some (.int (mny x 16))) H) : Wp mX12_many d 0 0 0 [some (.int x), none, none] [] H Q := by
  refine wp_iconst (v := 0) dX12_many_0 (by decide) ?_
  refine wp_istore_n dX12_many_1 (by decide) ?_
  refine wp_iconst (v := 0) dX12_many_2 (by decide) ?_
  refine wp_istore_n dX12_many_3 (by decide) ?_
  exact l_X12_many hq 16 0 (by omega) (by omega)
def farI (a b : Int32) : Int32 := if b ≤ a then a - b else b - a
theorem c_X12_far {d : Nat} {a b : Int32} {H : PH} {Q : Option Value → PH → Prop} (hq : Q (some (.int (farI a b))) H) : Wp mX12_far d 0 0 0 [some (.int a), some (.int b)] [] H Q := by
  refine wp_iload_n dX12_far_0 rfl ?_
  refine wp_iload_n dX12_far_1 rfl ?_
  refine wp_icmp_ge (tgt := 11) dX12_far_2 (by decide) (fun h2 => ?_) (fun h2 => ?_)
  · refine wp_iload_n dX12_far_11 rfl ?_
    refine wp_iload_n dX12_far_12 rfl ?_
    refine wp_isub dX12_far_13 ?_
    refine wp_ireturn rfl dX12_far_14 ?_
    first | (rw [farI, if_pos h2] at hq; exact hq) | (rw [farI, if_neg h2] at hq; exact hq)
  · refine wp_iload_n dX12_far_5 rfl ?_
    refine wp_iload_n dX12_far_6 rfl ?_
    refine wp_isub dX12_far_7 ?_
    refine wp_goto (tgt := 14) dX12_far_8 (by decide) ?_
    refine wp_ireturn rfl dX12_far_14 ?_
    first | (rw [farI, if_pos h2] at hq; exact hq) | (rw [farI, if_neg h2] at hq; exact hq)
abbrev mb (x : Int32) (i : Nat) : Prop := x >>> (nI i &&& 31) &&& 1 = 1
abbrev mal (H : PH) (i j : Nat) : Prop := hI H 34 i = hI H 34 j ∧ farI (hI H 35 i) (hI H 35 j) ≤ hI H 33 1 ∧ farI (hI H 36 i) (hI H 36 j) ≤ hI H 33 2
abbrev mdAll (H : PH) (n a : Nat) (x : Int32) : Prop := ∀ e, e < a → ∀ f, f < n → e < f → mb x e → mb x f → mal H e f
abbrev mdRow (H : PH) (a b : Nat) (x : Int32) : Prop := ∀ f, f < b → a < f → mb x a → mb x f → mal H a f
theorem l_X12_doMatch2 {d n a : Nat} {x : Int32} {H : PH} {Q : Option Value → PH → Prop} (hF : Fix H) (hn : hI H 33 0 = nI n) (h16 : n ≤ 16) (ha : a < n)
    (kont : ∀ g, g = bI (mdAll H n (a + 1) x) → Wp mX12_doMatch (d + 1) 0 0 4 [some (.ref 33), some (.int x), some (.int g), some (.int (nI (a + 1))), none] [] H Q) :
    ∀ (j b : Nat) (g : Int32), n - b = j → a < b → b ≤ n → g = bI (mdAll H n a x ∧ mdRow H a b x) → Wp mX12_doMatch (d + 1) 0 0 21 [some (.ref 33), some (.int x), some (.int g), some (.int (nI a)), some (.int (nI b))] [] H Q := by
  have hup : mdAll H n a x ∧ mdRow H a n x ↔ mdAll H n (a + 1) x := by
    constructor
    · intro q e he
      rcases Nat.lt_succ_iff_lt_or_eq.mp he with h | h
      · exact q.1 e h
      · subst h; exact q.2
    · intro q
      exact ⟨fun e he => q e (by omega), q a (by omega)⟩
  intro j
  induction j with
  | zero =>
    intro b g hj hab hb1 hg
    have hin : b = n := by omega
    subst hin
    refine wp_iload dX12_doMatch_21 rfl ?_
    refine wp_aload_n dX12_doMatch_23 rfl ?_
    refine wp_geti dX12_doMatch_24 fl_RX12_132 rfl (fk_33 hF) ?_
    refine wp_icmp_ge (tgt := 127) dX12_doMatch_27 (by decide) (fun _ => ?_) (fun h27 => absurd h27 (by rw [hn]; exact fun h => h (nI_le (Nat.le_refl _) (by omega))))
    refine wp_incN dX12_doMatch_127 rfl (by decide) ?_
    refine wp_goto (tgt := 4) dX12_doMatch_130 (by decide) ?_
    exact wp_forget 4 (kont g (hg.trans (bI_iff hup)))
  | succ j ih =>
    intro b g hj hab hb1 hg
    have hlt : b < n := by omega
    have hstep : g = 1 → (mdRow H a b x → (a < b → mb x a → mb x b → mal H a b) → mdRow H a (b + 1) x) ∧ mdAll H n a x ∧ mdRow H a b x := fun q => ⟨fun q1 q2 f hf => by
      rcases Nat.lt_succ_iff_lt_or_eq.mp hf with h | h
      · exact q1 f h
      · subst h; exact q2, bI_eq1.mp (hg.symm.trans q)⟩
    refine wp_iload dX12_doMatch_21 rfl ?_
    refine wp_aload_n dX12_doMatch_23 rfl ?_
    refine wp_geti dX12_doMatch_24 fl_RX12_132 rfl (fk_33 hF) ?_
    refine wp_icmp_ge (tgt := 127) dX12_doMatch_27 (by decide) (fun h27 => absurd h27 (by rw [hn]; exact nI_ge (by omega) (by omega))) (fun _ => ?_)
    refine wp_iload_n dX12_doMatch_30 rfl ?_
    refine wp_if_eq (tgt := 127) dX12_doMatch_31 (by decide) (fun h31 => ?_) (fun h31 => ?_)
    · refine wp_incN dX12_doMatch_127 rfl (by decide) ?_
      refine wp_goto (tgt := 4) dX12_doMatch_130 (by decide) ?_
      refine wp_forget 4 (kont g ?_)
      rw [h31]
      have hb0 := bI_eq0.mp (hg.symm.trans h31)
      exact (bI_f (fun q => hb0 ⟨fun e he => q e (by omega), fun f hf => q a (by omega) f (by omega)⟩)).symm
    · refine wp_iload_n dX12_doMatch_34 rfl ?_
      refine wp_iload_n dX12_doMatch_35 rfl ?_
      refine wp_ishr dX12_doMatch_36 ?_
      refine wp_iconst (v := 1) dX12_doMatch_37 (by decide) ?_
      refine wp_iand dX12_doMatch_38 ?_
      refine wp_iconst (v := 1) dX12_doMatch_39 (by decide) ?_
      refine wp_icmp_ne (tgt := 121) dX12_doMatch_40 (by decide) (fun h40 => ?_) (fun h40 => ?_)
      · refine wp_incN dX12_doMatch_121 rfl (by decide) ?_
        refine wp_goto (tgt := 21) dX12_doMatch_124 (by decide) ?_
        have hg1 : g = 1 := (hg ▸ bI_01 _ : g = 0 ∨ g = 1).resolve_left h31
        have hs := hstep hg1
        first
          | exact ih (b + 1) g (by omega) (by omega) (by omega) (by rw [hg1]; exact (bI_t ⟨hs.2.1, hs.1 hs.2.2 (by first | exact fun _ q => absurd q h40 | exact fun _ _ q => absurd q h50)⟩).symm)
          | exact ih (b + 1) 1 (by omega) (by omega) (by omega) (bI_t ⟨hs.2.1, hs.1 hs.2.2 (fun _ _ _ => ⟨h66, Int32.not_lt.mp h89, Int32.not_lt.mp h112⟩)⟩).symm
          | exact ih (b + 1) 0 (by omega) (by omega) (by omega) (bI_f (fun q => by
              have q9 := q.2 b (by omega) hab h40 h50
              first | exact h66 q9.1 | exact absurd h89 (Int32.not_lt.mpr q9.2.1) | exact absurd h112 (Int32.not_lt.mpr q9.2.2))).symm
      · refine wp_iload_n dX12_doMatch_43 rfl ?_
        refine wp_iload dX12_doMatch_44 rfl ?_
        refine wp_ishr dX12_doMatch_46 ?_
        refine wp_iconst (v := 1) dX12_doMatch_47 (by decide) ?_
        refine wp_iand dX12_doMatch_48 ?_
        refine wp_iconst (v := 1) dX12_doMatch_49 (by decide) ?_
        refine wp_icmp_ne (tgt := 121) dX12_doMatch_50 (by decide) (fun h50 => ?_) (fun h50 => ?_)
        · refine wp_incN dX12_doMatch_121 rfl (by decide) ?_
          refine wp_goto (tgt := 21) dX12_doMatch_124 (by decide) ?_
          have hg1 : g = 1 := (hg ▸ bI_01 _ : g = 0 ∨ g = 1).resolve_left h31
          have hs := hstep hg1
          first
            | exact ih (b + 1) g (by omega) (by omega) (by omega) (by rw [hg1]; exact (bI_t ⟨hs.2.1, hs.1 hs.2.2 (by first | exact fun _ q => absurd q h40 | exact fun _ _ q => absurd q h50)⟩).symm)
            | exact ih (b + 1) 1 (by omega) (by omega) (by omega) (bI_t ⟨hs.2.1, hs.1 hs.2.2 (fun _ _ _ => ⟨h66, Int32.not_lt.mp h89, Int32.not_lt.mp h112⟩)⟩).symm
            | exact ih (b + 1) 0 (by omega) (by omega) (by omega) (bI_f (fun q => by
                have q9 := q.2 b (by omega) hab h40 h50
                first | exact h66 q9.1 | exact absurd h89 (Int32.not_lt.mpr q9.2.1) | exact absurd h112 (Int32.not_lt.mpr q9.2.2))).symm
        · refine wp_aload_n dX12_doMatch_53 rfl ?_
          refine wp_geta dX12_doMatch_54 fl_RX12_19 rfl (fk_33 hF) (fr_33_5 hF) ?_
          refine wp_iload_n dX12_doMatch_57 rfl ?_
          refine wp_ialoadN dX12_doMatch_58 (fk_34 hF) (by omega) (by decide) ?_
          refine wp_aload_n dX12_doMatch_59 rfl ?_
          refine wp_geta dX12_doMatch_60 fl_RX12_19 rfl (fk_33 hF) (fr_33_5 hF) ?_
          refine wp_iload dX12_doMatch_63 rfl ?_
          refine wp_ialoadN dX12_doMatch_65 (fk_34 hF) (by omega) (by decide) ?_
          refine wp_icmp_ne (tgt := 119) dX12_doMatch_66 (by decide) (fun h66 => ?_) (fun h66 => ?_)
          · refine wp_iconst (v := 0) dX12_doMatch_119 (by decide) ?_
            refine wp_istore_n dX12_doMatch_120 (by decide) ?_
            refine wp_incN dX12_doMatch_121 rfl (by decide) ?_
            refine wp_goto (tgt := 21) dX12_doMatch_124 (by decide) ?_
            have hg1 : g = 1 := (hg ▸ bI_01 _ : g = 0 ∨ g = 1).resolve_left h31
            have hs := hstep hg1
            first
              | exact ih (b + 1) g (by omega) (by omega) (by omega) (by rw [hg1]; exact (bI_t ⟨hs.2.1, hs.1 hs.2.2 (by first | exact fun _ q => absurd q h40 | exact fun _ _ q => absurd q h50)⟩).symm)
              | exact ih (b + 1) 1 (by omega) (by omega) (by omega) (bI_t ⟨hs.2.1, hs.1 hs.2.2 (fun _ _ _ => ⟨h66, Int32.not_lt.mp h89, Int32.not_lt.mp h112⟩)⟩).symm
              | exact ih (b + 1) 0 (by omega) (by omega) (by omega) (bI_f (fun q => by
                  have q9 := q.2 b (by omega) hab h40 h50
                  first | exact h66 q9.1 | exact absurd h89 (Int32.not_lt.mpr q9.2.1) | exact absurd h112 (Int32.not_lt.mpr q9.2.2))).symm
          · refine wp_aload_n dX12_doMatch_69 rfl ?_
            refine wp_geta dX12_doMatch_70 fl_RX12_23 rfl (fk_33 hF) (fr_33_6 hF) ?_
            refine wp_iload_n dX12_doMatch_73 rfl ?_
            refine wp_ialoadN dX12_doMatch_74 (fk_35 hF) (by omega) (by decide) ?_
            refine wp_aload_n dX12_doMatch_75 rfl ?_
            refine wp_geta dX12_doMatch_76 fl_RX12_23 rfl (fk_33 hF) (fr_33_6 hF) ?_
            refine wp_iload dX12_doMatch_79 rfl ?_
            refine wp_ialoadN dX12_doMatch_81 (fk_35 hF) (by omega) (by decide) ?_
            refine wp_calls2 dX12_doMatch_82 lk_RX12_145 ok_X12_far st_X12_far (Nat.le_of_ble_eq_true rfl) (Nat.le_of_ble_eq_true rfl) ?_
            refine c_X12_far ?_
            refine wp_aload_n dX12_doMatch_85 rfl ?_
            refine wp_geti dX12_doMatch_86 fl_RX12_7 rfl (fk_33 hF) ?_
            refine wp_icmp_gt (tgt := 119) dX12_doMatch_89 (by decide) (fun h89 => ?_) (fun h89 => ?_)
            · refine wp_iconst (v := 0) dX12_doMatch_119 (by decide) ?_
              refine wp_istore_n dX12_doMatch_120 (by decide) ?_
              refine wp_incN dX12_doMatch_121 rfl (by decide) ?_
              refine wp_goto (tgt := 21) dX12_doMatch_124 (by decide) ?_
              have hg1 : g = 1 := (hg ▸ bI_01 _ : g = 0 ∨ g = 1).resolve_left h31
              have hs := hstep hg1
              first
                | exact ih (b + 1) g (by omega) (by omega) (by omega) (by rw [hg1]; exact (bI_t ⟨hs.2.1, hs.1 hs.2.2 (by first | exact fun _ q => absurd q h40 | exact fun _ _ q => absurd q h50)⟩).symm)
                | exact ih (b + 1) 1 (by omega) (by omega) (by omega) (bI_t ⟨hs.2.1, hs.1 hs.2.2 (fun _ _ _ => ⟨h66, Int32.not_lt.mp h89, Int32.not_lt.mp h112⟩)⟩).symm
                | exact ih (b + 1) 0 (by omega) (by omega) (by omega) (bI_f (fun q => by
                    have q9 := q.2 b (by omega) hab h40 h50
                    first | exact h66 q9.1 | exact absurd h89 (Int32.not_lt.mpr q9.2.1) | exact absurd h112 (Int32.not_lt.mpr q9.2.2))).symm
            · refine wp_aload_n dX12_doMatch_92 rfl ?_
              refine wp_geta dX12_doMatch_93 fl_RX12_26 rfl (fk_33 hF) (fr_33_7 hF) ?_
              refine wp_iload_n dX12_doMatch_96 rfl ?_
              refine wp_ialoadN dX12_doMatch_97 (fk_36 hF) (by omega) (by decide) ?_
              refine wp_aload_n dX12_doMatch_98 rfl ?_
              refine wp_geta dX12_doMatch_99 fl_RX12_26 rfl (fk_33 hF) (fr_33_7 hF) ?_
              refine wp_iload dX12_doMatch_102 rfl ?_
              refine wp_ialoadN dX12_doMatch_104 (fk_36 hF) (by omega) (by decide) ?_
              refine wp_calls2 dX12_doMatch_105 lk_RX12_145 ok_X12_far st_X12_far (Nat.le_of_ble_eq_true rfl) (Nat.le_of_ble_eq_true rfl) ?_
              refine c_X12_far ?_
              refine wp_aload_n dX12_doMatch_108 rfl ?_
              refine wp_geti dX12_doMatch_109 fl_RX12_13 rfl (fk_33 hF) ?_
              refine wp_icmp_gt (tgt := 119) dX12_doMatch_112 (by decide) (fun h112 => ?_) (fun h112 => ?_)
              · refine wp_iconst (v := 0) dX12_doMatch_119 (by decide) ?_
                refine wp_istore_n dX12_doMatch_120 (by decide) ?_
                refine wp_incN dX12_doMatch_121 rfl (by decide) ?_
                refine wp_goto (tgt := 21) dX12_doMatch_124 (by decide) ?_
                have hg1 : g = 1 := (hg ▸ bI_01 _ : g = 0 ∨ g = 1).resolve_left h31
                have hs := hstep hg1
                first
                  | exact ih (b + 1) g (by omega) (by omega) (by omega) (by rw [hg1]; exact (bI_t ⟨hs.2.1, hs.1 hs.2.2 (by first | exact fun _ q => absurd q h40 | exact fun _ _ q => absurd q h50)⟩).symm)
                  | exact ih (b + 1) 1 (by omega) (by omega) (by omega) (bI_t ⟨hs.2.1, hs.1 hs.2.2 (fun _ _ _ => ⟨h66, Int32.not_lt.mp h89, Int32.not_lt.mp h112⟩)⟩).symm
                  | exact ih (b + 1) 0 (by omega) (by omega) (by omega) (bI_f (fun q => by
                      have q9 := q.2 b (by omega) hab h40 h50
                      first | exact h66 q9.1 | exact absurd h89 (Int32.not_lt.mpr q9.2.1) | exact absurd h112 (Int32.not_lt.mpr q9.2.2))).symm
              · refine wp_iconst (v := 1) dX12_doMatch_115 (by decide) ?_
                refine wp_goto (tgt := 120) dX12_doMatch_116 (by decide) ?_
                refine wp_istore_n dX12_doMatch_120 (by decide) ?_
                refine wp_incN dX12_doMatch_121 rfl (by decide) ?_
                refine wp_goto (tgt := 21) dX12_doMatch_124 (by decide) ?_
                have hg1 : g = 1 := (hg ▸ bI_01 _ : g = 0 ∨ g = 1).resolve_left h31
                have hs := hstep hg1
                first
                  | exact ih (b + 1) g (by omega) (by omega) (by omega) (by rw [hg1]; exact (bI_t ⟨hs.2.1, hs.1 hs.2.2 (by first | exact fun _ q => absurd q h40 | exact fun _ _ q => absurd q h50)⟩).symm)
                  | exact ih (b + 1) 1 (by omega) (by omega) (by omega) (bI_t ⟨hs.2.1, hs.1 hs.2.2 (fun _ _ _ => ⟨h66, Int32.not_lt.mp h89, Int32.not_lt.mp h112⟩)⟩).symm
                  | exact ih (b + 1) 0 (by omega) (by omega) (by omega) (bI_f (fun q => by
                      have q9 := q.2 b (by omega) hab h40 h50
                      first | exact h66 q9.1 | exact absurd h89 (Int32.not_lt.mpr q9.2.1) | exact absurd h112 (Int32.not_lt.mpr q9.2.2))).symm
theorem l_X12_doMatch {d n : Nat} {x : Int32} {H : PH} {Q : Option Value → PH → Prop} (hF : Fix H) (hn : hI H 33 0 = nI n) (h16 : n ≤ 16) (hq : Q (some (.int (bI (mdAll H n n x)))) H) : ∀ (j a : Nat) (g : Int32), n - a = j → a ≤ n → g = bI (mdAll H n a x) → Wp mX12_doMatch (d + 1) 0 0 4 [some (.ref 33), some (.int x), some (.int g), some (.int (nI a)), none] [] H Q := by
  intro j
  induction j with
  | zero =>
    intro a g hj hi hg
    have hin : a = n := by omega
    subst hin
    refine wp_iload_n dX12_doMatch_4 rfl ?_
    refine wp_aload_n dX12_doMatch_5 rfl ?_
    refine wp_geti dX12_doMatch_6 fl_RX12_132 rfl (fk_33 hF) ?_
    refine wp_icmp_ge (tgt := 133) dX12_doMatch_9 (by decide) (fun _ => ?_) (fun h9 => absurd h9 (by rw [hn]; exact fun h => h (nI_le (Nat.le_refl _) (by omega))))
    refine wp_iload_n dX12_doMatch_133 rfl ?_
    refine wp_zreturn rfl (by rw [hg]; exact bI_01 _) dX12_doMatch_134 ?_
    rw [hg]; exact hq
  | succ j ih =>
    intro a g hj hi hg
    have hlt : a < n := by omega
    refine wp_iload_n dX12_doMatch_4 rfl ?_
    refine wp_aload_n dX12_doMatch_5 rfl ?_
    refine wp_geti dX12_doMatch_6 fl_RX12_132 rfl (fk_33 hF) ?_
    refine wp_icmp_ge (tgt := 133) dX12_doMatch_9 (by decide) (fun h9 => absurd h9 (by rw [hn]; exact nI_ge (by omega) (by omega))) (fun _ => ?_)
    refine wp_iload_n dX12_doMatch_12 rfl ?_
    refine wp_if_eq (tgt := 133) dX12_doMatch_13 (by decide) (fun h13 => ?_) (fun h13 => ?_)
    · refine wp_iload_n dX12_doMatch_133 rfl ?_
      refine wp_zreturn rfl (Or.inl h13) dX12_doMatch_134 ?_
      rw [h13]
      exact bq_f hq (fun q => bI_eq0.mp (hg.symm.trans h13) (fun e he => q e (by omega)))
    · refine wp_iload_n dX12_doMatch_16 rfl ?_
      refine wp_iconst (v := 1) dX12_doMatch_17 (by decide) ?_
      refine wp_iadd dX12_doMatch_18 ?_
      rw [nI_1]
      refine wp_istore dX12_doMatch_19 (by decide) ?_
      have hg1 : g = 1 := (hg ▸ bI_01 _ : g = 0 ∨ g = 1).resolve_left h13
      exact l_X12_doMatch2 hF hn h16 hlt (fun g' hg' => ih (a + 1) g' (by omega) (by omega) hg') _ (a + 1) g rfl (by omega) (by omega) (by rw [hg1]; exact (bI_t ⟨bI_eq1.mp (hg.symm.trans hg1), fun f hf h => by omega⟩).symm)
theorem c_X12_doMatch {d n : Nat} {x : Int32} {H : PH} {Q : Option Value → PH → Prop} (hF : Fix H) (hn : hI H 33 0 = nI n) (h16 : n ≤ 16) (hq : Q (some (.int (bI (mdAll H n n x)))) H) : Wp mX12_doMatch (d + 1) 0 0 0 [some (.ref 33), some (.int x), none, none, none] [] H Q := by
  refine wp_iconst (v := 1) dX12_doMatch_0 (by decide) ?_
  refine wp_istore_n dX12_doMatch_1 (by decide) ?_
  refine wp_iconst (v := 0) dX12_doMatch_2 (by decide) ?_
  refine wp_istore_n dX12_doMatch_3 (by decide) ?_
  exact l_X12_doMatch hF hn h16 hq n 0 1 (by omega) (by omega) (bI_t (fun e he => absurd he (Nat.not_lt_zero e))).symm
abbrev isSetP (n : Nat) (x : Int32) : Prop := 0 ≤ x ∧ x < 1 <<< (nI n &&& 31)
theorem c_X12_isSet {d n : Nat} {x : Int32} {H : PH} {Q : Option Value → PH → Prop} (hF : Fix H) (hn : hI H 33 0 = nI n) (hq : Q (some (.int (bI (isSetP n x)))) H) : Wp mX12_isSet d 0 0 0 [some (.ref 33), some (.int x)] [] H Q := by
  refine wp_iload_n dX12_isSet_0 rfl ?_
  refine wp_if_lt (tgt := 18) dX12_isSet_1 (by decide) (fun h1 => ?_) (fun h1 => ?_)
  · refine wp_iconst (v := 0) dX12_isSet_18 (by decide) ?_
    refine wp_zreturn rfl (Or.inl rfl) dX12_isSet_19 ?_
    first | exact bq_t hq ⟨Int32.not_lt.mp h1, Int32.not_le.mp h11⟩ | exact bq_f hq (fun q => absurd h1 (Int32.not_lt.mpr q.1)) | exact bq_f hq (fun q => absurd h11 (Int32.not_le.mpr q.2))
  · refine wp_iload_n dX12_isSet_4 rfl ?_
    refine wp_iconst (v := 1) dX12_isSet_5 (by decide) ?_
    refine wp_aload_n dX12_isSet_6 rfl ?_
    refine wp_geti dX12_isSet_7 fl_RX12_132 rfl (fk_33 hF) ?_
    rw [hn]
    refine wp_ishl dX12_isSet_10 ?_
    refine wp_icmp_ge (tgt := 18) dX12_isSet_11 (by decide) (fun h11 => ?_) (fun h11 => ?_)
    · refine wp_iconst (v := 0) dX12_isSet_18 (by decide) ?_
      refine wp_zreturn rfl (Or.inl rfl) dX12_isSet_19 ?_
      first | exact bq_t hq ⟨Int32.not_lt.mp h1, Int32.not_le.mp h11⟩ | exact bq_f hq (fun q => absurd h1 (Int32.not_lt.mpr q.1)) | exact bq_f hq (fun q => absurd h11 (Int32.not_le.mpr q.2))
    · refine wp_iconst (v := 1) dX12_isSet_14 (by decide) ?_
      refine wp_goto (tgt := 19) dX12_isSet_15 (by decide) ?_
      refine wp_zreturn rfl (Or.inr rfl) dX12_isSet_19 ?_
      first | exact bq_t hq ⟨Int32.not_lt.mp h1, Int32.not_le.mp h11⟩ | exact bq_f hq (fun q => absurd h1 (Int32.not_lt.mpr q.1)) | exact bq_f hq (fun q => absurd h11 (Int32.not_le.mpr q.2))
theorem c_X12_match {d n : Nat} {x : Int32} {H : PH} {Q : Option Value → PH → Prop} (hF : Fix H) (hn : hI H 33 0 = nI n) (h16 : n ≤ 16) (hq : Q (some (.int (bI (isSetP n x ∧ 1 < mny x 16 ∧ mdAll H n n x)))) H) : Wp mX12_match (d + 2) 0 0 0 [some (.ref 33), some (.int x)] [] H Q := by
  refine wp_aload_n dX12_match_0 rfl ?_
  refine wp_iload_n dX12_match_1 rfl ?_
  refine wp_callv1 (ci := 12) dX12_match_2 lk_RX12_149 ok_X12_isSet im_X12_isSet se_X12_isSet rfl rfl (fk_33 hF) (Nat.le_of_ble_eq_true rfl) (Nat.le_of_ble_eq_true rfl) ?_
  refine c_X12_isSet hF hn ?_
  refine wp_ifb_eq (tgt := 28) dX12_match_5 (by decide) (fun h5 => ?_) (fun h5 => ?_)
  · refine wp_iconst (v := 0) dX12_match_28 (by decide) ?_
    refine wp_zreturn rfl (Or.inl rfl) dX12_match_29 ?_
    first | exact bq_t hq ⟨h5, Int32.not_le.mp h13, h21⟩ | exact bq_f hq (fun q => h5 q.1) | exact bq_f hq (fun q => absurd h13 (Int32.not_le.mpr q.2.1)) | exact bq_f hq (fun q => h21 q.2.2)
  · refine wp_iload_n dX12_match_8 rfl ?_
    refine wp_calls1 dX12_match_9 lk_RX12_152 ok_X12_many st_X12_many (Nat.le_of_ble_eq_true rfl) (Nat.le_of_ble_eq_true rfl) ?_
    refine c_X12_many ?_
    refine wp_iconst (v := 1) dX12_match_12 (by decide) ?_
    refine wp_icmp_le (tgt := 28) dX12_match_13 (by decide) (fun h13 => ?_) (fun h13 => ?_)
    · refine wp_iconst (v := 0) dX12_match_28 (by decide) ?_
      refine wp_zreturn rfl (Or.inl rfl) dX12_match_29 ?_
      first | exact bq_t hq ⟨h5, Int32.not_le.mp h13, h21⟩ | exact bq_f hq (fun q => h5 q.1) | exact bq_f hq (fun q => absurd h13 (Int32.not_le.mpr q.2.1)) | exact bq_f hq (fun q => h21 q.2.2)
    · refine wp_aload_n dX12_match_16 rfl ?_
      refine wp_iload_n dX12_match_17 rfl ?_
      refine wp_callv1 (ci := 12) dX12_match_18 lk_RX12_156 ok_X12_doMatch im_X12_doMatch se_X12_doMatch rfl rfl (fk_33 hF) (Nat.le_of_ble_eq_true rfl) (Nat.le_of_ble_eq_true rfl) ?_
      refine c_X12_doMatch hF hn h16 ?_
      refine wp_ifb_eq (tgt := 28) dX12_match_21 (by decide) (fun h21 => ?_) (fun h21 => ?_)
      · refine wp_iconst (v := 0) dX12_match_28 (by decide) ?_
        refine wp_zreturn rfl (Or.inl rfl) dX12_match_29 ?_
        first | exact bq_t hq ⟨h5, Int32.not_le.mp h13, h21⟩ | exact bq_f hq (fun q => h5 q.1) | exact bq_f hq (fun q => absurd h13 (Int32.not_le.mpr q.2.1)) | exact bq_f hq (fun q => h21 q.2.2)
      · refine wp_iconst (v := 1) dX12_match_24 (by decide) ?_
        refine wp_goto (tgt := 29) dX12_match_25 (by decide) ?_
        refine wp_zreturn rfl (Or.inr rfl) dX12_match_29 ?_
        first | exact bq_t hq ⟨h5, Int32.not_le.mp h13, h21⟩ | exact bq_f hq (fun q => h5 q.1) | exact bq_f hq (fun q => absurd h13 (Int32.not_le.mpr q.2.1)) | exact bq_f hq (fun q => h21 q.2.2)
