/-! ===== the reference's operand ===== -/
section MQ
variable {d : Nat} {H : PH} {Q : Option Value → PH → Prop} {bf : Nat → Int32} {N s v : Nat} {o : OL} {W : List Nat} {H1 : PH}
theorem MR_bd (hM : MR H bf N s v o W H1) : s ≤ N ∧ N ≤ 600 := ⟨hM.2.2.2.1, hM.2.1.1.1⟩
theorem srt_lt (hB : BF bf N) (s : Nat) : srt bf N s < 100 := by
  have h := tk_srt hB (s := s)
  have h2 := tk62 hB s
  rcases h.2.2.2.2.2.2 with z | z
  · omega
  · have := h.2.2.2.2.2.1 (Or.inr z); omega
/-- a fault is told -/
theorem c_X12_wrong {k : Nat} (hk1 : 1 ≤ k) (hk3 : k ≤ 3) (hF : Fix H) (hM : MR H bf N s v o W H1) (hq : ∀ H', MB H (if tkA bf N s = 8 then 1 else k, s) H' → Q none H') : Wp mX12_wrong d 0 0 0 [some (.ref 33), some (.int (nI k))] [] H1 Q := by
  have hF1 := MR_fix hF hM
  have hB := hM.2.1.1
  have h45 := hM.2.2.1.1
  have h46 := hM.2.2.1.2.1
  have h41 := hM.2.2.2.2.2.2.2.2.1
  have hs := srt_lt hB s
  have hts := (tk_srt hB (s := s)).2.1
  have go : ∀ j : Nat, 1 ≤ j → j ≤ 3 → MB H (j, s) (sI (sI H1 33 41 (nI j)) 33 42 (nI s)) := fun j j1 j3 => ⟨eqM_sI (eqM_sI hM.1 (by unfold isMr; omega)) (by unfold isMr; omega), by rw [hI_sI', if_neg (by omega), hI_sI', if_pos ⟨rfl, rfl⟩], j1, j3, by rw [hI_sI', if_pos ⟨rfl, rfl⟩]⟩
  by_cases h3 : srt bf N s = 3
  · rw [if_pos (hts.mpr h3)] at hq
    refine wp_aload_n dX12_wrong_0 rfl ?_
    refine wp_geti dX12_wrong_1 fl_RX12_250 rfl (fk_33 hF1) ?_
    rw [h41]
    refine wp_if_le (tgt := 8) dX12_wrong_4 (by decide) (fun _ => ?_) (fun h4 => absurd h4 (fun q => q (by decide)))
    refine wp_aload_n dX12_wrong_8 rfl ?_
    refine wp_aload_n dX12_wrong_9 rfl ?_
    refine wp_geti dX12_wrong_10 fl_RX12_238 rfl (fk_33 hF1) ?_
    rw [h45, h3]
    refine wp_iconst (v := 3) dX12_wrong_13 (by decide) ?_
    refine wp_icmp_ne (tgt := 21) dX12_wrong_14 (by decide) (fun h14 => absurd h14 (fun q => q rfl)) (fun _ => ?_)
    refine wp_iconst (v := 1) dX12_wrong_17 (by decide) ?_
    refine wp_goto (tgt := 22) dX12_wrong_18 (by decide) ?_
    refine wp_puti dX12_wrong_22 fl_RX12_250 (mp_12_41 _ _) rfl (fk_33 hF1) ?_
    refine wp_aload_n dX12_wrong_25 rfl ?_
    refine wp_aload_n dX12_wrong_26 rfl ?_
    refine wp_geti dX12_wrong_27 fl_RX12_228 rfl (fk_33 (Fix_sI hF1)) ?_
    rw [hI_sI', if_neg (by omega), h46]
    refine wp_puti dX12_wrong_30 fl_RX12_105 (mp_12_42 _ _) rfl (fk_33 (Fix_sI hF1)) ?_
    refine wp_return rfl dX12_wrong_33 ?_
    exact hq _ (go 1 (by decide) (by decide))
  · rw [if_neg (fun z => h3 (hts.mp z))] at hq
    refine wp_aload_n dX12_wrong_0 rfl ?_
    refine wp_geti dX12_wrong_1 fl_RX12_250 rfl (fk_33 hF1) ?_
    rw [h41]
    refine wp_if_le (tgt := 8) dX12_wrong_4 (by decide) (fun _ => ?_) (fun h4 => absurd h4 (fun q => q (by decide)))
    refine wp_aload_n dX12_wrong_8 rfl ?_
    refine wp_aload_n dX12_wrong_9 rfl ?_
    refine wp_geti dX12_wrong_10 fl_RX12_238 rfl (fk_33 hF1) ?_
    rw [h45]
    refine wp_iconst (v := 3) dX12_wrong_13 (by decide) ?_
    refine wp_icmp_ne (tgt := 21) dX12_wrong_14 (by decide) (fun _ => ?_) (fun h14 => absurd h14 (fun q => h3 ((nI_eq (a := srt bf N s) (b := 3) (by omega) (by decide)).mp q)))
    refine wp_iload_n dX12_wrong_21 rfl ?_
    refine wp_puti dX12_wrong_22 fl_RX12_250 (mp_12_41 _ _) rfl (fk_33 hF1) ?_
    refine wp_aload_n dX12_wrong_25 rfl ?_
    refine wp_aload_n dX12_wrong_26 rfl ?_
    refine wp_geti dX12_wrong_27 fl_RX12_228 rfl (fk_33 (Fix_sI hF1)) ?_
    rw [hI_sI', if_neg (by omega), h46]
    refine wp_puti dX12_wrong_30 fl_RX12_105 (mp_12_42 _ _) rfl (fk_33 (Fix_sI hF1)) ?_
    refine wp_return rfl dX12_wrong_33 ?_
    exact hq _ (go k hk1 hk3)
theorem c_X12_isWord {x : Int64} (hF : Fix H) (hM : MR H bf N s v o W H1) (hq : Q (some (.int (bI (srt bf N s = 1 ∧ wvI bf s (le bf N s - s) = x)))) H1) : Wp mX12_isWord d 0 0 0 [some (.ref 33), some (.long x), none] [] H1 Q := by
  have hF1 := MR_fix hF hM
  have hB := hM.2.1.1
  have h45 := hM.2.2.1.1
  have hs := srt_lt hB s
  by_cases h1 : srt bf N s = 1
  · have hw := (hM.2.2.1.2.2.2.1 h1).1
    refine wp_aload_n dX12_isWord_0 rfl ?_
    refine wp_geti dX12_isWord_1 fl_RX12_238 rfl (fk_33 hF1) ?_
    rw [h45, h1]
    refine wp_iconst (v := 1) dX12_isWord_4 (by decide) ?_
    refine wp_icmp_ne (tgt := 21) dX12_isWord_5 (by decide) (fun h5 => absurd h5 (fun q => q rfl)) (fun _ => ?_)
    refine wp_aload_n dX12_isWord_8 rfl ?_
    refine wp_getl dX12_isWord_9 fl_RX12_231 rfl (fk_33 hF1) ?_
    rw [hw]
    refine wp_lload_n dX12_isWord_12 rfl ?_
    refine wp_lcmp dX12_isWord_13 ?_
    refine wp_if_ne (tgt := 21) dX12_isWord_14 (by decide) (fun h14 => ?_) (fun h14 => ?_)
    · refine wp_iconst (v := 0) dX12_isWord_21 (by decide) ?_
      refine wp_zreturn rfl (Or.inl rfl) dX12_isWord_22 ?_
      first | exact bq_t hq ⟨h1, lce h14⟩ | exact bq_f hq (fun q => lcz h14 q.2)
    · refine wp_iconst (v := 1) dX12_isWord_17 (by decide) ?_
      refine wp_goto (tgt := 22) dX12_isWord_18 (by decide) ?_
      refine wp_zreturn rfl (Or.inr rfl) dX12_isWord_22 ?_
      first | exact bq_t hq ⟨h1, lce h14⟩ | exact bq_f hq (fun q => lcz h14 q.2)
  · have h1' := h1
    refine wp_aload_n dX12_isWord_0 rfl ?_
    refine wp_geti dX12_isWord_1 fl_RX12_238 rfl (fk_33 hF1) ?_
    rw [h45]
    refine wp_iconst (v := 1) dX12_isWord_4 (by decide) ?_
    refine wp_icmp_ne (tgt := 21) dX12_isWord_5 (by decide) (fun _ => ?_) (fun h5 => absurd h5 (fun q => h1 ((nI_eq (a := srt bf N s) (b := 1) (by omega) (by decide)).mp q)))
    refine wp_iconst (v := 0) dX12_isWord_21 (by decide) ?_
    refine wp_zreturn rfl (Or.inl rfl) dX12_isWord_22 ?_
    exact bq_f hq (fun q => h1 q.1)
theorem wd_is (hB : BF bf N) : (srt bf N s = 1 ∧ wvI bf s (le bf N s - s) = 2003330414 ↔ tkA bf N s = 1) ∧ (srt bf N s = 1 ∧ wvI bf s (le bf N s - s) = 482955846501 ↔ tkA bf N s = 2) ∧ (srt bf N s = 1 ∧ wvI bf s (le bf N s - s) = 28530 ↔ tkA bf N s = 3) ∧ (srt bf N s = 1 ∧ wvI bf s (le bf N s - s) = 6385252 ↔ tkA bf N s = 4) ∧ (srt bf N s = 1 ∧ wvI bf s (le bf N s - s) = 7237492 ↔ tkA bf N s = 5) := by
  have ht := (tk_srt hB (s := s)).2.2.2.1
  have h5 := (tk_srt hB (s := s)).2.2.2.2.1
  have aux : ∀ (k : Nat) (x : Int64), 1 ≤ k → k ≤ 6 → (∀ z, wtk z = k ↔ z = x) → (srt bf N s = 1 ∧ wvI bf s (le bf N s - s) = x ↔ tkA bf N s = k) := fun k x k1 k6 hz => by
    constructor
    · rintro ⟨a, b⟩
      rw [ht a, b]; exact (hz x).mpr rfl
    · intro e
      have a := h5.mp (by omega)
      exact ⟨a, (hz _).mp (by rw [← ht a]; exact e)⟩
  refine ⟨aux 1 _ (by decide) (by decide) (fun z => ?_), aux 2 _ (by decide) (by decide) (fun z => ?_), aux 3 _ (by decide) (by decide) (fun z => ?_), aux 4 _ (by decide) (by decide) (fun z => ?_), aux 5 _ (by decide) (by decide) (fun z => ?_)⟩ <;>
  · unfold wtk
    constructor
    · intro h
      repeat' split at h
      all_goals first | assumption | (exfalso; omega)
    · intro h
      subst h
      decide
theorem c_X12_named (hF : Fix H) (hM : MR H bf N s v o W H1) (h1 : srt bf N s = 1) (hq : Q (some (.int (if nmI (wvI bf s (le bf N s - s)) < 6 then nI (nmI (wvI bf s (le bf N s - s))) else -1))) H1) : Wp mX12_named d 0 0 0 [some (.ref 33)] [] H1 Q := by
  have hF1 := MR_fix hF hM
  have hw := (hM.2.2.1.2.2.2.1 h1).1
  generalize wvI bf s (le bf N s - s) = x at *
  unfold nmI at hq
  refine wp_aload_n dX12_named_0 rfl ?_
  refine wp_getl dX12_named_1 fl_RX12_231 rfl (fk_33 hF1) ?_
  rw [hw]
  refine wp_ldc2_w dX12_named_4 co_RX12_253 ?_
  refine wp_lcmp dX12_named_7 ?_
  refine wp_if_ne (tgt := 13) dX12_named_8 (by decide) (fun h8 => ?_) (fun h8 => ?_)
  · refine wp_aload_n dX12_named_13 rfl ?_
    refine wp_getl dX12_named_14 fl_RX12_231 rfl (fk_33 hF1) ?_
    rw [hw]
    refine wp_ldc2_w dX12_named_17 co_RX12_255 ?_
    refine wp_lcmp dX12_named_20 ?_
    refine wp_if_ne (tgt := 26) dX12_named_21 (by decide) (fun h21 => ?_) (fun h21 => ?_)
    · refine wp_aload_n dX12_named_26 rfl ?_
      refine wp_getl dX12_named_27 fl_RX12_231 rfl (fk_33 hF1) ?_
      rw [hw]
      refine wp_ldc2_w dX12_named_30 co_RX12_257 ?_
      refine wp_lcmp dX12_named_33 ?_
      refine wp_if_ne (tgt := 39) dX12_named_34 (by decide) (fun h34 => ?_) (fun h34 => ?_)
      · refine wp_aload_n dX12_named_39 rfl ?_
        refine wp_getl dX12_named_40 fl_RX12_231 rfl (fk_33 hF1) ?_
        rw [hw]
        refine wp_ldc2_w dX12_named_43 co_RX12_259 ?_
        refine wp_lcmp dX12_named_46 ?_
        refine wp_if_ne (tgt := 52) dX12_named_47 (by decide) (fun h47 => ?_) (fun h47 => ?_)
        · refine wp_aload_n dX12_named_52 rfl ?_
          refine wp_getl dX12_named_53 fl_RX12_231 rfl (fk_33 hF1) ?_
          rw [hw]
          refine wp_ldc2_w dX12_named_56 co_RX12_261 ?_
          refine wp_lcmp dX12_named_59 ?_
          refine wp_if_ne (tgt := 65) dX12_named_60 (by decide) (fun h60 => ?_) (fun h60 => ?_)
          · refine wp_aload_n dX12_named_65 rfl ?_
            refine wp_getl dX12_named_66 fl_RX12_231 rfl (fk_33 hF1) ?_
            rw [hw]
            refine wp_ldc2_w dX12_named_69 co_RX12_263 ?_
            refine wp_lcmp dX12_named_72 ?_
            refine wp_if_ne (tgt := 80) dX12_named_73 (by decide) (fun h73 => ?_) (fun h73 => ?_)
            · refine wp_iconst (v := -1) dX12_named_80 (by decide) ?_
              refine wp_ireturn rfl dX12_named_81 ?_
              first | (rw [if_neg (lcz h8), if_neg (lcz h21), if_neg (lcz h34), if_neg (lcz h47), if_neg (lcz h60), if_pos (lce h73)] at hq; exact hq) | (rw [if_neg (lcz h8), if_neg (lcz h21), if_neg (lcz h34), if_neg (lcz h47), if_neg (lcz h60), if_neg (lcz h73)] at hq; exact hq)
            · refine wp_iconst (v := 5) dX12_named_76 (by decide) ?_
              refine wp_goto (tgt := 81) dX12_named_77 (by decide) ?_
              refine wp_ireturn rfl dX12_named_81 ?_
              first | (rw [if_neg (lcz h8), if_neg (lcz h21), if_neg (lcz h34), if_neg (lcz h47), if_neg (lcz h60), if_pos (lce h73)] at hq; exact hq) | (rw [if_neg (lcz h8), if_neg (lcz h21), if_neg (lcz h34), if_neg (lcz h47), if_neg (lcz h60), if_neg (lcz h73)] at hq; exact hq)
          · refine wp_iconst (v := 4) dX12_named_63 (by decide) ?_
            refine wp_ireturn rfl dX12_named_64 ?_
            rw [if_neg (lcz h8), if_neg (lcz h21), if_neg (lcz h34), if_neg (lcz h47), if_pos (lce h60)] at hq; exact hq
        · refine wp_iconst (v := 3) dX12_named_50 (by decide) ?_
          refine wp_ireturn rfl dX12_named_51 ?_
          rw [if_neg (lcz h8), if_neg (lcz h21), if_neg (lcz h34), if_pos (lce h47)] at hq; exact hq
      · refine wp_iconst (v := 2) dX12_named_37 (by decide) ?_
        refine wp_ireturn rfl dX12_named_38 ?_
        rw [if_neg (lcz h8), if_neg (lcz h21), if_pos (lce h34)] at hq; exact hq
    · refine wp_iconst (v := 1) dX12_named_24 (by decide) ?_
      refine wp_ireturn rfl dX12_named_25 ?_
      rw [if_neg (lcz h8), if_pos (lce h21)] at hq; exact hq
  · refine wp_iconst (v := 0) dX12_named_11 (by decide) ?_
    refine wp_ireturn rfl dX12_named_12 ?_
    rw [if_pos (lce h8)] at hq; exact hq
/-- the next token, in the reference's state -/
theorem c_nextM (hF : Fix H) (hM : MR H bf N s v o W H1) (h0 : tkA bf N s ≠ 0) (h8 : tkA bf N s ≠ 8) (hq : ∀ H', MR H bf N (nxtT bf N s) v o W H' → Q none H') : Wp mX12_next (d + 1) 0 0 0 [some (.ref 33), none, none] [] H1 Q := by
  have hF1 := MR_fix hF hM
  obtain ⟨h1, h2, h3, h4, h5, h6, h7, h8', h9, h10⟩ := hM
  obtain ⟨n1, n2, n3, n4⟩ := nxt_gt h2.1 h4 h0 h8
  have hs3 : ¬ srt bf N s = 3 := fun z => h8 ((tk_srt h2.1).2.1.mpr z)
  refine c_X12_next hF1 h2 n4 (by have := h3.2.2.1; rw [if_neg hs3] at this; exact this) (fun H' he ht => ?_)
  have q33 : ∀ k, k ≠ 43 → k ≠ 45 → k ≠ 46 → k ≠ 47 → hI H' 33 k = hI H1 33 k := fun k a b c e => he.2.2.2.1 33 k (by unfold isNx; omega)
  have qo : ∀ a k, a ≠ 33 → hI H' a k = hI H1 a k := fun a k ha => he.2.2.2.1 a k (by unfold isNx; omega)
  refine hq H' ⟨eqM_trans h1 (eqM_mono (fun a k z => by unfold isNx at z; unfold isMr; omega) he), MTp_nx he h2, ht, n3, by rw [q33 38 (by decide) (by decide) (by decide) (by decide)]; exact h5, h6, ⟨by rw [q33 37 (by decide) (by decide) (by decide) (by decide)]; exact h7.1, fun i x hi => by rw [qo 58 i (by decide), qo 59 i (by decide)]; exact h7.2 i x hi⟩, ⟨by rw [q33 50 (by decide) (by decide) (by decide) (by decide)]; exact h8'.1, fun i x hi => by rw [qo 62 i (by decide)]; exact h8'.2.1 i x hi, by rw [q33 51 (by decide) (by decide) (by decide) (by decide)]; exact h8'.2.2⟩, by rw [q33 41 (by decide) (by decide) (by decide) (by decide)]; exact h9, by rw [q33 42 (by decide) (by decide) (by decide) (by decide)]; exact h10⟩
/-- up to place 87 of operand -/
theorem l_oper1 {u : Int32} (hF : Fix H) (hM : MR H bf N s v o W H1) (kk : ∀ kx : Int32, Wp mX12_operand d 0 0 87 [some (.ref 33), some (.int u), some (.int kx), some (.int (bI (tkA bf N s = 7 ∨ tkA bf N s = 6))), none] [] H1 Q) : Wp mX12_operand d 0 0 0 [some (.ref 33), some (.int u), none, none, none] [] H1 Q := by
  have hF1 := MR_fix hF hM
  have hB := hM.2.1.1
  have h45 := hM.2.2.1.1
  have hs := srt_lt hB s
  have hsI : ∀ k : Nat, k < 100 → (nI (srt bf N s) = nI k ↔ srt bf N s = k) := fun k hk => nI_eq (by omega) (by omega)
  have t := tk_srt hB (s := s)
  have mid : ∀ kx : Int32, (srt bf N s = 1 → (kx = 0 ↔ tkA bf N s = 6)) → Wp mX12_operand d 0 0 60 [some (.ref 33), some (.int u), none, none, none] [.int kx] H1 Q := by
    intro kx hkx
    have hk := kk kx
    have hkT : (tkA bf N s = 7 ∨ tkA bf N s = 6) → Wp mX12_operand d 0 0 87 [some (.ref 33), some (.int u), some (.int kx), some (.int 1), none] [] H1 Q := fun h => by rw [bI_t h] at hk; exact hk
    have hkF : ¬ (tkA bf N s = 7 ∨ tkA bf N s = 6) → Wp mX12_operand d 0 0 87 [some (.ref 33), some (.int u), some (.int kx), some (.int 0), none] [] H1 Q := fun h => by rw [bI_f h] at hk; exact hk
    refine wp_istore_n dX12_operand_60 (by decide) ?_
    refine wp_aload_n dX12_operand_61 rfl ?_
    refine wp_geti dX12_operand_62 fl_RX12_238 rfl (fk_33 hF1) ?_
    rw [h45]
    refine wp_iconst (v := 2) dX12_operand_65 (by decide) ?_
    refine wp_icmp_eq (tgt := 81) dX12_operand_66 (by decide) (fun h66 => ?_) (fun h66 => ?_)
    · refine wp_iconst (v := 1) dX12_operand_81 (by decide) ?_
      refine wp_goto (tgt := 86) dX12_operand_82 (by decide) ?_
      refine wp_istore_n dX12_operand_86 (by decide) ?_
      first
          | exact hkT (Or.inl (t.1.mpr ((hsI 2 (by decide)).mp h66)))
          | exact hkT (Or.inr ((hkx ((hsI 1 (by decide)).mp h74)).mp h78))
          | exact hkF (fun z => z.elim (fun y => h66 ((hsI 2 (by decide)).mpr (t.1.mp y))) (fun y => h78 ((hkx ((hsI 1 (by decide)).mp h74)).mpr y)))
          | exact hkF (fun z => z.elim (fun y => h66 ((hsI 2 (by decide)).mpr (t.1.mp y))) (fun y => h74 ((hsI 1 (by decide)).mpr (t.2.2.2.2.1.mp (by omega)))))
    · refine wp_aload_n dX12_operand_69 rfl ?_
      refine wp_geti dX12_operand_70 fl_RX12_238 rfl (fk_33 hF1) ?_
      rw [h45]
      refine wp_iconst (v := 1) dX12_operand_73 (by decide) ?_
      refine wp_icmp_ne (tgt := 85) dX12_operand_74 (by decide) (fun h74 => ?_) (fun h74 => ?_)
      · refine wp_iconst (v := 0) dX12_operand_85 (by decide) ?_
        refine wp_istore_n dX12_operand_86 (by decide) ?_
        first
            | exact hkT (Or.inl (t.1.mpr ((hsI 2 (by decide)).mp h66)))
            | exact hkT (Or.inr ((hkx ((hsI 1 (by decide)).mp h74)).mp h78))
            | exact hkF (fun z => z.elim (fun y => h66 ((hsI 2 (by decide)).mpr (t.1.mp y))) (fun y => h78 ((hkx ((hsI 1 (by decide)).mp h74)).mpr y)))
            | exact hkF (fun z => z.elim (fun y => h66 ((hsI 2 (by decide)).mpr (t.1.mp y))) (fun y => h74 ((hsI 1 (by decide)).mpr (t.2.2.2.2.1.mp (by omega)))))
      · refine wp_iload_n dX12_operand_77 rfl ?_
        refine wp_if_ne (tgt := 85) dX12_operand_78 (by decide) (fun h78 => ?_) (fun h78 => ?_)
        · refine wp_iconst (v := 0) dX12_operand_85 (by decide) ?_
          refine wp_istore_n dX12_operand_86 (by decide) ?_
          first
              | exact hkT (Or.inl (t.1.mpr ((hsI 2 (by decide)).mp h66)))
              | exact hkT (Or.inr ((hkx ((hsI 1 (by decide)).mp h74)).mp h78))
              | exact hkF (fun z => z.elim (fun y => h66 ((hsI 2 (by decide)).mpr (t.1.mp y))) (fun y => h78 ((hkx ((hsI 1 (by decide)).mp h74)).mpr y)))
              | exact hkF (fun z => z.elim (fun y => h66 ((hsI 2 (by decide)).mpr (t.1.mp y))) (fun y => h74 ((hsI 1 (by decide)).mpr (t.2.2.2.2.1.mp (by omega)))))
        · refine wp_iconst (v := 1) dX12_operand_81 (by decide) ?_
          refine wp_goto (tgt := 86) dX12_operand_82 (by decide) ?_
          refine wp_istore_n dX12_operand_86 (by decide) ?_
          first
              | exact hkT (Or.inl (t.1.mpr ((hsI 2 (by decide)).mp h66)))
              | exact hkT (Or.inr ((hkx ((hsI 1 (by decide)).mp h74)).mp h78))
              | exact hkF (fun z => z.elim (fun y => h66 ((hsI 2 (by decide)).mpr (t.1.mp y))) (fun y => h78 ((hkx ((hsI 1 (by decide)).mp h74)).mpr y)))
              | exact hkF (fun z => z.elim (fun y => h66 ((hsI 2 (by decide)).mpr (t.1.mp y))) (fun y => h74 ((hsI 1 (by decide)).mpr (t.2.2.2.2.1.mp (by omega)))))
  have hw : srt bf N s = 1 → hL H1 33 48 = wvI bf s (le bf N s - s) ∧ tkA bf N s = wtk (wvI bf s (le bf N s - s)) := fun h => ⟨(hM.2.2.1.2.2.2.1 h).1, t.2.2.2.1 h⟩
  have w6 : ∀ x : Int64, wtk x = 6 ↔ ¬ (x = 2003330414 ∨ x = 482955846501 ∨ x = 28530 ∨ x = 6385252 ∨ x = 7237492) := fun x => by
    unfold wtk
    constructor
    · intro h
      repeat' split at h
      all_goals first | omega | (rintro (z | z | z | z | z) <;> contradiction)
    · intro h
      rw [if_neg (fun z => h (Or.inl z)), if_neg (fun z => h (Or.inr (Or.inl z))), if_neg (fun z => h (Or.inr (Or.inr (Or.inl z)))), if_neg (fun z => h (Or.inr (Or.inr (Or.inr (Or.inl z))))), if_neg (fun z => h (Or.inr (Or.inr (Or.inr (Or.inr z)))))]
  have yes : (hL H1 33 48 = 2003330414 ∨ hL H1 33 48 = 482955846501 ∨ hL H1 33 48 = 28530 ∨ hL H1 33 48 = 6385252 ∨ hL H1 33 48 = 7237492) → srt bf N s = 1 → ((1 : Int32) = 0 ↔ tkA bf N s = 6) := fun h h1 => ⟨fun z => absurd z (by decide), fun z => by
    obtain ⟨a, b⟩ := hw h1
    rw [b] at z
    rw [a] at h
    exact absurd h ((w6 _).mp z)⟩
  have no : ¬ (hL H1 33 48 = 2003330414 ∨ hL H1 33 48 = 482955846501 ∨ hL H1 33 48 = 28530 ∨ hL H1 33 48 = 6385252 ∨ hL H1 33 48 = 7237492) → srt bf N s = 1 → ((0 : Int32) = 0 ↔ tkA bf N s = 6) := fun h h1 => ⟨fun _ => by
    obtain ⟨a, b⟩ := hw h1
    rw [a] at h
    rw [b]; exact (w6 _).mpr h, fun _ => rfl⟩
  refine wp_aload_n dX12_operand_0 rfl ?_
  refine wp_getl dX12_operand_1 fl_RX12_231 rfl (fk_33 hF1) ?_
  refine wp_ldc2_w dX12_operand_4 co_RX12_300 ?_
  refine wp_lcmp dX12_operand_7 ?_
  refine wp_if_eq (tgt := 55) dX12_operand_8 (by decide) (fun h8 => ?_) (fun h8 => ?_)
  · refine wp_iconst (v := 1) dX12_operand_55 (by decide) ?_
    refine wp_goto (tgt := 60) dX12_operand_56 (by decide) ?_
    first
        | exact mid 1 (yes (Or.inl (lce h8)))
        | exact mid 1 (yes (Or.inr (Or.inl (lce h19))))
        | exact mid 1 (yes (Or.inr (Or.inr (Or.inl (lce h30)))))
        | exact mid 1 (yes (Or.inr (Or.inr (Or.inr (Or.inl (lce h41))))))
        | exact mid 1 (yes (Or.inr (Or.inr (Or.inr (Or.inr (lce h52))))))
        | exact mid 0 (no (fun z => by rcases z with z | z | z | z | z <;> first | exact lcz h8 z | exact lcz h19 z | exact lcz h30 z | exact lcz h41 z | exact lcz h52 z))
  · refine wp_aload_n dX12_operand_11 rfl ?_
    refine wp_getl dX12_operand_12 fl_RX12_231 rfl (fk_33 hF1) ?_
    refine wp_ldc2_w dX12_operand_15 co_RX12_284 ?_
    refine wp_lcmp dX12_operand_18 ?_
    refine wp_if_eq (tgt := 55) dX12_operand_19 (by decide) (fun h19 => ?_) (fun h19 => ?_)
    · refine wp_iconst (v := 1) dX12_operand_55 (by decide) ?_
      refine wp_goto (tgt := 60) dX12_operand_56 (by decide) ?_
      first
          | exact mid 1 (yes (Or.inl (lce h8)))
          | exact mid 1 (yes (Or.inr (Or.inl (lce h19))))
          | exact mid 1 (yes (Or.inr (Or.inr (Or.inl (lce h30)))))
          | exact mid 1 (yes (Or.inr (Or.inr (Or.inr (Or.inl (lce h41))))))
          | exact mid 1 (yes (Or.inr (Or.inr (Or.inr (Or.inr (lce h52))))))
          | exact mid 0 (no (fun z => by rcases z with z | z | z | z | z <;> first | exact lcz h8 z | exact lcz h19 z | exact lcz h30 z | exact lcz h41 z | exact lcz h52 z))
    · refine wp_aload_n dX12_operand_22 rfl ?_
      refine wp_getl dX12_operand_23 fl_RX12_231 rfl (fk_33 hF1) ?_
      refine wp_ldc2_w dX12_operand_26 co_RX12_302 ?_
      refine wp_lcmp dX12_operand_29 ?_
      refine wp_if_eq (tgt := 55) dX12_operand_30 (by decide) (fun h30 => ?_) (fun h30 => ?_)
      · refine wp_iconst (v := 1) dX12_operand_55 (by decide) ?_
        refine wp_goto (tgt := 60) dX12_operand_56 (by decide) ?_
        first
            | exact mid 1 (yes (Or.inl (lce h8)))
            | exact mid 1 (yes (Or.inr (Or.inl (lce h19))))
            | exact mid 1 (yes (Or.inr (Or.inr (Or.inl (lce h30)))))
            | exact mid 1 (yes (Or.inr (Or.inr (Or.inr (Or.inl (lce h41))))))
            | exact mid 1 (yes (Or.inr (Or.inr (Or.inr (Or.inr (lce h52))))))
            | exact mid 0 (no (fun z => by rcases z with z | z | z | z | z <;> first | exact lcz h8 z | exact lcz h19 z | exact lcz h30 z | exact lcz h41 z | exact lcz h52 z))
      · refine wp_aload_n dX12_operand_33 rfl ?_
        refine wp_getl dX12_operand_34 fl_RX12_231 rfl (fk_33 hF1) ?_
        refine wp_ldc2_w dX12_operand_37 co_RX12_304 ?_
        refine wp_lcmp dX12_operand_40 ?_
        refine wp_if_eq (tgt := 55) dX12_operand_41 (by decide) (fun h41 => ?_) (fun h41 => ?_)
        · refine wp_iconst (v := 1) dX12_operand_55 (by decide) ?_
          refine wp_goto (tgt := 60) dX12_operand_56 (by decide) ?_
          first
              | exact mid 1 (yes (Or.inl (lce h8)))
              | exact mid 1 (yes (Or.inr (Or.inl (lce h19))))
              | exact mid 1 (yes (Or.inr (Or.inr (Or.inl (lce h30)))))
              | exact mid 1 (yes (Or.inr (Or.inr (Or.inr (Or.inl (lce h41))))))
              | exact mid 1 (yes (Or.inr (Or.inr (Or.inr (Or.inr (lce h52))))))
              | exact mid 0 (no (fun z => by rcases z with z | z | z | z | z <;> first | exact lcz h8 z | exact lcz h19 z | exact lcz h30 z | exact lcz h41 z | exact lcz h52 z))
        · refine wp_aload_n dX12_operand_44 rfl ?_
          refine wp_getl dX12_operand_45 fl_RX12_231 rfl (fk_33 hF1) ?_
          refine wp_ldc2_w dX12_operand_48 co_RX12_306 ?_
          refine wp_lcmp dX12_operand_51 ?_
          refine wp_if_ne (tgt := 59) dX12_operand_52 (by decide) (fun h52 => ?_) (fun h52 => ?_)
          · refine wp_iconst (v := 0) dX12_operand_59 (by decide) ?_
            first
                | exact mid 1 (yes (Or.inl (lce h8)))
                | exact mid 1 (yes (Or.inr (Or.inl (lce h19))))
                | exact mid 1 (yes (Or.inr (Or.inr (Or.inl (lce h30)))))
                | exact mid 1 (yes (Or.inr (Or.inr (Or.inr (Or.inl (lce h41))))))
                | exact mid 1 (yes (Or.inr (Or.inr (Or.inr (Or.inr (lce h52))))))
                | exact mid 0 (no (fun z => by rcases z with z | z | z | z | z <;> first | exact lcz h8 z | exact lcz h19 z | exact lcz h30 z | exact lcz h41 z | exact lcz h52 z))
          · refine wp_iconst (v := 1) dX12_operand_55 (by decide) ?_
            refine wp_goto (tgt := 60) dX12_operand_56 (by decide) ?_
            first
                | exact mid 1 (yes (Or.inl (lce h8)))
                | exact mid 1 (yes (Or.inr (Or.inl (lce h19))))
                | exact mid 1 (yes (Or.inr (Or.inr (Or.inl (lce h30)))))
                | exact mid 1 (yes (Or.inr (Or.inr (Or.inr (Or.inl (lce h41))))))
                | exact mid 1 (yes (Or.inr (Or.inr (Or.inr (Or.inr (lce h52))))))
                | exact mid 0 (no (fun z => by rcases z with z | z | z | z | z <;> first | exact lcz h8 z | exact lcz h19 z | exact lcz h30 z | exact lcz h41 z | exact lcz h52 z))
end MQ
