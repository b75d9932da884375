/-! ===== the next token: class and reference ===== -/
section AD
variable {d : Nat} {H : PH} {Q : Option Value → PH → Prop} {bf : Nat → Int32} {N : Nat}
/-- the class stands at the token at s -/
def cTok (bf : Nat → Int32) (N s : Nat) (H : PH) : Prop := hI H 16 7 = nI (nxA bf N s) ∧ hI H 16 8 = nI (tkA bf N s) ∧ hI H 16 9 = nI s ∧ ((tkA bf N s = 6 ∨ tkA bf N s = 7) → hI H 16 10 = cdA bf N s) ∧ hI H 16 11 = 0
theorem sg_n {x : Int32} {b : Nat} (hb : b < 256) (hx : x = nI b) (h : sgB x = true) : x.toNatClampNeg = b ∧ 40 ≤ b ∧ b ≤ 62 := by
  subst hx
  unfold sgB at h
  rw [decide_eq_true_iff] at h
  refine ⟨nI_clamp (by omega), ?_⟩
  have l : ∀ k : Nat, k < 256 → ((nI k ≤ nI b ↔ k ≤ b) ∧ (nI b ≤ nI k ↔ b ≤ k) ∧ (nI b = nI k ↔ b = k)) := fun k hk => ⟨nI_leI (by omega) (by omega), nI_leI (by omega) (by omega), nI_eq (by omega) (by omega)⟩
  rcases h with h | h | h | h | h
  · have := (l 59 (by decide)).2.2.mp h; omega
  · have h1 := (l 60 (by decide)).1.mp h.1; have h2 := (l 62 (by decide)).2.1.mp h.2; omega
  · have h1 := (l 40 (by decide)).1.mp h.1; have h2 := (l 43 (by decide)).2.1.mp h.2; omega
  · have := (l 45 (by decide)).2.2.mp h; omega
  · have := (l 47 (by decide)).2.2.mp h; omega
theorem bf_m1 (hB : BF bf N) {s : Nat} : bf s = -1 ↔ N ≤ s := by
  constructor
  · intro h
    rcases Nat.lt_or_ge s N with z | z
    · obtain ⟨b, b1, b2⟩ := hB.2.1 s z
      rw [b2] at h
      exact absurd h (nI_m1 (by omega))
    · exact z
  · exact hB.2.2 s
theorem wtk_in (x : Int64) : 1 ≤ wtk x ∧ wtk x ≤ 6 := by
  unfold wtk
  repeat (split; · decide)
  decide
/-- what the token at s is, by its first byte -/
theorem tk_end (hB : BF bf N) {s : Nat} (h : N ≤ s) : srt bf N s = 0 ∧ tkA bf N s = 0 ∧ nxA bf N s = s := by
  have e : srt bf N s = 0 := by unfold srt; rw [if_pos ((bf_m1 hB).mpr h)]
  exact ⟨e, by unfold tkA; rw [if_pos e], by unfold nxA; rw [if_pos e]⟩
theorem tk_word (hB : BF bf N) {s : Nat} (h : s < N) (hl : ltB (bf s) = true) : (le bf N s - s ≤ 8 → srt bf N s = 1 ∧ tkA bf N s = wtk (wvI bf s (le bf N s - s)) ∧ nxA bf N s = le bf N s ∧ cdA bf N s = ncd (wvI bf s (le bf N s - s))) ∧ (¬ le bf N s - s ≤ 8 → srt bf N s = 3 ∧ tkA bf N s = 8) := by
  have e0 : ¬ bf s = -1 := fun z => by have := (bf_m1 hB).mp z; omega
  constructor
  · intro q
    have e : srt bf N s = 1 := by unfold srt; rw [if_neg e0, if_pos hl, if_pos q]
    exact ⟨e, by unfold tkA; rw [if_neg (by omega), if_pos e], by unfold nxA; rw [if_neg (by omega), if_pos e], by unfold cdA; rw [if_pos e]⟩
  · intro q
    have e : srt bf N s = 3 := by unfold srt; rw [if_neg e0, if_pos hl, if_neg q]
    exact ⟨e, by unfold tkA; rw [if_neg (by omega), if_neg (by omega), if_neg (by omega), if_pos e]⟩
theorem tk_num (hB : BF bf N) {s : Nat} (h : s < N) (hl : ¬ ltB (bf s) = true) (hd : dgB (bf s) = true) : ((de bf N s - s ≤ 6 ∧ ltB (bf (de bf N s)) = false) → srt bf N s = 2 ∧ tkA bf N s = 7 ∧ nxA bf N s = de bf N s ∧ cdA bf N s = nvI bf s (de bf N s - s)) ∧ (¬ (de bf N s - s ≤ 6 ∧ ltB (bf (de bf N s)) = false) → srt bf N s = 3 ∧ tkA bf N s = 8) := by
  have e0 : ¬ bf s = -1 := fun z => by have := (bf_m1 hB).mp z; omega
  constructor
  · intro q
    have e : srt bf N s = 2 := by unfold srt; rw [if_neg e0, if_neg hl, if_pos hd, if_pos q]
    exact ⟨e, by unfold tkA; rw [if_neg (by omega), if_neg (by omega), if_pos e], by unfold nxA; rw [if_neg (by omega), if_neg (by omega), if_pos e], by unfold cdA; rw [if_neg (by omega)]⟩
  · intro q
    have e : srt bf N s = 3 := by unfold srt; rw [if_neg e0, if_neg hl, if_pos hd, if_neg q]
    exact ⟨e, by unfold tkA; rw [if_neg (by omega), if_neg (by omega), if_neg (by omega), if_pos e]⟩
theorem tk_sign (hB : BF bf N) {s : Nat} (h : s < N) (hl : ¬ ltB (bf s) = true) (hd : ¬ dgB (bf s) = true) : (sgB (bf s) = true → bf s = nI (srt bf N s) ∧ 40 ≤ srt bf N s ∧ srt bf N s ≤ 62 ∧ tkA bf N s = srt bf N s ∧ nxA bf N s = s + 1) ∧ (¬ sgB (bf s) = true → srt bf N s = 3 ∧ tkA bf N s = 8) := by
  have e0 : ¬ bf s = -1 := fun z => by have := (bf_m1 hB).mp z; omega
  constructor
  · intro q
    obtain ⟨b, b1, b2⟩ := hB.2.1 s h
    obtain ⟨c1, c2, c3⟩ := sg_n b1 b2 q
    have e : srt bf N s = b := by unfold srt; rw [if_neg e0, if_neg hl, if_neg hd, if_pos q, c1]
    exact ⟨by rw [e]; exact b2, by omega, by omega, by unfold tkA; rw [if_neg (by omega), if_neg (by omega), if_neg (by omega), if_neg (by omega)], by unfold nxA; rw [if_neg (by omega), if_neg (by omega), if_neg (by omega)]⟩
  · intro q
    have e : srt bf N s = 3 := by unfold srt; rw [if_neg e0, if_neg hl, if_neg hd, if_neg q]
    exact ⟨e, by unfold tkA; rw [if_neg (by omega), if_neg (by omega), if_neg (by omega), if_pos e]⟩
theorem sk_bd {p : Nat} (hp : p ≤ N) : p ≤ sk bf N p ∧ sk bf N p ≤ N := by have := runP_ge bf blB (N - p) p; unfold sk; omega
/-- the token at s is taken -/
theorem l_X6_advance2 (hF : Fix H) (hT : CTp H bf N) {s : Nat} (hs : s ≤ N) (hq1 : tkA bf N s ≠ 8 → ∀ H', eqX is16 H H' → cTok bf N s H' → hI H' 16 12 = hI H 16 12 → Q none H') (hq2 : tkA bf N s = 8 → ∀ H', badT H s 1 H' → Q none H')
    {H1 : PH} (he : eqX is16 H H1) (g7 : hI H1 16 7 = nI s) (g11 : hI H1 16 11 = 0) (g12 : hI H1 16 12 = hI H 16 12) : Wp mX6_advance (d + 2) 0 0 44 [some (.ref 16), none] [] H1 Q := by
  have hN := hT.1.1
  have hB := hT.1
  have hF1 := Fix_eqX he hF
  let H2 := sI H1 16 9 (nI s)
  have he2 : eqX is16 H H2 := eqX_sI he ⟨rfl, by omega⟩
  have hF2 : Fix H2 := Fix_eqX he2 hF
  have hT2 := CTp_16 he2 hT
  have k7 : hI H2 16 7 = nI s := by show hI (sI H1 16 9 (nI s)) 16 7 = _; rw [hI_sI', if_neg (by omega)]; exact g7
  have k9 : hI H2 16 9 = nI s := by show hI (sI H1 16 9 (nI s)) 16 9 = _; rw [hI_sI', if_pos ⟨rfl, rfl⟩]
  have k11 : hI H2 16 11 = 0 := by show hI (sI H1 16 9 (nI s)) 16 11 = _; rw [hI_sI', if_neg (by omega)]; exact g11
  have k12 : hI H2 16 12 = hI H 16 12 := by show hI (sI H1 16 9 (nI s)) 16 12 = _; rw [hI_sI', if_neg (by omega)]; exact g12
  have rest : Wp mX6_advance (d + 2) 0 0 52 [some (.ref 16), none] [] H2 Q := by
    rcases Nat.lt_or_ge s N with hlt | hge
    · have hlt' := hlt
      refine wp_aload_n dX6_advance_52 rfl ?_
      refine wp_geta dX6_advance_53 fl_RX6_25 rfl (fk_16 hF2) (fr_16_0 hF2) ?_
      refine wp_aload_n dX6_advance_56 rfl ?_
      refine wp_geti dX6_advance_57 fl_RX6_38 rfl (fk_16 hF2) ?_
      rw [k7]
      refine wp_callv1 (ci := 9) dX6_advance_60 lk_RX6_110 ok_X9_byteAt im_X9_byteAt se_X9_byteAt rfl rfl (fk_14 hF2) (Nat.le_of_ble_eq_true rfl) (Nat.le_of_ble_eq_true rfl) ?_
      refine c_byteAt hF2 hT2 (by omega) ?_
      refine wp_istore_n dX6_advance_63 (by decide) ?_
      refine wp_aload_n dX6_advance_64 rfl ?_
      refine wp_geti dX6_advance_65 fl_RX6_38 rfl (fk_16 hF2) ?_
      rw [k7]
      refine wp_aload_n dX6_advance_68 rfl ?_
      refine wp_geta dX6_advance_69 fl_RX6_25 rfl (fk_16 hF2) (fr_16_0 hF2) ?_
      refine wp_geti dX6_advance_72 fl_RX6_105 rfl (fk_14 hF2) ?_
      rw [hT2.2.1]
      refine wp_icmp_lt (tgt := 86) dX6_advance_75 (by decide) (fun _ => ?_) (fun h75 => absurd h75 (fun z => z (nI_lt hlt (by omega))))
      refine wp_iload_n dX6_advance_86 rfl ?_
      refine wp_calls1 dX6_advance_87 lk_RX6_117 ok_X6_isLetter st_X6_isLetter (Nat.le_of_ble_eq_true rfl) (Nat.le_of_ble_eq_true rfl) ?_
      refine c_X6_isLetter ?_
      refine wp_ifb_eq (tgt := 100) dX6_advance_90 (by decide) (fun h90 => ?_) (fun h90 => ?_)
      · refine wp_iload_n dX6_advance_100 rfl ?_
        refine wp_calls1 dX6_advance_101 lk_RX6_123 ok_X6_isDigit st_X6_isDigit (Nat.le_of_ble_eq_true rfl) (Nat.le_of_ble_eq_true rfl) ?_
        refine c_X6_isDigit ?_
        refine wp_ifb_eq (tgt := 114) dX6_advance_104 (by decide) (fun h104 => ?_) (fun h104 => ?_)
        · refine wp_iload_n dX6_advance_114 rfl ?_
          refine wp_calls1 dX6_advance_115 lk_RX6_129 ok_X6_isSign st_X6_isSign (Nat.le_of_ble_eq_true rfl) (Nat.le_of_ble_eq_true rfl) ?_
          refine c_X6_isSign ?_
          refine wp_ifb_eq (tgt := 139) dX6_advance_118 (by decide) (fun h118 => ?_) (fun h118 => ?_)
          · refine wp_aload_n dX6_advance_139 rfl ?_
            refine wp_iconst (v := 1) dX6_advance_140 (by decide) ?_
            refine wp_callv1 (ci := 6) dX6_advance_141 lk_RX6_64 ok_X6_fail im_X6_fail se_X6_fail rfl rfl (fk_16 hF2) (Nat.le_of_ble_eq_true rfl) (Nat.le_of_ble_eq_true rfl) ?_
            refine c_X6_fail hF2 (fun _ => ?_) (fun q => absurd k11 q)
            refine wp_return rfl dX6_advance_144 ?_
            first
                | exact hq2 ((tk_word hB hlt h90).2 hw).2 H' ⟨eqX_trans he2 e1.1, e1.2⟩
                | exact hq2 ((tk_num hB hlt h90 h104).2 hnu).2 H' ⟨eqX_trans he2 e1.1, e1.2⟩
                | exact hq2 ((tk_sign hB hlt h90 h104).2 h118).2 _ (badT_of he2 k9)
                | exact hq1 (by rw [((tk_word hB hlt h90).1 hw).2.1]; have hwi := wtk_in (wvI bf s (le bf N s - s)); omega) H' (eqX_trans he2 e1) ⟨by rw [((tk_word hB hlt h90).1 hw).2.2.1]; exact e2, by rw [((tk_word hB hlt h90).1 hw).2.1]; exact e3, e4, fun _ => by rw [((tk_word hB hlt h90).1 hw).2.2.2]; exact e5, e6⟩ (e7.trans k12)
                | exact hq1 (by rw [((tk_num hB hlt h90 h104).1 hnu).2.1]; decide) H' (eqX_trans he2 e1) ⟨by rw [((tk_num hB hlt h90 h104).1 hnu).2.2.1]; exact e2, by rw [((tk_num hB hlt h90 h104).1 hnu).2.1]; exact e3, e4, fun _ => by rw [((tk_num hB hlt h90 h104).1 hnu).2.2.2]; exact e5, e6⟩ (e7.trans k12)
                | (obtain ⟨t1, t2, t3, t4, t5⟩ := (tk_sign hB hlt h90 h104).1 h118
                   refine hq1 (by omega) _ (eqX_sI (eqX_sI he2 ⟨rfl, by omega⟩) ⟨rfl, by omega⟩) ⟨?_, ?_, ?_, fun q => by omega, ?_⟩ ?_
                   · rw [hI_sI', if_pos ⟨rfl, rfl⟩, t5]
                   · rw [hI_sI', if_neg (by omega), hI_sI', if_pos ⟨rfl, rfl⟩, t4]; exact t1
                   · rw [hI_sI', if_neg (by omega), hI_sI', if_neg (by omega)]; exact k9
                   · rw [hI_sI', if_neg (by omega), hI_sI', if_neg (by omega)]; exact k11
                   · rw [hI_sI', if_neg (by omega), hI_sI', if_neg (by omega)]; exact k12)
          · refine wp_aload_n dX6_advance_121 rfl ?_
            refine wp_iload_n dX6_advance_122 rfl ?_
            refine wp_puti dX6_advance_123 fl_RX6_47 (mp_6_8 _ _) rfl (fk_16 hF2) ?_
            refine wp_aload_n dX6_advance_126 rfl ?_
            refine wp_dup dX6_advance_127 rfl ?_
            refine wp_geti dX6_advance_128 fl_RX6_38 rfl (fk_16 (Fix_sI hF2)) ?_
            rw [hI_sI', if_neg (by omega), k7]
            refine wp_iconst (v := 1) dX6_advance_131 (by decide) ?_
            refine wp_iadd dX6_advance_132 ?_
            rw [nI_1]
            refine wp_puti dX6_advance_133 fl_RX6_38 (mp_6_7 _ _) rfl (fk_16 (Fix_sI hF2)) ?_
            refine wp_goto (tgt := 144) dX6_advance_136 (by decide) ?_
            refine wp_return rfl dX6_advance_144 ?_
            first
                | exact hq2 ((tk_word hB hlt h90).2 hw).2 H' ⟨eqX_trans he2 e1.1, e1.2⟩
                | exact hq2 ((tk_num hB hlt h90 h104).2 hnu).2 H' ⟨eqX_trans he2 e1.1, e1.2⟩
                | exact hq2 ((tk_sign hB hlt h90 h104).2 h118).2 _ (badT_of he2 k9)
                | exact hq1 (by rw [((tk_word hB hlt h90).1 hw).2.1]; have hwi := wtk_in (wvI bf s (le bf N s - s)); omega) H' (eqX_trans he2 e1) ⟨by rw [((tk_word hB hlt h90).1 hw).2.2.1]; exact e2, by rw [((tk_word hB hlt h90).1 hw).2.1]; exact e3, e4, fun _ => by rw [((tk_word hB hlt h90).1 hw).2.2.2]; exact e5, e6⟩ (e7.trans k12)
                | exact hq1 (by rw [((tk_num hB hlt h90 h104).1 hnu).2.1]; decide) H' (eqX_trans he2 e1) ⟨by rw [((tk_num hB hlt h90 h104).1 hnu).2.2.1]; exact e2, by rw [((tk_num hB hlt h90 h104).1 hnu).2.1]; exact e3, e4, fun _ => by rw [((tk_num hB hlt h90 h104).1 hnu).2.2.2]; exact e5, e6⟩ (e7.trans k12)
                | (obtain ⟨t1, t2, t3, t4, t5⟩ := (tk_sign hB hlt h90 h104).1 h118
                   refine hq1 (by omega) _ (eqX_sI (eqX_sI he2 ⟨rfl, by omega⟩) ⟨rfl, by omega⟩) ⟨?_, ?_, ?_, fun q => by omega, ?_⟩ ?_
                   · rw [hI_sI', if_pos ⟨rfl, rfl⟩, t5]
                   · rw [hI_sI', if_neg (by omega), hI_sI', if_pos ⟨rfl, rfl⟩, t4]; exact t1
                   · rw [hI_sI', if_neg (by omega), hI_sI', if_neg (by omega)]; exact k9
                   · rw [hI_sI', if_neg (by omega), hI_sI', if_neg (by omega)]; exact k11
                   · rw [hI_sI', if_neg (by omega), hI_sI', if_neg (by omega)]; exact k12)
        · refine wp_aload_n dX6_advance_107 rfl ?_
          refine wp_callv0 (ci := 6) dX6_advance_108 lk_RX6_126 ok_X6_takeNumber im_X6_takeNumber se_X6_takeNumber rfl rfl (fk_16 hF2) (Nat.le_of_ble_eq_true rfl) (Nat.le_of_ble_eq_true rfl) ?_
          refine c_X6_takeNumber (H := H2) hF2 hT2 hs k7 k9 k11 (fun hnu H' e1 e2 e3 e4 e5 e6 e7 => ?_) (fun hnu H' e1 => ?_)
          · refine wp_goto (tgt := 144) dX6_advance_111 (by decide) ?_
            refine wp_return rfl dX6_advance_144 ?_
            first
                | exact hq2 ((tk_word hB hlt h90).2 hw).2 H' ⟨eqX_trans he2 e1.1, e1.2⟩
                | exact hq2 ((tk_num hB hlt h90 h104).2 hnu).2 H' ⟨eqX_trans he2 e1.1, e1.2⟩
                | exact hq2 ((tk_sign hB hlt h90 h104).2 h118).2 _ (badT_of he2 k9)
                | exact hq1 (by rw [((tk_word hB hlt h90).1 hw).2.1]; have hwi := wtk_in (wvI bf s (le bf N s - s)); omega) H' (eqX_trans he2 e1) ⟨by rw [((tk_word hB hlt h90).1 hw).2.2.1]; exact e2, by rw [((tk_word hB hlt h90).1 hw).2.1]; exact e3, e4, fun _ => by rw [((tk_word hB hlt h90).1 hw).2.2.2]; exact e5, e6⟩ (e7.trans k12)
                | exact hq1 (by rw [((tk_num hB hlt h90 h104).1 hnu).2.1]; decide) H' (eqX_trans he2 e1) ⟨by rw [((tk_num hB hlt h90 h104).1 hnu).2.2.1]; exact e2, by rw [((tk_num hB hlt h90 h104).1 hnu).2.1]; exact e3, e4, fun _ => by rw [((tk_num hB hlt h90 h104).1 hnu).2.2.2]; exact e5, e6⟩ (e7.trans k12)
                | (obtain ⟨t1, t2, t3, t4, t5⟩ := (tk_sign hB hlt h90 h104).1 h118
                   refine hq1 (by omega) _ (eqX_sI (eqX_sI he2 ⟨rfl, by omega⟩) ⟨rfl, by omega⟩) ⟨?_, ?_, ?_, fun q => by omega, ?_⟩ ?_
                   · rw [hI_sI', if_pos ⟨rfl, rfl⟩, t5]
                   · rw [hI_sI', if_neg (by omega), hI_sI', if_pos ⟨rfl, rfl⟩, t4]; exact t1
                   · rw [hI_sI', if_neg (by omega), hI_sI', if_neg (by omega)]; exact k9
                   · rw [hI_sI', if_neg (by omega), hI_sI', if_neg (by omega)]; exact k11
                   · rw [hI_sI', if_neg (by omega), hI_sI', if_neg (by omega)]; exact k12)
          · refine wp_goto (tgt := 144) dX6_advance_111 (by decide) ?_
            refine wp_return rfl dX6_advance_144 ?_
            first
                | exact hq2 ((tk_word hB hlt h90).2 hw).2 H' ⟨eqX_trans he2 e1.1, e1.2⟩
                | exact hq2 ((tk_num hB hlt h90 h104).2 hnu).2 H' ⟨eqX_trans he2 e1.1, e1.2⟩
                | exact hq2 ((tk_sign hB hlt h90 h104).2 h118).2 _ (badT_of he2 k9)
                | exact hq1 (by rw [((tk_word hB hlt h90).1 hw).2.1]; have hwi := wtk_in (wvI bf s (le bf N s - s)); omega) H' (eqX_trans he2 e1) ⟨by rw [((tk_word hB hlt h90).1 hw).2.2.1]; exact e2, by rw [((tk_word hB hlt h90).1 hw).2.1]; exact e3, e4, fun _ => by rw [((tk_word hB hlt h90).1 hw).2.2.2]; exact e5, e6⟩ (e7.trans k12)
                | exact hq1 (by rw [((tk_num hB hlt h90 h104).1 hnu).2.1]; decide) H' (eqX_trans he2 e1) ⟨by rw [((tk_num hB hlt h90 h104).1 hnu).2.2.1]; exact e2, by rw [((tk_num hB hlt h90 h104).1 hnu).2.1]; exact e3, e4, fun _ => by rw [((tk_num hB hlt h90 h104).1 hnu).2.2.2]; exact e5, e6⟩ (e7.trans k12)
                | (obtain ⟨t1, t2, t3, t4, t5⟩ := (tk_sign hB hlt h90 h104).1 h118
                   refine hq1 (by omega) _ (eqX_sI (eqX_sI he2 ⟨rfl, by omega⟩) ⟨rfl, by omega⟩) ⟨?_, ?_, ?_, fun q => by omega, ?_⟩ ?_
                   · rw [hI_sI', if_pos ⟨rfl, rfl⟩, t5]
                   · rw [hI_sI', if_neg (by omega), hI_sI', if_pos ⟨rfl, rfl⟩, t4]; exact t1
                   · rw [hI_sI', if_neg (by omega), hI_sI', if_neg (by omega)]; exact k9
                   · rw [hI_sI', if_neg (by omega), hI_sI', if_neg (by omega)]; exact k11
                   · rw [hI_sI', if_neg (by omega), hI_sI', if_neg (by omega)]; exact k12)
      · refine wp_aload_n dX6_advance_93 rfl ?_
        refine wp_callv0 (ci := 6) dX6_advance_94 lk_RX6_120 ok_X6_takeWord im_X6_takeWord se_X6_takeWord rfl rfl (fk_16 hF2) (Nat.le_of_ble_eq_true rfl) (Nat.le_of_ble_eq_true rfl) ?_
        refine c_X6_takeWord (H := H2) hF2 hT2 hs k7 k9 k11 (fun hw H' e1 e2 e3 e4 e5 e6 e7 => ?_) (fun hw H' e1 => ?_)
        · refine wp_goto (tgt := 144) dX6_advance_97 (by decide) ?_
          refine wp_return rfl dX6_advance_144 ?_
          first
              | exact hq2 ((tk_word hB hlt h90).2 hw).2 H' ⟨eqX_trans he2 e1.1, e1.2⟩
              | exact hq2 ((tk_num hB hlt h90 h104).2 hnu).2 H' ⟨eqX_trans he2 e1.1, e1.2⟩
              | exact hq2 ((tk_sign hB hlt h90 h104).2 h118).2 _ (badT_of he2 k9)
              | exact hq1 (by rw [((tk_word hB hlt h90).1 hw).2.1]; have hwi := wtk_in (wvI bf s (le bf N s - s)); omega) H' (eqX_trans he2 e1) ⟨by rw [((tk_word hB hlt h90).1 hw).2.2.1]; exact e2, by rw [((tk_word hB hlt h90).1 hw).2.1]; exact e3, e4, fun _ => by rw [((tk_word hB hlt h90).1 hw).2.2.2]; exact e5, e6⟩ (e7.trans k12)
              | exact hq1 (by rw [((tk_num hB hlt h90 h104).1 hnu).2.1]; decide) H' (eqX_trans he2 e1) ⟨by rw [((tk_num hB hlt h90 h104).1 hnu).2.2.1]; exact e2, by rw [((tk_num hB hlt h90 h104).1 hnu).2.1]; exact e3, e4, fun _ => by rw [((tk_num hB hlt h90 h104).1 hnu).2.2.2]; exact e5, e6⟩ (e7.trans k12)
              | (obtain ⟨t1, t2, t3, t4, t5⟩ := (tk_sign hB hlt h90 h104).1 h118
                 refine hq1 (by omega) _ (eqX_sI (eqX_sI he2 ⟨rfl, by omega⟩) ⟨rfl, by omega⟩) ⟨?_, ?_, ?_, fun q => by omega, ?_⟩ ?_
                 · rw [hI_sI', if_pos ⟨rfl, rfl⟩, t5]
                 · rw [hI_sI', if_neg (by omega), hI_sI', if_pos ⟨rfl, rfl⟩, t4]; exact t1
                 · rw [hI_sI', if_neg (by omega), hI_sI', if_neg (by omega)]; exact k9
                 · rw [hI_sI', if_neg (by omega), hI_sI', if_neg (by omega)]; exact k11
                 · rw [hI_sI', if_neg (by omega), hI_sI', if_neg (by omega)]; exact k12)
        · refine wp_goto (tgt := 144) dX6_advance_97 (by decide) ?_
          refine wp_return rfl dX6_advance_144 ?_
          first
              | exact hq2 ((tk_word hB hlt h90).2 hw).2 H' ⟨eqX_trans he2 e1.1, e1.2⟩
              | exact hq2 ((tk_num hB hlt h90 h104).2 hnu).2 H' ⟨eqX_trans he2 e1.1, e1.2⟩
              | exact hq2 ((tk_sign hB hlt h90 h104).2 h118).2 _ (badT_of he2 k9)
              | exact hq1 (by rw [((tk_word hB hlt h90).1 hw).2.1]; have hwi := wtk_in (wvI bf s (le bf N s - s)); omega) H' (eqX_trans he2 e1) ⟨by rw [((tk_word hB hlt h90).1 hw).2.2.1]; exact e2, by rw [((tk_word hB hlt h90).1 hw).2.1]; exact e3, e4, fun _ => by rw [((tk_word hB hlt h90).1 hw).2.2.2]; exact e5, e6⟩ (e7.trans k12)
              | exact hq1 (by rw [((tk_num hB hlt h90 h104).1 hnu).2.1]; decide) H' (eqX_trans he2 e1) ⟨by rw [((tk_num hB hlt h90 h104).1 hnu).2.2.1]; exact e2, by rw [((tk_num hB hlt h90 h104).1 hnu).2.1]; exact e3, e4, fun _ => by rw [((tk_num hB hlt h90 h104).1 hnu).2.2.2]; exact e5, e6⟩ (e7.trans k12)
              | (obtain ⟨t1, t2, t3, t4, t5⟩ := (tk_sign hB hlt h90 h104).1 h118
                 refine hq1 (by omega) _ (eqX_sI (eqX_sI he2 ⟨rfl, by omega⟩) ⟨rfl, by omega⟩) ⟨?_, ?_, ?_, fun q => by omega, ?_⟩ ?_
                 · rw [hI_sI', if_pos ⟨rfl, rfl⟩, t5]
                 · rw [hI_sI', if_neg (by omega), hI_sI', if_pos ⟨rfl, rfl⟩, t4]; exact t1
                 · rw [hI_sI', if_neg (by omega), hI_sI', if_neg (by omega)]; exact k9
                 · rw [hI_sI', if_neg (by omega), hI_sI', if_neg (by omega)]; exact k11
                 · rw [hI_sI', if_neg (by omega), hI_sI', if_neg (by omega)]; exact k12)
    · obtain ⟨t1, t2, t3⟩ := tk_end hB hge
      refine wp_aload_n dX6_advance_52 rfl ?_
      refine wp_geta dX6_advance_53 fl_RX6_25 rfl (fk_16 hF2) (fr_16_0 hF2) ?_
      refine wp_aload_n dX6_advance_56 rfl ?_
      refine wp_geti dX6_advance_57 fl_RX6_38 rfl (fk_16 hF2) ?_
      rw [k7]
      refine wp_callv1 (ci := 9) dX6_advance_60 lk_RX6_110 ok_X9_byteAt im_X9_byteAt se_X9_byteAt rfl rfl (fk_14 hF2) (Nat.le_of_ble_eq_true rfl) (Nat.le_of_ble_eq_true rfl) ?_
      refine c_byteAt hF2 hT2 (by omega) ?_
      refine wp_istore_n dX6_advance_63 (by decide) ?_
      refine wp_aload_n dX6_advance_64 rfl ?_
      refine wp_geti dX6_advance_65 fl_RX6_38 rfl (fk_16 hF2) ?_
      rw [k7]
      refine wp_aload_n dX6_advance_68 rfl ?_
      refine wp_geta dX6_advance_69 fl_RX6_25 rfl (fk_16 hF2) (fr_16_0 hF2) ?_
      refine wp_geti dX6_advance_72 fl_RX6_105 rfl (fk_14 hF2) ?_
      rw [hT2.2.1]
      refine wp_icmp_lt (tgt := 86) dX6_advance_75 (by decide) (fun h75 => absurd h75 (nI_nlt hge (by omega))) (fun _ => ?_)
      refine wp_aload_n dX6_advance_78 rfl ?_
      refine wp_iconst (v := 0) dX6_advance_79 (by decide) ?_
      refine wp_puti dX6_advance_80 fl_RX6_47 (mp_6_8 _ _) rfl (fk_16 hF2) ?_
      refine wp_goto (tgt := 144) dX6_advance_83 (by decide) ?_
      refine wp_return rfl dX6_advance_144 ?_
      refine hq1 (by omega) _ (eqX_sI he2 ⟨rfl, by omega⟩) ⟨?_, ?_, ?_, fun q => by omega, ?_⟩ ?_
      · rw [hI_sI', if_neg (by omega), t3]; exact k7
      · rw [hI_sI', if_pos ⟨rfl, rfl⟩, t2]; rfl
      · rw [hI_sI', if_neg (by omega)]; exact k9
      · rw [hI_sI', if_neg (by omega)]; exact k11
      · rw [hI_sI', if_neg (by omega)]; exact k12
  refine wp_aload_n dX6_advance_44 rfl ?_
  refine wp_aload_n dX6_advance_45 rfl ?_
  refine wp_geti dX6_advance_46 fl_RX6_38 rfl (fk_16 hF1) ?_
  rw [g7]
  refine wp_puti dX6_advance_49 fl_RX6_102 (mp_6_9 _ _) rfl (fk_16 hF1) ?_
  exact rest
theorem l_X6_advance (hF : Fix H) (hT : CTp H bf N) {s : Nat} (hs : s ≤ N) (hq1 : tkA bf N s ≠ 8 → ∀ H', eqX is16 H H' → cTok bf N s H' → hI H' 16 12 = hI H 16 12 → Q none H') (hq2 : tkA bf N s = 8 → ∀ H', badT H s 1 H' → Q none H') :
    ∀ (f p : Nat) (H1 : PH), N - p = f → p ≤ N → runP bf blB f p = s → eqX is16 H H1 → hI H1 16 7 = nI p → hI H1 16 11 = 0 → hI H1 16 12 = hI H 16 12 → Wp mX6_advance (d + 2) 0 0 0 [some (.ref 16), none] [] H1 Q := by
  have hN := hT.1.1
  intro f
  induction f with
  | zero =>
    intro p H1 hf hp hr he g7 g11 g12
    have hF1 := Fix_eqX he hF
    have hT1 := CTp_16 he hT
    have hr' : p = s := hr
    subst hr'
    refine wp_aload_n dX6_advance_0 rfl ?_
    refine wp_geti dX6_advance_1 fl_RX6_38 rfl (fk_16 hF1) ?_
    rw [g7]
    refine wp_aload_n dX6_advance_4 rfl ?_
    refine wp_geta dX6_advance_5 fl_RX6_25 rfl (fk_16 hF1) (fr_16_0 hF1) ?_
    refine wp_geti dX6_advance_8 fl_RX6_105 rfl (fk_14 hF1) ?_
    rw [hT1.2.1]
    refine wp_icmp_ge (tgt := 44) dX6_advance_11 (by decide) (fun _ => ?_) (fun h11 => absurd h11 (fun h => h (nI_le (by omega) (by omega))))
    exact l_X6_advance2 hF hT hs hq1 hq2 he g7 g11 g12
  | succ f ih =>
    intro p H1 hf hp hr he g7 g11 g12
    have hF1 := Fix_eqX he hF
    have hT1 := CTp_16 he hT
    have hlt : p < N := by omega
    unfold runP at hr
    refine wp_aload_n dX6_advance_0 rfl ?_
    refine wp_geti dX6_advance_1 fl_RX6_38 rfl (fk_16 hF1) ?_
    rw [g7]
    refine wp_aload_n dX6_advance_4 rfl ?_
    refine wp_geta dX6_advance_5 fl_RX6_25 rfl (fk_16 hF1) (fr_16_0 hF1) ?_
    refine wp_geti dX6_advance_8 fl_RX6_105 rfl (fk_14 hF1) ?_
    rw [hT1.2.1]
    refine wp_icmp_ge (tgt := 44) dX6_advance_11 (by decide) (fun h11 => absurd h11 (nI_ge hlt (by omega))) (fun _ => ?_)
    refine wp_aload_n dX6_advance_14 rfl ?_
    refine wp_geta dX6_advance_15 fl_RX6_25 rfl (fk_16 hF1) (fr_16_0 hF1) ?_
    refine wp_aload_n dX6_advance_18 rfl ?_
    refine wp_geti dX6_advance_19 fl_RX6_38 rfl (fk_16 hF1) ?_
    rw [g7]
    refine wp_callv1 (ci := 9) dX6_advance_22 lk_RX6_110 ok_X9_byteAt im_X9_byteAt se_X9_byteAt rfl rfl (fk_14 hF1) (Nat.le_of_ble_eq_true rfl) (Nat.le_of_ble_eq_true rfl) ?_
    refine c_byteAt hF1 hT1 (by omega) ?_
    refine wp_calls1 dX6_advance_25 lk_RX6_114 ok_X6_isBlank st_X6_isBlank (Nat.le_of_ble_eq_true rfl) (Nat.le_of_ble_eq_true rfl) ?_
    refine c_X6_isBlank ?_
    refine wp_ifb_eq (tgt := 44) dX6_advance_28 (by decide) (fun h28 => ?_) (fun h28 => ?_)
    · rw [if_neg h28] at hr
      subst hr
      exact l_X6_advance2 hF hT hs hq1 hq2 he g7 g11 g12
    · refine wp_aload_n dX6_advance_31 rfl ?_
      refine wp_dup dX6_advance_32 rfl ?_
      refine wp_geti dX6_advance_33 fl_RX6_38 rfl (fk_16 hF1) ?_
      rw [g7]
      refine wp_iconst (v := 1) dX6_advance_36 (by decide) ?_
      refine wp_iadd dX6_advance_37 ?_
      rw [nI_1]
      refine wp_puti dX6_advance_38 fl_RX6_38 (mp_6_7 _ _) rfl (fk_16 hF1) ?_
      refine wp_goto (tgt := 0) dX6_advance_41 (by decide) ?_
      rw [if_pos h28] at hr
      refine ih (p + 1) _ (by omega) (by omega) hr (eqX_sI he ⟨rfl, by omega⟩) ?_ ?_ ?_
      · rw [hI_sI', if_pos ⟨rfl, rfl⟩]
      · rw [hI_sI', if_neg (by omega)]; exact g11
      · rw [hI_sI', if_neg (by omega)]; exact g12
theorem c_X6_advance (hF : Fix H) (hT : CTp H bf N) {p : Nat} (hp : p ≤ N) (g7 : hI H 16 7 = nI p) (g11 : hI H 16 11 = 0) (hq1 : tkA bf N (sk bf N p) ≠ 8 → ∀ H', eqX is16 H H' → cTok bf N (sk bf N p) H' → hI H' 16 12 = hI H 16 12 → Q none H') (hq2 : tkA bf N (sk bf N p) = 8 → ∀ H', badT H (sk bf N p) 1 H' → Q none H') : Wp mX6_advance (d + 2) 0 0 0 [some (.ref 16), none] [] H Q :=
  l_X6_advance hF hT (sk_bd hp).2 hq1 hq2 _ p H rfl hp rfl eqX_rfl g7 g11 rfl
end AD
