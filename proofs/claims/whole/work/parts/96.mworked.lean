/-! ===== the reference's worked ===== -/
def isPw (a _ : Nat) : Prop := a = 63
def PW (H : PH) (S : List Int32) (H' : PH) : Prop := eqX isPw H H' ∧ ∀ i y, S.reverse[i]? = some y → hI H' 63 i = y
theorem nI_dec (n : Nat) : nI (n + 1) + (-1) = nI n := by rw [← Int32.sub_eq_add_neg, nI_pred]
section MWK
variable {d : Nat} {H : PH} {Q : Option Value → PH → Prop} {H1 : PH} {nm : Nat → Int32} {o : OL} {c a b : Nat} {S : List Int32}
theorem PW_fix (hF : Fix H) (hP : PW H S H1) : Fix H1 := Fix_eqX hP.1 hF
theorem PW_set {r : Int32} (hP : PW H S H1) : PW H (r :: S) (sI H1 63 S.length r) := by
  refine ⟨eqX_sI hP.1 rfl, fun i y hi => ?_⟩
  rw [hI_sI']
  rw [List.reverse_cons] at hi
  rcases getA hi with ⟨z1, z2⟩ | ⟨z1, z2⟩
  · rw [List.length_reverse] at z1
    rw [if_neg (by omega)]; exact hP.2 i y z2
  · rw [List.length_reverse] at z1
    subst z1; subst z2
    rw [if_pos ⟨rfl, rfl⟩]
theorem PW_tl {y : Int32} (hP : PW H (y :: S) H1) : PW H S H1 := ⟨hP.1, fun i z hi => hP.2 i z (rv_low hi)⟩
/-- one item -/
theorem l_worked1 {x : Nat × Nat} {h k : Nat} {la lb : Int32} {l6 l7 l8 : Option Value} (hF : Fix H) (hP : PW H S H1) (hc : c ≤ 10) (hk : k < 600) (hkb : k < b) (hb6 : b ≤ 600) (hst : hI H 48 (600 * c + k) = nI x.1 ∧ hI H 49 (600 * c + k) = nI x.2) (hnm : ∀ k, k < 6 → hI H 64 k = nm k) (hok : okI x) (he : ef x S.length = some h) (hh : h ≤ 100) (hS : S.length ≤ 100) (hlb : lb = nI b)
    (hq : ∀ l6 l7 l8 H', PW H (ev1 nm x S) H' → Wp mX12_worked d 0 0 12 [some (.ref 33), some (.int (nI c)), some (.int la), some (.int lb), some (.int (nI h)), some (.int (nI (600 * c + (k + 1)))), l6, l7, l8] [] H' Q) : Wp mX12_worked d 0 0 12 [some (.ref 33), some (.int (nI c)), some (.int la), some (.int lb), some (.int (nI S.length)), some (.int (nI (600 * c + k))), l6, l7, l8] [] H1 Q := by
  have hF1 := PW_fix hF hP
  subst hlb
  obtain ⟨x1, x2⟩ := x
  have hx1 : hI H1 48 (600 * c + k) = nI x1 := by rw [hP.1.2.2.2.2 48 _ (by unfold isPw; omega)]; exact hst.1
  have hx2 : hI H1 49 (600 * c + k) = nI x2 := by rw [hP.1.2.2.2.2 49 _ (by unfold isPw; omega)]; exact hst.2
  have e600 : (600 : Int32) * nI c + nI b = nI (600 * c + b) := nI_m 600 c b
  -- up to the sorting
  have f33 : Wp mX12_worked d 0 0 33 [some (.ref 33), some (.int (nI c)), some (.int la), some (.int (nI b)), some (.int (nI S.length)), some (.int (nI (600 * c + k))), some (.int (nI x1)), l7, l8] [] H1 Q → Wp mX12_worked d 0 0 12 [some (.ref 33), some (.int (nI c)), some (.int la), some (.int (nI b)), some (.int (nI S.length)), some (.int (nI (600 * c + k))), l6, l7, l8] [] H1 Q := by
    intro kk
    refine wp_iload dX12_worked_12 rfl ?_
    refine wp_sipush (v := 600) dX12_worked_14 (by decide) ?_
    refine wp_iload_n dX12_worked_17 rfl ?_
    refine wp_imul dX12_worked_18 ?_
    refine wp_iload_n dX12_worked_19 rfl ?_
    refine wp_iadd dX12_worked_20 ?_
    rw [e600]
    refine wp_icmp_ge (tgt := 418) dX12_worked_21 (by decide) (fun h21 => absurd h21 (nI_ge (by omega : 600 * c + k < 600 * c + b) (by omega))) (fun _ => ?_)
    refine wp_aload_n dX12_worked_24 rfl ?_
    refine wp_geta dX12_worked_25 fl_RX12_63 rfl (fk_33 hF1) (fr_33_20 hF1) ?_
    refine wp_iload dX12_worked_28 rfl ?_
    refine wp_ialoadN dX12_worked_30 (fk_48 hF1) (by omega) (by decide) ?_
    rw [hx1]
    refine wp_istore dX12_worked_31 (by decide) ?_
    exact kk
  refine f33 ?_
  have f412 : ∀ (l7 l8 : Option Value) H', PW H (ev1 nm (x1, x2) S) H' → Wp mX12_worked d 0 0 412 [some (.ref 33), some (.int (nI c)), some (.int la), some (.int (nI b)), some (.int (nI h)), some (.int (nI (600 * c + k))), some (.int (nI x1)), l7, l8] [] H' Q := by
    intro l7 l8 H' hP'
    have hF2 := PW_fix hF hP'
    have hk := hq (some (.int (nI x1))) l7 l8 H' hP'
    refine wp_incN dX12_worked_412 rfl (by decide) ?_
    refine wp_goto (tgt := 12) dX12_worked_415 (by decide) ?_
    exact hk
  rcases hok with ⟨h0, hn⟩ | ⟨ha, hb, hc0⟩ | ⟨ha, hb, hc0⟩
  · have h0 : x1 = 0 := h0
    subst h0
    have hle : S.length + 1 = h := Option.some.inj he
    subst hle
    have f := fun l7 l8 => f412 l7 l8 _ (PW_set (r := nI x2) hP)
    refine wp_iload dX12_worked_33 rfl ?_
    refine wp_bipush (v := 40) dX12_worked_35 (by decide) ?_
    refine wp_icmp_ge (tgt := 78) dX12_worked_37 (by decide) (fun h37 => absurd h37 (by decide)) (fun _ => ?_)
    refine wp_aload_n dX12_worked_40 rfl ?_
    refine wp_geta dX12_worked_41 fl_RX12_111 rfl (fk_33 hF1) (fr_33_52 hF1) ?_
    refine wp_iload dX12_worked_44 rfl ?_
    refine wp_iload dX12_worked_46 rfl ?_
    refine wp_if_ne (tgt := 61) dX12_worked_48 (by decide) (fun h48 => absurd h48 (fun q => q rfl)) (fun _ => ?_)
    refine wp_aload_n dX12_worked_51 rfl ?_
    refine wp_geta dX12_worked_52 fl_RX12_66 rfl (fk_33 hF1) (fr_33_21 hF1) ?_
    refine wp_iload dX12_worked_55 rfl ?_
    refine wp_ialoadN dX12_worked_57 (fk_49 hF1) (by omega) (by decide) ?_
    rw [hx2]
    refine wp_goto (tgt := 71) dX12_worked_58 (by decide) ?_
    refine wp_iastoreN dX12_worked_71 (fk_63 hF1) (by omega) (by decide) ?_
    refine wp_incN dX12_worked_72 rfl (by decide) ?_
    refine wp_goto (tgt := 412) dX12_worked_75 (by decide) ?_
    exact f _ _
  · have ha : 20 ≤ x1 := ha
    have hb : x1 < 26 := hb
    obtain ⟨j, hj⟩ : ∃ j, x1 = 20 + j := ⟨x1 - 20, by omega⟩
    subst hj
    have hj6 : j < 6 := by omega
    have hle : S.length + 1 = h := by
      unfold ef at he
      rw [if_pos (by show 20 + j < 40; omega)] at he
      exact Option.some.inj he
    subst hle
    have ee : ev1 nm (20 + j, x2) S = nm j :: S := by
      unfold ev1
      rw [if_pos (by show 20 + j < 40; omega), if_neg (by show ¬ 20 + j = 0; omega)]
      show nm (20 + j - 20) :: S = _
      rw [Nat.add_sub_cancel_left]
    rw [ee] at f412
    have f := fun l7 l8 => f412 l7 l8 _ (PW_set (r := nm j) hP)
    have hv : hI H1 64 j = nm j := by rw [hP.1.2.2.2.2 64 j (by unfold isPw; omega)]; exact hnm j hj6
    have es : nI (20 + j) - 20 = nI j := by
      have : j = 0 ∨ j = 1 ∨ j = 2 ∨ j = 3 ∨ j = 4 ∨ j = 5 := by omega
      rcases this with r | r | r | r | r | r <;> subst r <;> decide
    refine wp_iload dX12_worked_33 rfl ?_
    refine wp_bipush (v := 40) dX12_worked_35 (by decide) ?_
    refine wp_icmp_ge (tgt := 78) dX12_worked_37 (by decide) (fun h37 => absurd h37 (nI_ge (a := 20 + j) (b := 40) (by omega) (by decide))) (fun _ => ?_)
    refine wp_aload_n dX12_worked_40 rfl ?_
    refine wp_geta dX12_worked_41 fl_RX12_111 rfl (fk_33 hF1) (fr_33_52 hF1) ?_
    refine wp_iload dX12_worked_44 rfl ?_
    refine wp_iload dX12_worked_46 rfl ?_
    refine wp_if_ne (tgt := 61) dX12_worked_48 (by decide) (fun _ => ?_) (fun h48 => absurd h48 (fun q => by have := (nI_eq (a := 20 + j) (b := 0) (by omega) (by decide)).mp q; omega))
    refine wp_aload_n dX12_worked_61 rfl ?_
    refine wp_geta dX12_worked_62 fl_RX12_114 rfl (fk_33 hF1) (fr_33_53 hF1) ?_
    refine wp_iload dX12_worked_65 rfl ?_
    refine wp_bipush (v := 20) dX12_worked_67 (by decide) ?_
    refine wp_isub dX12_worked_69 ?_
    rw [es]
    refine wp_ialoadN dX12_worked_70 (fk_64 hF1) (by omega) (by decide) ?_
    rw [hv]
    refine wp_iastoreN dX12_worked_71 (fk_63 hF1) (by omega) (by decide) ?_
    refine wp_incN dX12_worked_72 rfl (by decide) ?_
    refine wp_goto (tgt := 412) dX12_worked_75 (by decide) ?_
    exact f _ _
  · have ha : 40 ≤ x1 := ha
    have hb : x1 ≤ 50 := hb
    have hne : S ≠ [] := fun z => by
      subst z
      unfold ef at he
      rw [if_neg (by show ¬ x1 < 40; omega)] at he
      split at he
      · cases he
      · cases he
    obtain ⟨y, S1, hS1⟩ := List.exists_cons_of_ne_nil hne
    subst hS1
    have hl1 : S1.length + 1 ≤ 100 := hS
    have hy : hI H1 63 S1.length = y := hP.2 _ _ rv_top
    have hP1 := PW_tl hP
    rw [show (y :: S1).length = S1.length + 1 from rfl]
    by_cases q40 : x1 = 40
    · subst q40
      have hle : S1.length + 1 = h := by
        have : (if 1 ≤ S1.length + 1 then some (S1.length + 1) else none) = some h := he
        rw [if_pos (by omega)] at this
        exact Option.some.inj this
      subst hle
      have f := fun l7 l8 => f412 l7 l8 _ (show PW H (ev1 nm (40, x2) (y :: S1)) _ from PW_set (r := bI (y = 0)) hP1)
      refine wp_iload dX12_worked_33 rfl ?_
      refine wp_bipush (v := 40) dX12_worked_35 (by decide) ?_
      refine wp_icmp_ge (tgt := 78) dX12_worked_37 (by decide) (fun _ => ?_) (fun h37 => absurd h37 (fun q => q (by decide)))
      refine wp_iload dX12_worked_78 rfl ?_
      refine wp_bipush (v := 40) dX12_worked_80 (by decide) ?_
      refine wp_icmp_eq (tgt := 92) dX12_worked_82 (by decide) (fun _ => ?_) (fun h82 => absurd h82 (fun q => q rfl))
      refine wp_aload_n dX12_worked_92 rfl ?_
      refine wp_geta dX12_worked_93 fl_RX12_111 rfl (fk_33 hF1) (fr_33_52 hF1) ?_
      refine wp_iload dX12_worked_96 rfl ?_
      refine wp_iconst (v := 1) dX12_worked_98 (by decide) ?_
      refine wp_isub dX12_worked_99 ?_
      rw [nI_pred]
      refine wp_iload dX12_worked_100 rfl ?_
      refine wp_bipush (v := 50) dX12_worked_102 (by decide) ?_
      refine wp_icmp_ne (tgt := 120) dX12_worked_104 (by decide) (fun _ => ?_) (fun h104 => absurd h104 (by decide))
      refine wp_aload_n dX12_worked_120 rfl ?_
      refine wp_geta dX12_worked_121 fl_RX12_111 rfl (fk_33 hF1) (fr_33_52 hF1) ?_
      refine wp_iload dX12_worked_124 rfl ?_
      refine wp_iconst (v := 1) dX12_worked_126 (by decide) ?_
      refine wp_isub dX12_worked_127 ?_
      rw [nI_pred]
      refine wp_ialoadN dX12_worked_128 (fk_63 hF1) (by omega) (by decide) ?_
      rw [hy]
      refine wp_if_ne (tgt := 136) dX12_worked_129 (by decide) (fun h129 => ?_) (fun h129 => ?_)
      · refine wp_iconst (v := 0) dX12_worked_136 (by decide) ?_
        refine wp_iastoreN dX12_worked_137 (fk_63 hF1) (by omega) (by decide) ?_
        refine wp_goto (tgt := 412) dX12_worked_138 (by decide) ?_
        first
            | (rw [bI_t h129] at f; exact f _ _)
            | (rw [bI_f h129] at f; exact f _ _)
      · refine wp_iconst (v := 1) dX12_worked_132 (by decide) ?_
        refine wp_goto (tgt := 137) dX12_worked_133 (by decide) ?_
        refine wp_iastoreN dX12_worked_137 (fk_63 hF1) (by omega) (by decide) ?_
        refine wp_goto (tgt := 412) dX12_worked_138 (by decide) ?_
        first
            | (rw [bI_t h129] at f; exact f _ _)
            | (rw [bI_f h129] at f; exact f _ _)
    · by_cases q50 : x1 = 50
      · subst q50
        have hle : S1.length + 1 = h := by
          have : (if 1 ≤ S1.length + 1 then some (S1.length + 1) else none) = some h := he
          rw [if_pos (by omega)] at this
          exact Option.some.inj this
        subst hle
        have f := fun l7 l8 => f412 l7 l8 _ (show PW H (ev1 nm (50, x2) (y :: S1)) _ from PW_set (r := -y) hP1)
        refine wp_iload dX12_worked_33 rfl ?_
        refine wp_bipush (v := 40) dX12_worked_35 (by decide) ?_
        refine wp_icmp_ge (tgt := 78) dX12_worked_37 (by decide) (fun _ => ?_) (fun h37 => absurd h37 (fun q => q (by decide)))
        refine wp_iload dX12_worked_78 rfl ?_
        refine wp_bipush (v := 40) dX12_worked_80 (by decide) ?_
        refine wp_icmp_eq (tgt := 92) dX12_worked_82 (by decide) (fun h82 => absurd h82 (by decide)) (fun _ => ?_)
        refine wp_iload dX12_worked_85 rfl ?_
        refine wp_bipush (v := 50) dX12_worked_87 (by decide) ?_
        refine wp_icmp_ne (tgt := 141) dX12_worked_89 (by decide) (fun h89 => absurd h89 (fun q => q rfl)) (fun _ => ?_)
        refine wp_aload_n dX12_worked_92 rfl ?_
        refine wp_geta dX12_worked_93 fl_RX12_111 rfl (fk_33 hF1) (fr_33_52 hF1) ?_
        refine wp_iload dX12_worked_96 rfl ?_
        refine wp_iconst (v := 1) dX12_worked_98 (by decide) ?_
        refine wp_isub dX12_worked_99 ?_
        rw [nI_pred]
        refine wp_iload dX12_worked_100 rfl ?_
        refine wp_bipush (v := 50) dX12_worked_102 (by decide) ?_
        refine wp_icmp_ne (tgt := 120) dX12_worked_104 (by decide) (fun h104 => absurd h104 (fun q => q rfl)) (fun _ => ?_)
        refine wp_aload_n dX12_worked_107 rfl ?_
        refine wp_geta dX12_worked_108 fl_RX12_111 rfl (fk_33 hF1) (fr_33_52 hF1) ?_
        refine wp_iload dX12_worked_111 rfl ?_
        refine wp_iconst (v := 1) dX12_worked_113 (by decide) ?_
        refine wp_isub dX12_worked_114 ?_
        rw [nI_pred]
        refine wp_ialoadN dX12_worked_115 (fk_63 hF1) (by omega) (by decide) ?_
        rw [hy]
        refine wp_ineg dX12_worked_116 ?_
        refine wp_goto (tgt := 137) dX12_worked_117 (by decide) ?_
        refine wp_iastoreN dX12_worked_137 (fk_63 hF1) (by omega) (by decide) ?_
        refine wp_goto (tgt := 412) dX12_worked_138 (by decide) ?_
        exact f _ _
      · have he2 : (if 2 ≤ S1.length + 1 then some (S1.length + 1 - 1) else none) = some h := by
          unfold ef at he
          rw [if_neg (by show ¬ x1 < 40; omega), if_neg (by show ¬ (x1 = 40 ∨ x1 = 50); omega)] at he
          exact he
        cases S1 with
        | nil => cases he2
        | cons z S2 =>
          rw [if_pos (by show 2 ≤ S2.length + 1 + 1; omega)] at he2
          have hle : S2.length + 1 = h := Option.some.inj he2
          subst hle
          have hl2 : S2.length + 1 + 1 ≤ 100 := hl1
          have hy : hI H1 63 (S2.length + 1) = y := hy
          have hz : hI H1 63 S2.length = z := hP1.2 _ _ rv_top
          have hP2 := PW_tl hP1
          have ee : ev1 nm (x1, x2) (y :: z :: S2) = jn x1 z y :: S2 := by
            unfold ev1
            rw [if_neg (by show ¬ x1 < 40; omega)]
            show (if x1 = 40 then _ else if x1 = 50 then _ else _) = _
            rw [if_neg q40, if_neg q50]
          rw [ee] at f412
          have f := fun r (hr : jn x1 z y = r) => f412 (some (.int z)) (some (.int y)) _ (show PW H (jn x1 z y :: S2) (sI H1 63 S2.length r) from by rw [← hr]; exact PW_set hP2)
          have c1 : ¬ nI x1 < 40 := nI_nlt (a := x1) (b := 40) ha (by omega)
          have c2 : ¬ nI x1 = 40 := fun q => q40 ((nI_eq (a := x1) (b := 40) (by omega) (by decide)).mp q)
          have c3 : ¬ nI x1 = 50 := fun q => q50 ((nI_eq (a := x1) (b := 50) (by omega) (by decide)).mp q)
          have f164 : Wp mX12_worked d 0 0 164 [some (.ref 33), some (.int (nI c)), some (.int la), some (.int (nI b)), some (.int (nI (S2.length + 1))), some (.int (nI (600 * c + k))), some (.int (nI x1)), some (.int z), some (.int y)] [] H1 Q := by
            clear f412 f33 hq hst hx1 hx2 ee he2 he hh
            have : x1 = 41 ∨ x1 = 42 ∨ x1 = 43 ∨ x1 = 44 ∨ x1 = 45 ∨ x1 = 46 ∨ x1 = 47 ∨ x1 = 48 ∨ x1 = 49 := by omega
            rcases this with r | r | r | r | r | r | r | r | r
            · subst r
              refine wp_iload dX12_worked_164 rfl ?_
              refine wp_tableIn (tgt := 212) dX12_worked_166 (by decide) (by decide) rfl (by decide) ?_
              refine wp_aload_n dX12_worked_212 rfl ?_
              refine wp_geta dX12_worked_213 fl_RX12_111 rfl (fk_33 hF1) (fr_33_52 hF1) ?_
              refine wp_iload dX12_worked_216 rfl ?_
              refine wp_iconst (v := 1) dX12_worked_218 (by decide) ?_
              refine wp_isub dX12_worked_219 ?_
              rw [nI_pred]
              refine wp_iload dX12_worked_220 rfl ?_
              refine wp_if_ne (tgt := 230) dX12_worked_222 (by decide) (fun h222 => ?_) (fun h222 => ?_)
              · refine wp_iconst (v := 1) dX12_worked_230 (by decide) ?_
                refine wp_goto (tgt := 235) dX12_worked_231 (by decide) ?_
                refine wp_iastoreN dX12_worked_235 (fk_63 hF1) (by omega) (by decide) ?_
                refine wp_goto (tgt := 412) dX12_worked_236 (by decide) ?_
                first | exact f 1 (bI_t (Or.inl h222)) | exact f 1 (bI_t (Or.inr h227)) | exact f 0 (bI_f (fun w => w.elim (fun v => v h222) (fun v => v h227))) | exact f 0 (bI_f (fun w => w.elim (fun v => v (Classical.not_not.mp h222)) (fun v => v h227)))
              · refine wp_iload dX12_worked_225 rfl ?_
                refine wp_if_eq (tgt := 234) dX12_worked_227 (by decide) (fun h227 => ?_) (fun h227 => ?_)
                · refine wp_iconst (v := 0) dX12_worked_234 (by decide) ?_
                  refine wp_iastoreN dX12_worked_235 (fk_63 hF1) (by omega) (by decide) ?_
                  refine wp_goto (tgt := 412) dX12_worked_236 (by decide) ?_
                  first | exact f 1 (bI_t (Or.inl h222)) | exact f 1 (bI_t (Or.inr h227)) | exact f 0 (bI_f (fun w => w.elim (fun v => v h222) (fun v => v h227))) | exact f 0 (bI_f (fun w => w.elim (fun v => v (Classical.not_not.mp h222)) (fun v => v h227)))
                · refine wp_iconst (v := 1) dX12_worked_230 (by decide) ?_
                  refine wp_goto (tgt := 235) dX12_worked_231 (by decide) ?_
                  refine wp_iastoreN dX12_worked_235 (fk_63 hF1) (by omega) (by decide) ?_
                  refine wp_goto (tgt := 412) dX12_worked_236 (by decide) ?_
                  first | exact f 1 (bI_t (Or.inl h222)) | exact f 1 (bI_t (Or.inr h227)) | exact f 0 (bI_f (fun w => w.elim (fun v => v h222) (fun v => v h227))) | exact f 0 (bI_f (fun w => w.elim (fun v => v (Classical.not_not.mp h222)) (fun v => v h227)))
            · subst r
              refine wp_iload dX12_worked_164 rfl ?_
              refine wp_tableIn (tgt := 239) dX12_worked_166 (by decide) (by decide) rfl (by decide) ?_
              refine wp_aload_n dX12_worked_239 rfl ?_
              refine wp_geta dX12_worked_240 fl_RX12_111 rfl (fk_33 hF1) (fr_33_52 hF1) ?_
              refine wp_iload dX12_worked_243 rfl ?_
              refine wp_iconst (v := 1) dX12_worked_245 (by decide) ?_
              refine wp_isub dX12_worked_246 ?_
              rw [nI_pred]
              refine wp_iload dX12_worked_247 rfl ?_
              refine wp_if_eq (tgt := 261) dX12_worked_249 (by decide) (fun h249 => ?_) (fun h249 => ?_)
              · refine wp_iconst (v := 0) dX12_worked_261 (by decide) ?_
                refine wp_iastoreN dX12_worked_262 (fk_63 hF1) (by omega) (by decide) ?_
                refine wp_goto (tgt := 412) dX12_worked_263 (by decide) ?_
                first | exact f 1 (bI_t ⟨h249, h254⟩) | exact f 0 (bI_f (fun w => w.1 h249)) | exact f 0 (bI_f (fun w => w.2 h254))
              · refine wp_iload dX12_worked_252 rfl ?_
                refine wp_if_eq (tgt := 261) dX12_worked_254 (by decide) (fun h254 => ?_) (fun h254 => ?_)
                · refine wp_iconst (v := 0) dX12_worked_261 (by decide) ?_
                  refine wp_iastoreN dX12_worked_262 (fk_63 hF1) (by omega) (by decide) ?_
                  refine wp_goto (tgt := 412) dX12_worked_263 (by decide) ?_
                  first | exact f 1 (bI_t ⟨h249, h254⟩) | exact f 0 (bI_f (fun w => w.1 h249)) | exact f 0 (bI_f (fun w => w.2 h254))
                · refine wp_iconst (v := 1) dX12_worked_257 (by decide) ?_
                  refine wp_goto (tgt := 262) dX12_worked_258 (by decide) ?_
                  refine wp_iastoreN dX12_worked_262 (fk_63 hF1) (by omega) (by decide) ?_
                  refine wp_goto (tgt := 412) dX12_worked_263 (by decide) ?_
                  first | exact f 1 (bI_t ⟨h249, h254⟩) | exact f 0 (bI_f (fun w => w.1 h249)) | exact f 0 (bI_f (fun w => w.2 h254))
            · subst r
              refine wp_iload dX12_worked_164 rfl ?_
              refine wp_tableIn (tgt := 266) dX12_worked_166 (by decide) (by decide) rfl (by decide) ?_
              refine wp_aload_n dX12_worked_266 rfl ?_
              refine wp_geta dX12_worked_267 fl_RX12_111 rfl (fk_33 hF1) (fr_33_52 hF1) ?_
              refine wp_iload dX12_worked_270 rfl ?_
              refine wp_iconst (v := 1) dX12_worked_272 (by decide) ?_
              refine wp_isub dX12_worked_273 ?_
              rw [nI_pred]
              refine wp_iload dX12_worked_274 rfl ?_
              refine wp_iload dX12_worked_276 rfl ?_
              refine wp_icmp_ne (tgt := 285) dX12_worked_278 (by decide) (fun h278 => ?_) (fun h278 => ?_)
              · refine wp_iconst (v := 0) dX12_worked_285 (by decide) ?_
                refine wp_iastoreN dX12_worked_286 (fk_63 hF1) (by omega) (by decide) ?_
                refine wp_goto (tgt := 412) dX12_worked_287 (by decide) ?_
                first | exact f 1 (bI_t h278) | exact f 0 (bI_f h278)
              · refine wp_iconst (v := 1) dX12_worked_281 (by decide) ?_
                refine wp_goto (tgt := 286) dX12_worked_282 (by decide) ?_
                refine wp_iastoreN dX12_worked_286 (fk_63 hF1) (by omega) (by decide) ?_
                refine wp_goto (tgt := 412) dX12_worked_287 (by decide) ?_
                first | exact f 1 (bI_t h278) | exact f 0 (bI_f h278)
            · subst r
              refine wp_iload dX12_worked_164 rfl ?_
              refine wp_tableIn (tgt := 290) dX12_worked_166 (by decide) (by decide) rfl (by decide) ?_
              refine wp_aload_n dX12_worked_290 rfl ?_
              refine wp_geta dX12_worked_291 fl_RX12_111 rfl (fk_33 hF1) (fr_33_52 hF1) ?_
              refine wp_iload dX12_worked_294 rfl ?_
              refine wp_iconst (v := 1) dX12_worked_296 (by decide) ?_
              refine wp_isub dX12_worked_297 ?_
              rw [nI_pred]
              refine wp_iload dX12_worked_298 rfl ?_
              refine wp_iload dX12_worked_300 rfl ?_
              refine wp_icmp_ge (tgt := 309) dX12_worked_302 (by decide) (fun h302 => ?_) (fun h302 => ?_)
              · refine wp_iconst (v := 0) dX12_worked_309 (by decide) ?_
                refine wp_iastoreN dX12_worked_310 (fk_63 hF1) (by omega) (by decide) ?_
                refine wp_goto (tgt := 412) dX12_worked_311 (by decide) ?_
                first | exact f 1 (bI_t (Int32.not_le.mp h302)) | exact f 0 (bI_f (fun w => Int32.not_le.mpr w h302))
              · refine wp_iconst (v := 1) dX12_worked_305 (by decide) ?_
                refine wp_goto (tgt := 310) dX12_worked_306 (by decide) ?_
                refine wp_iastoreN dX12_worked_310 (fk_63 hF1) (by omega) (by decide) ?_
                refine wp_goto (tgt := 412) dX12_worked_311 (by decide) ?_
                first | exact f 1 (bI_t (Int32.not_le.mp h302)) | exact f 0 (bI_f (fun w => Int32.not_le.mpr w h302))
            · subst r
              refine wp_iload dX12_worked_164 rfl ?_
              refine wp_tableIn (tgt := 314) dX12_worked_166 (by decide) (by decide) rfl (by decide) ?_
              refine wp_aload_n dX12_worked_314 rfl ?_
              refine wp_geta dX12_worked_315 fl_RX12_111 rfl (fk_33 hF1) (fr_33_52 hF1) ?_
              refine wp_iload dX12_worked_318 rfl ?_
              refine wp_iconst (v := 1) dX12_worked_320 (by decide) ?_
              refine wp_isub dX12_worked_321 ?_
              rw [nI_pred]
              refine wp_iload dX12_worked_322 rfl ?_
              refine wp_iload dX12_worked_324 rfl ?_
              refine wp_icmp_le (tgt := 333) dX12_worked_326 (by decide) (fun h326 => ?_) (fun h326 => ?_)
              · refine wp_iconst (v := 0) dX12_worked_333 (by decide) ?_
                refine wp_iastoreN dX12_worked_334 (fk_63 hF1) (by omega) (by decide) ?_
                refine wp_goto (tgt := 412) dX12_worked_335 (by decide) ?_
                first | exact f 1 (bI_t (Int32.not_le.mp h326)) | exact f 0 (bI_f (fun w => Int32.not_le.mpr w h326))
              · refine wp_iconst (v := 1) dX12_worked_329 (by decide) ?_
                refine wp_goto (tgt := 334) dX12_worked_330 (by decide) ?_
                refine wp_iastoreN dX12_worked_334 (fk_63 hF1) (by omega) (by decide) ?_
                refine wp_goto (tgt := 412) dX12_worked_335 (by decide) ?_
                first | exact f 1 (bI_t (Int32.not_le.mp h326)) | exact f 0 (bI_f (fun w => Int32.not_le.mpr w h326))
            · subst r
              refine wp_iload dX12_worked_164 rfl ?_
              refine wp_tableIn (tgt := 338) dX12_worked_166 (by decide) (by decide) rfl (by decide) ?_
              refine wp_aload_n dX12_worked_338 rfl ?_
              refine wp_geta dX12_worked_339 fl_RX12_111 rfl (fk_33 hF1) (fr_33_52 hF1) ?_
              refine wp_iload dX12_worked_342 rfl ?_
              refine wp_iconst (v := 1) dX12_worked_344 (by decide) ?_
              refine wp_isub dX12_worked_345 ?_
              rw [nI_pred]
              refine wp_iload dX12_worked_346 rfl ?_
              refine wp_iload dX12_worked_348 rfl ?_
              refine wp_iadd dX12_worked_350 ?_
              refine wp_iastoreN dX12_worked_351 (fk_63 hF1) (by omega) (by decide) ?_
              refine wp_goto (tgt := 412) dX12_worked_352 (by decide) ?_
              exact f _ rfl
            · subst r
              refine wp_iload dX12_worked_164 rfl ?_
              refine wp_tableIn (tgt := 355) dX12_worked_166 (by decide) (by decide) rfl (by decide) ?_
              refine wp_aload_n dX12_worked_355 rfl ?_
              refine wp_geta dX12_worked_356 fl_RX12_111 rfl (fk_33 hF1) (fr_33_52 hF1) ?_
              refine wp_iload dX12_worked_359 rfl ?_
              refine wp_iconst (v := 1) dX12_worked_361 (by decide) ?_
              refine wp_isub dX12_worked_362 ?_
              rw [nI_pred]
              refine wp_iload dX12_worked_363 rfl ?_
              refine wp_iload dX12_worked_365 rfl ?_
              refine wp_isub dX12_worked_367 ?_
              refine wp_iastoreN dX12_worked_368 (fk_63 hF1) (by omega) (by decide) ?_
              refine wp_goto (tgt := 412) dX12_worked_369 (by decide) ?_
              exact f _ rfl
            · subst r
              refine wp_iload dX12_worked_164 rfl ?_
              refine wp_tableIn (tgt := 372) dX12_worked_166 (by decide) (by decide) rfl (by decide) ?_
              refine wp_aload_n dX12_worked_372 rfl ?_
              refine wp_geta dX12_worked_373 fl_RX12_111 rfl (fk_33 hF1) (fr_33_52 hF1) ?_
              refine wp_iload dX12_worked_376 rfl ?_
              refine wp_iconst (v := 1) dX12_worked_378 (by decide) ?_
              refine wp_isub dX12_worked_379 ?_
              rw [nI_pred]
              refine wp_iload dX12_worked_380 rfl ?_
              refine wp_iload dX12_worked_382 rfl ?_
              refine wp_imul dX12_worked_384 ?_
              refine wp_iastoreN dX12_worked_385 (fk_63 hF1) (by omega) (by decide) ?_
              refine wp_goto (tgt := 412) dX12_worked_386 (by decide) ?_
              exact f _ rfl
            · subst r
              refine wp_iload dX12_worked_164 rfl ?_
              refine wp_tableOut (tgt := 389) dX12_worked_166 (Or.inr (by decide)) (by decide) ?_
              refine wp_aload_n dX12_worked_389 rfl ?_
              refine wp_geta dX12_worked_390 fl_RX12_111 rfl (fk_33 hF1) (fr_33_52 hF1) ?_
              refine wp_iload dX12_worked_393 rfl ?_
              refine wp_iconst (v := 1) dX12_worked_395 (by decide) ?_
              refine wp_isub dX12_worked_396 ?_
              rw [nI_pred]
              refine wp_iload dX12_worked_397 rfl ?_
              refine wp_if_ne (tgt := 406) dX12_worked_399 (by decide) (fun h399 => ?_) (fun h399 => ?_)
              · refine wp_iload dX12_worked_406 rfl ?_
                refine wp_iload dX12_worked_408 rfl ?_
                refine wp_idiv dX12_worked_410 (h399) ?_
                refine wp_iastoreN dX12_worked_411 (fk_63 hF1) (by omega) (by decide) ?_
                first | exact f 0 (if_pos h399) | exact f _ (if_neg h399)
              · refine wp_iconst (v := 0) dX12_worked_402 (by decide) ?_
                refine wp_goto (tgt := 411) dX12_worked_403 (by decide) ?_
                refine wp_iastoreN dX12_worked_411 (fk_63 hF1) (by omega) (by decide) ?_
                first | exact f 0 (if_pos h399) | exact f _ (if_neg h399)
          refine wp_iload dX12_worked_33 rfl ?_
          refine wp_bipush (v := 40) dX12_worked_35 (by decide) ?_
          refine wp_icmp_ge (tgt := 78) dX12_worked_37 (by decide) (fun _ => ?_) (fun h37 => absurd h37 (fun q => q (Int32.not_lt.mp c1)))
          refine wp_iload dX12_worked_78 rfl ?_
          refine wp_bipush (v := 40) dX12_worked_80 (by decide) ?_
          refine wp_icmp_eq (tgt := 92) dX12_worked_82 (by decide) (fun h82 => absurd h82 (c2)) (fun _ => ?_)
          refine wp_iload dX12_worked_85 rfl ?_
          refine wp_bipush (v := 50) dX12_worked_87 (by decide) ?_
          refine wp_icmp_ne (tgt := 141) dX12_worked_89 (by decide) (fun _ => ?_) (fun h89 => absurd h89 (c3))
          refine wp_inc (c := -1) dX12_worked_141 rfl (by decide) (by decide) ?_
          rw [nI_dec, show (z :: S2).length = S2.length + 1 from rfl]
          refine wp_aload_n dX12_worked_144 rfl ?_
          refine wp_geta dX12_worked_145 fl_RX12_111 rfl (fk_33 hF1) (fr_33_52 hF1) ?_
          refine wp_iload dX12_worked_148 rfl ?_
          refine wp_iconst (v := 1) dX12_worked_150 (by decide) ?_
          refine wp_isub dX12_worked_151 ?_
          rw [nI_pred]
          refine wp_ialoadN dX12_worked_152 (fk_63 hF1) (by omega) (by decide) ?_
          rw [hz]
          refine wp_istore dX12_worked_153 (by decide) ?_
          refine wp_aload_n dX12_worked_155 rfl ?_
          refine wp_geta dX12_worked_156 fl_RX12_111 rfl (fk_33 hF1) (fr_33_52 hF1) ?_
          refine wp_iload dX12_worked_159 rfl ?_
          refine wp_ialoadN dX12_worked_161 (fk_63 hF1) (by omega) (by decide) ?_
          rw [hy]
          refine wp_istore dX12_worked_162 (by decide) ?_
          exact f164
end MWK
