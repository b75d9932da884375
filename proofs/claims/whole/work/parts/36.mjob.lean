/-! ===== the reference's copy and job ===== -/
def isCp (a _ : Nat) : Prop := a = 48 ∨ a = 49 ∨ a = 50 ∨ a = 51
/-- row a, cut into pieces of w: piece j is piece 10 of before, the others are as they were -/
def cpRow (H H' : PH) (a w j : Nat) : Prop := (∀ k, k < w → hI H' a (w * j + k) = hI H a (w * 10 + k)) ∧ ∀ i, ¬ (w * j ≤ i ∧ i < w * j + w) → hI H' a i = hI H a i
/-- the same, as far as k -/
def cpTo (H H' : PH) (a w j k : Nat) : Prop := (∀ e, e < k → hI H' a (w * j + e) = hI H a (w * 10 + e)) ∧ ∀ i, ¬ (w * j ≤ i ∧ i < w * j + k) → hI H' a i = hI H a i
theorem cpTo_0 {H H' : PH} {a w j : Nat} (h : ∀ i, hI H' a i = hI H a i) : cpTo H H' a w j 0 := ⟨fun e he => by omega, fun i _ => h i⟩
theorem cpTo_s {H H' : PH} {a w j k : Nat} {v : Int32} (h : cpTo H H' a w j k) (hv : v = hI H a (w * 10 + k)) : cpTo H (sI H' a (w * j + k) v) a w j (k + 1) := by
  refine ⟨fun e he => ?_, fun i hi => ?_⟩
  · rw [hI_sI']
    by_cases q : e = k
    · subst q; simp [hv]
    · rw [if_neg (by omega)]; exact h.1 e (by omega)
  · rw [hI_sI', if_neg (by omega)]; exact h.2 i (by omega)
theorem cpTo_o {H H' : PH} {a w j k a' k' : Nat} {v : Int32} (h : cpTo H H' a w j k) (ha : a ≠ a') : cpTo H (sI H' a' k' v) a w j k := ⟨fun e he => by rw [hI_sI', if_neg (fun q => ha q.1)]; exact h.1 e he, fun i hi => by rw [hI_sI', if_neg (fun q => ha q.1)]; exact h.2 i hi⟩
theorem nI_m (w a b : Nat) : nI w * nI a + nI b = nI (w * a + b) := by rw [← nI_add, ← pk_mul]
/-- what copy(10, j) does -/
def CpOk (H H' : PH) (j : Nat) : Prop := eqX isCp H H' ∧ cpRow H H' 51 1 j ∧ cpRow H H' 50 22 j ∧ cpRow H H' 48 600 j ∧ cpRow H H' 49 600 j
theorem cp_full {H H' : PH} {a w j : Nat} (h : cpTo H H' a w j w) : cpRow H H' a w j := h
section Cp
variable {d j : Nat} {H : PH} {Q : Option Value → PH → Prop}
theorem l_X12_copy2 (hF : Fix H) (hj : j < 10) (hq : ∀ H', CpOk H H' j → Q none H') : ∀ (n k : Nat) (H1 : PH), 600 - k = n → k ≤ 600 → eqX isCp H H1 → cpRow H H1 51 1 j → cpRow H H1 50 22 j → cpTo H H1 48 600 j k → cpTo H H1 49 600 j k → Wp mX12_copy d 0 0 50 [some (.ref 33), some (.int 10), some (.int (nI j)), some (.int (nI k))] [] H1 Q := by
  intro n
  induction n with
  | zero =>
    intro k H1 hn hk he g1 g2 g3 g4
    have hin : k = 600 := by omega
    subst hin
    have hF1 := Fix_eqX he hF
    refine wp_iload_n dX12_copy_50 rfl ?_
    refine wp_sipush (v := 600) dX12_copy_51 (by decide) ?_
    refine wp_icmp_ge (tgt := 111) dX12_copy_54 (by decide) (fun _ => ?_) (fun h54 => absurd h54 (by decide))
    refine wp_return rfl dX12_copy_111 ?_
    exact hq H1 ⟨he, g1, g2, g3, g4⟩
  | succ n ih =>
    intro k H1 hn hk he g1 g2 g3 g4
    have hF1 := Fix_eqX he hF
    have hlt : k < 600 := by omega
    have e48 : hI H1 48 (600 * 10 + k) = hI H 48 (600 * 10 + k) := g3.2 _ (by omega)
    have e49 : hI H1 49 (600 * 10 + k) = hI H 49 (600 * 10 + k) := g4.2 _ (by omega)
    refine wp_iload_n dX12_copy_50 rfl ?_
    refine wp_sipush (v := 600) dX12_copy_51 (by decide) ?_
    refine wp_icmp_ge (tgt := 111) dX12_copy_54 (by decide) (fun h54 => absurd h54 (nI_ge (a := k) (b := 600) hlt (by decide))) (fun _ => ?_)
    refine wp_aload_n dX12_copy_57 rfl ?_
    refine wp_geta dX12_copy_58 fl_RX12_63 rfl (fk_33 hF1) (fr_33_20 hF1) ?_
    refine wp_sipush (v := 600) dX12_copy_61 (by decide) ?_
    refine wp_iload_n dX12_copy_64 rfl ?_
    refine wp_imul dX12_copy_65 ?_
    refine wp_iload_n dX12_copy_66 rfl ?_
    refine wp_iadd dX12_copy_67 ?_
    rw [show (600 : Int32) = nI 600 from rfl, nI_m]
    refine wp_aload_n dX12_copy_68 rfl ?_
    refine wp_geta dX12_copy_69 fl_RX12_63 rfl (fk_33 hF1) (fr_33_20 hF1) ?_
    refine wp_sipush (v := 600) dX12_copy_72 (by decide) ?_
    refine wp_iload_n dX12_copy_75 rfl ?_
    refine wp_imul dX12_copy_76 ?_
    refine wp_iload_n dX12_copy_77 rfl ?_
    refine wp_iadd dX12_copy_78 ?_
    rw [show (600 : Int32) = nI 600 from rfl, show (10 : Int32) = nI 10 from rfl, nI_m]
    refine wp_ialoadN dX12_copy_79 (fk_48 hF1) (by omega) (by decide) ?_
    refine wp_iastoreN dX12_copy_80 (fk_48 hF1) (by omega) (by decide) ?_
    refine wp_aload_n dX12_copy_81 rfl ?_
    refine wp_geta dX12_copy_82 fl_RX12_66 rfl (fk_33 (Fix_sI hF1)) (fr_33_21 (Fix_sI hF1)) ?_
    refine wp_sipush (v := 600) dX12_copy_85 (by decide) ?_
    refine wp_iload_n dX12_copy_88 rfl ?_
    refine wp_imul dX12_copy_89 ?_
    refine wp_iload_n dX12_copy_90 rfl ?_
    refine wp_iadd dX12_copy_91 ?_
    rw [show (600 : Int32) = nI 600 from rfl, nI_m]
    refine wp_aload_n dX12_copy_92 rfl ?_
    refine wp_geta dX12_copy_93 fl_RX12_66 rfl (fk_33 (Fix_sI hF1)) (fr_33_21 (Fix_sI hF1)) ?_
    refine wp_sipush (v := 600) dX12_copy_96 (by decide) ?_
    refine wp_iload_n dX12_copy_99 rfl ?_
    refine wp_imul dX12_copy_100 ?_
    refine wp_iload_n dX12_copy_101 rfl ?_
    refine wp_iadd dX12_copy_102 ?_
    rw [show (600 : Int32) = nI 600 from rfl, nI_m]
    refine wp_ialoadN dX12_copy_103 (fk_49 (Fix_sI hF1)) (by omega) (by decide) ?_
    refine wp_iastoreN dX12_copy_104 (fk_49 (Fix_sI hF1)) (by omega) (by decide) ?_
    refine wp_incN dX12_copy_105 rfl (by decide) ?_
    refine wp_goto (tgt := 50) dX12_copy_108 (by decide) ?_
    refine ih (k + 1) _ (by omega) (by omega) (eqX_sI (eqX_sI he (by simp [isCp])) (by simp [isCp])) ?_ ?_ ?_ ?_
    · exact cpTo_o (cpTo_o g1 (by decide)) (by decide)
    · exact cpTo_o (cpTo_o g2 (by decide)) (by decide)
    · exact cpTo_o (cpTo_s g3 e48) (by decide)
    · exact cpTo_s (cpTo_o g4 (by decide)) (by rw [hI_sI', if_neg (by omega)]; exact e49)
theorem l_X12_copy1 (hF : Fix H) (hj : j < 10) (hq : ∀ H', CpOk H H' j → Q none H') : ∀ (n k : Nat) (H1 : PH), 22 - k = n → k ≤ 22 → eqX isCp H H1 → cpRow H H1 51 1 j → cpTo H H1 50 22 j k → (∀ i, hI H1 48 i = hI H 48 i) → (∀ i, hI H1 49 i = hI H 49 i) → Wp mX12_copy d 0 0 14 [some (.ref 33), some (.int 10), some (.int (nI j)), some (.int (nI k))] [] H1 Q := by
  intro n
  induction n with
  | zero =>
    intro k H1 hn hk he g1 g2 g3 g4
    have hin : k = 22 := by omega
    subst hin
    have hF1 := Fix_eqX he hF
    refine wp_iload_n dX12_copy_14 rfl ?_
    refine wp_bipush (v := 22) dX12_copy_15 (by decide) ?_
    refine wp_icmp_ge (tgt := 48) dX12_copy_17 (by decide) (fun _ => ?_) (fun h17 => absurd h17 (by decide))
    refine wp_iconst (v := 0) dX12_copy_48 (by decide) ?_
    refine wp_istore_n dX12_copy_49 (by decide) ?_
    exact l_X12_copy2 hF hj hq 600 0 H1 rfl (by omega) he g1 g2 (cpTo_0 g3) (cpTo_0 g4)
  | succ n ih =>
    intro k H1 hn hk he g1 g2 g3 g4
    have hF1 := Fix_eqX he hF
    have hlt : k < 22 := by omega
    have e50 : hI H1 50 (22 * 10 + k) = hI H 50 (22 * 10 + k) := g2.2 _ (by omega)
    refine wp_iload_n dX12_copy_14 rfl ?_
    refine wp_bipush (v := 22) dX12_copy_15 (by decide) ?_
    refine wp_icmp_ge (tgt := 48) dX12_copy_17 (by decide) (fun h17 => absurd h17 (nI_ge (a := k) (b := 22) hlt (by decide))) (fun _ => ?_)
    refine wp_aload_n dX12_copy_20 rfl ?_
    refine wp_geta dX12_copy_21 fl_RX12_69 rfl (fk_33 hF1) (fr_33_22 hF1) ?_
    refine wp_bipush (v := 22) dX12_copy_24 (by decide) ?_
    refine wp_iload_n dX12_copy_26 rfl ?_
    refine wp_imul dX12_copy_27 ?_
    refine wp_iload_n dX12_copy_28 rfl ?_
    refine wp_iadd dX12_copy_29 ?_
    rw [show (22 : Int32) = nI 22 from rfl, nI_m]
    refine wp_aload_n dX12_copy_30 rfl ?_
    refine wp_geta dX12_copy_31 fl_RX12_69 rfl (fk_33 hF1) (fr_33_22 hF1) ?_
    refine wp_bipush (v := 22) dX12_copy_34 (by decide) ?_
    refine wp_iload_n dX12_copy_36 rfl ?_
    refine wp_imul dX12_copy_37 ?_
    refine wp_iload_n dX12_copy_38 rfl ?_
    refine wp_iadd dX12_copy_39 ?_
    rw [show (22 : Int32) = nI 22 from rfl, show (10 : Int32) = nI 10 from rfl, nI_m]
    refine wp_ialoadN dX12_copy_40 (fk_50 hF1) (by omega) (by decide) ?_
    refine wp_iastoreN dX12_copy_41 (fk_50 hF1) (by omega) (by decide) ?_
    refine wp_incN dX12_copy_42 rfl (by decide) ?_
    refine wp_goto (tgt := 14) dX12_copy_45 (by decide) ?_
    refine ih (k + 1) _ (by omega) (by omega) (eqX_sI he (by simp [isCp])) ?_ ?_ ?_ ?_
    · exact cpTo_o g1 (by decide)
    · exact cpTo_s g2 e50
    · exact fun i => by rw [hI_sI', if_neg (by omega)]; exact g3 i
    · exact fun i => by rw [hI_sI', if_neg (by omega)]; exact g4 i
theorem c_X12_copy (hF : Fix H) (hj : j < 10) (hq : ∀ H', CpOk H H' j → Q none H') : Wp mX12_copy d 0 0 0 [some (.ref 33), some (.int 10), some (.int (nI j)), none] [] H Q := by
  refine wp_aload_n dX12_copy_0 rfl ?_
  refine wp_geta dX12_copy_1 fl_RX12_72 rfl (fk_33 hF) (fr_33_23 hF) ?_
  refine wp_iload_n dX12_copy_4 rfl ?_
  refine wp_aload_n dX12_copy_5 rfl ?_
  refine wp_geta dX12_copy_6 fl_RX12_72 rfl (fk_33 hF) (fr_33_23 hF) ?_
  refine wp_iload_n dX12_copy_9 rfl ?_
  rw [show (10 : Int32) = nI 10 from rfl]
  refine wp_ialoadN dX12_copy_10 (fk_51 hF) (by omega) (by decide) ?_
  refine wp_iastoreN dX12_copy_11 (fk_51 hF) (by omega) (by decide) ?_
  refine wp_iconst (v := 0) dX12_copy_12 (by decide) ?_
  refine wp_istore_n dX12_copy_13 (by decide) ?_
  refine l_X12_copy1 hF hj hq 22 0 _ rfl (by omega) (eqX_sI eqX_rfl (by simp [isCp])) ?_ ?_ ?_ ?_
  · have := cpTo_s (H := H) (H' := H) (a := 51) (w := 1) (j := j) (k := 0) (v := hI H 51 10) (cpTo_0 (fun _ => rfl)) rfl
    have h9 : cpTo H (sI H 51 j (hI H 51 10)) 51 1 j 1 := by simpa using this
    exact h9
  · exact cpTo_0 (fun i => by rw [hI_sI', if_neg (by omega)])
  · exact fun i => by rw [hI_sI', if_neg (by omega)]
  · exact fun i => by rw [hI_sI', if_neg (by omega)]
end Cp
def mjNew (H : PH) (m : Nat) (k f t b w h : Int32) : PH := sI (sI (sI (sI (sI (sI H 40 m k) 41 m f) 42 m t) 43 m b) 44 m w) 45 m h
abbrev mjCan (k f t b w h : Int32) : Prop := (0 ≤ k ∧ k ≤ 2) ∧ (0 ≤ f ∧ f < 8) ∧ (0 ≤ t ∧ t < 8) ∧ (0 ≤ b ∧ b ≤ 1400) ∧ (0 ≤ w ∧ w ≤ 300) ∧ (h = 1 ∨ h = 2 ∨ h = 4)
theorem c_X12_job {d m : Nat} {k f t b w h : Int32} {H : PH} {Q : Option Value → PH → Prop} (hF : Fix H) (hn : hI H 33 11 = nI m) (h10' : m ≤ 10)
    (hq1 : mjCan k f t b w h → m < 10 → ∀ H', CpOk (mjNew H m k f t b w h) H' m → Q (some (.int (nI m))) (sI H' 33 11 (nI (m + 1))))
    (hq2 : ¬ (mjCan k f t b w h ∧ m < 10) → Q (some (.int (-1))) H) :
    Wp mX12_job (d + 1) 0 0 0 [some (.ref 33), some (.int k), some (.int f), some (.int t), some (.int b), some (.int w), some (.int h), none] [] H Q := by
  have hbad : ¬ (mjCan k f t b w h ∧ m < 10) → Wp mX12_job (d + 1) 0 0 76 [some (.ref 33), some (.int k), some (.int f), some (.int t), some (.int b), some (.int w), some (.int h), none] [] H Q := by
    intro hb
    refine wp_iconst (v := -1) dX12_job_76 (by decide) ?_
    refine wp_ireturn rfl dX12_job_77 ?_
    exact hq2 hb
  have hgood : mjCan k f t b w h → m < 10 → Wp mX12_job (d + 1) 0 0 78 [some (.ref 33), some (.int k), some (.int f), some (.int t), some (.int b), some (.int w), some (.int h), none] [] H Q := by
    intro hc hn9
    refine wp_aload_n dX12_job_78 rfl ?_
    refine wp_geti dX12_job_79 fl_RX12_159 rfl (fk_33 hF) ?_
    rw [hn]
    refine wp_istore dX12_job_82 (by decide) ?_
    refine wp_aload_n dX12_job_84 rfl ?_
    refine wp_geta dX12_job_85 fl_RX12_39 rfl (fk_33 hF) (fr_33_12 hF) ?_
    refine wp_iload dX12_job_88 rfl ?_
    refine wp_iload_n dX12_job_90 rfl ?_
    refine wp_iastoreN dX12_job_91 (fk_40 hF) (by omega) (by decide) ?_
    refine wp_aload_n dX12_job_92 rfl ?_
    refine wp_geta dX12_job_93 fl_RX12_42 rfl (fk_33 (Fix_sI hF)) (fr_33_13 (Fix_sI hF)) ?_
    refine wp_iload dX12_job_96 rfl ?_
    refine wp_iload_n dX12_job_98 rfl ?_
    refine wp_iastoreN dX12_job_99 (fk_41 (Fix_sI hF)) (by omega) (by decide) ?_
    refine wp_aload_n dX12_job_100 rfl ?_
    refine wp_geta dX12_job_101 fl_RX12_45 rfl (fk_33 (Fix_sI (Fix_sI hF))) (fr_33_14 (Fix_sI (Fix_sI hF))) ?_
    refine wp_iload dX12_job_104 rfl ?_
    refine wp_iload_n dX12_job_106 rfl ?_
    refine wp_iastoreN dX12_job_107 (fk_42 (Fix_sI (Fix_sI hF))) (by omega) (by decide) ?_
    refine wp_aload_n dX12_job_108 rfl ?_
    refine wp_geta dX12_job_109 fl_RX12_48 rfl (fk_33 (Fix_sI (Fix_sI (Fix_sI hF)))) (fr_33_15 (Fix_sI (Fix_sI (Fix_sI hF)))) ?_
    refine wp_iload dX12_job_112 rfl ?_
    refine wp_iload dX12_job_114 rfl ?_
    refine wp_iastoreN dX12_job_116 (fk_43 (Fix_sI (Fix_sI (Fix_sI hF)))) (by omega) (by decide) ?_
    refine wp_aload_n dX12_job_117 rfl ?_
    refine wp_geta dX12_job_118 fl_RX12_51 rfl (fk_33 (Fix_sI (Fix_sI (Fix_sI (Fix_sI hF))))) (fr_33_16 (Fix_sI (Fix_sI (Fix_sI (Fix_sI hF))))) ?_
    refine wp_iload dX12_job_121 rfl ?_
    refine wp_iload dX12_job_123 rfl ?_
    refine wp_iastoreN dX12_job_125 (fk_44 (Fix_sI (Fix_sI (Fix_sI (Fix_sI hF))))) (by omega) (by decide) ?_
    refine wp_aload_n dX12_job_126 rfl ?_
    refine wp_geta dX12_job_127 fl_RX12_54 rfl (fk_33 (Fix_sI (Fix_sI (Fix_sI (Fix_sI (Fix_sI hF)))))) (fr_33_17 (Fix_sI (Fix_sI (Fix_sI (Fix_sI (Fix_sI hF)))))) ?_
    refine wp_iload dX12_job_130 rfl ?_
    refine wp_iload dX12_job_132 rfl ?_
    refine wp_iastoreN dX12_job_134 (fk_45 (Fix_sI (Fix_sI (Fix_sI (Fix_sI (Fix_sI hF)))))) (by omega) (by decide) ?_
    refine wp_aload_n dX12_job_135 rfl ?_
    refine wp_bipush (v := 10) dX12_job_136 (by decide) ?_
    refine wp_iload dX12_job_138 rfl ?_
    have hF2 : Fix (mjNew H m k f t b w h) := (Fix_sI (Fix_sI (Fix_sI (Fix_sI (Fix_sI (Fix_sI hF))))))
    refine wp_callv2 (ci := 12) dX12_job_140 lk_RX12_162 ok_X12_copy im_X12_copy se_X12_copy rfl rfl (fk_33 (Fix_sI (Fix_sI (Fix_sI (Fix_sI (Fix_sI (Fix_sI hF))))))) (Nat.le_of_ble_eq_true rfl) (Nat.le_of_ble_eq_true rfl) ?_
    refine c_X12_copy (H := mjNew H m k f t b w h) hF2 hn9 (fun H' g => ?_)
    have e5 : hI H' 33 11 = nI m := (g.1.2.2.2.2 33 11 (by simp [isCp])).trans hn
    have hF3 := Fix_eqX g.1 hF2
    refine wp_aload_n dX12_job_143 rfl ?_
    refine wp_dup dX12_job_144 rfl ?_
    refine wp_geti dX12_job_145 fl_RX12_159 rfl (fk_33 hF3) ?_
    rw [e5]
    refine wp_iconst (v := 1) dX12_job_148 (by decide) ?_
    refine wp_iadd dX12_job_149 ?_
    rw [nI_1]
    refine wp_puti dX12_job_150 fl_RX12_159 (mp_12_11 _ _) rfl (fk_33 hF3) ?_
    refine wp_iload dX12_job_153 rfl ?_
    refine wp_ireturn rfl dX12_job_155 ?_
    exact hq1 hc hn9 H' g
  refine wp_aload_n dX12_job_0 rfl ?_
  refine wp_geti dX12_job_1 fl_RX12_159 rfl (fk_33 hF) ?_
  refine wp_bipush (v := 10) dX12_job_4 (by decide) ?_
  refine wp_icmp_eq (tgt := 76) dX12_job_6 (by decide) (fun h6 => ?_) (fun h6 => ?_)
  · exact hbad (fun q => by
        first
          | exact absurd q.2 (by rw [(nI_eq (a := m) (b := 10) (by omega) (by omega)).mp (hn.symm.trans h6)]; decide)
          | exact absurd h10 (Int32.not_lt.mpr q.1.1.1)
          | exact absurd h15 (Int32.not_lt.mpr q.1.1.2)
          | exact h22 q.1.2.1
          | exact h29 q.1.2.2.1
          | exact absurd h34 (Int32.not_lt.mpr q.1.2.2.2.1.1)
          | exact absurd h42 (Int32.not_lt.mpr q.1.2.2.2.1.2)
          | exact absurd h47 (Int32.not_lt.mpr q.1.2.2.2.2.1.1)
          | exact absurd h55 (Int32.not_lt.mpr q.1.2.2.2.2.1.2)
          | exact q.1.2.2.2.2.2.elim (fun z => h61 z) (fun z => z.elim (fun z => h67 z) (fun z => h73 z)))
  · refine wp_iload_n dX12_job_9 rfl ?_
    refine wp_if_lt (tgt := 76) dX12_job_10 (by decide) (fun h10 => ?_) (fun h10 => ?_)
    · exact hbad (fun q => by
          first
            | exact absurd q.2 (by rw [(nI_eq (a := m) (b := 10) (by omega) (by omega)).mp (hn.symm.trans h6)]; decide)
            | exact absurd h10 (Int32.not_lt.mpr q.1.1.1)
            | exact absurd h15 (Int32.not_lt.mpr q.1.1.2)
            | exact h22 q.1.2.1
            | exact h29 q.1.2.2.1
            | exact absurd h34 (Int32.not_lt.mpr q.1.2.2.2.1.1)
            | exact absurd h42 (Int32.not_lt.mpr q.1.2.2.2.1.2)
            | exact absurd h47 (Int32.not_lt.mpr q.1.2.2.2.2.1.1)
            | exact absurd h55 (Int32.not_lt.mpr q.1.2.2.2.2.1.2)
            | exact q.1.2.2.2.2.2.elim (fun z => h61 z) (fun z => z.elim (fun z => h67 z) (fun z => h73 z)))
    · refine wp_iload_n dX12_job_13 rfl ?_
      refine wp_iconst (v := 2) dX12_job_14 (by decide) ?_
      refine wp_icmp_gt (tgt := 76) dX12_job_15 (by decide) (fun h15 => ?_) (fun h15 => ?_)
      · exact hbad (fun q => by
            first
              | exact absurd q.2 (by rw [(nI_eq (a := m) (b := 10) (by omega) (by omega)).mp (hn.symm.trans h6)]; decide)
              | exact absurd h10 (Int32.not_lt.mpr q.1.1.1)
              | exact absurd h15 (Int32.not_lt.mpr q.1.1.2)
              | exact h22 q.1.2.1
              | exact h29 q.1.2.2.1
              | exact absurd h34 (Int32.not_lt.mpr q.1.2.2.2.1.1)
              | exact absurd h42 (Int32.not_lt.mpr q.1.2.2.2.1.2)
              | exact absurd h47 (Int32.not_lt.mpr q.1.2.2.2.2.1.1)
              | exact absurd h55 (Int32.not_lt.mpr q.1.2.2.2.2.1.2)
              | exact q.1.2.2.2.2.2.elim (fun z => h61 z) (fun z => z.elim (fun z => h67 z) (fun z => h73 z)))
      · refine wp_iload_n dX12_job_18 rfl ?_
        refine wp_calls1 dX12_job_19 lk_RX12_139 ok_X12_isPlace st_X12_isPlace (Nat.le_of_ble_eq_true rfl) (Nat.le_of_ble_eq_true rfl) ?_
        refine c_X12_isPlace ?_
        refine wp_ifb_eq (tgt := 76) dX12_job_22 (by decide) (fun h22 => ?_) (fun h22 => ?_)
        · exact hbad (fun q => by
              first
                | exact absurd q.2 (by rw [(nI_eq (a := m) (b := 10) (by omega) (by omega)).mp (hn.symm.trans h6)]; decide)
                | exact absurd h10 (Int32.not_lt.mpr q.1.1.1)
                | exact absurd h15 (Int32.not_lt.mpr q.1.1.2)
                | exact h22 q.1.2.1
                | exact h29 q.1.2.2.1
                | exact absurd h34 (Int32.not_lt.mpr q.1.2.2.2.1.1)
                | exact absurd h42 (Int32.not_lt.mpr q.1.2.2.2.1.2)
                | exact absurd h47 (Int32.not_lt.mpr q.1.2.2.2.2.1.1)
                | exact absurd h55 (Int32.not_lt.mpr q.1.2.2.2.2.1.2)
                | exact q.1.2.2.2.2.2.elim (fun z => h61 z) (fun z => z.elim (fun z => h67 z) (fun z => h73 z)))
        · refine wp_iload_n dX12_job_25 rfl ?_
          refine wp_calls1 dX12_job_26 lk_RX12_139 ok_X12_isPlace st_X12_isPlace (Nat.le_of_ble_eq_true rfl) (Nat.le_of_ble_eq_true rfl) ?_
          refine c_X12_isPlace ?_
          refine wp_ifb_eq (tgt := 76) dX12_job_29 (by decide) (fun h29 => ?_) (fun h29 => ?_)
          · exact hbad (fun q => by
                first
                  | exact absurd q.2 (by rw [(nI_eq (a := m) (b := 10) (by omega) (by omega)).mp (hn.symm.trans h6)]; decide)
                  | exact absurd h10 (Int32.not_lt.mpr q.1.1.1)
                  | exact absurd h15 (Int32.not_lt.mpr q.1.1.2)
                  | exact h22 q.1.2.1
                  | exact h29 q.1.2.2.1
                  | exact absurd h34 (Int32.not_lt.mpr q.1.2.2.2.1.1)
                  | exact absurd h42 (Int32.not_lt.mpr q.1.2.2.2.1.2)
                  | exact absurd h47 (Int32.not_lt.mpr q.1.2.2.2.2.1.1)
                  | exact absurd h55 (Int32.not_lt.mpr q.1.2.2.2.2.1.2)
                  | exact q.1.2.2.2.2.2.elim (fun z => h61 z) (fun z => z.elim (fun z => h67 z) (fun z => h73 z)))
          · refine wp_iload dX12_job_32 rfl ?_
            refine wp_if_lt (tgt := 76) dX12_job_34 (by decide) (fun h34 => ?_) (fun h34 => ?_)
            · exact hbad (fun q => by
                  first
                    | exact absurd q.2 (by rw [(nI_eq (a := m) (b := 10) (by omega) (by omega)).mp (hn.symm.trans h6)]; decide)
                    | exact absurd h10 (Int32.not_lt.mpr q.1.1.1)
                    | exact absurd h15 (Int32.not_lt.mpr q.1.1.2)
                    | exact h22 q.1.2.1
                    | exact h29 q.1.2.2.1
                    | exact absurd h34 (Int32.not_lt.mpr q.1.2.2.2.1.1)
                    | exact absurd h42 (Int32.not_lt.mpr q.1.2.2.2.1.2)
                    | exact absurd h47 (Int32.not_lt.mpr q.1.2.2.2.2.1.1)
                    | exact absurd h55 (Int32.not_lt.mpr q.1.2.2.2.2.1.2)
                    | exact q.1.2.2.2.2.2.elim (fun z => h61 z) (fun z => z.elim (fun z => h67 z) (fun z => h73 z)))
            · refine wp_iload dX12_job_37 rfl ?_
              refine wp_sipush (v := 1400) dX12_job_39 (by decide) ?_
              refine wp_icmp_gt (tgt := 76) dX12_job_42 (by decide) (fun h42 => ?_) (fun h42 => ?_)
              · exact hbad (fun q => by
                    first
                      | exact absurd q.2 (by rw [(nI_eq (a := m) (b := 10) (by omega) (by omega)).mp (hn.symm.trans h6)]; decide)
                      | exact absurd h10 (Int32.not_lt.mpr q.1.1.1)
                      | exact absurd h15 (Int32.not_lt.mpr q.1.1.2)
                      | exact h22 q.1.2.1
                      | exact h29 q.1.2.2.1
                      | exact absurd h34 (Int32.not_lt.mpr q.1.2.2.2.1.1)
                      | exact absurd h42 (Int32.not_lt.mpr q.1.2.2.2.1.2)
                      | exact absurd h47 (Int32.not_lt.mpr q.1.2.2.2.2.1.1)
                      | exact absurd h55 (Int32.not_lt.mpr q.1.2.2.2.2.1.2)
                      | exact q.1.2.2.2.2.2.elim (fun z => h61 z) (fun z => z.elim (fun z => h67 z) (fun z => h73 z)))
              · refine wp_iload dX12_job_45 rfl ?_
                refine wp_if_lt (tgt := 76) dX12_job_47 (by decide) (fun h47 => ?_) (fun h47 => ?_)
                · exact hbad (fun q => by
                      first
                        | exact absurd q.2 (by rw [(nI_eq (a := m) (b := 10) (by omega) (by omega)).mp (hn.symm.trans h6)]; decide)
                        | exact absurd h10 (Int32.not_lt.mpr q.1.1.1)
                        | exact absurd h15 (Int32.not_lt.mpr q.1.1.2)
                        | exact h22 q.1.2.1
                        | exact h29 q.1.2.2.1
                        | exact absurd h34 (Int32.not_lt.mpr q.1.2.2.2.1.1)
                        | exact absurd h42 (Int32.not_lt.mpr q.1.2.2.2.1.2)
                        | exact absurd h47 (Int32.not_lt.mpr q.1.2.2.2.2.1.1)
                        | exact absurd h55 (Int32.not_lt.mpr q.1.2.2.2.2.1.2)
                        | exact q.1.2.2.2.2.2.elim (fun z => h61 z) (fun z => z.elim (fun z => h67 z) (fun z => h73 z)))
                · refine wp_iload dX12_job_50 rfl ?_
                  refine wp_sipush (v := 300) dX12_job_52 (by decide) ?_
                  refine wp_icmp_gt (tgt := 76) dX12_job_55 (by decide) (fun h55 => ?_) (fun h55 => ?_)
                  · exact hbad (fun q => by
                        first
                          | exact absurd q.2 (by rw [(nI_eq (a := m) (b := 10) (by omega) (by omega)).mp (hn.symm.trans h6)]; decide)
                          | exact absurd h10 (Int32.not_lt.mpr q.1.1.1)
                          | exact absurd h15 (Int32.not_lt.mpr q.1.1.2)
                          | exact h22 q.1.2.1
                          | exact h29 q.1.2.2.1
                          | exact absurd h34 (Int32.not_lt.mpr q.1.2.2.2.1.1)
                          | exact absurd h42 (Int32.not_lt.mpr q.1.2.2.2.1.2)
                          | exact absurd h47 (Int32.not_lt.mpr q.1.2.2.2.2.1.1)
                          | exact absurd h55 (Int32.not_lt.mpr q.1.2.2.2.2.1.2)
                          | exact q.1.2.2.2.2.2.elim (fun z => h61 z) (fun z => z.elim (fun z => h67 z) (fun z => h73 z)))
                  · refine wp_iload dX12_job_58 rfl ?_
                    refine wp_iconst (v := 1) dX12_job_60 (by decide) ?_
                    refine wp_icmp_eq (tgt := 78) dX12_job_61 (by decide) (fun h61 => ?_) (fun h61 => ?_)
                    · have hn9 : m < 10 := by
                        rcases Nat.lt_or_ge m 10 with q | q
                        · exact q
                        · exact absurd (by rw [hn, show m = 10 by omega]; rfl) h6
                      exact hgood ⟨⟨Int32.not_lt.mp h10, Int32.not_lt.mp h15⟩, h22, h29, ⟨Int32.not_lt.mp h34, Int32.not_lt.mp h42⟩, ⟨Int32.not_lt.mp h47, Int32.not_lt.mp h55⟩, by first | exact Or.inl h61 | exact Or.inr (Or.inl h67) | exact Or.inr (Or.inr h73)⟩ hn9
                    · refine wp_iload dX12_job_64 rfl ?_
                      refine wp_iconst (v := 2) dX12_job_66 (by decide) ?_
                      refine wp_icmp_eq (tgt := 78) dX12_job_67 (by decide) (fun h67 => ?_) (fun h67 => ?_)
                      · have hn9 : m < 10 := by
                          rcases Nat.lt_or_ge m 10 with q | q
                          · exact q
                          · exact absurd (by rw [hn, show m = 10 by omega]; rfl) h6
                        exact hgood ⟨⟨Int32.not_lt.mp h10, Int32.not_lt.mp h15⟩, h22, h29, ⟨Int32.not_lt.mp h34, Int32.not_lt.mp h42⟩, ⟨Int32.not_lt.mp h47, Int32.not_lt.mp h55⟩, by first | exact Or.inl h61 | exact Or.inr (Or.inl h67) | exact Or.inr (Or.inr h73)⟩ hn9
                      · refine wp_iload dX12_job_70 rfl ?_
                        refine wp_iconst (v := 4) dX12_job_72 (by decide) ?_
                        refine wp_icmp_eq (tgt := 78) dX12_job_73 (by decide) (fun h73 => ?_) (fun h73 => ?_)
                        · have hn9 : m < 10 := by
                            rcases Nat.lt_or_ge m 10 with q | q
                            · exact q
                            · exact absurd (by rw [hn, show m = 10 by omega]; rfl) h6
                          exact hgood ⟨⟨Int32.not_lt.mp h10, Int32.not_lt.mp h15⟩, h22, h29, ⟨Int32.not_lt.mp h34, Int32.not_lt.mp h42⟩, ⟨Int32.not_lt.mp h47, Int32.not_lt.mp h55⟩, by first | exact Or.inl h61 | exact Or.inr (Or.inl h67) | exact Or.inr (Or.inr h73)⟩ hn9
                        · exact hbad (fun q => by
                              first
                                | exact absurd q.2 (by rw [(nI_eq (a := m) (b := 10) (by omega) (by omega)).mp (hn.symm.trans h6)]; decide)
                                | exact absurd h10 (Int32.not_lt.mpr q.1.1.1)
                                | exact absurd h15 (Int32.not_lt.mpr q.1.1.2)
                                | exact h22 q.1.2.1
                                | exact h29 q.1.2.2.1
                                | exact absurd h34 (Int32.not_lt.mpr q.1.2.2.2.1.1)
                                | exact absurd h42 (Int32.not_lt.mpr q.1.2.2.2.1.2)
                                | exact absurd h47 (Int32.not_lt.mpr q.1.2.2.2.2.1.1)
                                | exact absurd h55 (Int32.not_lt.mpr q.1.2.2.2.2.1.2)
                                | exact q.1.2.2.2.2.2.elim (fun z => h61 z) (fun z => z.elim (fun z => h67 z) (fun z => h73 z)))
