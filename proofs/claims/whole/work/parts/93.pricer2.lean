/-! ===== Pricer: the pure evaluation, and a step of it ===== -/
noncomputable def jn (a : Nat) (x y : Int32) : Int32 := if a = 41 then bI (x ≠ 0 ∨ y ≠ 0) else if a = 42 then bI (x ≠ 0 ∧ y ≠ 0) else if a = 43 then bI (x = y) else if a = 44 then bI (x < y) else if a = 45 then bI (y < x) else if a = 46 then x + y else if a = 47 then x - y else if a = 48 then x * y else if y = 0 then 0 else x / y
noncomputable def ev1 (nm : Nat → Int32) (x : Nat × Nat) (S : List Int32) : List Int32 :=
  if x.1 < 40 then (if x.1 = 0 then nI x.2 else nm (x.1 - 20)) :: S
  else match S with
    | [] => []
    | a :: S' => if x.1 = 40 then bI (a = 0) :: S' else if x.1 = 50 then (-a) :: S' else match S' with
      | [] => []
      | b :: S2 => jn x.1 b a :: S2
noncomputable def ev (nm : Nat → Int32) : OL → List Int32 → List Int32
  | [], S => S
  | x :: l, S => ev nm l (ev1 nm x S)
theorem ev1_len {nm : Nat → Int32} {x : Nat × Nat} {S : List Int32} {h : Nat} (e : ef x S.length = some h) : (ev1 nm x S).length = h := by
  unfold ef at e
  unfold ev1
  by_cases q : x.1 < 40
  · rw [if_pos q] at e
    rw [if_pos q]
    cases e; rfl
  · rw [if_neg q] at e
    rw [if_neg q]
    cases S with
    | nil =>
      by_cases q2 : x.1 = 40 ∨ x.1 = 50
      · rw [if_pos q2] at e; cases e
      · rw [if_neg q2] at e; cases e
    | cons a S =>
      by_cases q3 : x.1 = 40
      · rw [if_pos (Or.inl q3), if_pos (by show 1 ≤ S.length + 1; omega)] at e
        cases e
        show (if x.1 = 40 then _ else _ : List Int32).length = _
        rw [if_pos q3]; rfl
      · by_cases q4 : x.1 = 50
        · rw [if_pos (Or.inr q4), if_pos (by show 1 ≤ S.length + 1; omega)] at e
          cases e
          show (if x.1 = 40 then _ else if x.1 = 50 then _ else _ : List Int32).length = _
          rw [if_neg q3, if_pos q4]; rfl
        · rw [if_neg (fun z => z.elim q3 q4)] at e
          show (if x.1 = 40 then _ else if x.1 = 50 then _ else _ : List Int32).length = _
          rw [if_neg q3, if_neg q4]
          cases S with
          | nil => cases e
          | cons b S =>
            rw [if_pos (by show 2 ≤ S.length + 1 + 1; omega)] at e
            cases e; rfl
section PRC
variable {d : Nat} {H : PH} {Q : Option Value → PH → Prop} {H1 : PH} {S : List Int32}
theorem c_X7_joined {a : Nat} {x y : Int32} (ha : 41 ≤ a ∧ a ≤ 49) (hq : Q (some (.int (jn a x y))) H) : Wp mX7_joined d 0 0 0 [some (.int (encC (a, 0))), some (.int x), some (.int y)] [] H Q := by
  have hc : a = 41 ∨ a = 42 ∨ a = 43 ∨ a = 44 ∨ a = 45 ∨ a = 46 ∨ a = 47 ∨ a = 48 ∨ a = 49 := by omega
  rcases hc with h | h | h | h | h | h | h | h | h
  · subst h
    rw [show encC (41, 0) = (-7 : Int32) from rfl]
    have hq : Q (some (.int (bI (x ≠ 0 ∨ y ≠ 0)))) H := hq
    refine wp_iload_n dX7_joined_0 rfl ?_
    refine wp_lookup (tgt := 84) (off := 83) dX7_joined_1 (by decide) (by decide) (by decide) ?_
    refine wp_iload_n dX7_joined_84 rfl ?_
    refine wp_if_ne (tgt := 92) dX7_joined_85 (by decide) (fun h85 => ?_) (fun h85 => ?_)
    · refine wp_iconst (v := 1) dX7_joined_92 (by decide) ?_
      refine wp_goto (tgt := 97) dX7_joined_93 (by decide) ?_
      refine wp_ireturn rfl dX7_joined_97 ?_
      first | exact bq_t hq (Or.inl h85) | exact bq_t hq (Or.inr h89) | exact bq_f hq (fun z => z.elim (fun w => w (Classical.not_not.mp h85)) (fun w => w (Classical.not_not.mp h89))) | exact bq_f hq (fun z => z.elim (fun w => w h85) (fun w => w h89))
    · refine wp_iload_n dX7_joined_88 rfl ?_
      refine wp_if_eq (tgt := 96) dX7_joined_89 (by decide) (fun h89 => ?_) (fun h89 => ?_)
      · refine wp_iconst (v := 0) dX7_joined_96 (by decide) ?_
        refine wp_ireturn rfl dX7_joined_97 ?_
        first | exact bq_t hq (Or.inl h85) | exact bq_t hq (Or.inr h89) | exact bq_f hq (fun z => z.elim (fun w => w (Classical.not_not.mp h85)) (fun w => w (Classical.not_not.mp h89))) | exact bq_f hq (fun z => z.elim (fun w => w h85) (fun w => w h89))
      · refine wp_iconst (v := 1) dX7_joined_92 (by decide) ?_
        refine wp_goto (tgt := 97) dX7_joined_93 (by decide) ?_
        refine wp_ireturn rfl dX7_joined_97 ?_
        first | exact bq_t hq (Or.inl h85) | exact bq_t hq (Or.inr h89) | exact bq_f hq (fun z => z.elim (fun w => w (Classical.not_not.mp h85)) (fun w => w (Classical.not_not.mp h89))) | exact bq_f hq (fun z => z.elim (fun w => w h85) (fun w => w h89))
  · subst h
    rw [show encC (42, 0) = (-8 : Int32) from rfl]
    have hq : Q (some (.int (bI (x ≠ 0 ∧ y ≠ 0)))) H := hq
    refine wp_iload_n dX7_joined_0 rfl ?_
    refine wp_lookup (tgt := 98) (off := 97) dX7_joined_1 (by decide) (by decide) (by decide) ?_
    refine wp_iload_n dX7_joined_98 rfl ?_
    refine wp_if_eq (tgt := 110) dX7_joined_99 (by decide) (fun h99 => ?_) (fun h99 => ?_)
    · refine wp_iconst (v := 0) dX7_joined_110 (by decide) ?_
      refine wp_ireturn rfl dX7_joined_111 ?_
      first | exact bq_t hq ⟨h99, h103⟩ | exact bq_f hq (fun z => z.1 h99) | exact bq_f hq (fun z => z.2 h103)
    · refine wp_iload_n dX7_joined_102 rfl ?_
      refine wp_if_eq (tgt := 110) dX7_joined_103 (by decide) (fun h103 => ?_) (fun h103 => ?_)
      · refine wp_iconst (v := 0) dX7_joined_110 (by decide) ?_
        refine wp_ireturn rfl dX7_joined_111 ?_
        first | exact bq_t hq ⟨h99, h103⟩ | exact bq_f hq (fun z => z.1 h99) | exact bq_f hq (fun z => z.2 h103)
      · refine wp_iconst (v := 1) dX7_joined_106 (by decide) ?_
        refine wp_goto (tgt := 111) dX7_joined_107 (by decide) ?_
        refine wp_ireturn rfl dX7_joined_111 ?_
        first | exact bq_t hq ⟨h99, h103⟩ | exact bq_f hq (fun z => z.1 h99) | exact bq_f hq (fun z => z.2 h103)
  · subst h
    rw [show encC (43, 0) = (-61 : Int32) from rfl]
    have hq : Q (some (.int (bI (x = y)))) H := hq
    refine wp_iload_n dX7_joined_0 rfl ?_
    refine wp_lookup (tgt := 134) (off := 133) dX7_joined_1 (by decide) (by decide) (by decide) ?_
    refine wp_iload_n dX7_joined_134 rfl ?_
    refine wp_iload_n dX7_joined_135 rfl ?_
    refine wp_icmp_ne (tgt := 143) dX7_joined_136 (by decide) (fun h136 => ?_) (fun h136 => ?_)
    · refine wp_iconst (v := 0) dX7_joined_143 (by decide) ?_
      refine wp_ireturn rfl dX7_joined_144 ?_
      first | exact bq_t hq h136 | exact bq_f hq h136
    · refine wp_iconst (v := 1) dX7_joined_139 (by decide) ?_
      refine wp_goto (tgt := 144) dX7_joined_140 (by decide) ?_
      refine wp_ireturn rfl dX7_joined_144 ?_
      first | exact bq_t hq h136 | exact bq_f hq h136
  · subst h
    rw [show encC (44, 0) = (-60 : Int32) from rfl]
    have hq : Q (some (.int (bI (x < y)))) H := hq
    refine wp_iload_n dX7_joined_0 rfl ?_
    refine wp_lookup (tgt := 112) (off := 111) dX7_joined_1 (by decide) (by decide) (by decide) ?_
    refine wp_iload_n dX7_joined_112 rfl ?_
    refine wp_iload_n dX7_joined_113 rfl ?_
    refine wp_icmp_ge (tgt := 121) dX7_joined_114 (by decide) (fun h114 => ?_) (fun h114 => ?_)
    · refine wp_iconst (v := 0) dX7_joined_121 (by decide) ?_
      refine wp_ireturn rfl dX7_joined_122 ?_
      first | exact bq_t hq (Int32.not_le.mp h114) | exact bq_f hq (fun z => Int32.not_le.mpr z h114)
    · refine wp_iconst (v := 1) dX7_joined_117 (by decide) ?_
      refine wp_goto (tgt := 122) dX7_joined_118 (by decide) ?_
      refine wp_ireturn rfl dX7_joined_122 ?_
      first | exact bq_t hq (Int32.not_le.mp h114) | exact bq_f hq (fun z => Int32.not_le.mpr z h114)
  · subst h
    rw [show encC (45, 0) = (-62 : Int32) from rfl]
    have hq : Q (some (.int (bI (y < x)))) H := hq
    refine wp_iload_n dX7_joined_0 rfl ?_
    refine wp_lookup (tgt := 123) (off := 122) dX7_joined_1 (by decide) (by decide) (by decide) ?_
    refine wp_iload_n dX7_joined_123 rfl ?_
    refine wp_iload_n dX7_joined_124 rfl ?_
    refine wp_icmp_le (tgt := 132) dX7_joined_125 (by decide) (fun h125 => ?_) (fun h125 => ?_)
    · refine wp_iconst (v := 0) dX7_joined_132 (by decide) ?_
      refine wp_ireturn rfl dX7_joined_133 ?_
      first | exact bq_t hq (Int32.not_le.mp h125) | exact bq_f hq (fun z => Int32.not_le.mpr z h125)
    · refine wp_iconst (v := 1) dX7_joined_128 (by decide) ?_
      refine wp_goto (tgt := 133) dX7_joined_129 (by decide) ?_
      refine wp_ireturn rfl dX7_joined_133 ?_
      first | exact bq_t hq (Int32.not_le.mp h125) | exact bq_f hq (fun z => Int32.not_le.mpr z h125)
  · subst h
    rw [show encC (46, 0) = (-43 : Int32) from rfl]
    have hq : Q (some (.int (x + y))) H := hq
    refine wp_iload_n dX7_joined_0 rfl ?_
    refine wp_lookup (tgt := 145) (off := 144) dX7_joined_1 (by decide) (by decide) (by decide) ?_
    refine wp_iload_n dX7_joined_145 rfl ?_
    refine wp_iload_n dX7_joined_146 rfl ?_
    refine wp_iadd dX7_joined_147 ?_
    refine wp_ireturn rfl dX7_joined_148 ?_
    exact hq
  · subst h
    rw [show encC (47, 0) = (-45 : Int32) from rfl]
    have hq : Q (some (.int (x - y))) H := hq
    refine wp_iload_n dX7_joined_0 rfl ?_
    refine wp_lookup (tgt := 149) (off := 148) dX7_joined_1 (by decide) (by decide) (by decide) ?_
    refine wp_iload_n dX7_joined_149 rfl ?_
    refine wp_iload_n dX7_joined_150 rfl ?_
    refine wp_isub dX7_joined_151 ?_
    refine wp_ireturn rfl dX7_joined_152 ?_
    exact hq
  · subst h
    rw [show encC (48, 0) = (-42 : Int32) from rfl]
    have hq : Q (some (.int (x * y))) H := hq
    refine wp_iload_n dX7_joined_0 rfl ?_
    refine wp_lookup (tgt := 153) (off := 152) dX7_joined_1 (by decide) (by decide) (by decide) ?_
    refine wp_iload_n dX7_joined_153 rfl ?_
    refine wp_iload_n dX7_joined_154 rfl ?_
    refine wp_imul dX7_joined_155 ?_
    refine wp_ireturn rfl dX7_joined_156 ?_
    exact hq
  · subst h
    rw [show encC (49, 0) = (-47 : Int32) from rfl]
    have hq : Q (some (.int (if y = 0 then 0 else x / y))) H := hq
    refine wp_iload_n dX7_joined_0 rfl ?_
    refine wp_lookup (tgt := 157) (off := 156) dX7_joined_1 (by decide) (by decide) (by decide) ?_
    refine wp_iload_n dX7_joined_157 rfl ?_
    refine wp_if_ne (tgt := 165) dX7_joined_158 (by decide) (fun h158 => ?_) (fun h158 => ?_)
    · refine wp_iload_n dX7_joined_165 rfl ?_
      refine wp_iload_n dX7_joined_166 rfl ?_
      refine wp_idiv dX7_joined_167 (h158) ?_
      refine wp_ireturn rfl dX7_joined_168 ?_
      first | (rw [if_pos h158] at hq; exact hq) | (rw [if_neg h158] at hq; exact hq)
    · refine wp_iconst (v := 0) dX7_joined_161 (by decide) ?_
      refine wp_goto (tgt := 168) dX7_joined_162 (by decide) ?_
      refine wp_ireturn rfl dX7_joined_168 ?_
      first | (rw [if_pos h158] at hq; exact hq) | (rw [if_neg h158] at hq; exact hq)
end PRC
