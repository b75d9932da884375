/-! ===== the start: the heap behind both constructors: by program (mkstart.py) ===== -/
def Y149 : List (Nat × Nat) := []
theorem ei_149 (L : Nat) (xs : Nat → Int32) : ∀ a k, a ≤ hN (K149 L xs) → (a, k) ∉ Y149 → hI (K149 L xs) a k = hI (K149 L xs) a k := fun _ _ _ _ => rfl
theorem el_149 (L : Nat) (xs : Nat → Int32) : ∀ a k, a ≤ hN (K149 L xs) → hL (K149 L xs) a k = hL (K149 L xs) a k := fun _ _ _ => rfl
abbrev Y148 : List (Nat × Nat) := Y149
theorem ei_148 (L : Nat) (xs : Nat → Int32) : ∀ a k, a ≤ hN (K148 L xs) → (a, k) ∉ Y148 → hI (K149 L xs) a k = hI (K148 L xs) a k := fun a k h hw => ei_149 L xs a k h hw
theorem el_148 (L : Nat) (xs : Nat → Int32) : ∀ a k, a ≤ hN (K148 L xs) → hL (K149 L xs) a k = hL (K148 L xs) a k := fun a k h => el_149 L xs a k h
abbrev Y147 : List (Nat × Nat) := Y148
theorem ei_147 (L : Nat) (xs : Nat → Int32) : ∀ a k, a ≤ hN (K147 L xs) → (a, k) ∉ Y147 → hI (K149 L xs) a k = hI (K147 L xs) a k := fun a k h hw => (ei_148 L xs a k (by rw [hn_147] at h; rw [hn_148]; omega) hw).trans (hI_nC' h)
theorem el_147 (L : Nat) (xs : Nat → Int32) : ∀ a k, a ≤ hN (K147 L xs) → hL (K149 L xs) a k = hL (K147 L xs) a k := fun a k h => (el_148 L xs a k (by rw [hn_147] at h; rw [hn_148]; omega)).trans (hL_nC' h)
abbrev Y146 : List (Nat × Nat) := Y147
theorem ei_146 (L : Nat) (xs : Nat → Int32) : ∀ a k, a ≤ hN (K146 L xs) → (a, k) ∉ Y146 → hI (K149 L xs) a k = hI (K146 L xs) a k := fun a k h hw => ei_147 L xs a k h hw
theorem el_146 (L : Nat) (xs : Nat → Int32) : ∀ a k, a ≤ hN (K146 L xs) → hL (K149 L xs) a k = hL (K146 L xs) a k := fun a k h => el_147 L xs a k h
abbrev Y145 : List (Nat × Nat) := Y146
theorem ei_145 (L : Nat) (xs : Nat → Int32) : ∀ a k, a ≤ hN (K145 L xs) → (a, k) ∉ Y145 → hI (K149 L xs) a k = hI (K145 L xs) a k := fun a k h hw => (ei_146 L xs a k (by rw [hn_145] at h; rw [hn_146]; omega) hw).trans (hI_nC' h)
theorem el_145 (L : Nat) (xs : Nat → Int32) : ∀ a k, a ≤ hN (K145 L xs) → hL (K149 L xs) a k = hL (K145 L xs) a k := fun a k h => (el_146 L xs a k (by rw [hn_145] at h; rw [hn_146]; omega)).trans (hL_nC' h)
abbrev Y144 : List (Nat × Nat) := Y145
theorem ei_144 (L : Nat) (xs : Nat → Int32) : ∀ a k, a ≤ hN (K144 L xs) → (a, k) ∉ Y144 → hI (K149 L xs) a k = hI (K144 L xs) a k := fun a k h hw => ei_145 L xs a k h hw
theorem el_144 (L : Nat) (xs : Nat → Int32) : ∀ a k, a ≤ hN (K144 L xs) → hL (K149 L xs) a k = hL (K144 L xs) a k := fun a k h => el_145 L xs a k h
abbrev Y143 : List (Nat × Nat) := Y144
theorem ei_143 (L : Nat) (xs : Nat → Int32) : ∀ a k, a ≤ hN (K143 L xs) → (a, k) ∉ Y143 → hI (K149 L xs) a k = hI (K143 L xs) a k := fun a k h hw => (ei_144 L xs a k (by rw [hn_143] at h; rw [hn_144]; omega) hw).trans (hI_nC' h)
theorem el_143 (L : Nat) (xs : Nat → Int32) : ∀ a k, a ≤ hN (K143 L xs) → hL (K149 L xs) a k = hL (K143 L xs) a k := fun a k h => (el_144 L xs a k (by rw [hn_143] at h; rw [hn_144]; omega)).trans (hL_nC' h)
abbrev Y142 : List (Nat × Nat) := Y143
theorem ei_142 (L : Nat) (xs : Nat → Int32) : ∀ a k, a ≤ hN (K142 L xs) → (a, k) ∉ Y142 → hI (K149 L xs) a k = hI (K142 L xs) a k := fun a k h hw => ei_143 L xs a k h hw
theorem el_142 (L : Nat) (xs : Nat → Int32) : ∀ a k, a ≤ hN (K142 L xs) → hL (K149 L xs) a k = hL (K142 L xs) a k := fun a k h => el_143 L xs a k h
abbrev Y141 : List (Nat × Nat) := Y142
theorem ei_141 (L : Nat) (xs : Nat → Int32) : ∀ a k, a ≤ hN (K141 L xs) → (a, k) ∉ Y141 → hI (K149 L xs) a k = hI (K141 L xs) a k := fun a k h hw => (ei_142 L xs a k (by rw [hn_141] at h; rw [hn_142]; omega) hw).trans (hI_nC' h)
theorem el_141 (L : Nat) (xs : Nat → Int32) : ∀ a k, a ≤ hN (K141 L xs) → hL (K149 L xs) a k = hL (K141 L xs) a k := fun a k h => (el_142 L xs a k (by rw [hn_141] at h; rw [hn_142]; omega)).trans (hL_nC' h)
abbrev Y140 : List (Nat × Nat) := Y141
theorem ei_140 (L : Nat) (xs : Nat → Int32) : ∀ a k, a ≤ hN (K140 L xs) → (a, k) ∉ Y140 → hI (K149 L xs) a k = hI (K140 L xs) a k := fun a k h hw => ei_141 L xs a k h hw
theorem el_140 (L : Nat) (xs : Nat → Int32) : ∀ a k, a ≤ hN (K140 L xs) → hL (K149 L xs) a k = hL (K140 L xs) a k := fun a k h => el_141 L xs a k h
abbrev Y139 : List (Nat × Nat) := Y140
theorem ei_139 (L : Nat) (xs : Nat → Int32) : ∀ a k, a ≤ hN (K139 L xs) → (a, k) ∉ Y139 → hI (K149 L xs) a k = hI (K139 L xs) a k := fun a k h hw => (ei_140 L xs a k (by rw [hn_139] at h; rw [hn_140]; omega) hw).trans (hI_nC' h)
theorem el_139 (L : Nat) (xs : Nat → Int32) : ∀ a k, a ≤ hN (K139 L xs) → hL (K149 L xs) a k = hL (K139 L xs) a k := fun a k h => (el_140 L xs a k (by rw [hn_139] at h; rw [hn_140]; omega)).trans (hL_nC' h)
abbrev Y138 : List (Nat × Nat) := Y139
theorem ei_138 (L : Nat) (xs : Nat → Int32) : ∀ a k, a ≤ hN (K138 L xs) → (a, k) ∉ Y138 → hI (K149 L xs) a k = hI (K138 L xs) a k := fun a k h hw => ei_139 L xs a k h hw
theorem el_138 (L : Nat) (xs : Nat → Int32) : ∀ a k, a ≤ hN (K138 L xs) → hL (K149 L xs) a k = hL (K138 L xs) a k := fun a k h => el_139 L xs a k h
abbrev Y137 : List (Nat × Nat) := Y138
theorem ei_137 (L : Nat) (xs : Nat → Int32) : ∀ a k, a ≤ hN (K137 L xs) → (a, k) ∉ Y137 → hI (K149 L xs) a k = hI (K137 L xs) a k := fun a k h hw => (ei_138 L xs a k (by rw [hn_137] at h; rw [hn_138]; omega) hw).trans (hI_nC' h)
theorem el_137 (L : Nat) (xs : Nat → Int32) : ∀ a k, a ≤ hN (K137 L xs) → hL (K149 L xs) a k = hL (K137 L xs) a k := fun a k h => (el_138 L xs a k (by rw [hn_137] at h; rw [hn_138]; omega)).trans (hL_nC' h)
abbrev Y136 : List (Nat × Nat) := Y137
theorem ei_136 (L : Nat) (xs : Nat → Int32) : ∀ a k, a ≤ hN (K136 L xs) → (a, k) ∉ Y136 → hI (K149 L xs) a k = hI (K136 L xs) a k := fun a k h hw => ei_137 L xs a k h hw
theorem el_136 (L : Nat) (xs : Nat → Int32) : ∀ a k, a ≤ hN (K136 L xs) → hL (K149 L xs) a k = hL (K136 L xs) a k := fun a k h => el_137 L xs a k h
abbrev Y135 : List (Nat × Nat) := Y136
theorem ei_135 (L : Nat) (xs : Nat → Int32) : ∀ a k, a ≤ hN (K135 L xs) → (a, k) ∉ Y135 → hI (K149 L xs) a k = hI (K135 L xs) a k := fun a k h hw => (ei_136 L xs a k (by rw [hn_135] at h; rw [hn_136]; omega) hw).trans (hI_nC' h)
theorem el_135 (L : Nat) (xs : Nat → Int32) : ∀ a k, a ≤ hN (K135 L xs) → hL (K149 L xs) a k = hL (K135 L xs) a k := fun a k h => (el_136 L xs a k (by rw [hn_135] at h; rw [hn_136]; omega)).trans (hL_nC' h)
abbrev Y134 : List (Nat × Nat) := Y135
theorem ei_134 (L : Nat) (xs : Nat → Int32) : ∀ a k, a ≤ hN (K134 L xs) → (a, k) ∉ Y134 → hI (K149 L xs) a k = hI (K134 L xs) a k := fun a k h hw => ei_135 L xs a k h hw
theorem el_134 (L : Nat) (xs : Nat → Int32) : ∀ a k, a ≤ hN (K134 L xs) → hL (K149 L xs) a k = hL (K134 L xs) a k := fun a k h => el_135 L xs a k h
abbrev Y133 : List (Nat × Nat) := Y134
theorem ei_133 (L : Nat) (xs : Nat → Int32) : ∀ a k, a ≤ hN (K133 L xs) → (a, k) ∉ Y133 → hI (K149 L xs) a k = hI (K133 L xs) a k := fun a k h hw => (ei_134 L xs a k (by rw [hn_133] at h; rw [hn_134]; omega) hw).trans (hI_nC' h)
theorem el_133 (L : Nat) (xs : Nat → Int32) : ∀ a k, a ≤ hN (K133 L xs) → hL (K149 L xs) a k = hL (K133 L xs) a k := fun a k h => (el_134 L xs a k (by rw [hn_133] at h; rw [hn_134]; omega)).trans (hL_nC' h)
def Y132 : List (Nat × Nat) := (33, 42) :: Y133
theorem ei_132 (L : Nat) (xs : Nat → Int32) : ∀ a k, a ≤ hN (K132 L xs) → (a, k) ∉ Y132 → hI (K149 L xs) a k = hI (K132 L xs) a k := fun a k h hw => (ei_133 L xs a k h (fun q => hw (List.mem_cons_of_mem _ q))).trans (if_neg (fun q => hw (by rw [q.1, q.2]; exact List.mem_cons_self)))
theorem el_132 (L : Nat) (xs : Nat → Int32) : ∀ a k, a ≤ hN (K132 L xs) → hL (K149 L xs) a k = hL (K132 L xs) a k := fun a k h => el_133 L xs a k h
abbrev Y131 : List (Nat × Nat) := Y132
theorem ei_131 (L : Nat) (xs : Nat → Int32) : ∀ a k, a ≤ hN (K131 L xs) → (a, k) ∉ Y131 → hI (K149 L xs) a k = hI (K131 L xs) a k := fun a k h hw => ei_132 L xs a k h hw
theorem el_131 (L : Nat) (xs : Nat → Int32) : ∀ a k, a ≤ hN (K131 L xs) → hL (K149 L xs) a k = hL (K131 L xs) a k := fun a k h => el_132 L xs a k h
abbrev Y130 : List (Nat × Nat) := Y131
theorem ei_130 (L : Nat) (xs : Nat → Int32) : ∀ a k, a ≤ hN (K130 L xs) → (a, k) ∉ Y130 → hI (K149 L xs) a k = hI (K130 L xs) a k := fun a k h hw => (ei_131 L xs a k (by rw [hn_130] at h; rw [hn_131]; omega) hw).trans (hI_nC' h)
theorem el_130 (L : Nat) (xs : Nat → Int32) : ∀ a k, a ≤ hN (K130 L xs) → hL (K149 L xs) a k = hL (K130 L xs) a k := fun a k h => (el_131 L xs a k (by rw [hn_130] at h; rw [hn_131]; omega)).trans (hL_nC' h)
abbrev Y129 : List (Nat × Nat) := Y130
theorem ei_129 (L : Nat) (xs : Nat → Int32) : ∀ a k, a ≤ hN (K129 L xs) → (a, k) ∉ Y129 → hI (K149 L xs) a k = hI (K129 L xs) a k := fun a k h hw => ei_130 L xs a k h hw
theorem el_129 (L : Nat) (xs : Nat → Int32) : ∀ a k, a ≤ hN (K129 L xs) → hL (K149 L xs) a k = hL (K129 L xs) a k := fun a k h => el_130 L xs a k h
abbrev Y128 : List (Nat × Nat) := Y129
theorem ei_128 (L : Nat) (xs : Nat → Int32) : ∀ a k, a ≤ hN (K128 L xs) → (a, k) ∉ Y128 → hI (K149 L xs) a k = hI (K128 L xs) a k := fun a k h hw => (ei_129 L xs a k (by rw [hn_128] at h; rw [hn_129]; omega) hw).trans (hI_nC' h)
theorem el_128 (L : Nat) (xs : Nat → Int32) : ∀ a k, a ≤ hN (K128 L xs) → hL (K149 L xs) a k = hL (K128 L xs) a k := fun a k h => (el_129 L xs a k (by rw [hn_128] at h; rw [hn_129]; omega)).trans (hL_nC' h)
abbrev Y127 : List (Nat × Nat) := Y128
theorem ei_127 (L : Nat) (xs : Nat → Int32) : ∀ a k, a ≤ hN (K127 L xs) → (a, k) ∉ Y127 → hI (K149 L xs) a k = hI (K127 L xs) a k := fun a k h hw => ei_128 L xs a k h hw
theorem el_127 (L : Nat) (xs : Nat → Int32) : ∀ a k, a ≤ hN (K127 L xs) → hL (K149 L xs) a k = hL (K127 L xs) a k := fun a k h => el_128 L xs a k h
abbrev Y126 : List (Nat × Nat) := Y127
theorem ei_126 (L : Nat) (xs : Nat → Int32) : ∀ a k, a ≤ hN (K126 L xs) → (a, k) ∉ Y126 → hI (K149 L xs) a k = hI (K126 L xs) a k := fun a k h hw => (ei_127 L xs a k (by rw [hn_126] at h; rw [hn_127]; omega) hw).trans (hI_nC' h)
theorem el_126 (L : Nat) (xs : Nat → Int32) : ∀ a k, a ≤ hN (K126 L xs) → hL (K149 L xs) a k = hL (K126 L xs) a k := fun a k h => (el_127 L xs a k (by rw [hn_126] at h; rw [hn_127]; omega)).trans (hL_nC' h)
abbrev Y125 : List (Nat × Nat) := Y126
theorem ei_125 (L : Nat) (xs : Nat → Int32) : ∀ a k, a ≤ hN (K125 L xs) → (a, k) ∉ Y125 → hI (K149 L xs) a k = hI (K125 L xs) a k := fun a k h hw => ei_126 L xs a k h hw
theorem el_125 (L : Nat) (xs : Nat → Int32) : ∀ a k, a ≤ hN (K125 L xs) → hL (K149 L xs) a k = hL (K125 L xs) a k := fun a k h => el_126 L xs a k h
abbrev Y124 : List (Nat × Nat) := Y125
theorem ei_124 (L : Nat) (xs : Nat → Int32) : ∀ a k, a ≤ hN (K124 L xs) → (a, k) ∉ Y124 → hI (K149 L xs) a k = hI (K124 L xs) a k := fun a k h hw => (ei_125 L xs a k (by rw [hn_124] at h; rw [hn_125]; omega) hw).trans (hI_nC' h)
theorem el_124 (L : Nat) (xs : Nat → Int32) : ∀ a k, a ≤ hN (K124 L xs) → hL (K149 L xs) a k = hL (K124 L xs) a k := fun a k h => (el_125 L xs a k (by rw [hn_124] at h; rw [hn_125]; omega)).trans (hL_nC' h)
abbrev Y123 : List (Nat × Nat) := Y124
theorem ei_123 (L : Nat) (xs : Nat → Int32) : ∀ a k, a ≤ hN (K123 L xs) → (a, k) ∉ Y123 → hI (K149 L xs) a k = hI (K123 L xs) a k := fun a k h hw => ei_124 L xs a k h hw
theorem el_123 (L : Nat) (xs : Nat → Int32) : ∀ a k, a ≤ hN (K123 L xs) → hL (K149 L xs) a k = hL (K123 L xs) a k := fun a k h => el_124 L xs a k h
abbrev Y122 : List (Nat × Nat) := Y123
theorem ei_122 (L : Nat) (xs : Nat → Int32) : ∀ a k, a ≤ hN (K122 L xs) → (a, k) ∉ Y122 → hI (K149 L xs) a k = hI (K122 L xs) a k := fun a k h hw => (ei_123 L xs a k (by rw [hn_122] at h; rw [hn_123]; omega) hw).trans (hI_nC' h)
theorem el_122 (L : Nat) (xs : Nat → Int32) : ∀ a k, a ≤ hN (K122 L xs) → hL (K149 L xs) a k = hL (K122 L xs) a k := fun a k h => (el_123 L xs a k (by rw [hn_122] at h; rw [hn_123]; omega)).trans (hL_nC' h)
abbrev Y121 : List (Nat × Nat) := Y122
theorem ei_121 (L : Nat) (xs : Nat → Int32) : ∀ a k, a ≤ hN (K121 L xs) → (a, k) ∉ Y121 → hI (K149 L xs) a k = hI (K121 L xs) a k := fun a k h hw => ei_122 L xs a k h hw
theorem el_121 (L : Nat) (xs : Nat → Int32) : ∀ a k, a ≤ hN (K121 L xs) → hL (K149 L xs) a k = hL (K121 L xs) a k := fun a k h => el_122 L xs a k h
abbrev Y120 : List (Nat × Nat) := Y121
theorem ei_120 (L : Nat) (xs : Nat → Int32) : ∀ a k, a ≤ hN (K120 L xs) → (a, k) ∉ Y120 → hI (K149 L xs) a k = hI (K120 L xs) a k := fun a k h hw => (ei_121 L xs a k (by rw [hn_120] at h; rw [hn_121]; omega) hw).trans (hI_nC' h)
theorem el_120 (L : Nat) (xs : Nat → Int32) : ∀ a k, a ≤ hN (K120 L xs) → hL (K149 L xs) a k = hL (K120 L xs) a k := fun a k h => (el_121 L xs a k (by rw [hn_120] at h; rw [hn_121]; omega)).trans (hL_nC' h)
abbrev Y119 : List (Nat × Nat) := Y120
theorem ei_119 (L : Nat) (xs : Nat → Int32) : ∀ a k, a ≤ hN (K119 L xs) → (a, k) ∉ Y119 → hI (K149 L xs) a k = hI (K119 L xs) a k := fun a k h hw => ei_120 L xs a k h hw
theorem el_119 (L : Nat) (xs : Nat → Int32) : ∀ a k, a ≤ hN (K119 L xs) → hL (K149 L xs) a k = hL (K119 L xs) a k := fun a k h => el_120 L xs a k h
abbrev Y118 : List (Nat × Nat) := Y119
theorem ei_118 (L : Nat) (xs : Nat → Int32) : ∀ a k, a ≤ hN (K118 L xs) → (a, k) ∉ Y118 → hI (K149 L xs) a k = hI (K118 L xs) a k := fun a k h hw => (ei_119 L xs a k (by rw [hn_118] at h; rw [hn_119]; omega) hw).trans (hI_nC' h)
theorem el_118 (L : Nat) (xs : Nat → Int32) : ∀ a k, a ≤ hN (K118 L xs) → hL (K149 L xs) a k = hL (K118 L xs) a k := fun a k h => (el_119 L xs a k (by rw [hn_118] at h; rw [hn_119]; omega)).trans (hL_nC' h)
abbrev Y117 : List (Nat × Nat) := Y118
theorem ei_117 (L : Nat) (xs : Nat → Int32) : ∀ a k, a ≤ hN (K117 L xs) → (a, k) ∉ Y117 → hI (K149 L xs) a k = hI (K117 L xs) a k := fun a k h hw => ei_118 L xs a k h hw
theorem el_117 (L : Nat) (xs : Nat → Int32) : ∀ a k, a ≤ hN (K117 L xs) → hL (K149 L xs) a k = hL (K117 L xs) a k := fun a k h => el_118 L xs a k h
abbrev Y116 : List (Nat × Nat) := Y117
theorem ei_116 (L : Nat) (xs : Nat → Int32) : ∀ a k, a ≤ hN (K116 L xs) → (a, k) ∉ Y116 → hI (K149 L xs) a k = hI (K116 L xs) a k := fun a k h hw => (ei_117 L xs a k (by rw [hn_116] at h; rw [hn_117]; omega) hw).trans (hI_nC' h)
theorem el_116 (L : Nat) (xs : Nat → Int32) : ∀ a k, a ≤ hN (K116 L xs) → hL (K149 L xs) a k = hL (K116 L xs) a k := fun a k h => (el_117 L xs a k (by rw [hn_116] at h; rw [hn_117]; omega)).trans (hL_nC' h)
abbrev Y115 : List (Nat × Nat) := Y116
theorem ei_115 (L : Nat) (xs : Nat → Int32) : ∀ a k, a ≤ hN (K115 L xs) → (a, k) ∉ Y115 → hI (K149 L xs) a k = hI (K115 L xs) a k := fun a k h hw => ei_116 L xs a k h hw
theorem el_115 (L : Nat) (xs : Nat → Int32) : ∀ a k, a ≤ hN (K115 L xs) → hL (K149 L xs) a k = hL (K115 L xs) a k := fun a k h => el_116 L xs a k h
abbrev Y114 : List (Nat × Nat) := Y115
theorem ei_114 (L : Nat) (xs : Nat → Int32) : ∀ a k, a ≤ hN (K114 L xs) → (a, k) ∉ Y114 → hI (K149 L xs) a k = hI (K114 L xs) a k := fun a k h hw => (ei_115 L xs a k (by rw [hn_114] at h; rw [hn_115]; omega) hw).trans (hI_nC' h)
theorem el_114 (L : Nat) (xs : Nat → Int32) : ∀ a k, a ≤ hN (K114 L xs) → hL (K149 L xs) a k = hL (K114 L xs) a k := fun a k h => (el_115 L xs a k (by rw [hn_114] at h; rw [hn_115]; omega)).trans (hL_nC' h)
abbrev Y113 : List (Nat × Nat) := Y114
theorem ei_113 (L : Nat) (xs : Nat → Int32) : ∀ a k, a ≤ hN (K113 L xs) → (a, k) ∉ Y113 → hI (K149 L xs) a k = hI (K113 L xs) a k := fun a k h hw => ei_114 L xs a k h hw
theorem el_113 (L : Nat) (xs : Nat → Int32) : ∀ a k, a ≤ hN (K113 L xs) → hL (K149 L xs) a k = hL (K113 L xs) a k := fun a k h => el_114 L xs a k h
abbrev Y112 : List (Nat × Nat) := Y113
theorem ei_112 (L : Nat) (xs : Nat → Int32) : ∀ a k, a ≤ hN (K112 L xs) → (a, k) ∉ Y112 → hI (K149 L xs) a k = hI (K112 L xs) a k := fun a k h hw => (ei_113 L xs a k (by rw [hn_112] at h; rw [hn_113]; omega) hw).trans (hI_nC' h)
theorem el_112 (L : Nat) (xs : Nat → Int32) : ∀ a k, a ≤ hN (K112 L xs) → hL (K149 L xs) a k = hL (K112 L xs) a k := fun a k h => (el_113 L xs a k (by rw [hn_112] at h; rw [hn_113]; omega)).trans (hL_nC' h)
abbrev Y111 : List (Nat × Nat) := Y112
theorem ei_111 (L : Nat) (xs : Nat → Int32) : ∀ a k, a ≤ hN (K111 L xs) → (a, k) ∉ Y111 → hI (K149 L xs) a k = hI (K111 L xs) a k := fun a k h hw => ei_112 L xs a k h hw
theorem el_111 (L : Nat) (xs : Nat → Int32) : ∀ a k, a ≤ hN (K111 L xs) → hL (K149 L xs) a k = hL (K111 L xs) a k := fun a k h => el_112 L xs a k h
abbrev Y110 : List (Nat × Nat) := Y111
theorem ei_110 (L : Nat) (xs : Nat → Int32) : ∀ a k, a ≤ hN (K110 L xs) → (a, k) ∉ Y110 → hI (K149 L xs) a k = hI (K110 L xs) a k := fun a k h hw => (ei_111 L xs a k (by rw [hn_110] at h; rw [hn_111]; omega) hw).trans (hI_nC' h)
theorem el_110 (L : Nat) (xs : Nat → Int32) : ∀ a k, a ≤ hN (K110 L xs) → hL (K149 L xs) a k = hL (K110 L xs) a k := fun a k h => (el_111 L xs a k (by rw [hn_110] at h; rw [hn_111]; omega)).trans (hL_nC' h)
abbrev Y109 : List (Nat × Nat) := Y110
theorem ei_109 (L : Nat) (xs : Nat → Int32) : ∀ a k, a ≤ hN (K109 L xs) → (a, k) ∉ Y109 → hI (K149 L xs) a k = hI (K109 L xs) a k := fun a k h hw => ei_110 L xs a k h hw
theorem el_109 (L : Nat) (xs : Nat → Int32) : ∀ a k, a ≤ hN (K109 L xs) → hL (K149 L xs) a k = hL (K109 L xs) a k := fun a k h => el_110 L xs a k h
abbrev Y108 : List (Nat × Nat) := Y109
theorem ei_108 (L : Nat) (xs : Nat → Int32) : ∀ a k, a ≤ hN (K108 L xs) → (a, k) ∉ Y108 → hI (K149 L xs) a k = hI (K108 L xs) a k := fun a k h hw => (ei_109 L xs a k (by rw [hn_108] at h; rw [hn_109]; omega) hw).trans (hI_nC' h)
theorem el_108 (L : Nat) (xs : Nat → Int32) : ∀ a k, a ≤ hN (K108 L xs) → hL (K149 L xs) a k = hL (K108 L xs) a k := fun a k h => (el_109 L xs a k (by rw [hn_108] at h; rw [hn_109]; omega)).trans (hL_nC' h)
abbrev Y107 : List (Nat × Nat) := Y108
theorem ei_107 (L : Nat) (xs : Nat → Int32) : ∀ a k, a ≤ hN (K107 L xs) → (a, k) ∉ Y107 → hI (K149 L xs) a k = hI (K107 L xs) a k := fun a k h hw => ei_108 L xs a k h hw
theorem el_107 (L : Nat) (xs : Nat → Int32) : ∀ a k, a ≤ hN (K107 L xs) → hL (K149 L xs) a k = hL (K107 L xs) a k := fun a k h => el_108 L xs a k h
abbrev Y106 : List (Nat × Nat) := Y107
theorem ei_106 (L : Nat) (xs : Nat → Int32) : ∀ a k, a ≤ hN (K106 L xs) → (a, k) ∉ Y106 → hI (K149 L xs) a k = hI (K106 L xs) a k := fun a k h hw => (ei_107 L xs a k (by rw [hn_106] at h; rw [hn_107]; omega) hw).trans (hI_nC' h)
theorem el_106 (L : Nat) (xs : Nat → Int32) : ∀ a k, a ≤ hN (K106 L xs) → hL (K149 L xs) a k = hL (K106 L xs) a k := fun a k h => (el_107 L xs a k (by rw [hn_106] at h; rw [hn_107]; omega)).trans (hL_nC' h)
abbrev Y105 : List (Nat × Nat) := Y106
theorem ei_105 (L : Nat) (xs : Nat → Int32) : ∀ a k, a ≤ hN (K105 L xs) → (a, k) ∉ Y105 → hI (K149 L xs) a k = hI (K105 L xs) a k := fun a k h hw => ei_106 L xs a k h hw
theorem el_105 (L : Nat) (xs : Nat → Int32) : ∀ a k, a ≤ hN (K105 L xs) → hL (K149 L xs) a k = hL (K105 L xs) a k := fun a k h => el_106 L xs a k h
abbrev Y104 : List (Nat × Nat) := Y105
theorem ei_104 (L : Nat) (xs : Nat → Int32) : ∀ a k, a ≤ hN (K104 L xs) → (a, k) ∉ Y104 → hI (K149 L xs) a k = hI (K104 L xs) a k := fun a k h hw => (ei_105 L xs a k (by rw [hn_104] at h; rw [hn_105]; omega) hw).trans (hI_nC' h)
theorem el_104 (L : Nat) (xs : Nat → Int32) : ∀ a k, a ≤ hN (K104 L xs) → hL (K149 L xs) a k = hL (K104 L xs) a k := fun a k h => (el_105 L xs a k (by rw [hn_104] at h; rw [hn_105]; omega)).trans (hL_nC' h)
abbrev Y103 : List (Nat × Nat) := Y104
theorem ei_103 (L : Nat) (xs : Nat → Int32) : ∀ a k, a ≤ hN (K103 L xs) → (a, k) ∉ Y103 → hI (K149 L xs) a k = hI (K103 L xs) a k := fun a k h hw => ei_104 L xs a k h hw
theorem el_103 (L : Nat) (xs : Nat → Int32) : ∀ a k, a ≤ hN (K103 L xs) → hL (K149 L xs) a k = hL (K103 L xs) a k := fun a k h => el_104 L xs a k h
abbrev Y102 : List (Nat × Nat) := Y103
theorem ei_102 (L : Nat) (xs : Nat → Int32) : ∀ a k, a ≤ hN (K102 L xs) → (a, k) ∉ Y102 → hI (K149 L xs) a k = hI (K102 L xs) a k := fun a k h hw => (ei_103 L xs a k (by rw [hn_102] at h; rw [hn_103]; omega) hw).trans (hI_nC' h)
theorem el_102 (L : Nat) (xs : Nat → Int32) : ∀ a k, a ≤ hN (K102 L xs) → hL (K149 L xs) a k = hL (K102 L xs) a k := fun a k h => (el_103 L xs a k (by rw [hn_102] at h; rw [hn_103]; omega)).trans (hL_nC' h)
abbrev Y101 : List (Nat × Nat) := Y102
theorem ei_101 (L : Nat) (xs : Nat → Int32) : ∀ a k, a ≤ hN (K101 L xs) → (a, k) ∉ Y101 → hI (K149 L xs) a k = hI (K101 L xs) a k := fun a k h hw => ei_102 L xs a k h hw
theorem el_101 (L : Nat) (xs : Nat → Int32) : ∀ a k, a ≤ hN (K101 L xs) → hL (K149 L xs) a k = hL (K101 L xs) a k := fun a k h => el_102 L xs a k h
abbrev Y100 : List (Nat × Nat) := Y101
theorem ei_100 (L : Nat) (xs : Nat → Int32) : ∀ a k, a ≤ hN (K100 L xs) → (a, k) ∉ Y100 → hI (K149 L xs) a k = hI (K100 L xs) a k := fun a k h hw => (ei_101 L xs a k (by rw [hn_100] at h; rw [hn_101]; omega) hw).trans (hI_nC' h)
theorem el_100 (L : Nat) (xs : Nat → Int32) : ∀ a k, a ≤ hN (K100 L xs) → hL (K149 L xs) a k = hL (K100 L xs) a k := fun a k h => (el_101 L xs a k (by rw [hn_100] at h; rw [hn_101]; omega)).trans (hL_nC' h)
abbrev Y99 : List (Nat × Nat) := Y100
theorem ei_99 (L : Nat) (xs : Nat → Int32) : ∀ a k, a ≤ hN (K99 L xs) → (a, k) ∉ Y99 → hI (K149 L xs) a k = hI (K99 L xs) a k := fun a k h hw => ei_100 L xs a k h hw
theorem el_99 (L : Nat) (xs : Nat → Int32) : ∀ a k, a ≤ hN (K99 L xs) → hL (K149 L xs) a k = hL (K99 L xs) a k := fun a k h => el_100 L xs a k h
abbrev Y98 : List (Nat × Nat) := Y99
theorem ei_98 (L : Nat) (xs : Nat → Int32) : ∀ a k, a ≤ hN (K98 L xs) → (a, k) ∉ Y98 → hI (K149 L xs) a k = hI (K98 L xs) a k := fun a k h hw => (ei_99 L xs a k (by rw [hn_98] at h; rw [hn_99]; omega) hw).trans (hI_nC' h)
theorem el_98 (L : Nat) (xs : Nat → Int32) : ∀ a k, a ≤ hN (K98 L xs) → hL (K149 L xs) a k = hL (K98 L xs) a k := fun a k h => (el_99 L xs a k (by rw [hn_98] at h; rw [hn_99]; omega)).trans (hL_nC' h)
abbrev Y97 : List (Nat × Nat) := Y98
theorem ei_97 (L : Nat) (xs : Nat → Int32) : ∀ a k, a ≤ hN (K97 L xs) → (a, k) ∉ Y97 → hI (K149 L xs) a k = hI (K97 L xs) a k := fun a k h hw => ei_98 L xs a k h hw
theorem el_97 (L : Nat) (xs : Nat → Int32) : ∀ a k, a ≤ hN (K97 L xs) → hL (K149 L xs) a k = hL (K97 L xs) a k := fun a k h => el_98 L xs a k h
abbrev Y96 : List (Nat × Nat) := Y97
theorem ei_96 (L : Nat) (xs : Nat → Int32) : ∀ a k, a ≤ hN (K96 L xs) → (a, k) ∉ Y96 → hI (K149 L xs) a k = hI (K96 L xs) a k := fun a k h hw => (ei_97 L xs a k (by rw [hn_96] at h; rw [hn_97]; omega) hw).trans (hI_nC' h)
theorem el_96 (L : Nat) (xs : Nat → Int32) : ∀ a k, a ≤ hN (K96 L xs) → hL (K149 L xs) a k = hL (K96 L xs) a k := fun a k h => (el_97 L xs a k (by rw [hn_96] at h; rw [hn_97]; omega)).trans (hL_nC' h)
abbrev Y95 : List (Nat × Nat) := Y96
theorem ei_95 (L : Nat) (xs : Nat → Int32) : ∀ a k, a ≤ hN (K95 L xs) → (a, k) ∉ Y95 → hI (K149 L xs) a k = hI (K95 L xs) a k := fun a k h hw => ei_96 L xs a k h hw
theorem el_95 (L : Nat) (xs : Nat → Int32) : ∀ a k, a ≤ hN (K95 L xs) → hL (K149 L xs) a k = hL (K95 L xs) a k := fun a k h => el_96 L xs a k h
abbrev Y94 : List (Nat × Nat) := Y95
theorem ei_94 (L : Nat) (xs : Nat → Int32) : ∀ a k, a ≤ hN (K94 L xs) → (a, k) ∉ Y94 → hI (K149 L xs) a k = hI (K94 L xs) a k := fun a k h hw => (ei_95 L xs a k (by rw [hn_94] at h; rw [hn_95]; omega) hw).trans (hI_nC' h)
theorem el_94 (L : Nat) (xs : Nat → Int32) : ∀ a k, a ≤ hN (K94 L xs) → hL (K149 L xs) a k = hL (K94 L xs) a k := fun a k h => (el_95 L xs a k (by rw [hn_94] at h; rw [hn_95]; omega)).trans (hL_nC' h)
abbrev Y93 : List (Nat × Nat) := Y94
theorem ei_93 (L : Nat) (xs : Nat → Int32) : ∀ a k, a ≤ hN (K93 L xs) → (a, k) ∉ Y93 → hI (K149 L xs) a k = hI (K93 L xs) a k := fun a k h hw => ei_94 L xs a k h hw
theorem el_93 (L : Nat) (xs : Nat → Int32) : ∀ a k, a ≤ hN (K93 L xs) → hL (K149 L xs) a k = hL (K93 L xs) a k := fun a k h => el_94 L xs a k h
abbrev Y92 : List (Nat × Nat) := Y93
theorem ei_92 (L : Nat) (xs : Nat → Int32) : ∀ a k, a ≤ hN (K92 L xs) → (a, k) ∉ Y92 → hI (K149 L xs) a k = hI (K92 L xs) a k := fun a k h hw => (ei_93 L xs a k (by rw [hn_92] at h; rw [hn_93]; omega) hw).trans (hI_nC' h)
theorem el_92 (L : Nat) (xs : Nat → Int32) : ∀ a k, a ≤ hN (K92 L xs) → hL (K149 L xs) a k = hL (K92 L xs) a k := fun a k h => (el_93 L xs a k (by rw [hn_92] at h; rw [hn_93]; omega)).trans (hL_nC' h)
abbrev Y91 : List (Nat × Nat) := Y92
theorem ei_91 (L : Nat) (xs : Nat → Int32) : ∀ a k, a ≤ hN (K91 L xs) → (a, k) ∉ Y91 → hI (K149 L xs) a k = hI (K91 L xs) a k := fun a k h hw => ei_92 L xs a k h hw
theorem el_91 (L : Nat) (xs : Nat → Int32) : ∀ a k, a ≤ hN (K91 L xs) → hL (K149 L xs) a k = hL (K91 L xs) a k := fun a k h => el_92 L xs a k h
abbrev Y90 : List (Nat × Nat) := Y91
theorem ei_90 (L : Nat) (xs : Nat → Int32) : ∀ a k, a ≤ hN (K90 L xs) → (a, k) ∉ Y90 → hI (K149 L xs) a k = hI (K90 L xs) a k := fun a k h hw => (ei_91 L xs a k (by rw [hn_90] at h; rw [hn_91]; omega) hw).trans (hI_nC' h)
theorem el_90 (L : Nat) (xs : Nat → Int32) : ∀ a k, a ≤ hN (K90 L xs) → hL (K149 L xs) a k = hL (K90 L xs) a k := fun a k h => (el_91 L xs a k (by rw [hn_90] at h; rw [hn_91]; omega)).trans (hL_nC' h)
abbrev Y89 : List (Nat × Nat) := Y90
theorem ei_89 (L : Nat) (xs : Nat → Int32) : ∀ a k, a ≤ hN (K89 L xs) → (a, k) ∉ Y89 → hI (K149 L xs) a k = hI (K89 L xs) a k := fun a k h hw => ei_90 L xs a k h hw
theorem el_89 (L : Nat) (xs : Nat → Int32) : ∀ a k, a ≤ hN (K89 L xs) → hL (K149 L xs) a k = hL (K89 L xs) a k := fun a k h => el_90 L xs a k h
abbrev Y88 : List (Nat × Nat) := Y89
theorem ei_88 (L : Nat) (xs : Nat → Int32) : ∀ a k, a ≤ hN (K88 L xs) → (a, k) ∉ Y88 → hI (K149 L xs) a k = hI (K88 L xs) a k := fun a k h hw => (ei_89 L xs a k (by rw [hn_88] at h; rw [hn_89]; omega) hw).trans (hI_nC' h)
theorem el_88 (L : Nat) (xs : Nat → Int32) : ∀ a k, a ≤ hN (K88 L xs) → hL (K149 L xs) a k = hL (K88 L xs) a k := fun a k h => (el_89 L xs a k (by rw [hn_88] at h; rw [hn_89]; omega)).trans (hL_nC' h)
abbrev Y87 : List (Nat × Nat) := Y88
theorem ei_87 (L : Nat) (xs : Nat → Int32) : ∀ a k, a ≤ hN (K87 L xs) → (a, k) ∉ Y87 → hI (K149 L xs) a k = hI (K87 L xs) a k := fun a k h hw => ei_88 L xs a k h hw
theorem el_87 (L : Nat) (xs : Nat → Int32) : ∀ a k, a ≤ hN (K87 L xs) → hL (K149 L xs) a k = hL (K87 L xs) a k := fun a k h => el_88 L xs a k h
abbrev Y86 : List (Nat × Nat) := Y87
theorem ei_86 (L : Nat) (xs : Nat → Int32) : ∀ a k, a ≤ hN (K86 L xs) → (a, k) ∉ Y86 → hI (K149 L xs) a k = hI (K86 L xs) a k := fun a k h hw => (ei_87 L xs a k (by rw [hn_86] at h; rw [hn_87]; omega) hw).trans (hI_nC' h)
theorem el_86 (L : Nat) (xs : Nat → Int32) : ∀ a k, a ≤ hN (K86 L xs) → hL (K149 L xs) a k = hL (K86 L xs) a k := fun a k h => (el_87 L xs a k (by rw [hn_86] at h; rw [hn_87]; omega)).trans (hL_nC' h)
abbrev Y85 : List (Nat × Nat) := Y86
theorem ei_85 (L : Nat) (xs : Nat → Int32) : ∀ a k, a ≤ hN (K85 L xs) → (a, k) ∉ Y85 → hI (K149 L xs) a k = hI (K85 L xs) a k := fun a k h hw => ei_86 L xs a k h hw
theorem el_85 (L : Nat) (xs : Nat → Int32) : ∀ a k, a ≤ hN (K85 L xs) → hL (K149 L xs) a k = hL (K85 L xs) a k := fun a k h => el_86 L xs a k h
abbrev Y84 : List (Nat × Nat) := Y85
theorem ei_84 (L : Nat) (xs : Nat → Int32) : ∀ a k, a ≤ hN (K84 L xs) → (a, k) ∉ Y84 → hI (K149 L xs) a k = hI (K84 L xs) a k := fun a k h hw => (ei_85 L xs a k (by rw [hn_84] at h; rw [hn_85]; omega) hw).trans (hI_nC' h)
theorem el_84 (L : Nat) (xs : Nat → Int32) : ∀ a k, a ≤ hN (K84 L xs) → hL (K149 L xs) a k = hL (K84 L xs) a k := fun a k h => (el_85 L xs a k (by rw [hn_84] at h; rw [hn_85]; omega)).trans (hL_nC' h)
abbrev Y83 : List (Nat × Nat) := Y84
theorem ei_83 (L : Nat) (xs : Nat → Int32) : ∀ a k, a ≤ hN (K83 L xs) → (a, k) ∉ Y83 → hI (K149 L xs) a k = hI (K83 L xs) a k := fun a k h hw => ei_84 L xs a k h hw
theorem el_83 (L : Nat) (xs : Nat → Int32) : ∀ a k, a ≤ hN (K83 L xs) → hL (K149 L xs) a k = hL (K83 L xs) a k := fun a k h => el_84 L xs a k h
abbrev Y82 : List (Nat × Nat) := Y83
theorem ei_82 (L : Nat) (xs : Nat → Int32) : ∀ a k, a ≤ hN (K82 L xs) → (a, k) ∉ Y82 → hI (K149 L xs) a k = hI (K82 L xs) a k := fun a k h hw => (ei_83 L xs a k (by rw [hn_82] at h; rw [hn_83]; omega) hw).trans (hI_nC' h)
theorem el_82 (L : Nat) (xs : Nat → Int32) : ∀ a k, a ≤ hN (K82 L xs) → hL (K149 L xs) a k = hL (K82 L xs) a k := fun a k h => (el_83 L xs a k (by rw [hn_82] at h; rw [hn_83]; omega)).trans (hL_nC' h)
abbrev Y81 : List (Nat × Nat) := Y82
theorem ei_81 (L : Nat) (xs : Nat → Int32) : ∀ a k, a ≤ hN (K81 L xs) → (a, k) ∉ Y81 → hI (K149 L xs) a k = hI (K81 L xs) a k := fun a k h hw => ei_82 L xs a k h hw
theorem el_81 (L : Nat) (xs : Nat → Int32) : ∀ a k, a ≤ hN (K81 L xs) → hL (K149 L xs) a k = hL (K81 L xs) a k := fun a k h => el_82 L xs a k h
abbrev Y80 : List (Nat × Nat) := Y81
theorem ei_80 (L : Nat) (xs : Nat → Int32) : ∀ a k, a ≤ hN (K80 L xs) → (a, k) ∉ Y80 → hI (K149 L xs) a k = hI (K80 L xs) a k := fun a k h hw => (ei_81 L xs a k (by rw [hn_80] at h; rw [hn_81]; omega) hw).trans (hI_nC' h)
theorem el_80 (L : Nat) (xs : Nat → Int32) : ∀ a k, a ≤ hN (K80 L xs) → hL (K149 L xs) a k = hL (K80 L xs) a k := fun a k h => (el_81 L xs a k (by rw [hn_80] at h; rw [hn_81]; omega)).trans (hL_nC' h)
abbrev Y79 : List (Nat × Nat) := Y80
theorem ei_79 (L : Nat) (xs : Nat → Int32) : ∀ a k, a ≤ hN (K79 L xs) → (a, k) ∉ Y79 → hI (K149 L xs) a k = hI (K79 L xs) a k := fun a k h hw => ei_80 L xs a k h hw
theorem el_79 (L : Nat) (xs : Nat → Int32) : ∀ a k, a ≤ hN (K79 L xs) → hL (K149 L xs) a k = hL (K79 L xs) a k := fun a k h => el_80 L xs a k h
abbrev Y78 : List (Nat × Nat) := Y79
theorem ei_78 (L : Nat) (xs : Nat → Int32) : ∀ a k, a ≤ hN (K78 L xs) → (a, k) ∉ Y78 → hI (K149 L xs) a k = hI (K78 L xs) a k := fun a k h hw => (ei_79 L xs a k (by rw [hn_78] at h; rw [hn_79]; omega) hw).trans (hI_nC' h)
theorem el_78 (L : Nat) (xs : Nat → Int32) : ∀ a k, a ≤ hN (K78 L xs) → hL (K149 L xs) a k = hL (K78 L xs) a k := fun a k h => (el_79 L xs a k (by rw [hn_78] at h; rw [hn_79]; omega)).trans (hL_nC' h)
abbrev Y77 : List (Nat × Nat) := Y78
theorem ei_77 (L : Nat) (xs : Nat → Int32) : ∀ a k, a ≤ hN (K77 L xs) → (a, k) ∉ Y77 → hI (K149 L xs) a k = hI (K77 L xs) a k := fun a k h hw => ei_78 L xs a k h hw
theorem el_77 (L : Nat) (xs : Nat → Int32) : ∀ a k, a ≤ hN (K77 L xs) → hL (K149 L xs) a k = hL (K77 L xs) a k := fun a k h => el_78 L xs a k h
abbrev Y76 : List (Nat × Nat) := Y77
theorem ei_76 (L : Nat) (xs : Nat → Int32) : ∀ a k, a ≤ hN (K76 L xs) → (a, k) ∉ Y76 → hI (K149 L xs) a k = hI (K76 L xs) a k := fun a k h hw => (ei_77 L xs a k (by rw [hn_76] at h; rw [hn_77]; omega) hw).trans (hI_nC' h)
theorem el_76 (L : Nat) (xs : Nat → Int32) : ∀ a k, a ≤ hN (K76 L xs) → hL (K149 L xs) a k = hL (K76 L xs) a k := fun a k h => (el_77 L xs a k (by rw [hn_76] at h; rw [hn_77]; omega)).trans (hL_nC' h)
def Y75 : List (Nat × Nat) := (33, 3) :: Y76
theorem ei_75 (L : Nat) (xs : Nat → Int32) : ∀ a k, a ≤ hN (K75 L xs) → (a, k) ∉ Y75 → hI (K149 L xs) a k = hI (K75 L xs) a k := fun a k h hw => (ei_76 L xs a k h (fun q => hw (List.mem_cons_of_mem _ q))).trans (if_neg (fun q => hw (by rw [q.1, q.2]; exact List.mem_cons_self)))
theorem el_75 (L : Nat) (xs : Nat → Int32) : ∀ a k, a ≤ hN (K75 L xs) → hL (K149 L xs) a k = hL (K75 L xs) a k := fun a k h => el_76 L xs a k h
def Y74 : List (Nat × Nat) := (33, 2) :: Y75
theorem ei_74 (L : Nat) (xs : Nat → Int32) : ∀ a k, a ≤ hN (K74 L xs) → (a, k) ∉ Y74 → hI (K149 L xs) a k = hI (K74 L xs) a k := fun a k h hw => (ei_75 L xs a k h (fun q => hw (List.mem_cons_of_mem _ q))).trans (if_neg (fun q => hw (by rw [q.1, q.2]; exact List.mem_cons_self)))
theorem el_74 (L : Nat) (xs : Nat → Int32) : ∀ a k, a ≤ hN (K74 L xs) → hL (K149 L xs) a k = hL (K74 L xs) a k := fun a k h => el_75 L xs a k h
def Y73 : List (Nat × Nat) := (33, 1) :: Y74
theorem ei_73 (L : Nat) (xs : Nat → Int32) : ∀ a k, a ≤ hN (K73 L xs) → (a, k) ∉ Y73 → hI (K149 L xs) a k = hI (K73 L xs) a k := fun a k h hw => (ei_74 L xs a k h (fun q => hw (List.mem_cons_of_mem _ q))).trans (if_neg (fun q => hw (by rw [q.1, q.2]; exact List.mem_cons_self)))
theorem el_73 (L : Nat) (xs : Nat → Int32) : ∀ a k, a ≤ hN (K73 L xs) → hL (K149 L xs) a k = hL (K73 L xs) a k := fun a k h => el_74 L xs a k h
abbrev Y72 : List (Nat × Nat) := Y73
theorem ei_72 (L : Nat) (xs : Nat → Int32) : ∀ a k, a ≤ hN (K72 L xs) → (a, k) ∉ Y72 → hI (K149 L xs) a k = hI (K72 L xs) a k := fun a k h hw => (ei_73 L xs a k (by rw [hn_72] at h; rw [hn_73]; omega) hw).trans (hI_nC' h)
theorem el_72 (L : Nat) (xs : Nat → Int32) : ∀ a k, a ≤ hN (K72 L xs) → hL (K149 L xs) a k = hL (K72 L xs) a k := fun a k h => (el_73 L xs a k (by rw [hn_72] at h; rw [hn_73]; omega)).trans (hL_nC' h)
abbrev Y71 : List (Nat × Nat) := Y72
theorem ei_71 (L : Nat) (xs : Nat → Int32) : ∀ a k, a ≤ hN (K71 L xs) → (a, k) ∉ Y71 → hI (K149 L xs) a k = hI (K71 L xs) a k := fun a k h hw => ei_72 L xs a k h hw
theorem el_71 (L : Nat) (xs : Nat → Int32) : ∀ a k, a ≤ hN (K71 L xs) → hL (K149 L xs) a k = hL (K71 L xs) a k := fun a k h => el_72 L xs a k h
abbrev Y70 : List (Nat × Nat) := Y71
theorem ei_70 (L : Nat) (xs : Nat → Int32) : ∀ a k, a ≤ hN (K70 L xs) → (a, k) ∉ Y70 → hI (K149 L xs) a k = hI (K70 L xs) a k := fun a k h hw => ei_71 L xs a k h hw
theorem el_70 (L : Nat) (xs : Nat → Int32) : ∀ a k, a ≤ hN (K70 L xs) → hL (K149 L xs) a k = hL (K70 L xs) a k := fun a k h => el_71 L xs a k h
abbrev Y69 : List (Nat × Nat) := Y70
theorem ei_69 (L : Nat) (xs : Nat → Int32) : ∀ a k, a ≤ hN (K69 L xs) → (a, k) ∉ Y69 → hI (K149 L xs) a k = hI (K69 L xs) a k := fun a k h hw => ei_70 L xs a k h hw
theorem el_69 (L : Nat) (xs : Nat → Int32) : ∀ a k, a ≤ hN (K69 L xs) → hL (K149 L xs) a k = hL (K69 L xs) a k := fun a k h => el_70 L xs a k h
abbrev Y68 : List (Nat × Nat) := Y69
theorem ei_68 (L : Nat) (xs : Nat → Int32) : ∀ a k, a ≤ hN (K68 L xs) → (a, k) ∉ Y68 → hI (K149 L xs) a k = hI (K68 L xs) a k := fun a k h hw => ei_69 L xs a k h hw
theorem el_68 (L : Nat) (xs : Nat → Int32) : ∀ a k, a ≤ hN (K68 L xs) → hL (K149 L xs) a k = hL (K68 L xs) a k := fun a k h => el_69 L xs a k h
abbrev Y67 : List (Nat × Nat) := Y68
theorem ei_67 (L : Nat) (xs : Nat → Int32) : ∀ a k, a ≤ hN (K67 L xs) → (a, k) ∉ Y67 → hI (K149 L xs) a k = hI (K67 L xs) a k := fun a k h hw => (ei_68 L xs a k (by rw [hn_67] at h; rw [hn_68]; omega) hw).trans (hI_nC' h)
theorem el_67 (L : Nat) (xs : Nat → Int32) : ∀ a k, a ≤ hN (K67 L xs) → hL (K149 L xs) a k = hL (K67 L xs) a k := fun a k h => (el_68 L xs a k (by rw [hn_67] at h; rw [hn_68]; omega)).trans (hL_nC' h)
abbrev Y66 : List (Nat × Nat) := Y67
theorem ei_66 (L : Nat) (xs : Nat → Int32) : ∀ a k, a ≤ hN (K66 L xs) → (a, k) ∉ Y66 → hI (K149 L xs) a k = hI (K66 L xs) a k := fun a k h hw => (ei_67 L xs a k (by rw [hn_66] at h; rw [hn_67]; omega) hw).trans (hI_nC' h)
theorem el_66 (L : Nat) (xs : Nat → Int32) : ∀ a k, a ≤ hN (K66 L xs) → hL (K149 L xs) a k = hL (K66 L xs) a k := fun a k h => (el_67 L xs a k (by rw [hn_66] at h; rw [hn_67]; omega)).trans (hL_nC' h)
abbrev Y65 : List (Nat × Nat) := Y66
theorem ei_65 (L : Nat) (xs : Nat → Int32) : ∀ a k, a ≤ hN (K65 L xs) → (a, k) ∉ Y65 → hI (K149 L xs) a k = hI (K65 L xs) a k := fun a k h hw => (ei_66 L xs a k (by rw [hn_65] at h; rw [hn_66]; omega) hw).trans (hI_nC' h)
theorem el_65 (L : Nat) (xs : Nat → Int32) : ∀ a k, a ≤ hN (K65 L xs) → hL (K149 L xs) a k = hL (K65 L xs) a k := fun a k h => (el_66 L xs a k (by rw [hn_65] at h; rw [hn_66]; omega)).trans (hL_nC' h)
abbrev Y64 : List (Nat × Nat) := Y65
theorem ei_64 (L : Nat) (xs : Nat → Int32) : ∀ a k, a ≤ hN (K64 L xs) → (a, k) ∉ Y64 → hI (K149 L xs) a k = hI (K64 L xs) a k := fun a k h hw => (ei_65 L xs a k (by rw [hn_64] at h; rw [hn_65]; omega) hw).trans (hI_nC' h)
theorem el_64 (L : Nat) (xs : Nat → Int32) : ∀ a k, a ≤ hN (K64 L xs) → hL (K149 L xs) a k = hL (K64 L xs) a k := fun a k h => (el_65 L xs a k (by rw [hn_64] at h; rw [hn_65]; omega)).trans (hL_nC' h)
abbrev Y63 : List (Nat × Nat) := Y64
theorem ei_63 (L : Nat) (xs : Nat → Int32) : ∀ a k, a ≤ hN (K63 L xs) → (a, k) ∉ Y63 → hI (K149 L xs) a k = hI (K63 L xs) a k := fun a k h hw => ei_64 L xs a k h hw
theorem el_63 (L : Nat) (xs : Nat → Int32) : ∀ a k, a ≤ hN (K63 L xs) → hL (K149 L xs) a k = hL (K63 L xs) a k := fun a k h => el_64 L xs a k h
abbrev Y62 : List (Nat × Nat) := Y63
theorem ei_62 (L : Nat) (xs : Nat → Int32) : ∀ a k, a ≤ hN (K62 L xs) → (a, k) ∉ Y62 → hI (K149 L xs) a k = hI (K62 L xs) a k := fun a k h hw => ei_63 L xs a k h hw
theorem el_62 (L : Nat) (xs : Nat → Int32) : ∀ a k, a ≤ hN (K62 L xs) → hL (K149 L xs) a k = hL (K62 L xs) a k := fun a k h => el_63 L xs a k h
abbrev Y61 : List (Nat × Nat) := Y62
theorem ei_61 (L : Nat) (xs : Nat → Int32) : ∀ a k, a ≤ hN (K61 L xs) → (a, k) ∉ Y61 → hI (K149 L xs) a k = hI (K61 L xs) a k := fun a k h hw => (ei_62 L xs a k (by rw [hn_61] at h; rw [hn_62]; omega) hw).trans (hI_nC' h)
theorem el_61 (L : Nat) (xs : Nat → Int32) : ∀ a k, a ≤ hN (K61 L xs) → hL (K149 L xs) a k = hL (K61 L xs) a k := fun a k h => (el_62 L xs a k (by rw [hn_61] at h; rw [hn_62]; omega)).trans (hL_nC' h)
abbrev Y60 : List (Nat × Nat) := Y61
theorem ei_60 (L : Nat) (xs : Nat → Int32) : ∀ a k, a ≤ hN (K60 L xs) → (a, k) ∉ Y60 → hI (K149 L xs) a k = hI (K60 L xs) a k := fun a k h hw => ei_61 L xs a k h hw
theorem el_60 (L : Nat) (xs : Nat → Int32) : ∀ a k, a ≤ hN (K60 L xs) → hL (K149 L xs) a k = hL (K60 L xs) a k := fun a k h => el_61 L xs a k h
abbrev Y59 : List (Nat × Nat) := Y60
theorem ei_59 (L : Nat) (xs : Nat → Int32) : ∀ a k, a ≤ hN (K59 L xs) → (a, k) ∉ Y59 → hI (K149 L xs) a k = hI (K59 L xs) a k := fun a k h hw => (ei_60 L xs a k (by rw [hn_59] at h; rw [hn_60]; omega) hw).trans (hI_nC' h)
theorem el_59 (L : Nat) (xs : Nat → Int32) : ∀ a k, a ≤ hN (K59 L xs) → hL (K149 L xs) a k = hL (K59 L xs) a k := fun a k h => (el_60 L xs a k (by rw [hn_59] at h; rw [hn_60]; omega)).trans (hL_nC' h)
abbrev Y58 : List (Nat × Nat) := Y59
theorem ei_58 (L : Nat) (xs : Nat → Int32) : ∀ a k, a ≤ hN (K58 L xs) → (a, k) ∉ Y58 → hI (K149 L xs) a k = hI (K58 L xs) a k := fun a k h hw => ei_59 L xs a k h hw
theorem el_58 (L : Nat) (xs : Nat → Int32) : ∀ a k, a ≤ hN (K58 L xs) → hL (K149 L xs) a k = hL (K58 L xs) a k := fun a k h => el_59 L xs a k h
abbrev Y57 : List (Nat × Nat) := Y58
theorem ei_57 (L : Nat) (xs : Nat → Int32) : ∀ a k, a ≤ hN (K57 L xs) → (a, k) ∉ Y57 → hI (K149 L xs) a k = hI (K57 L xs) a k := fun a k h hw => (ei_58 L xs a k (by rw [hn_57] at h; rw [hn_58]; omega) hw).trans (hI_nC' h)
theorem el_57 (L : Nat) (xs : Nat → Int32) : ∀ a k, a ≤ hN (K57 L xs) → hL (K149 L xs) a k = hL (K57 L xs) a k := fun a k h => (el_58 L xs a k (by rw [hn_57] at h; rw [hn_58]; omega)).trans (hL_nC' h)
abbrev Y56 : List (Nat × Nat) := Y57
theorem ei_56 (L : Nat) (xs : Nat → Int32) : ∀ a k, a ≤ hN (K56 L xs) → (a, k) ∉ Y56 → hI (K149 L xs) a k = hI (K56 L xs) a k := fun a k h hw => ei_57 L xs a k h hw
theorem el_56 (L : Nat) (xs : Nat → Int32) : ∀ a k, a ≤ hN (K56 L xs) → hL (K149 L xs) a k = hL (K56 L xs) a k := fun a k h => el_57 L xs a k h
abbrev Y55 : List (Nat × Nat) := Y56
theorem ei_55 (L : Nat) (xs : Nat → Int32) : ∀ a k, a ≤ hN (K55 L xs) → (a, k) ∉ Y55 → hI (K149 L xs) a k = hI (K55 L xs) a k := fun a k h hw => (ei_56 L xs a k (by rw [hn_55] at h; rw [hn_56]; omega) hw).trans (hI_nC' h)
theorem el_55 (L : Nat) (xs : Nat → Int32) : ∀ a k, a ≤ hN (K55 L xs) → hL (K149 L xs) a k = hL (K55 L xs) a k := fun a k h => (el_56 L xs a k (by rw [hn_55] at h; rw [hn_56]; omega)).trans (hL_nC' h)
abbrev Y54 : List (Nat × Nat) := Y55
theorem ei_54 (L : Nat) (xs : Nat → Int32) : ∀ a k, a ≤ hN (K54 L xs) → (a, k) ∉ Y54 → hI (K149 L xs) a k = hI (K54 L xs) a k := fun a k h hw => ei_55 L xs a k h hw
theorem el_54 (L : Nat) (xs : Nat → Int32) : ∀ a k, a ≤ hN (K54 L xs) → hL (K149 L xs) a k = hL (K54 L xs) a k := fun a k h => el_55 L xs a k h
abbrev Y53 : List (Nat × Nat) := Y54
theorem ei_53 (L : Nat) (xs : Nat → Int32) : ∀ a k, a ≤ hN (K53 L xs) → (a, k) ∉ Y53 → hI (K149 L xs) a k = hI (K53 L xs) a k := fun a k h hw => (ei_54 L xs a k (by rw [hn_53] at h; rw [hn_54]; omega) hw).trans (hI_nC' h)
theorem el_53 (L : Nat) (xs : Nat → Int32) : ∀ a k, a ≤ hN (K53 L xs) → hL (K149 L xs) a k = hL (K53 L xs) a k := fun a k h => (el_54 L xs a k (by rw [hn_53] at h; rw [hn_54]; omega)).trans (hL_nC' h)
abbrev Y52 : List (Nat × Nat) := Y53
theorem ei_52 (L : Nat) (xs : Nat → Int32) : ∀ a k, a ≤ hN (K52 L xs) → (a, k) ∉ Y52 → hI (K149 L xs) a k = hI (K52 L xs) a k := fun a k h hw => (ei_53 L xs a k (by rw [hn_52] at h; rw [hn_53]; omega) hw).trans (hI_nC' h)
theorem el_52 (L : Nat) (xs : Nat → Int32) : ∀ a k, a ≤ hN (K52 L xs) → hL (K149 L xs) a k = hL (K52 L xs) a k := fun a k h => (el_53 L xs a k (by rw [hn_52] at h; rw [hn_53]; omega)).trans (hL_nC' h)
abbrev Y51 : List (Nat × Nat) := Y52
theorem ei_51 (L : Nat) (xs : Nat → Int32) : ∀ a k, a ≤ hN (K51 L xs) → (a, k) ∉ Y51 → hI (K149 L xs) a k = hI (K51 L xs) a k := fun a k h hw => ei_52 L xs a k h hw
theorem el_51 (L : Nat) (xs : Nat → Int32) : ∀ a k, a ≤ hN (K51 L xs) → hL (K149 L xs) a k = hL (K51 L xs) a k := fun a k h => el_52 L xs a k h
abbrev Y50 : List (Nat × Nat) := Y51
theorem ei_50 (L : Nat) (xs : Nat → Int32) : ∀ a k, a ≤ hN (K50 L xs) → (a, k) ∉ Y50 → hI (K149 L xs) a k = hI (K50 L xs) a k := fun a k h hw => ei_51 L xs a k h hw
theorem el_50 (L : Nat) (xs : Nat → Int32) : ∀ a k, a ≤ hN (K50 L xs) → hL (K149 L xs) a k = hL (K50 L xs) a k := fun a k h => el_51 L xs a k h
abbrev Y49 : List (Nat × Nat) := Y50
theorem ei_49 (L : Nat) (xs : Nat → Int32) : ∀ a k, a ≤ hN (K49 L xs) → (a, k) ∉ Y49 → hI (K149 L xs) a k = hI (K49 L xs) a k := fun a k h hw => (ei_50 L xs a k (by rw [hn_49] at h; rw [hn_50]; omega) hw).trans (hI_nC' h)
theorem el_49 (L : Nat) (xs : Nat → Int32) : ∀ a k, a ≤ hN (K49 L xs) → hL (K149 L xs) a k = hL (K49 L xs) a k := fun a k h => (el_50 L xs a k (by rw [hn_49] at h; rw [hn_50]; omega)).trans (hL_nC' h)
abbrev Y48 : List (Nat × Nat) := Y49
theorem ei_48 (L : Nat) (xs : Nat → Int32) : ∀ a k, a ≤ hN (K48 L xs) → (a, k) ∉ Y48 → hI (K149 L xs) a k = hI (K48 L xs) a k := fun a k h hw => ei_49 L xs a k h hw
theorem el_48 (L : Nat) (xs : Nat → Int32) : ∀ a k, a ≤ hN (K48 L xs) → hL (K149 L xs) a k = hL (K48 L xs) a k := fun a k h => el_49 L xs a k h
abbrev Y47 : List (Nat × Nat) := Y48
theorem ei_47 (L : Nat) (xs : Nat → Int32) : ∀ a k, a ≤ hN (K47 L xs) → (a, k) ∉ Y47 → hI (K149 L xs) a k = hI (K47 L xs) a k := fun a k h hw => (ei_48 L xs a k (by rw [hn_47] at h; rw [hn_48]; omega) hw).trans (hI_nC' h)
theorem el_47 (L : Nat) (xs : Nat → Int32) : ∀ a k, a ≤ hN (K47 L xs) → hL (K149 L xs) a k = hL (K47 L xs) a k := fun a k h => (el_48 L xs a k (by rw [hn_47] at h; rw [hn_48]; omega)).trans (hL_nC' h)
abbrev Y46 : List (Nat × Nat) := Y47
theorem ei_46 (L : Nat) (xs : Nat → Int32) : ∀ a k, a ≤ hN (K46 L xs) → (a, k) ∉ Y46 → hI (K149 L xs) a k = hI (K46 L xs) a k := fun a k h hw => (ei_47 L xs a k (by rw [hn_46] at h; rw [hn_47]; omega) hw).trans (hI_nC' h)
theorem el_46 (L : Nat) (xs : Nat → Int32) : ∀ a k, a ≤ hN (K46 L xs) → hL (K149 L xs) a k = hL (K46 L xs) a k := fun a k h => (el_47 L xs a k (by rw [hn_46] at h; rw [hn_47]; omega)).trans (hL_nC' h)
abbrev Y45 : List (Nat × Nat) := Y46
theorem ei_45 (L : Nat) (xs : Nat → Int32) : ∀ a k, a ≤ hN (K45 L xs) → (a, k) ∉ Y45 → hI (K149 L xs) a k = hI (K45 L xs) a k := fun a k h hw => ei_46 L xs a k h hw
theorem el_45 (L : Nat) (xs : Nat → Int32) : ∀ a k, a ≤ hN (K45 L xs) → hL (K149 L xs) a k = hL (K45 L xs) a k := fun a k h => el_46 L xs a k h
abbrev Y44 : List (Nat × Nat) := Y45
theorem ei_44 (L : Nat) (xs : Nat → Int32) : ∀ a k, a ≤ hN (K44 L xs) → (a, k) ∉ Y44 → hI (K149 L xs) a k = hI (K44 L xs) a k := fun a k h hw => ei_45 L xs a k h hw
theorem el_44 (L : Nat) (xs : Nat → Int32) : ∀ a k, a ≤ hN (K44 L xs) → hL (K149 L xs) a k = hL (K44 L xs) a k := fun a k h => el_45 L xs a k h
def Y43 : List (Nat × Nat) := (16, 12) :: Y44
theorem ei_43 (L : Nat) (xs : Nat → Int32) : ∀ a k, a ≤ hN (K43 L xs) → (a, k) ∉ Y43 → hI (K149 L xs) a k = hI (K43 L xs) a k := fun a k h hw => (ei_44 L xs a k h (fun q => hw (List.mem_cons_of_mem _ q))).trans (if_neg (fun q => hw (by rw [q.1, q.2]; exact List.mem_cons_self)))
theorem el_43 (L : Nat) (xs : Nat → Int32) : ∀ a k, a ≤ hN (K43 L xs) → hL (K149 L xs) a k = hL (K43 L xs) a k := fun a k h => el_44 L xs a k h
abbrev Y42 : List (Nat × Nat) := Y43
theorem ei_42 (L : Nat) (xs : Nat → Int32) : ∀ a k, a ≤ hN (K42 L xs) → (a, k) ∉ Y42 → hI (K149 L xs) a k = hI (K42 L xs) a k := fun a k h hw => ei_43 L xs a k h hw
theorem el_42 (L : Nat) (xs : Nat → Int32) : ∀ a k, a ≤ hN (K42 L xs) → hL (K149 L xs) a k = hL (K42 L xs) a k := fun a k h => el_43 L xs a k h
abbrev Y41 : List (Nat × Nat) := Y42
theorem ei_41 (L : Nat) (xs : Nat → Int32) : ∀ a k, a ≤ hN (K41 L xs) → (a, k) ∉ Y41 → hI (K149 L xs) a k = hI (K41 L xs) a k := fun a k h hw => (ei_42 L xs a k (by rw [hn_41] at h; rw [hn_42]; omega) hw).trans (hI_nC' h)
theorem el_41 (L : Nat) (xs : Nat → Int32) : ∀ a k, a ≤ hN (K41 L xs) → hL (K149 L xs) a k = hL (K41 L xs) a k := fun a k h => (el_42 L xs a k (by rw [hn_41] at h; rw [hn_42]; omega)).trans (hL_nC' h)
abbrev Y40 : List (Nat × Nat) := Y41
theorem ei_40 (L : Nat) (xs : Nat → Int32) : ∀ a k, a ≤ hN (K40 L xs) → (a, k) ∉ Y40 → hI (K149 L xs) a k = hI (K40 L xs) a k := fun a k h hw => ei_41 L xs a k h hw
theorem el_40 (L : Nat) (xs : Nat → Int32) : ∀ a k, a ≤ hN (K40 L xs) → hL (K149 L xs) a k = hL (K40 L xs) a k := fun a k h => el_41 L xs a k h
abbrev Y39 : List (Nat × Nat) := Y40
theorem ei_39 (L : Nat) (xs : Nat → Int32) : ∀ a k, a ≤ hN (K39 L xs) → (a, k) ∉ Y39 → hI (K149 L xs) a k = hI (K39 L xs) a k := fun a k h hw => (ei_40 L xs a k (by rw [hn_39] at h; rw [hn_40]; omega) hw).trans (hI_nC' h)
theorem el_39 (L : Nat) (xs : Nat → Int32) : ∀ a k, a ≤ hN (K39 L xs) → hL (K149 L xs) a k = hL (K39 L xs) a k := fun a k h => (el_40 L xs a k (by rw [hn_39] at h; rw [hn_40]; omega)).trans (hL_nC' h)
abbrev Y38 : List (Nat × Nat) := Y39
theorem ei_38 (L : Nat) (xs : Nat → Int32) : ∀ a k, a ≤ hN (K38 L xs) → (a, k) ∉ Y38 → hI (K149 L xs) a k = hI (K38 L xs) a k := fun a k h hw => ei_39 L xs a k h hw
theorem el_38 (L : Nat) (xs : Nat → Int32) : ∀ a k, a ≤ hN (K38 L xs) → hL (K149 L xs) a k = hL (K38 L xs) a k := fun a k h => el_39 L xs a k h
abbrev Y37 : List (Nat × Nat) := Y38
theorem ei_37 (L : Nat) (xs : Nat → Int32) : ∀ a k, a ≤ hN (K37 L xs) → (a, k) ∉ Y37 → hI (K149 L xs) a k = hI (K37 L xs) a k := fun a k h hw => (ei_38 L xs a k (by rw [hn_37] at h; rw [hn_38]; omega) hw).trans (hI_nC' h)
theorem el_37 (L : Nat) (xs : Nat → Int32) : ∀ a k, a ≤ hN (K37 L xs) → hL (K149 L xs) a k = hL (K37 L xs) a k := fun a k h => (el_38 L xs a k (by rw [hn_37] at h; rw [hn_38]; omega)).trans (hL_nC' h)
abbrev Y36 : List (Nat × Nat) := Y37
theorem ei_36 (L : Nat) (xs : Nat → Int32) : ∀ a k, a ≤ hN (K36 L xs) → (a, k) ∉ Y36 → hI (K149 L xs) a k = hI (K36 L xs) a k := fun a k h hw => (ei_37 L xs a k (by rw [hn_36] at h; rw [hn_37]; omega) hw).trans (hI_nC' h)
theorem el_36 (L : Nat) (xs : Nat → Int32) : ∀ a k, a ≤ hN (K36 L xs) → hL (K149 L xs) a k = hL (K36 L xs) a k := fun a k h => (el_37 L xs a k (by rw [hn_36] at h; rw [hn_37]; omega)).trans (hL_nC' h)
abbrev Y35 : List (Nat × Nat) := Y36
theorem ei_35 (L : Nat) (xs : Nat → Int32) : ∀ a k, a ≤ hN (K35 L xs) → (a, k) ∉ Y35 → hI (K149 L xs) a k = hI (K35 L xs) a k := fun a k h hw => ei_36 L xs a k h hw
theorem el_35 (L : Nat) (xs : Nat → Int32) : ∀ a k, a ≤ hN (K35 L xs) → hL (K149 L xs) a k = hL (K35 L xs) a k := fun a k h => el_36 L xs a k h
abbrev Y34 : List (Nat × Nat) := Y35
theorem ei_34 (L : Nat) (xs : Nat → Int32) : ∀ a k, a ≤ hN (K34 L xs) → (a, k) ∉ Y34 → hI (K149 L xs) a k = hI (K34 L xs) a k := fun a k h hw => ei_35 L xs a k h hw
theorem el_34 (L : Nat) (xs : Nat → Int32) : ∀ a k, a ≤ hN (K34 L xs) → hL (K149 L xs) a k = hL (K34 L xs) a k := fun a k h => el_35 L xs a k h
abbrev Y33 : List (Nat × Nat) := Y34
theorem ei_33 (L : Nat) (xs : Nat → Int32) : ∀ a k, a ≤ hN (K33 L xs) → (a, k) ∉ Y33 → hI (K149 L xs) a k = hI (K33 L xs) a k := fun a k h hw => (ei_34 L xs a k (by rw [hn_33] at h; rw [hn_34]; omega) hw).trans (hI_nC' h)
theorem el_33 (L : Nat) (xs : Nat → Int32) : ∀ a k, a ≤ hN (K33 L xs) → hL (K149 L xs) a k = hL (K33 L xs) a k := fun a k h => (el_34 L xs a k (by rw [hn_33] at h; rw [hn_34]; omega)).trans (hL_nC' h)
abbrev Y32 : List (Nat × Nat) := Y33
theorem ei_32 (L : Nat) (xs : Nat → Int32) : ∀ a k, a ≤ hN (K32 L xs) → (a, k) ∉ Y32 → hI (K149 L xs) a k = hI (K32 L xs) a k := fun a k h hw => (ei_33 L xs a k (by rw [hn_32] at h; rw [hn_33]; omega) hw).trans (hI_nC' h)
theorem el_32 (L : Nat) (xs : Nat → Int32) : ∀ a k, a ≤ hN (K32 L xs) → hL (K149 L xs) a k = hL (K32 L xs) a k := fun a k h => (el_33 L xs a k (by rw [hn_32] at h; rw [hn_33]; omega)).trans (hL_nC' h)
abbrev Y31 : List (Nat × Nat) := Y32
theorem ei_31 (L : Nat) (xs : Nat → Int32) : ∀ a k, a ≤ hN (K31 L xs) → (a, k) ∉ Y31 → hI (K149 L xs) a k = hI (K31 L xs) a k := fun a k h hw => ei_32 L xs a k h hw
theorem el_31 (L : Nat) (xs : Nat → Int32) : ∀ a k, a ≤ hN (K31 L xs) → hL (K149 L xs) a k = hL (K31 L xs) a k := fun a k h => el_32 L xs a k h
abbrev Y30 : List (Nat × Nat) := Y31
theorem ei_30 (L : Nat) (xs : Nat → Int32) : ∀ a k, a ≤ hN (K30 L xs) → (a, k) ∉ Y30 → hI (K149 L xs) a k = hI (K30 L xs) a k := fun a k h hw => ei_31 L xs a k h hw
theorem el_30 (L : Nat) (xs : Nat → Int32) : ∀ a k, a ≤ hN (K30 L xs) → hL (K149 L xs) a k = hL (K30 L xs) a k := fun a k h => el_31 L xs a k h
abbrev Y29 : List (Nat × Nat) := Y30
theorem ei_29 (L : Nat) (xs : Nat → Int32) : ∀ a k, a ≤ hN (K29 L xs) → (a, k) ∉ Y29 → hI (K149 L xs) a k = hI (K29 L xs) a k := fun a k h hw => ei_30 L xs a k h hw
theorem el_29 (L : Nat) (xs : Nat → Int32) : ∀ a k, a ≤ hN (K29 L xs) → hL (K149 L xs) a k = hL (K29 L xs) a k := fun a k h => el_30 L xs a k h
abbrev Y28 : List (Nat × Nat) := Y29
theorem ei_28 (L : Nat) (xs : Nat → Int32) : ∀ a k, a ≤ hN (K28 L xs) → (a, k) ∉ Y28 → hI (K149 L xs) a k = hI (K28 L xs) a k := fun a k h hw => (ei_29 L xs a k (by rw [hn_28] at h; rw [hn_29]; omega) hw).trans (hI_nC' h)
theorem el_28 (L : Nat) (xs : Nat → Int32) : ∀ a k, a ≤ hN (K28 L xs) → hL (K149 L xs) a k = hL (K28 L xs) a k := fun a k h => (el_29 L xs a k (by rw [hn_28] at h; rw [hn_29]; omega)).trans (hL_nC' h)
abbrev Y27 : List (Nat × Nat) := Y28
theorem ei_27 (L : Nat) (xs : Nat → Int32) : ∀ a k, a ≤ hN (K27 L xs) → (a, k) ∉ Y27 → hI (K149 L xs) a k = hI (K27 L xs) a k := fun a k h hw => ei_28 L xs a k h hw
theorem el_27 (L : Nat) (xs : Nat → Int32) : ∀ a k, a ≤ hN (K27 L xs) → hL (K149 L xs) a k = hL (K27 L xs) a k := fun a k h => el_28 L xs a k h
abbrev Y26 : List (Nat × Nat) := Y27
theorem ei_26 (L : Nat) (xs : Nat → Int32) : ∀ a k, a ≤ hN (K26 L xs) → (a, k) ∉ Y26 → hI (K149 L xs) a k = hI (K26 L xs) a k := fun a k h hw => ei_27 L xs a k h hw
theorem el_26 (L : Nat) (xs : Nat → Int32) : ∀ a k, a ≤ hN (K26 L xs) → hL (K149 L xs) a k = hL (K26 L xs) a k := fun a k h => el_27 L xs a k h
def Y25 : List (Nat × Nat) := (9, 4) :: Y26
theorem ei_25 (L : Nat) (xs : Nat → Int32) : ∀ a k, a ≤ hN (K25 L xs) → (a, k) ∉ Y25 → hI (K149 L xs) a k = hI (K25 L xs) a k := fun a k h hw => (ei_26 L xs a k h (fun q => hw (List.mem_cons_of_mem _ q))).trans (if_neg (fun q => hw (by rw [q.1, q.2]; exact List.mem_cons_self)))
theorem el_25 (L : Nat) (xs : Nat → Int32) : ∀ a k, a ≤ hN (K25 L xs) → hL (K149 L xs) a k = hL (K25 L xs) a k := fun a k h => el_26 L xs a k h
abbrev Y24 : List (Nat × Nat) := Y25
theorem ei_24 (L : Nat) (xs : Nat → Int32) : ∀ a k, a ≤ hN (K24 L xs) → (a, k) ∉ Y24 → hI (K149 L xs) a k = hI (K24 L xs) a k := fun a k h hw => ei_25 L xs a k h hw
theorem el_24 (L : Nat) (xs : Nat → Int32) : ∀ a k, a ≤ hN (K24 L xs) → hL (K149 L xs) a k = hL (K24 L xs) a k := fun a k h => el_25 L xs a k h
abbrev Y23 : List (Nat × Nat) := Y24
theorem ei_23 (L : Nat) (xs : Nat → Int32) : ∀ a k, a ≤ hN (K23 L xs) → (a, k) ∉ Y23 → hI (K149 L xs) a k = hI (K23 L xs) a k := fun a k h hw => (ei_24 L xs a k (by rw [hn_23] at h; rw [hn_24]; omega) hw).trans (hI_nC' h)
theorem el_23 (L : Nat) (xs : Nat → Int32) : ∀ a k, a ≤ hN (K23 L xs) → hL (K149 L xs) a k = hL (K23 L xs) a k := fun a k h => (el_24 L xs a k (by rw [hn_23] at h; rw [hn_24]; omega)).trans (hL_nC' h)
abbrev Y22 : List (Nat × Nat) := Y23
theorem ei_22 (L : Nat) (xs : Nat → Int32) : ∀ a k, a ≤ hN (K22 L xs) → (a, k) ∉ Y22 → hI (K149 L xs) a k = hI (K22 L xs) a k := fun a k h hw => ei_23 L xs a k h hw
theorem el_22 (L : Nat) (xs : Nat → Int32) : ∀ a k, a ≤ hN (K22 L xs) → hL (K149 L xs) a k = hL (K22 L xs) a k := fun a k h => el_23 L xs a k h
abbrev Y21 : List (Nat × Nat) := Y22
theorem ei_21 (L : Nat) (xs : Nat → Int32) : ∀ a k, a ≤ hN (K21 L xs) → (a, k) ∉ Y21 → hI (K149 L xs) a k = hI (K21 L xs) a k := fun a k h hw => (ei_22 L xs a k (by rw [hn_21] at h; rw [hn_22]; omega) hw).trans (hI_nC' h)
theorem el_21 (L : Nat) (xs : Nat → Int32) : ∀ a k, a ≤ hN (K21 L xs) → hL (K149 L xs) a k = hL (K21 L xs) a k := fun a k h => (el_22 L xs a k (by rw [hn_21] at h; rw [hn_22]; omega)).trans (hL_nC' h)
abbrev Y20 : List (Nat × Nat) := Y21
theorem ei_20 (L : Nat) (xs : Nat → Int32) : ∀ a k, a ≤ hN (K20 L xs) → (a, k) ∉ Y20 → hI (K149 L xs) a k = hI (K20 L xs) a k := fun a k h hw => ei_21 L xs a k h hw
theorem el_20 (L : Nat) (xs : Nat → Int32) : ∀ a k, a ≤ hN (K20 L xs) → hL (K149 L xs) a k = hL (K20 L xs) a k := fun a k h => el_21 L xs a k h
abbrev Y19 : List (Nat × Nat) := Y20
theorem ei_19 (L : Nat) (xs : Nat → Int32) : ∀ a k, a ≤ hN (K19 L xs) → (a, k) ∉ Y19 → hI (K149 L xs) a k = hI (K19 L xs) a k := fun a k h hw => (ei_20 L xs a k (by rw [hn_19] at h; rw [hn_20]; omega) hw).trans (hI_nC' h)
theorem el_19 (L : Nat) (xs : Nat → Int32) : ∀ a k, a ≤ hN (K19 L xs) → hL (K149 L xs) a k = hL (K19 L xs) a k := fun a k h => (el_20 L xs a k (by rw [hn_19] at h; rw [hn_20]; omega)).trans (hL_nC' h)
abbrev Y18 : List (Nat × Nat) := Y19
theorem ei_18 (L : Nat) (xs : Nat → Int32) : ∀ a k, a ≤ hN (K18 L xs) → (a, k) ∉ Y18 → hI (K149 L xs) a k = hI (K18 L xs) a k := fun a k h hw => (ei_19 L xs a k (by rw [hn_18] at h; rw [hn_19]; omega) hw).trans (hI_nC' h)
theorem el_18 (L : Nat) (xs : Nat → Int32) : ∀ a k, a ≤ hN (K18 L xs) → hL (K149 L xs) a k = hL (K18 L xs) a k := fun a k h => (el_19 L xs a k (by rw [hn_18] at h; rw [hn_19]; omega)).trans (hL_nC' h)
abbrev Y17 : List (Nat × Nat) := Y18
theorem ei_17 (L : Nat) (xs : Nat → Int32) : ∀ a k, a ≤ hN (K17 L xs) → (a, k) ∉ Y17 → hI (K149 L xs) a k = hI (K17 L xs) a k := fun a k h hw => ei_18 L xs a k h hw
theorem el_17 (L : Nat) (xs : Nat → Int32) : ∀ a k, a ≤ hN (K17 L xs) → hL (K149 L xs) a k = hL (K17 L xs) a k := fun a k h => el_18 L xs a k h
def Y16 : List (Nat × Nat) := (5, 4) :: Y17
theorem ei_16 (L : Nat) (xs : Nat → Int32) : ∀ a k, a ≤ hN (K16 L xs) → (a, k) ∉ Y16 → hI (K149 L xs) a k = hI (K16 L xs) a k := fun a k h hw => (ei_17 L xs a k h (fun q => hw (List.mem_cons_of_mem _ q))).trans (if_neg (fun q => hw (by rw [q.1, q.2]; exact List.mem_cons_self)))
theorem el_16 (L : Nat) (xs : Nat → Int32) : ∀ a k, a ≤ hN (K16 L xs) → hL (K149 L xs) a k = hL (K16 L xs) a k := fun a k h => el_17 L xs a k h
abbrev Y15 : List (Nat × Nat) := Y16
theorem ei_15 (L : Nat) (xs : Nat → Int32) : ∀ a k, a ≤ hN (K15 L xs) → (a, k) ∉ Y15 → hI (K149 L xs) a k = hI (K15 L xs) a k := fun a k h hw => ei_16 L xs a k h hw
theorem el_15 (L : Nat) (xs : Nat → Int32) : ∀ a k, a ≤ hN (K15 L xs) → hL (K149 L xs) a k = hL (K15 L xs) a k := fun a k h => el_16 L xs a k h
abbrev Y14 : List (Nat × Nat) := Y15
theorem ei_14 (L : Nat) (xs : Nat → Int32) : ∀ a k, a ≤ hN (K14 L xs) → (a, k) ∉ Y14 → hI (K149 L xs) a k = hI (K14 L xs) a k := fun a k h hw => (ei_15 L xs a k (by rw [hn_14] at h; rw [hn_15]; omega) hw).trans (hI_nC' h)
theorem el_14 (L : Nat) (xs : Nat → Int32) : ∀ a k, a ≤ hN (K14 L xs) → hL (K149 L xs) a k = hL (K14 L xs) a k := fun a k h => (el_15 L xs a k (by rw [hn_14] at h; rw [hn_15]; omega)).trans (hL_nC' h)
abbrev Y13 : List (Nat × Nat) := Y14
theorem ei_13 (L : Nat) (xs : Nat → Int32) : ∀ a k, a ≤ hN (K13 L xs) → (a, k) ∉ Y13 → hI (K149 L xs) a k = hI (K13 L xs) a k := fun a k h hw => ei_14 L xs a k h hw
theorem el_13 (L : Nat) (xs : Nat → Int32) : ∀ a k, a ≤ hN (K13 L xs) → hL (K149 L xs) a k = hL (K13 L xs) a k := fun a k h => el_14 L xs a k h
abbrev Y12 : List (Nat × Nat) := Y13
theorem ei_12 (L : Nat) (xs : Nat → Int32) : ∀ a k, a ≤ hN (K12 L xs) → (a, k) ∉ Y12 → hI (K149 L xs) a k = hI (K12 L xs) a k := fun a k h hw => (ei_13 L xs a k (by rw [hn_12] at h; rw [hn_13]; omega) hw).trans (hI_nC' h)
theorem el_12 (L : Nat) (xs : Nat → Int32) : ∀ a k, a ≤ hN (K12 L xs) → hL (K149 L xs) a k = hL (K12 L xs) a k := fun a k h => (el_13 L xs a k (by rw [hn_12] at h; rw [hn_13]; omega)).trans (hL_nC' h)
abbrev Y11 : List (Nat × Nat) := Y12
theorem ei_11 (L : Nat) (xs : Nat → Int32) : ∀ a k, a ≤ hN (K11 L xs) → (a, k) ∉ Y11 → hI (K149 L xs) a k = hI (K11 L xs) a k := fun a k h hw => ei_12 L xs a k h hw
theorem el_11 (L : Nat) (xs : Nat → Int32) : ∀ a k, a ≤ hN (K11 L xs) → hL (K149 L xs) a k = hL (K11 L xs) a k := fun a k h => el_12 L xs a k h
abbrev Y10 : List (Nat × Nat) := Y11
theorem ei_10 (L : Nat) (xs : Nat → Int32) : ∀ a k, a ≤ hN (K10 L xs) → (a, k) ∉ Y10 → hI (K149 L xs) a k = hI (K10 L xs) a k := fun a k h hw => (ei_11 L xs a k (by rw [hn_10] at h; rw [hn_11]; omega) hw).trans (hI_nC' h)
theorem el_10 (L : Nat) (xs : Nat → Int32) : ∀ a k, a ≤ hN (K10 L xs) → hL (K149 L xs) a k = hL (K10 L xs) a k := fun a k h => (el_11 L xs a k (by rw [hn_10] at h; rw [hn_11]; omega)).trans (hL_nC' h)
abbrev Y9 : List (Nat × Nat) := Y10
theorem ei_9 (L : Nat) (xs : Nat → Int32) : ∀ a k, a ≤ hN (K9 L xs) → (a, k) ∉ Y9 → hI (K149 L xs) a k = hI (K9 L xs) a k := fun a k h hw => (ei_10 L xs a k (by rw [hn_9] at h; rw [hn_10]; omega) hw).trans (hI_nC' h)
theorem el_9 (L : Nat) (xs : Nat → Int32) : ∀ a k, a ≤ hN (K9 L xs) → hL (K149 L xs) a k = hL (K9 L xs) a k := fun a k h => (el_10 L xs a k (by rw [hn_9] at h; rw [hn_10]; omega)).trans (hL_nC' h)
abbrev Y8 : List (Nat × Nat) := Y9
theorem ei_8 (L : Nat) (xs : Nat → Int32) : ∀ a k, a ≤ hN (K8 L xs) → (a, k) ∉ Y8 → hI (K149 L xs) a k = hI (K8 L xs) a k := fun a k h hw => ei_9 L xs a k h hw
theorem el_8 (L : Nat) (xs : Nat → Int32) : ∀ a k, a ≤ hN (K8 L xs) → hL (K149 L xs) a k = hL (K8 L xs) a k := fun a k h => el_9 L xs a k h
def Y7 : List (Nat × Nat) := (2, 4) :: Y8
theorem ei_7 (L : Nat) (xs : Nat → Int32) : ∀ a k, a ≤ hN (K7 L xs) → (a, k) ∉ Y7 → hI (K149 L xs) a k = hI (K7 L xs) a k := fun a k h hw => (ei_8 L xs a k h (fun q => hw (List.mem_cons_of_mem _ q))).trans (if_neg (fun q => hw (by rw [q.1, q.2]; exact List.mem_cons_self)))
theorem el_7 (L : Nat) (xs : Nat → Int32) : ∀ a k, a ≤ hN (K7 L xs) → hL (K149 L xs) a k = hL (K7 L xs) a k := fun a k h => el_8 L xs a k h
def Y6 : List (Nat × Nat) := (2, 3) :: Y7
theorem ei_6 (L : Nat) (xs : Nat → Int32) : ∀ a k, a ≤ hN (K6 L xs) → (a, k) ∉ Y6 → hI (K149 L xs) a k = hI (K6 L xs) a k := fun a k h hw => (ei_7 L xs a k h (fun q => hw (List.mem_cons_of_mem _ q))).trans (if_neg (fun q => hw (by rw [q.1, q.2]; exact List.mem_cons_self)))
theorem el_6 (L : Nat) (xs : Nat → Int32) : ∀ a k, a ≤ hN (K6 L xs) → hL (K149 L xs) a k = hL (K6 L xs) a k := fun a k h => el_7 L xs a k h
abbrev Y5 : List (Nat × Nat) := Y6
theorem ei_5 (L : Nat) (xs : Nat → Int32) : ∀ a k, a ≤ hN (K5 L xs) → (a, k) ∉ Y5 → hI (K149 L xs) a k = hI (K5 L xs) a k := fun a k h hw => ei_6 L xs a k h hw
theorem el_5 (L : Nat) (xs : Nat → Int32) : ∀ a k, a ≤ hN (K5 L xs) → hL (K149 L xs) a k = hL (K5 L xs) a k := fun a k h => el_6 L xs a k h
abbrev Y4 : List (Nat × Nat) := Y5
theorem ei_4 (L : Nat) (xs : Nat → Int32) : ∀ a k, a ≤ hN (K4 L xs) → (a, k) ∉ Y4 → hI (K149 L xs) a k = hI (K4 L xs) a k := fun a k h hw => (ei_5 L xs a k (by rw [hn_4] at h; rw [hn_5]; omega) hw).trans (hI_nC' h)
theorem el_4 (L : Nat) (xs : Nat → Int32) : ∀ a k, a ≤ hN (K4 L xs) → hL (K149 L xs) a k = hL (K4 L xs) a k := fun a k h => (el_5 L xs a k (by rw [hn_4] at h; rw [hn_5]; omega)).trans (hL_nC' h)
abbrev Y3 : List (Nat × Nat) := Y4
theorem ei_3 (L : Nat) (xs : Nat → Int32) : ∀ a k, a ≤ hN (K3 L xs) → (a, k) ∉ Y3 → hI (K149 L xs) a k = hI (K3 L xs) a k := fun a k h hw => ei_4 L xs a k h hw
theorem el_3 (L : Nat) (xs : Nat → Int32) : ∀ a k, a ≤ hN (K3 L xs) → hL (K149 L xs) a k = hL (K3 L xs) a k := fun a k h => el_4 L xs a k h
abbrev Y2 : List (Nat × Nat) := Y3
theorem ei_2 (L : Nat) (xs : Nat → Int32) : ∀ a k, a ≤ hN (K2 L xs) → (a, k) ∉ Y2 → hI (K149 L xs) a k = hI (K2 L xs) a k := fun a k h hw => (ei_3 L xs a k (by rw [hn_2] at h; rw [hn_3]; omega) hw).trans (hI_nC' h)
theorem el_2 (L : Nat) (xs : Nat → Int32) : ∀ a k, a ≤ hN (K2 L xs) → hL (K149 L xs) a k = hL (K2 L xs) a k := fun a k h => (el_3 L xs a k (by rw [hn_2] at h; rw [hn_3]; omega)).trans (hL_nC' h)
abbrev Y1 : List (Nat × Nat) := Y2
theorem ei_1 (L : Nat) (xs : Nat → Int32) : ∀ a k, a ≤ hN (K1 L xs) → (a, k) ∉ Y1 → hI (K149 L xs) a k = hI (K1 L xs) a k := fun a k h hw => (ei_2 L xs a k (by rw [hn_1] at h; rw [hn_2]; omega) hw).trans (hI_nC' h)
theorem el_1 (L : Nat) (xs : Nat → Int32) : ∀ a k, a ≤ hN (K1 L xs) → hL (K149 L xs) a k = hL (K1 L xs) a k := fun a k h => (el_2 L xs a k (by rw [hn_1] at h; rw [hn_2]; omega)).trans (hL_nC' h)
abbrev Y0 : List (Nat × Nat) := Y1
theorem ei_0 (L : Nat) (xs : Nat → Int32) : ∀ a k, a ≤ hN (K0 L xs) → (a, k) ∉ Y0 → hI (K149 L xs) a k = hI (K0 L xs) a k := fun a k h hw => (ei_1 L xs a k (by rw [hn_0] at h; rw [hn_1]; omega) hw).trans (hI_nC' h)
theorem el_0 (L : Nat) (xs : Nat → Int32) : ∀ a k, a ≤ hN (K0 L xs) → hL (K149 L xs) a k = hL (K0 L xs) a k := fun a k h => (el_1 L xs a k (by rw [hn_0] at h; rw [hn_1]; omega)).trans (hL_nC' h)
theorem ia_2_3 (L : Nat) (xs : Nat → Int32) : hI (KA L xs) 2 3 = 5 := (ei_7 L xs 2 3 (by rw [hn_7]; decide) (by decide)).trans (by show u2 (hI (K6 L xs)) 2 3 (5) 2 3 = _; exact u2_eq _ _ _ _)
theorem ia_2_4 (L : Nat) (xs : Nat → Int32) : hI (KA L xs) 2 4 = 2 := (ei_8 L xs 2 4 (by rw [hn_8]; decide) (by decide)).trans (by show u2 (hI (K7 L xs)) 2 4 (2) 2 4 = _; exact u2_eq _ _ _ _)
theorem ia_5_4 (L : Nat) (xs : Nat → Int32) : hI (KA L xs) 5 4 = 2 := (ei_17 L xs 5 4 (by rw [hn_17]; decide) (by decide)).trans (by show u2 (hI (K16 L xs)) 5 4 (2) 5 4 = _; exact u2_eq _ _ _ _)
theorem ia_9_4 (L : Nat) (xs : Nat → Int32) : hI (KA L xs) 9 4 = -1 := (ei_26 L xs 9 4 (by rw [hn_26]; decide) (by decide)).trans (by show u2 (hI (K25 L xs)) 9 4 (-1) 9 4 = _; exact u2_eq _ _ _ _)
theorem ia_16_12 (L : Nat) (xs : Nat → Int32) : hI (KA L xs) 16 12 = -1 := (ei_44 L xs 16 12 (by rw [hn_44]; decide) (by decide)).trans (by show u2 (hI (K43 L xs)) 16 12 (-1) 16 12 = _; exact u2_eq _ _ _ _)
theorem ia_33_1 (L : Nat) (xs : Nat → Int32) : hI (KA L xs) 33 1 = 5 := (ei_74 L xs 33 1 (by rw [hn_74]; decide) (by decide)).trans (by show u2 (hI (K73 L xs)) 33 1 (5) 33 1 = _; exact u2_eq _ _ _ _)
theorem ia_33_2 (L : Nat) (xs : Nat → Int32) : hI (KA L xs) 33 2 = 2 := (ei_75 L xs 33 2 (by rw [hn_75]; decide) (by decide)).trans (by show u2 (hI (K74 L xs)) 33 2 (2) 33 2 = _; exact u2_eq _ _ _ _)
theorem ia_33_3 (L : Nat) (xs : Nat → Int32) : hI (KA L xs) 33 3 = 2 := (ei_76 L xs 33 3 (by rw [hn_76]; decide) (by decide)).trans (by show u2 (hI (K75 L xs)) 33 3 (2) 33 3 = _; exact u2_eq _ _ _ _)
theorem ia_33_42 (L : Nat) (xs : Nat → Int32) : hI (KA L xs) 33 42 = -1 := (ei_133 L xs 33 42 (by rw [hn_133]; decide) (by decide)).trans (by show u2 (hI (K132 L xs)) 33 42 (-1) 33 42 = _; exact u2_eq _ _ _ _)
theorem la_11 (L : Nat) (xs : Nat → Int32) : hL (KA L xs) 11 0 = 0 := (el_22 L xs 11 0 (by rw [hn_22]; decide)).trans (by show u1 (hL (K21 L xs)) (hN (K21 L xs) + 1) (fun _ => 0) 11 0 = _; rw [hn_21]; rfl)
theorem zKA (L : Nat) (xs : Nat → Int32) {a : Nat} (k : Nat) (h0 : a ≠ 0) (h : a ≤ 69) (hz : ∀ e ∈ Z149, e.1 ≠ a) : hI (KA L xs) a k = 0 := ez_149 L xs a k h0 (by rw [hn_149]; exact h) (fun q => hz _ q rfl)
theorem zKB (L : Nat) (xs : Nat → Int32) {a k : Nat} (h0 : a ≠ 0) (h : a ≤ 69) (hz : (a, k) ∉ Z149) : hI (KA L xs) a k = 0 := ez_149 L xs a k h0 (by rw [hn_149]; exact h) hz
theorem Rel_KA (L : Nat) (xs : Nat → Int32) : Rel L (hI (KA L xs) 0) 0 (KA L xs) := by
  have hnK : hN (KA L xs) = 69 := hn_149 L xs
  refine ⟨Fix_KA L xs, ek_0 L xs 0 (Nat.zero_le _), rfl, 0, fun _ => 0, 0, fun _ => 0, fun _ => 0, fun _ => 0, fun _ => 0, fun _ => 0, fun _ _ => 0, 2, 0, 0, ?_, ?_, ?_, ?_, ?_, ?_, ?_, ?_, ?_⟩
  · exact ⟨⟨zKB L xs (by decide) (by decide) (by decide), by decide, fun i hi => absurd hi (Nat.not_lt_zero i), fun i hi => absurd hi (Nat.not_lt_zero i), fun i hi => absurd hi (Nat.not_lt_zero i), fun i _ hi => absurd hi (Nat.not_lt_zero i)⟩, zKB L xs (by decide) (by decide) (by decide), fun i hi => absurd hi (Nat.not_lt_zero i), fun i hi => absurd hi (Nat.not_lt_zero i), fun i hi => absurd hi (Nat.not_lt_zero i), fun i _ => zKA L xs i (by decide) (by decide) (by decide)⟩
  · refine ⟨⟨zKB L xs (by decide) (by decide) (by decide), by decide, fun i hi => absurd hi (Nat.not_lt_zero i), fun i hi => absurd hi (Nat.not_lt_zero i), fun i hi => absurd hi (Nat.not_lt_zero i), fun i _ hi => absurd hi (Nat.not_lt_zero i), fun i hi => absurd hi (Nat.not_lt_zero i), fun i hi => absurd hi (Nat.not_lt_zero i)⟩, ⟨zKB L xs (by decide) (by decide) (by decide), by decide, fun i hi => absurd hi (Nat.not_lt_zero i), fun i hi => absurd hi (Nat.not_lt_zero i)⟩, fun i hi => absurd hi (Nat.not_lt_zero i), ⟨fun i hi => absurd hi (Nat.not_lt_zero i), fun i hi => absurd hi (Nat.not_lt_zero i), fun i _ hi => absurd hi (Nat.not_lt_zero i)⟩, fun i hi => absurd hi (Nat.not_lt_zero i), fun i hi => absurd hi (Nat.not_lt_zero i), fun i hi => absurd hi (Nat.not_lt_zero i), fun i _ => ⟨zKA L xs i (by decide) (by decide) (by decide), zKA L xs i (by decide) (by decide) (by decide)⟩⟩
  · exact ⟨fun a b _ _ => ⟨zKA L xs _ (by decide) (by decide) (by decide), Nat.zero_le _⟩, fun a b _ _ => ⟨zKA L xs _ (by decide) (by decide) (by decide), Nat.zero_le _⟩, ia_5_4 L xs, ia_33_3 L xs, by decide, by decide⟩
  · refine ⟨⟨29, [], [], ra_1_8 L xs, ⟨30, 31, 32, ⟨ka_29 L xs, ra_29_0 L xs, ra_29_1 L xs, ra_29_2 L xs, ka_30 L xs, ka_31 L xs, ka_32 L xs⟩, ⟨Or.inl (by decide), by rw [hnK]; decide⟩, ⟨Or.inl (by decide), by rw [hnK]; decide⟩, ⟨Or.inl (by decide), by rw [hnK]; decide⟩, by decide, by rw [hnK]; decide, fun i x hx => by simp at hx, fun i hi => absurd hi (Nat.not_lt_zero i)⟩, ⟨Nat.zero_le _, Nat.zero_le _, ⟨fun i hi => absurd hi (Nat.not_lt_zero i), rfl⟩, fun x hx => absurd hx List.not_mem_nil, Nat.zero_le _⟩, ⟨fun i x hx => by simp at hx, fun i hi => ?_, fun i hi => absurd hi (Nat.not_lt_zero i), zKA L xs _ (by decide) (by decide) (by decide)⟩⟩, fun i hi => absurd hi (Nat.not_lt_zero i)⟩
    have : i = 0 := Nat.le_zero.mp hi
    rw [this]
    exact zKA L xs _ (by decide) (by decide) (by decide)
  · refine ⟨la_11 L xs, ⟨0, Nat.le_refl _, zKB L xs (by decide) (by decide) (by decide), Or.inl (ia_9_4 L xs)⟩, fun q => ?_⟩
    rw [ia_9_4 L xs, zKB L xs (a := 5) (k := 5) (by decide) (by decide) (by decide)] at q
    exact absurd q (by decide)
  · exact ⟨zKA L xs _ (by decide) (by decide) (by decide), zKB L xs (by decide) (by decide) (by decide), by decide, fun i hi => absurd hi (Nat.not_lt_zero i)⟩
  · exact ⟨zKA L xs _ (by decide) (by decide) (by decide), zKB L xs (by decide) (by decide) (by decide), by decide, fun i hi => absurd hi (Nat.not_lt_zero i)⟩
  · exact ⟨(ia_2_3 L xs).trans (ia_33_1 L xs).symm, (ia_2_4 L xs).trans (ia_33_2 L xs).symm, (zKA L xs 2 (by decide) (by decide) (by decide)).trans (zKB L xs (a := 33) (k := 4) (by decide) (by decide) (by decide)).symm⟩
  · exact ⟨(zKB L xs (a := 16) (k := 11) (by decide) (by decide) (by decide)).trans (zKB L xs (a := 33) (k := 41) (by decide) (by decide) (by decide)).symm, (ia_16_12 L xs).trans (ia_33_42 L xs).symm⟩
