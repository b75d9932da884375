/-! ===== tokens: pure, and as the class takes them ===== -/
def blB (x : Int32) : Bool := decide (x = 32 ∨ x = 10)
def ltB (x : Int32) : Bool := decide (97 ≤ x ∧ x ≤ 122)
def dgB (x : Int32) : Bool := decide (48 ≤ x ∧ x ≤ 57)
def sgB (x : Int32) : Bool := decide (x = 59 ∨ (60 ≤ x ∧ x ≤ 62) ∨ (40 ≤ x ∧ x ≤ 43) ∨ x = 45 ∨ x = 47)
section Lx
variable (bf : Nat → Int32) (N : Nat)
def runP (P : Int32 → Bool) : Nat → Nat → Nat
  | 0, p => p
  | f + 1, p => if P (bf p) = true then runP P f (p + 1) else p
def sk (p : Nat) : Nat := runP bf blB (N - p) p
def le (s : Nat) : Nat := runP bf ltB (N - s) s
def de (s : Nat) : Nat := runP bf dgB (N - s) s
def wvI (s : Nat) : Nat → Int64
  | 0 => 0
  | k + 1 => (wvI s k <<< ((8 : Int32).toInt64 &&& 63)) ||| (bf (s + k)).toInt64
def nvI (s : Nat) : Nat → Int32
  | 0 => 0
  | k + 1 => 10 * nvI s k + bf (s + k) - 48
/-- 0: the end, 1: a word, 2: a number, 3: no token, else a sign -/
def srt (s : Nat) : Nat := if bf s = -1 then 0 else if ltB (bf s) = true then (if le bf N s - s ≤ 8 then 1 else 3) else if dgB (bf s) = true then (if de bf N s - s ≤ 6 ∧ ltB (bf (de bf N s)) = false then 2 else 3) else if sgB (bf s) = true then (bf s).toNatClampNeg else 3
def wtk (x : Int64) : Nat := if x = 2003330414 then 1 else if x = 482955846501 then 2 else if x = 28530 then 3 else if x = 6385252 then 4 else if x = 7237492 then 5 else 6
def ncd (x : Int64) : Int32 := if x = 1802071652 then -1 else if x = 7823737 then -2 else if x = 2002872692 then -3 else if x = 422608071022 then -4 else if x = 114827870823795 then -5 else if x = 1818326117 then -6 else -1000
def tkA (s : Nat) : Nat := if srt bf N s = 0 then 0 else if srt bf N s = 1 then wtk (wvI bf s (le bf N s - s)) else if srt bf N s = 2 then 7 else if srt bf N s = 3 then 8 else srt bf N s
/-- where the next one is looked for -/
def nxA (s : Nat) : Nat := if srt bf N s = 0 then s else if srt bf N s = 1 then le bf N s else if srt bf N s = 2 then de bf N s else s + 1
def cdA (s : Nat) : Int32 := if srt bf N s = 1 then ncd (wvI bf s (le bf N s - s)) else nvI bf s (de bf N s - s)
end Lx
theorem runP_ge (bf : Nat → Int32) (P : Int32 → Bool) : ∀ f p, p ≤ runP bf P f p ∧ runP bf P f p ≤ p + f
  | 0, p => ⟨Nat.le_refl _, Nat.le_refl _⟩
  | f + 1, p => by
    unfold runP
    by_cases q : P (bf p) = true
    · rw [if_pos q]; have := runP_ge bf P f (p + 1); omega
    · rw [if_neg q]; omega
/-- the bytes: nI of something below 256, -1 from N on -/
def BF (bf : Nat → Int32) (N : Nat) : Prop := N ≤ 600 ∧ (∀ p, p < N → ∃ b, b < 256 ∧ bf p = nI b) ∧ ∀ p, N ≤ p → bf p = -1
theorem c_X6_isBlank {d : Nat} {x : Int32} {H : PH} {Q : Option Value → PH → Prop} (hq : Q (some (.int (bI (blB x = true)))) H) : Wp mX6_isBlank d 0 0 0 [some (.int x)] [] H Q := by
  unfold blB at hq
  rw [show (decide (x = 32 ∨ x = 10) = true) = (x = 32 ∨ x = 10) from propext decide_eq_true_iff] at hq
  refine wp_iload_n dX6_isBlank_0 rfl ?_
  refine wp_bipush (v := 32) dX6_isBlank_1 (by decide) ?_
  refine wp_icmp_eq (tgt := 12) dX6_isBlank_3 (by decide) (fun h3 => ?_) (fun h3 => ?_)
  · refine wp_iconst (v := 1) dX6_isBlank_12 (by decide) ?_
    refine wp_goto (tgt := 17) dX6_isBlank_13 (by decide) ?_
    refine wp_zreturn rfl (Or.inr rfl) dX6_isBlank_17 ?_
    first | exact bq_t hq (Or.inl h3) | exact bq_t hq (Or.inr h9) | exact bq_f hq (fun q => q.elim h3 h9)
  · refine wp_iload_n dX6_isBlank_6 rfl ?_
    refine wp_bipush (v := 10) dX6_isBlank_7 (by decide) ?_
    refine wp_icmp_ne (tgt := 16) dX6_isBlank_9 (by decide) (fun h9 => ?_) (fun h9 => ?_)
    · refine wp_iconst (v := 0) dX6_isBlank_16 (by decide) ?_
      refine wp_zreturn rfl (Or.inl rfl) dX6_isBlank_17 ?_
      first | exact bq_t hq (Or.inl h3) | exact bq_t hq (Or.inr h9) | exact bq_f hq (fun q => q.elim h3 h9)
    · refine wp_iconst (v := 1) dX6_isBlank_12 (by decide) ?_
      refine wp_goto (tgt := 17) dX6_isBlank_13 (by decide) ?_
      refine wp_zreturn rfl (Or.inr rfl) dX6_isBlank_17 ?_
      first | exact bq_t hq (Or.inl h3) | exact bq_t hq (Or.inr h9) | exact bq_f hq (fun q => q.elim h3 h9)
theorem c_X6_isLetter {d : Nat} {x : Int32} {H : PH} {Q : Option Value → PH → Prop} (hq : Q (some (.int (bI (ltB x = true)))) H) : Wp mX6_isLetter d 0 0 0 [some (.int x)] [] H Q := by
  unfold ltB at hq
  rw [show (decide (97 ≤ x ∧ x ≤ 122) = true) = (97 ≤ x ∧ x ≤ 122) from propext decide_eq_true_iff] at hq
  refine wp_iload_n dX6_isLetter_0 rfl ?_
  refine wp_bipush (v := 97) dX6_isLetter_1 (by decide) ?_
  refine wp_icmp_lt (tgt := 16) dX6_isLetter_3 (by decide) (fun h3 => ?_) (fun h3 => ?_)
  · refine wp_iconst (v := 0) dX6_isLetter_16 (by decide) ?_
    refine wp_zreturn rfl (Or.inl rfl) dX6_isLetter_17 ?_
    first | exact bq_t hq ⟨Int32.not_lt.mp h3, Int32.not_lt.mp h9⟩ | exact bq_f hq (fun q => absurd h3 (Int32.not_lt.mpr q.1)) | exact bq_f hq (fun q => absurd h9 (Int32.not_lt.mpr q.2))
  · refine wp_iload_n dX6_isLetter_6 rfl ?_
    refine wp_bipush (v := 122) dX6_isLetter_7 (by decide) ?_
    refine wp_icmp_gt (tgt := 16) dX6_isLetter_9 (by decide) (fun h9 => ?_) (fun h9 => ?_)
    · refine wp_iconst (v := 0) dX6_isLetter_16 (by decide) ?_
      refine wp_zreturn rfl (Or.inl rfl) dX6_isLetter_17 ?_
      first | exact bq_t hq ⟨Int32.not_lt.mp h3, Int32.not_lt.mp h9⟩ | exact bq_f hq (fun q => absurd h3 (Int32.not_lt.mpr q.1)) | exact bq_f hq (fun q => absurd h9 (Int32.not_lt.mpr q.2))
    · refine wp_iconst (v := 1) dX6_isLetter_12 (by decide) ?_
      refine wp_goto (tgt := 17) dX6_isLetter_13 (by decide) ?_
      refine wp_zreturn rfl (Or.inr rfl) dX6_isLetter_17 ?_
      first | exact bq_t hq ⟨Int32.not_lt.mp h3, Int32.not_lt.mp h9⟩ | exact bq_f hq (fun q => absurd h3 (Int32.not_lt.mpr q.1)) | exact bq_f hq (fun q => absurd h9 (Int32.not_lt.mpr q.2))
theorem c_X6_isDigit {d : Nat} {x : Int32} {H : PH} {Q : Option Value → PH → Prop} (hq : Q (some (.int (bI (dgB x = true)))) H) : Wp mX6_isDigit d 0 0 0 [some (.int x)] [] H Q := by
  unfold dgB at hq
  rw [show (decide (48 ≤ x ∧ x ≤ 57) = true) = (48 ≤ x ∧ x ≤ 57) from propext decide_eq_true_iff] at hq
  refine wp_iload_n dX6_isDigit_0 rfl ?_
  refine wp_bipush (v := 48) dX6_isDigit_1 (by decide) ?_
  refine wp_icmp_lt (tgt := 16) dX6_isDigit_3 (by decide) (fun h3 => ?_) (fun h3 => ?_)
  · refine wp_iconst (v := 0) dX6_isDigit_16 (by decide) ?_
    refine wp_zreturn rfl (Or.inl rfl) dX6_isDigit_17 ?_
    first | exact bq_t hq ⟨Int32.not_lt.mp h3, Int32.not_lt.mp h9⟩ | exact bq_f hq (fun q => absurd h3 (Int32.not_lt.mpr q.1)) | exact bq_f hq (fun q => absurd h9 (Int32.not_lt.mpr q.2))
  · refine wp_iload_n dX6_isDigit_6 rfl ?_
    refine wp_bipush (v := 57) dX6_isDigit_7 (by decide) ?_
    refine wp_icmp_gt (tgt := 16) dX6_isDigit_9 (by decide) (fun h9 => ?_) (fun h9 => ?_)
    · refine wp_iconst (v := 0) dX6_isDigit_16 (by decide) ?_
      refine wp_zreturn rfl (Or.inl rfl) dX6_isDigit_17 ?_
      first | exact bq_t hq ⟨Int32.not_lt.mp h3, Int32.not_lt.mp h9⟩ | exact bq_f hq (fun q => absurd h3 (Int32.not_lt.mpr q.1)) | exact bq_f hq (fun q => absurd h9 (Int32.not_lt.mpr q.2))
    · refine wp_iconst (v := 1) dX6_isDigit_12 (by decide) ?_
      refine wp_goto (tgt := 17) dX6_isDigit_13 (by decide) ?_
      refine wp_zreturn rfl (Or.inr rfl) dX6_isDigit_17 ?_
      first | exact bq_t hq ⟨Int32.not_lt.mp h3, Int32.not_lt.mp h9⟩ | exact bq_f hq (fun q => absurd h3 (Int32.not_lt.mpr q.1)) | exact bq_f hq (fun q => absurd h9 (Int32.not_lt.mpr q.2))
theorem c_X6_isSign {d : Nat} {x : Int32} {H : PH} {Q : Option Value → PH → Prop} (hq : Q (some (.int (bI (sgB x = true)))) H) : Wp mX6_isSign (d + 1) 0 0 0 [some (.int x)] [] H Q := by
  unfold sgB at hq
  rw [show (decide (x = 59 ∨ (60 ≤ x ∧ x ≤ 62) ∨ (40 ≤ x ∧ x ≤ 43) ∨ x = 45 ∨ x = 47) = true) = (x = 59 ∨ (60 ≤ x ∧ x ≤ 62) ∨ (40 ≤ x ∧ x ≤ 43) ∨ x = 45 ∨ x = 47) from propext decide_eq_true_iff] at hq
  refine wp_iload_n dX6_isSign_0 rfl ?_
  refine wp_bipush (v := 59) dX6_isSign_1 (by decide) ?_
  refine wp_icmp_eq (tgt := 40) dX6_isSign_3 (by decide) (fun h3 => ?_) (fun h3 => ?_)
  · refine wp_iconst (v := 1) dX6_isSign_40 (by decide) ?_
    refine wp_goto (tgt := 45) dX6_isSign_41 (by decide) ?_
    refine wp_zreturn rfl (Or.inr rfl) dX6_isSign_45 ?_
    first | exact bq_t hq (Or.inl h3) | exact bq_t hq (Or.inr (Or.inl h14)) | exact bq_t hq (Or.inr (Or.inr (Or.inl h25))) | exact bq_t hq (Or.inr (Or.inr (Or.inr (Or.inl h31)))) | exact bq_t hq (Or.inr (Or.inr (Or.inr (Or.inr h37)))) | exact bq_f hq (fun q => q.elim h3 (fun q => q.elim h14 (fun q => q.elim h25 (fun q => q.elim h31 h37))))
  · refine wp_iload_n dX6_isSign_6 rfl ?_
    refine wp_bipush (v := 60) dX6_isSign_7 (by decide) ?_
    refine wp_bipush (v := 62) dX6_isSign_9 (by decide) ?_
    refine wp_calls3 dX6_isSign_11 lk_RX6_161 ok_X11_within st_X11_within (Nat.le_of_ble_eq_true rfl) (Nat.le_of_ble_eq_true rfl) ?_
    refine c_X11_within ?_
    refine wp_ifb_ne (tgt := 40) dX6_isSign_14 (by decide) (fun h14 => ?_) (fun h14 => ?_)
    · refine wp_iconst (v := 1) dX6_isSign_40 (by decide) ?_
      refine wp_goto (tgt := 45) dX6_isSign_41 (by decide) ?_
      refine wp_zreturn rfl (Or.inr rfl) dX6_isSign_45 ?_
      first | exact bq_t hq (Or.inl h3) | exact bq_t hq (Or.inr (Or.inl h14)) | exact bq_t hq (Or.inr (Or.inr (Or.inl h25))) | exact bq_t hq (Or.inr (Or.inr (Or.inr (Or.inl h31)))) | exact bq_t hq (Or.inr (Or.inr (Or.inr (Or.inr h37)))) | exact bq_f hq (fun q => q.elim h3 (fun q => q.elim h14 (fun q => q.elim h25 (fun q => q.elim h31 h37))))
    · refine wp_iload_n dX6_isSign_17 rfl ?_
      refine wp_bipush (v := 40) dX6_isSign_18 (by decide) ?_
      refine wp_bipush (v := 43) dX6_isSign_20 (by decide) ?_
      refine wp_calls3 dX6_isSign_22 lk_RX6_161 ok_X11_within st_X11_within (Nat.le_of_ble_eq_true rfl) (Nat.le_of_ble_eq_true rfl) ?_
      refine c_X11_within ?_
      refine wp_ifb_ne (tgt := 40) dX6_isSign_25 (by decide) (fun h25 => ?_) (fun h25 => ?_)
      · refine wp_iconst (v := 1) dX6_isSign_40 (by decide) ?_
        refine wp_goto (tgt := 45) dX6_isSign_41 (by decide) ?_
        refine wp_zreturn rfl (Or.inr rfl) dX6_isSign_45 ?_
        first | exact bq_t hq (Or.inl h3) | exact bq_t hq (Or.inr (Or.inl h14)) | exact bq_t hq (Or.inr (Or.inr (Or.inl h25))) | exact bq_t hq (Or.inr (Or.inr (Or.inr (Or.inl h31)))) | exact bq_t hq (Or.inr (Or.inr (Or.inr (Or.inr h37)))) | exact bq_f hq (fun q => q.elim h3 (fun q => q.elim h14 (fun q => q.elim h25 (fun q => q.elim h31 h37))))
      · refine wp_iload_n dX6_isSign_28 rfl ?_
        refine wp_bipush (v := 45) dX6_isSign_29 (by decide) ?_
        refine wp_icmp_eq (tgt := 40) dX6_isSign_31 (by decide) (fun h31 => ?_) (fun h31 => ?_)
        · refine wp_iconst (v := 1) dX6_isSign_40 (by decide) ?_
          refine wp_goto (tgt := 45) dX6_isSign_41 (by decide) ?_
          refine wp_zreturn rfl (Or.inr rfl) dX6_isSign_45 ?_
          first | exact bq_t hq (Or.inl h3) | exact bq_t hq (Or.inr (Or.inl h14)) | exact bq_t hq (Or.inr (Or.inr (Or.inl h25))) | exact bq_t hq (Or.inr (Or.inr (Or.inr (Or.inl h31)))) | exact bq_t hq (Or.inr (Or.inr (Or.inr (Or.inr h37)))) | exact bq_f hq (fun q => q.elim h3 (fun q => q.elim h14 (fun q => q.elim h25 (fun q => q.elim h31 h37))))
        · refine wp_iload_n dX6_isSign_34 rfl ?_
          refine wp_bipush (v := 47) dX6_isSign_35 (by decide) ?_
          refine wp_icmp_ne (tgt := 44) dX6_isSign_37 (by decide) (fun h37 => ?_) (fun h37 => ?_)
          · refine wp_iconst (v := 0) dX6_isSign_44 (by decide) ?_
            refine wp_zreturn rfl (Or.inl rfl) dX6_isSign_45 ?_
            first | exact bq_t hq (Or.inl h3) | exact bq_t hq (Or.inr (Or.inl h14)) | exact bq_t hq (Or.inr (Or.inr (Or.inl h25))) | exact bq_t hq (Or.inr (Or.inr (Or.inr (Or.inl h31)))) | exact bq_t hq (Or.inr (Or.inr (Or.inr (Or.inr h37)))) | exact bq_f hq (fun q => q.elim h3 (fun q => q.elim h14 (fun q => q.elim h25 (fun q => q.elim h31 h37))))
          · refine wp_iconst (v := 1) dX6_isSign_40 (by decide) ?_
            refine wp_goto (tgt := 45) dX6_isSign_41 (by decide) ?_
            refine wp_zreturn rfl (Or.inr rfl) dX6_isSign_45 ?_
            first | exact bq_t hq (Or.inl h3) | exact bq_t hq (Or.inr (Or.inl h14)) | exact bq_t hq (Or.inr (Or.inr (Or.inl h25))) | exact bq_t hq (Or.inr (Or.inr (Or.inr (Or.inl h31)))) | exact bq_t hq (Or.inr (Or.inr (Or.inr (Or.inr h37)))) | exact bq_f hq (fun q => q.elim h3 (fun q => q.elim h14 (fun q => q.elim h25 (fun q => q.elim h31 h37))))
theorem lcz {x z : Int64} (h : ¬ lg_cmp x z = 0) : ¬ x = z := fun q => h ((lg_cmp_eq x z).mpr q)
theorem lce {x z : Int64} (h : lg_cmp x z = 0) : x = z := (lg_cmp_eq x z).mp h
theorem c_X6_wordToken {d : Nat} {x : Int64} {H : PH} {Q : Option Value → PH → Prop} (hq : Q (some (.int (nI (wtk x)))) H) : Wp mX6_wordToken d 0 0 0 [some (.long x), none] [] H Q := by
  unfold wtk at hq
  refine wp_lload_n dX6_wordToken_0 rfl ?_
  refine wp_ldc2_w dX6_wordToken_1 co_RX6_139 ?_
  refine wp_lcmp dX6_wordToken_4 ?_
  refine wp_if_ne (tgt := 10) dX6_wordToken_5 (by decide) (fun h5 => ?_) (fun h5 => ?_)
  · refine wp_lload_n dX6_wordToken_10 rfl ?_
    refine wp_ldc2_w dX6_wordToken_11 co_RX6_141 ?_
    refine wp_lcmp dX6_wordToken_14 ?_
    refine wp_if_ne (tgt := 20) dX6_wordToken_15 (by decide) (fun h15 => ?_) (fun h15 => ?_)
    · refine wp_lload_n dX6_wordToken_20 rfl ?_
      refine wp_ldc2_w dX6_wordToken_21 co_RX6_143 ?_
      refine wp_lcmp dX6_wordToken_24 ?_
      refine wp_if_ne (tgt := 30) dX6_wordToken_25 (by decide) (fun h25 => ?_) (fun h25 => ?_)
      · refine wp_lload_n dX6_wordToken_30 rfl ?_
        refine wp_ldc2_w dX6_wordToken_31 co_RX6_145 ?_
        refine wp_lcmp dX6_wordToken_34 ?_
        refine wp_if_ne (tgt := 40) dX6_wordToken_35 (by decide) (fun h35 => ?_) (fun h35 => ?_)
        · refine wp_lload_n dX6_wordToken_40 rfl ?_
          refine wp_ldc2_w dX6_wordToken_41 co_RX6_147 ?_
          refine wp_lcmp dX6_wordToken_44 ?_
          refine wp_if_ne (tgt := 52) dX6_wordToken_45 (by decide) (fun h45 => ?_) (fun h45 => ?_)
          · refine wp_bipush (v := 6) dX6_wordToken_52 (by decide) ?_
            refine wp_ireturn rfl dX6_wordToken_54 ?_
            first | (rw [if_neg (lcz h5), if_neg (lcz h15), if_neg (lcz h25), if_neg (lcz h35), if_pos (lce h45)] at hq; exact hq) | (rw [if_neg (lcz h5), if_neg (lcz h15), if_neg (lcz h25), if_neg (lcz h35), if_neg (lcz h45)] at hq; exact hq)
          · refine wp_iconst (v := 5) dX6_wordToken_48 (by decide) ?_
            refine wp_goto (tgt := 54) dX6_wordToken_49 (by decide) ?_
            refine wp_ireturn rfl dX6_wordToken_54 ?_
            first | (rw [if_neg (lcz h5), if_neg (lcz h15), if_neg (lcz h25), if_neg (lcz h35), if_pos (lce h45)] at hq; exact hq) | (rw [if_neg (lcz h5), if_neg (lcz h15), if_neg (lcz h25), if_neg (lcz h35), if_neg (lcz h45)] at hq; exact hq)
        · refine wp_iconst (v := 4) dX6_wordToken_38 (by decide) ?_
          refine wp_ireturn rfl dX6_wordToken_39 ?_
          rw [if_neg (lcz h5), if_neg (lcz h15), if_neg (lcz h25), if_pos (lce h35)] at hq; exact hq
      · refine wp_iconst (v := 3) dX6_wordToken_28 (by decide) ?_
        refine wp_ireturn rfl dX6_wordToken_29 ?_
        rw [if_neg (lcz h5), if_neg (lcz h15), if_pos (lce h25)] at hq; exact hq
    · refine wp_iconst (v := 2) dX6_wordToken_18 (by decide) ?_
      refine wp_ireturn rfl dX6_wordToken_19 ?_
      rw [if_neg (lcz h5), if_pos (lce h15)] at hq; exact hq
  · refine wp_iconst (v := 1) dX6_wordToken_8 (by decide) ?_
    refine wp_ireturn rfl dX6_wordToken_9 ?_
    rw [if_pos (lce h5)] at hq; exact hq
theorem c_X6_nameCode {d : Nat} {x : Int64} {H : PH} {Q : Option Value → PH → Prop} (hq : Q (some (.int (ncd x))) H) : Wp mX6_nameCode d 0 0 0 [some (.long x), none] [] H Q := by
  unfold ncd at hq
  refine wp_lload_n dX6_nameCode_0 rfl ?_
  refine wp_ldc2_w dX6_nameCode_1 co_RX6_149 ?_
  refine wp_lcmp dX6_nameCode_4 ?_
  refine wp_if_ne (tgt := 10) dX6_nameCode_5 (by decide) (fun h5 => ?_) (fun h5 => ?_)
  · refine wp_lload_n dX6_nameCode_10 rfl ?_
    refine wp_ldc2_w dX6_nameCode_11 co_RX6_151 ?_
    refine wp_lcmp dX6_nameCode_14 ?_
    refine wp_if_ne (tgt := 21) dX6_nameCode_15 (by decide) (fun h15 => ?_) (fun h15 => ?_)
    · refine wp_lload_n dX6_nameCode_21 rfl ?_
      refine wp_ldc2_w dX6_nameCode_22 co_RX6_153 ?_
      refine wp_lcmp dX6_nameCode_25 ?_
      refine wp_if_ne (tgt := 32) dX6_nameCode_26 (by decide) (fun h26 => ?_) (fun h26 => ?_)
      · refine wp_lload_n dX6_nameCode_32 rfl ?_
        refine wp_ldc2_w dX6_nameCode_33 co_RX6_155 ?_
        refine wp_lcmp dX6_nameCode_36 ?_
        refine wp_if_ne (tgt := 43) dX6_nameCode_37 (by decide) (fun h37 => ?_) (fun h37 => ?_)
        · refine wp_lload_n dX6_nameCode_43 rfl ?_
          refine wp_ldc2_w dX6_nameCode_44 co_RX6_157 ?_
          refine wp_lcmp dX6_nameCode_47 ?_
          refine wp_if_ne (tgt := 54) dX6_nameCode_48 (by decide) (fun h48 => ?_) (fun h48 => ?_)
          · refine wp_lload_n dX6_nameCode_54 rfl ?_
            refine wp_ldc2_w dX6_nameCode_55 co_RX6_159 ?_
            refine wp_lcmp dX6_nameCode_58 ?_
            refine wp_if_ne (tgt := 67) dX6_nameCode_59 (by decide) (fun h59 => ?_) (fun h59 => ?_)
            · refine wp_sipush (v := -1000) dX6_nameCode_67 (by decide) ?_
              refine wp_ireturn rfl dX6_nameCode_70 ?_
              first | (rw [if_neg (lcz h5), if_neg (lcz h15), if_neg (lcz h26), if_neg (lcz h37), if_neg (lcz h48), if_pos (lce h59)] at hq; exact hq) | (rw [if_neg (lcz h5), if_neg (lcz h15), if_neg (lcz h26), if_neg (lcz h37), if_neg (lcz h48), if_neg (lcz h59)] at hq; exact hq)
            · refine wp_bipush (v := -6) dX6_nameCode_62 (by decide) ?_
              refine wp_goto (tgt := 70) dX6_nameCode_64 (by decide) ?_
              refine wp_ireturn rfl dX6_nameCode_70 ?_
              first | (rw [if_neg (lcz h5), if_neg (lcz h15), if_neg (lcz h26), if_neg (lcz h37), if_neg (lcz h48), if_pos (lce h59)] at hq; exact hq) | (rw [if_neg (lcz h5), if_neg (lcz h15), if_neg (lcz h26), if_neg (lcz h37), if_neg (lcz h48), if_neg (lcz h59)] at hq; exact hq)
          · refine wp_bipush (v := -5) dX6_nameCode_51 (by decide) ?_
            refine wp_ireturn rfl dX6_nameCode_53 ?_
            rw [if_neg (lcz h5), if_neg (lcz h15), if_neg (lcz h26), if_neg (lcz h37), if_pos (lce h48)] at hq; exact hq
        · refine wp_bipush (v := -4) dX6_nameCode_40 (by decide) ?_
          refine wp_ireturn rfl dX6_nameCode_42 ?_
          rw [if_neg (lcz h5), if_neg (lcz h15), if_neg (lcz h26), if_pos (lce h37)] at hq; exact hq
      · refine wp_bipush (v := -3) dX6_nameCode_29 (by decide) ?_
        refine wp_ireturn rfl dX6_nameCode_31 ?_
        rw [if_neg (lcz h5), if_neg (lcz h15), if_pos (lce h26)] at hq; exact hq
    · refine wp_bipush (v := -2) dX6_nameCode_18 (by decide) ?_
      refine wp_ireturn rfl dX6_nameCode_20 ?_
      rw [if_neg (lcz h5), if_pos (lce h15)] at hq; exact hq
  · refine wp_iconst (v := -1) dX6_nameCode_8 (by decide) ?_
    refine wp_ireturn rfl dX6_nameCode_9 ?_
    rw [if_pos (lce h5)] at hq; exact hq
/-- the class's tape reads bf -/
def CTp (H : PH) (bf : Nat → Int32) (N : Nat) : Prop := BF bf N ∧ hI H 14 1 = nI N ∧ ∀ j, j < N → hI H 15 j &&& 255 = bf j
theorem c_byteAt {d p N : Nat} {bf : Nat → Int32} {H : PH} {Q : Option Value → PH → Prop} (hF : Fix H) (hT : CTp H bf N) (hp : p < 2 ^ 31) (hq : Q (some (.int (bf p))) H) : Wp mX9_byteAt d 0 0 0 [some (.ref 14), some (.int (nI p))] [] H Q := by
  have hN := hT.1.1
  refine c_X9_byteAt hF hT.2.1 hN (fun j hj hx => ?_) (fun hx => ?_)
  · have e : j = p := (nI_eq (by omega) hp).mp hx.symm
    subst e
    rw [hT.2.2 j hj]; exact hq
  · rcases Nat.lt_or_ge p N with z | z
    · exact absurd ⟨p, z, rfl⟩ hx
    · rw [hT.1.2.2 p z] at hq; exact hq
def is16 (a k : Nat) : Prop := a = 16 ∧ 7 ≤ k
theorem CTp_16 {H H1 : PH} {bf : Nat → Int32} {N : Nat} (he : eqX is16 H H1) (hT : CTp H bf N) : CTp H1 bf N := ⟨hT.1, by rw [he.2.2.2.2 14 1 (by unfold is16; omega)]; exact hT.2.1, fun j hj => by rw [he.2.2.2.2 15 j (by unfold is16; omega)]; exact hT.2.2 j hj⟩
section FA
variable {d : Nat} {H : PH} {Q : Option Value → PH → Prop}
theorem c_X6_fail {k : Int32} (hF : Fix H) (hq1 : hI H 16 11 = 0 → Q none (sI (sI (sI H 16 11 k) 16 12 (hI H 16 9)) 16 8 8)) (hq2 : ¬ hI H 16 11 = 0 → Q none (sI H 16 8 8)) : Wp mX6_fail d 0 0 0 [some (.ref 16), some (.int k)] [] H Q := by
  refine wp_aload_n dX6_fail_0 rfl ?_
  refine wp_geti dX6_fail_1 fl_RX6_41 rfl (fk_16 hF) ?_
  refine wp_if_ne (tgt := 20) dX6_fail_4 (by decide) (fun h4 => ?_) (fun h4 => ?_)
  · refine wp_aload_n dX6_fail_20 rfl ?_
    refine wp_bipush (v := 8) dX6_fail_21 (by decide) ?_
    refine wp_puti dX6_fail_23 fl_RX6_47 (mp_6_8 _ _) rfl (fk_16 hF) ?_
    refine wp_return rfl dX6_fail_26 ?_
    first | exact hq1 h4 | exact hq2 h4
  · refine wp_aload_n dX6_fail_7 rfl ?_
    refine wp_iload_n dX6_fail_8 rfl ?_
    refine wp_puti dX6_fail_9 fl_RX6_41 (mp_6_11 _ _) rfl (fk_16 hF) ?_
    refine wp_aload_n dX6_fail_12 rfl ?_
    refine wp_aload_n dX6_fail_13 rfl ?_
    refine wp_geti dX6_fail_14 fl_RX6_102 rfl (fk_16 (Fix_sI hF)) ?_
    rw [hI_sI', if_neg (by omega)]
    refine wp_puti dX6_fail_17 fl_RX6_21 (mp_6_12 _ _) rfl (fk_16 (Fix_sI hF)) ?_
    refine wp_aload_n dX6_fail_20 rfl ?_
    refine wp_bipush (v := 8) dX6_fail_21 (by decide) ?_
    refine wp_puti dX6_fail_23 fl_RX6_47 (mp_6_8 _ _) rfl (fk_16 (Fix_sI (Fix_sI hF))) ?_
    refine wp_return rfl dX6_fail_26 ?_
    first | exact hq1 h4 | exact hq2 h4
variable {bf : Nat → Int32} {N s : Nat}
/-- a token that can't be: the fault is told -/
def badT (H : PH) (s : Nat) (k : Int32) (H' : PH) : Prop := eqX is16 H H' ∧ hI H' 16 11 = k ∧ hI H' 16 12 = nI s ∧ hI H' 16 8 = 8
theorem badT_of {H H1 : PH} {k : Int32} (he : eqX is16 H H1) (h9 : hI H1 16 9 = nI s) : badT H s k (sI (sI (sI H1 16 11 k) 16 12 (hI H1 16 9)) 16 8 8) :=
  ⟨eqX_sI (eqX_sI (eqX_sI he ⟨rfl, by omega⟩) ⟨rfl, by omega⟩) ⟨rfl, by omega⟩, by rw [hI_sI', if_neg (by omega), hI_sI', if_neg (by omega), hI_sI', if_pos ⟨rfl, rfl⟩], by rw [hI_sI', if_neg (by omega), hI_sI', if_pos ⟨rfl, rfl⟩, h9], by rw [hI_sI', if_pos ⟨rfl, rfl⟩]⟩
theorem l_X6_takeWord (hF : Fix H) (hT : CTp H bf N) (h9 : hI H 16 9 = nI s) (hf0 : hI H 16 11 = 0)
    (hq1 : le bf N s - s ≤ 8 → ∀ H', eqX is16 H H' → hI H' 16 7 = nI (le bf N s) → hI H' 16 8 = nI (wtk (wvI bf s (le bf N s - s))) → hI H' 16 9 = nI s → hI H' 16 10 = ncd (wvI bf s (le bf N s - s)) → hI H' 16 11 = 0 → hI H' 16 12 = hI H 16 12 → Q none H')
    (hq2 : ¬ le bf N s - s ≤ 8 → ∀ H', badT H s 1 H' → Q none H') :
    ∀ (f p : Nat) (H1 : PH), N - p = f → p ≤ N → s ≤ p → runP bf ltB f p = le bf N s → eqX is16 H H1 → hI H1 16 7 = nI p → hI H1 16 9 = nI s → hI H1 16 11 = 0 → hI H1 16 12 = hI H 16 12 → Wp mX6_takeWord (d + 1) 0 0 2 [some (.ref 16), some (.long (wvI bf s (p - s))), none] [] H1 Q := by
  have hN := hT.1.1
  have hend : ∀ (p : Nat) (H1 : PH), p ≤ N → s ≤ p → p = le bf N s → eqX is16 H H1 → hI H1 16 7 = nI p → hI H1 16 9 = nI s → hI H1 16 11 = 0 → hI H1 16 12 = hI H 16 12 → Wp mX6_takeWord (d + 1) 0 0 64 [some (.ref 16), some (.long (wvI bf s (p - s))), none] [] H1 Q := by
    intro p H1 hp hs hpe he g7 g9 g11 g12
    have hF1 := Fix_eqX he hF
    refine wp_aload_n dX6_takeWord_64 rfl ?_
    refine wp_geti dX6_takeWord_65 fl_RX6_38 rfl (fk_16 hF1) ?_
    rw [g7]
    refine wp_aload_n dX6_takeWord_68 rfl ?_
    refine wp_geti dX6_takeWord_69 fl_RX6_102 rfl (fk_16 hF1) ?_
    rw [g9]
    refine wp_isub dX6_takeWord_72 ?_
    rw [pk_sub hs]
    refine wp_bipush (v := 8) dX6_takeWord_73 (by decide) ?_
    refine wp_icmp_le (tgt := 84) dX6_takeWord_75 (by decide) (fun h75 => ?_) (fun h75 => ?_)
    · refine wp_aload_n dX6_takeWord_84 rfl ?_
      refine wp_lload_n dX6_takeWord_85 rfl ?_
      refine wp_calls1 dX6_takeWord_86 lk_RX6_132 ok_X6_wordToken st_X6_wordToken (Nat.le_of_ble_eq_true rfl) (Nat.le_of_ble_eq_true rfl) ?_
      refine c_X6_wordToken ?_
      refine wp_puti dX6_takeWord_89 fl_RX6_47 (mp_6_8 _ _) rfl (fk_16 hF1) ?_
      refine wp_aload_n dX6_takeWord_92 rfl ?_
      refine wp_lload_n dX6_takeWord_93 rfl ?_
      refine wp_calls1 dX6_takeWord_94 lk_RX6_136 ok_X6_nameCode st_X6_nameCode (Nat.le_of_ble_eq_true rfl) (Nat.le_of_ble_eq_true rfl) ?_
      refine c_X6_nameCode ?_
      refine wp_puti dX6_takeWord_97 fl_RX6_99 (mp_6_10 _ _) rfl (fk_16 (Fix_sI hF1)) ?_
      refine wp_return rfl dX6_takeWord_100 ?_
      have hle : le bf N s - s ≤ 8 := by rw [← hpe]; exact (nI_leI (a := p - s) (b := 8) (by omega) (by decide)).mp h75
      refine hq1 hle _ (eqX_sI (eqX_sI he ⟨rfl, by omega⟩) ⟨rfl, by omega⟩) ?_ ?_ ?_ ?_ ?_ ?_
      · rw [hI_sI', if_neg (by omega), hI_sI', if_neg (by omega), g7, hpe]
      · rw [hI_sI', if_neg (by omega), hI_sI', if_pos ⟨rfl, rfl⟩, hpe]
      · rw [hI_sI', if_neg (by omega), hI_sI', if_neg (by omega), g9]
      · rw [hI_sI', if_pos ⟨rfl, rfl⟩, hpe]
      · rw [hI_sI', if_neg (by omega), hI_sI', if_neg (by omega), g11]
      · rw [hI_sI', if_neg (by omega), hI_sI', if_neg (by omega), g12]
    · refine wp_aload_n dX6_takeWord_78 rfl ?_
      refine wp_iconst (v := 1) dX6_takeWord_79 (by decide) ?_
      refine wp_callv1 (ci := 6) dX6_takeWord_80 lk_RX6_64 ok_X6_fail im_X6_fail se_X6_fail rfl rfl (fk_16 hF1) (Nat.le_of_ble_eq_true rfl) (Nat.le_of_ble_eq_true rfl) ?_
      refine c_X6_fail hF1 (fun _ => ?_) (fun q => absurd g11 q)
      refine wp_return rfl dX6_takeWord_83 ?_
      exact hq2 (fun q => h75 (nI_le (a := p - s) (b := 8) (by omega) (by decide))) _ (badT_of he g9)
  intro f
  induction f with
  | zero =>
    intro p H1 hf hp hs hr he g7 g9 g11 g12
    have hin : p = N := by omega
    have hF1 := Fix_eqX he hF
    have hT1 := CTp_16 he hT
    refine wp_aload_n dX6_takeWord_2 rfl ?_
    refine wp_geti dX6_takeWord_3 fl_RX6_38 rfl (fk_16 hF1) ?_
    rw [g7]
    refine wp_aload_n dX6_takeWord_6 rfl ?_
    refine wp_geta dX6_takeWord_7 fl_RX6_25 rfl (fk_16 hF1) (fr_16_0 hF1) ?_
    refine wp_geti dX6_takeWord_10 fl_RX6_105 rfl (fk_14 hF1) ?_
    rw [hT1.2.1]
    refine wp_icmp_ge (tgt := 64) dX6_takeWord_13 (by decide) (fun _ => ?_) (fun h13 => absurd h13 (fun h => h (nI_le (by omega) (by omega))))
    exact hend p H1 hp hs hr he g7 g9 g11 g12
  | succ f ih =>
    intro p H1 hf hp hs hr he g7 g9 g11 g12
    have hlt : p < N := by omega
    have hF1 := Fix_eqX he hF
    have hT1 := CTp_16 he hT
    have hw : wvI bf s (p + 1 - s) = (wvI bf s (p - s) <<< ((8 : Int32).toInt64 &&& 63)) ||| (bf p).toInt64 := by
      rw [show p + 1 - s = (p - s) + 1 by omega]
      show (wvI bf s (p - s) <<< ((8 : Int32).toInt64 &&& 63)) ||| (bf (s + (p - s))).toInt64 = _
      rw [show s + (p - s) = p by omega]
    unfold runP at hr
    refine wp_aload_n dX6_takeWord_2 rfl ?_
    refine wp_geti dX6_takeWord_3 fl_RX6_38 rfl (fk_16 hF1) ?_
    rw [g7]
    refine wp_aload_n dX6_takeWord_6 rfl ?_
    refine wp_geta dX6_takeWord_7 fl_RX6_25 rfl (fk_16 hF1) (fr_16_0 hF1) ?_
    refine wp_geti dX6_takeWord_10 fl_RX6_105 rfl (fk_14 hF1) ?_
    rw [hT1.2.1]
    refine wp_icmp_ge (tgt := 64) dX6_takeWord_13 (by decide) (fun h13 => absurd h13 (nI_ge hlt (by omega))) (fun _ => ?_)
    refine wp_aload_n dX6_takeWord_16 rfl ?_
    refine wp_geta dX6_takeWord_17 fl_RX6_25 rfl (fk_16 hF1) (fr_16_0 hF1) ?_
    refine wp_aload_n dX6_takeWord_20 rfl ?_
    refine wp_geti dX6_takeWord_21 fl_RX6_38 rfl (fk_16 hF1) ?_
    rw [g7]
    refine wp_callv1 (ci := 9) dX6_takeWord_24 lk_RX6_110 ok_X9_byteAt im_X9_byteAt se_X9_byteAt rfl rfl (fk_14 hF1) (Nat.le_of_ble_eq_true rfl) (Nat.le_of_ble_eq_true rfl) ?_
    refine c_byteAt hF1 hT1 (by omega) ?_
    refine wp_calls1 dX6_takeWord_27 lk_RX6_117 ok_X6_isLetter st_X6_isLetter (Nat.le_of_ble_eq_true rfl) (Nat.le_of_ble_eq_true rfl) ?_
    refine c_X6_isLetter ?_
    refine wp_ifb_eq (tgt := 64) dX6_takeWord_30 (by decide) (fun h30 => ?_) (fun h30 => ?_)
    · rw [if_neg h30] at hr
      exact hend p H1 hp hs hr he g7 g9 g11 g12
    · refine wp_lload_n dX6_takeWord_33 rfl ?_
      refine wp_bipush (v := 8) dX6_takeWord_34 (by decide) ?_
      refine wp_lshl dX6_takeWord_36 ?_
      refine wp_aload_n dX6_takeWord_37 rfl ?_
      refine wp_geta dX6_takeWord_38 fl_RX6_25 rfl (fk_16 hF1) (fr_16_0 hF1) ?_
      refine wp_aload_n dX6_takeWord_41 rfl ?_
      refine wp_geti dX6_takeWord_42 fl_RX6_38 rfl (fk_16 hF1) ?_
      rw [g7]
      refine wp_callv1 (ci := 9) dX6_takeWord_45 lk_RX6_110 ok_X9_byteAt im_X9_byteAt se_X9_byteAt rfl rfl (fk_14 hF1) (Nat.le_of_ble_eq_true rfl) (Nat.le_of_ble_eq_true rfl) ?_
      refine c_byteAt hF1 hT1 (by omega) ?_
      refine wp_i2l dX6_takeWord_48 ?_
      refine wp_lor dX6_takeWord_49 ?_
      rw [← hw]
      refine wp_lstore_n dX6_takeWord_50 (by decide) ?_
      refine wp_aload_n dX6_takeWord_51 rfl ?_
      refine wp_dup dX6_takeWord_52 rfl ?_
      refine wp_geti dX6_takeWord_53 fl_RX6_38 rfl (fk_16 hF1) ?_
      rw [g7]
      refine wp_iconst (v := 1) dX6_takeWord_56 (by decide) ?_
      refine wp_iadd dX6_takeWord_57 ?_
      rw [nI_1]
      refine wp_puti dX6_takeWord_58 fl_RX6_38 (mp_6_7 _ _) rfl (fk_16 hF1) ?_
      refine wp_goto (tgt := 2) dX6_takeWord_61 (by decide) ?_
      rw [if_pos h30] at hr
      refine ih (p + 1) _ (by omega) (by omega) (by omega) hr (eqX_sI he ⟨rfl, by omega⟩) ?_ ?_ ?_ ?_
      · rw [hI_sI', if_pos ⟨rfl, rfl⟩]
      · rw [hI_sI', if_neg (by omega)]; exact g9
      · rw [hI_sI', if_neg (by omega)]; exact g11
      · rw [hI_sI', if_neg (by omega)]; exact g12
theorem c_X6_takeWord (hF : Fix H) (hT : CTp H bf N) (hs : s ≤ N) (h7 : hI H 16 7 = nI s) (h9 : hI H 16 9 = nI s) (hf0 : hI H 16 11 = 0)
    (hq1 : le bf N s - s ≤ 8 → ∀ H', eqX is16 H H' → hI H' 16 7 = nI (le bf N s) → hI H' 16 8 = nI (wtk (wvI bf s (le bf N s - s))) → hI H' 16 9 = nI s → hI H' 16 10 = ncd (wvI bf s (le bf N s - s)) → hI H' 16 11 = 0 → hI H' 16 12 = hI H 16 12 → Q none H')
    (hq2 : ¬ le bf N s - s ≤ 8 → ∀ H', badT H s 1 H' → Q none H') : Wp mX6_takeWord (d + 1) 0 0 0 [some (.ref 16), none, none] [] H Q := by
  have h := l_X6_takeWord (d := d) hF hT h9 hf0 hq1 hq2 (N - s) s H rfl hs (Nat.le_refl _) rfl eqX_rfl h7 h9 hf0 rfl
  rw [Nat.sub_self] at h
  refine wp_lconst (v := 0) dX6_takeWord_0 (by decide) ?_
  refine wp_lstore_n dX6_takeWord_1 (by decide) ?_
  exact h
theorem l_X6_takeNumber (hF : Fix H) (hT : CTp H bf N) (h9 : hI H 16 9 = nI s) (hf0 : hI H 16 11 = 0)
    (hq1 : (de bf N s - s ≤ 6 ∧ ltB (bf (de bf N s)) = false) → ∀ H', eqX is16 H H' → hI H' 16 7 = nI (de bf N s) → hI H' 16 8 = 7 → hI H' 16 9 = nI s → hI H' 16 10 = nvI bf s (de bf N s - s) → hI H' 16 11 = 0 → hI H' 16 12 = hI H 16 12 → Q none H')
    (hq2 : ¬ (de bf N s - s ≤ 6 ∧ ltB (bf (de bf N s)) = false) → ∀ H', badT H s 1 H' → Q none H') :
    ∀ (f p : Nat) (H1 : PH), N - p = f → p ≤ N → s ≤ p → runP bf dgB f p = de bf N s → eqX is16 H H1 → hI H1 16 7 = nI p → hI H1 16 9 = nI s → hI H1 16 11 = 0 → hI H1 16 12 = hI H 16 12 → Wp mX6_takeNumber (d + 1) 0 0 2 [some (.ref 16), some (.int (nvI bf s (p - s)))] [] H1 Q := by
  have hN := hT.1.1
  have hend : ∀ (p : Nat) (H1 : PH), p ≤ N → s ≤ p → p = de bf N s → eqX is16 H H1 → hI H1 16 7 = nI p → hI H1 16 9 = nI s → hI H1 16 11 = 0 → hI H1 16 12 = hI H 16 12 → Wp mX6_takeNumber (d + 1) 0 0 66 [some (.ref 16), some (.int (nvI bf s (p - s)))] [] H1 Q := by
    intro p H1 hp hs hpe he g7 g9 g11 g12
    have hF1 := Fix_eqX he hF
    have hT1 := CTp_16 he hT
    refine wp_aload_n dX6_takeNumber_66 rfl ?_
    refine wp_geti dX6_takeNumber_67 fl_RX6_38 rfl (fk_16 hF1) ?_
    rw [g7]
    refine wp_aload_n dX6_takeNumber_70 rfl ?_
    refine wp_geti dX6_takeNumber_71 fl_RX6_102 rfl (fk_16 hF1) ?_
    rw [g9]
    refine wp_isub dX6_takeNumber_74 ?_
    rw [pk_sub hs]
    refine wp_bipush (v := 6) dX6_takeNumber_75 (by decide) ?_
    refine wp_icmp_gt (tgt := 97) dX6_takeNumber_77 (by decide) (fun h77 => ?_) (fun h77 => ?_)
    · refine wp_aload_n dX6_takeNumber_97 rfl ?_
      refine wp_iconst (v := 1) dX6_takeNumber_98 (by decide) ?_
      refine wp_callv1 (ci := 6) dX6_takeNumber_99 lk_RX6_64 ok_X6_fail im_X6_fail se_X6_fail rfl rfl (fk_16 hF1) (Nat.le_of_ble_eq_true rfl) (Nat.le_of_ble_eq_true rfl) ?_
      refine c_X6_fail hF1 (fun _ => ?_) (fun q => absurd g11 q)
      refine wp_return rfl dX6_takeNumber_102 ?_
      refine hq2 (fun q => ?_) _ (badT_of he g9)
      first
        | exact absurd h77 (nI_nlt (a := 6) (b := p - s) (by omega) (by decide))
        | (rw [hpe, q.2] at h94; cases h94)
    · refine wp_aload_n dX6_takeNumber_80 rfl ?_
      refine wp_geta dX6_takeNumber_81 fl_RX6_25 rfl (fk_16 hF1) (fr_16_0 hF1) ?_
      refine wp_aload_n dX6_takeNumber_84 rfl ?_
      refine wp_geti dX6_takeNumber_85 fl_RX6_38 rfl (fk_16 hF1) ?_
      rw [g7]
      refine wp_callv1 (ci := 9) dX6_takeNumber_88 lk_RX6_110 ok_X9_byteAt im_X9_byteAt se_X9_byteAt rfl rfl (fk_14 hF1) (Nat.le_of_ble_eq_true rfl) (Nat.le_of_ble_eq_true rfl) ?_
      refine c_byteAt hF1 hT1 (by omega) ?_
      refine wp_calls1 dX6_takeNumber_91 lk_RX6_117 ok_X6_isLetter st_X6_isLetter (Nat.le_of_ble_eq_true rfl) (Nat.le_of_ble_eq_true rfl) ?_
      refine c_X6_isLetter ?_
      refine wp_ifb_eq (tgt := 103) dX6_takeNumber_94 (by decide) (fun h94 => ?_) (fun h94 => ?_)
      · refine wp_aload_n dX6_takeNumber_103 rfl ?_
        refine wp_bipush (v := 7) dX6_takeNumber_104 (by decide) ?_
        refine wp_puti dX6_takeNumber_106 fl_RX6_47 (mp_6_8 _ _) rfl (fk_16 hF1) ?_
        refine wp_aload_n dX6_takeNumber_109 rfl ?_
        refine wp_iload_n dX6_takeNumber_110 rfl ?_
        refine wp_puti dX6_takeNumber_111 fl_RX6_99 (mp_6_10 _ _) rfl (fk_16 (Fix_sI hF1)) ?_
        refine wp_return rfl dX6_takeNumber_114 ?_
        have hle : de bf N s - s ≤ 6 := by
          rw [← hpe]
          rcases Nat.lt_or_ge 6 (p - s) with z | z
          · exact absurd (nI_lt (a := 6) z (by omega)) h77
          · exact z
        have hlt : ltB (bf (de bf N s)) = false := by rw [← hpe]; simpa using h94
        refine hq1 ⟨hle, hlt⟩ _ (eqX_sI (eqX_sI he ⟨rfl, by omega⟩) ⟨rfl, by omega⟩) ?_ ?_ ?_ ?_ ?_ ?_
        · rw [hI_sI', if_neg (by omega), hI_sI', if_neg (by omega), g7, hpe]
        · rw [hI_sI', if_neg (by omega), hI_sI', if_pos ⟨rfl, rfl⟩]
        · rw [hI_sI', if_neg (by omega), hI_sI', if_neg (by omega), g9]
        · rw [hI_sI', if_pos ⟨rfl, rfl⟩, hpe]
        · rw [hI_sI', if_neg (by omega), hI_sI', if_neg (by omega), g11]
        · rw [hI_sI', if_neg (by omega), hI_sI', if_neg (by omega), g12]
      · refine wp_aload_n dX6_takeNumber_97 rfl ?_
        refine wp_iconst (v := 1) dX6_takeNumber_98 (by decide) ?_
        refine wp_callv1 (ci := 6) dX6_takeNumber_99 lk_RX6_64 ok_X6_fail im_X6_fail se_X6_fail rfl rfl (fk_16 hF1) (Nat.le_of_ble_eq_true rfl) (Nat.le_of_ble_eq_true rfl) ?_
        refine c_X6_fail hF1 (fun _ => ?_) (fun q => absurd g11 q)
        refine wp_return rfl dX6_takeNumber_102 ?_
        refine hq2 (fun q => ?_) _ (badT_of he g9)
        first
          | exact absurd h77 (nI_nlt (a := 6) (b := p - s) (by omega) (by decide))
          | (rw [hpe, q.2] at h94; cases h94)
  intro f
  induction f with
  | zero =>
    intro p H1 hf hp hs hr he g7 g9 g11 g12
    have hin : p = N := by omega
    have hF1 := Fix_eqX he hF
    have hT1 := CTp_16 he hT
    refine wp_aload_n dX6_takeNumber_2 rfl ?_
    refine wp_geti dX6_takeNumber_3 fl_RX6_38 rfl (fk_16 hF1) ?_
    rw [g7]
    refine wp_aload_n dX6_takeNumber_6 rfl ?_
    refine wp_geta dX6_takeNumber_7 fl_RX6_25 rfl (fk_16 hF1) (fr_16_0 hF1) ?_
    refine wp_geti dX6_takeNumber_10 fl_RX6_105 rfl (fk_14 hF1) ?_
    rw [hT1.2.1]
    refine wp_icmp_ge (tgt := 66) dX6_takeNumber_13 (by decide) (fun _ => ?_) (fun h13 => absurd h13 (fun h => h (nI_le (by omega) (by omega))))
    exact hend p H1 hp hs hr he g7 g9 g11 g12
  | succ f ih =>
    intro p H1 hf hp hs hr he g7 g9 g11 g12
    have hlt : p < N := by omega
    have hF1 := Fix_eqX he hF
    have hT1 := CTp_16 he hT
    have hw : nvI bf s (p + 1 - s) = 10 * nvI bf s (p - s) + bf p - 48 := by
      rw [show p + 1 - s = (p - s) + 1 by omega]
      show 10 * nvI bf s (p - s) + bf (s + (p - s)) - 48 = _
      rw [show s + (p - s) = p by omega]
    unfold runP at hr
    refine wp_aload_n dX6_takeNumber_2 rfl ?_
    refine wp_geti dX6_takeNumber_3 fl_RX6_38 rfl (fk_16 hF1) ?_
    rw [g7]
    refine wp_aload_n dX6_takeNumber_6 rfl ?_
    refine wp_geta dX6_takeNumber_7 fl_RX6_25 rfl (fk_16 hF1) (fr_16_0 hF1) ?_
    refine wp_geti dX6_takeNumber_10 fl_RX6_105 rfl (fk_14 hF1) ?_
    rw [hT1.2.1]
    refine wp_icmp_ge (tgt := 66) dX6_takeNumber_13 (by decide) (fun h13 => absurd h13 (nI_ge hlt (by omega))) (fun _ => ?_)
    refine wp_aload_n dX6_takeNumber_16 rfl ?_
    refine wp_geta dX6_takeNumber_17 fl_RX6_25 rfl (fk_16 hF1) (fr_16_0 hF1) ?_
    refine wp_aload_n dX6_takeNumber_20 rfl ?_
    refine wp_geti dX6_takeNumber_21 fl_RX6_38 rfl (fk_16 hF1) ?_
    rw [g7]
    refine wp_callv1 (ci := 9) dX6_takeNumber_24 lk_RX6_110 ok_X9_byteAt im_X9_byteAt se_X9_byteAt rfl rfl (fk_14 hF1) (Nat.le_of_ble_eq_true rfl) (Nat.le_of_ble_eq_true rfl) ?_
    refine c_byteAt hF1 hT1 (by omega) ?_
    refine wp_calls1 dX6_takeNumber_27 lk_RX6_123 ok_X6_isDigit st_X6_isDigit (Nat.le_of_ble_eq_true rfl) (Nat.le_of_ble_eq_true rfl) ?_
    refine c_X6_isDigit ?_
    refine wp_ifb_eq (tgt := 66) dX6_takeNumber_30 (by decide) (fun h30 => ?_) (fun h30 => ?_)
    · rw [if_neg h30] at hr
      exact hend p H1 hp hs hr he g7 g9 g11 g12
    · refine wp_bipush (v := 10) dX6_takeNumber_33 (by decide) ?_
      refine wp_iload_n dX6_takeNumber_35 rfl ?_
      refine wp_imul dX6_takeNumber_36 ?_
      refine wp_aload_n dX6_takeNumber_37 rfl ?_
      refine wp_geta dX6_takeNumber_38 fl_RX6_25 rfl (fk_16 hF1) (fr_16_0 hF1) ?_
      refine wp_aload_n dX6_takeNumber_41 rfl ?_
      refine wp_geti dX6_takeNumber_42 fl_RX6_38 rfl (fk_16 hF1) ?_
      rw [g7]
      refine wp_callv1 (ci := 9) dX6_takeNumber_45 lk_RX6_110 ok_X9_byteAt im_X9_byteAt se_X9_byteAt rfl rfl (fk_14 hF1) (Nat.le_of_ble_eq_true rfl) (Nat.le_of_ble_eq_true rfl) ?_
      refine c_byteAt hF1 hT1 (by omega) ?_
      refine wp_iadd dX6_takeNumber_48 ?_
      refine wp_bipush (v := 48) dX6_takeNumber_49 (by decide) ?_
      refine wp_isub dX6_takeNumber_51 ?_
      rw [← hw]
      refine wp_istore_n dX6_takeNumber_52 (by decide) ?_
      refine wp_aload_n dX6_takeNumber_53 rfl ?_
      refine wp_dup dX6_takeNumber_54 rfl ?_
      refine wp_geti dX6_takeNumber_55 fl_RX6_38 rfl (fk_16 hF1) ?_
      rw [g7]
      refine wp_iconst (v := 1) dX6_takeNumber_58 (by decide) ?_
      refine wp_iadd dX6_takeNumber_59 ?_
      rw [nI_1]
      refine wp_puti dX6_takeNumber_60 fl_RX6_38 (mp_6_7 _ _) rfl (fk_16 hF1) ?_
      refine wp_goto (tgt := 2) dX6_takeNumber_63 (by decide) ?_
      rw [if_pos h30] at hr
      refine ih (p + 1) _ (by omega) (by omega) (by omega) hr (eqX_sI he ⟨rfl, by omega⟩) ?_ ?_ ?_ ?_
      · rw [hI_sI', if_pos ⟨rfl, rfl⟩]
      · rw [hI_sI', if_neg (by omega)]; exact g9
      · rw [hI_sI', if_neg (by omega)]; exact g11
      · rw [hI_sI', if_neg (by omega)]; exact g12
theorem c_X6_takeNumber (hF : Fix H) (hT : CTp H bf N) (hs : s ≤ N) (h7 : hI H 16 7 = nI s) (h9 : hI H 16 9 = nI s) (hf0 : hI H 16 11 = 0)
    (hq1 : (de bf N s - s ≤ 6 ∧ ltB (bf (de bf N s)) = false) → ∀ H', eqX is16 H H' → hI H' 16 7 = nI (de bf N s) → hI H' 16 8 = 7 → hI H' 16 9 = nI s → hI H' 16 10 = nvI bf s (de bf N s - s) → hI H' 16 11 = 0 → hI H' 16 12 = hI H 16 12 → Q none H')
    (hq2 : ¬ (de bf N s - s ≤ 6 ∧ ltB (bf (de bf N s)) = false) → ∀ H', badT H s 1 H' → Q none H') : Wp mX6_takeNumber (d + 1) 0 0 0 [some (.ref 16), none] [] H Q := by
  have h := l_X6_takeNumber (d := d) hF hT h9 hf0 hq1 hq2 (N - s) s H rfl hs (Nat.le_refl _) rfl eqX_rfl h7 h9 hf0 rfl
  rw [Nat.sub_self] at h
  refine wp_iconst (v := 0) dX6_takeNumber_0 (by decide) ?_
  refine wp_istore_n dX6_takeNumber_1 (by decide) ?_
  exact h
end FA
