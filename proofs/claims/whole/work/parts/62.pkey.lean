/-! ===== pure: what a key says ===== -/
def hrn (dg : Nat → Nat) (c : Nat) : Nat → Nat
  | 0 => c
  | k + 1 => hrn dg c k * 16 + dg k
theorem hrn_div {dg : Nat → Nat} {c : Nat} (hd : ∀ j, dg j < 16) (k : Nat) : ∀ e, hrn dg c (k + e) / 16 ^ e = hrn dg c k
  | 0 => by rw [Nat.pow_zero, Nat.div_one, Nat.add_zero]
  | e + 1 => by
    have h1 : hrn dg c (k + (e + 1)) = hrn dg c (k + e) * 16 + dg (k + e) := rfl
    rw [h1, Nat.pow_succ, Nat.mul_comm (16 ^ e) 16, ← Nat.div_div_eq_div_mul]
    have h2 := hd (k + e)
    rw [show (hrn dg c (k + e) * 16 + dg (k + e)) / 16 = hrn dg c (k + e) by omega]
    exact hrn_div hd k e
theorem hrn_sum (dg : Nat → Nat) (c : Nat) : ∀ k, k ≤ 10 → c * 2 ^ 40 + fb_sm (fun j => dg j * 2 ^ (4 * (9 - j))) k = hrn dg c k * 16 ^ (10 - k)
  | 0, _ => by
    have : fb_sm (fun j => dg j * 2 ^ (4 * (9 - j))) 0 = 0 := rfl
    rw [this, Nat.add_zero]
    show c * 2 ^ 40 = c * 16 ^ 10
    congr 1
  | k + 1, h => by
    have ih := hrn_sum dg c k (by omega)
    have h1 : hrn dg c (k + 1) = hrn dg c k * 16 + dg k := rfl
    have h2 : (16 : Nat) ^ (10 - k) = 16 * 16 ^ (10 - (k + 1)) := by
      rw [show 10 - k = (10 - (k + 1)) + 1 by omega, Nat.pow_succ, Nat.mul_comm]
    have h3 : (2 : Nat) ^ (4 * (9 - k)) = 16 ^ (10 - (k + 1)) := by
      rw [show 10 - (k + 1) = 9 - k by omega, Nat.pow_mul]
    rw [fb_sm_succ, ← Nat.add_assoc, ih, h1, h2, h3, Nat.add_mul, Nat.mul_assoc]
theorem nib_dg {dg : Nat → Nat} {c v : Nat} (hd : ∀ j, dg j < 16) (hv : v = c * 2 ^ 40 + fb_sm (fun j => dg j * 2 ^ (4 * (9 - j))) 10) {n : Nat} (hn : n < 10) : nib v n = dg n := by
  have h1 := hrn_sum dg c 10 (Nat.le_refl _)
  rw [Nat.sub_self, Nat.pow_zero, Nat.mul_one, ← hv] at h1
  have h2 := hrn_div (c := c) hd (n + 1) (9 - n)
  rw [show n + 1 + (9 - n) = 10 by omega, ← h1] at h2
  unfold nib
  rw [show (2 : Nat) ^ (4 * (9 - n)) = 16 ^ (9 - n) by rw [Nat.pow_mul], h2]
  show (hrn dg c n * 16 + dg n) % 16 = dg n
  have := hd n
  omega
theorem div_dg {dg : Nat → Nat} {c v : Nat} (hd : ∀ j, dg j < 16) (hv : v = c * 2 ^ 40 + fb_sm (fun j => dg j * 2 ^ (4 * (9 - j))) 10) : v / 2 ^ 40 = c := by
  have h1 := hrn_sum dg c 10 (Nat.le_refl _)
  rw [Nat.sub_self, Nat.pow_zero, Nat.mul_one, ← hv] at h1
  have h2 := hrn_div (c := c) hd 0 10
  rw [show 0 + 10 = 10 from rfl, ← h1] at h2
  exact h2
/-- the least of a set -/
def lowS (S : Nat) : Nat := (lwB S 10).getD 0
theorem lwB_none {S : Nat} : ∀ {k : Nat}, lwB S k = none → ∀ i, i < k → S.testBit i = false
  | 0, _, i, h => absurd h (Nat.not_lt_zero i)
  | k + 1, h, i, hi => by
    rw [lwB_succ] at h
    cases q : lwB S k with
    | some l => rw [q] at h; cases h
    | none =>
      rw [q] at h
      have h' : (if S.testBit k = true then some k else none) = none := h
      by_cases r : S.testBit k = true
      · rw [if_pos r] at h'; cases h'
      · rcases Nat.lt_succ_iff_lt_or_eq.mp hi with z | z
        · exact lwB_none q i z
        · subst z; simpa using r
theorem lwB_some {S : Nat} : ∀ {k l : Nat}, lwB S k = some l → S.testBit l = true ∧ ∀ i, i < l → S.testBit i = false
  | 0, l, h => by cases h
  | k + 1, l, h => by
    rw [lwB_succ] at h
    cases q : lwB S k with
    | some l' => rw [q] at h; cases h; exact lwB_some q
    | none =>
      rw [q] at h
      have h' : (if S.testBit k = true then some k else none) = some l := h
      by_cases r : S.testBit k = true
      · rw [if_pos r] at h'; cases h'; exact ⟨r, lwB_none q⟩
      · rw [if_neg r] at h'; cases h'
theorem lwB_up {S k l : Nat} (h : lwB S k = some l) : ∀ e, lwB S (k + e) = some l
  | 0 => h
  | e + 1 => by rw [← Nat.add_assoc, lwB_succ, lwB_up h e]
theorem lwB_of {S j : Nat} (hj : j < 10) (h : S.testBit j = true) : lwB S (j + 1) = some (lowS S) := by
  cases q : lwB S (j + 1) with
  | none => rw [lwB_none q j (by omega)] at h; cases h
  | some l =>
    have := lwB_up q (10 - (j + 1))
    rw [show j + 1 + (10 - (j + 1)) = 10 by omega] at this
    unfold lowS
    rw [this]; rfl
theorem low_is {S j : Nat} (hj : j < 10) (h : S.testBit j = true) : S.testBit (lowS S) = true ∧ lowS S ≤ j ∧ ∀ i, i < lowS S → S.testBit i = false := by
  have h1 := lwB_of hj h
  have h2 := lwB_some h1
  have h3 := lwB_lt h1
  exact ⟨h2.1, by omega, h2.2⟩
theorem ljF_sm (S : Nat) : ∀ k, k ≤ 10 → ljF S k = fb_sm (fun j => Wb (S.testBit j) (lowS S * 2 ^ (4 * (9 - j)))) k
  | 0, _ => rfl
  | k + 1, h => by
    rw [fb_sm_succ, ← ljF_sm S k (by omega)]
    show ljF S k + (if S.testBit k = true then (lwB S (k + 1)).getD 0 * 2 ^ (4 * (9 - k)) else 0) = _
    congr 1
    unfold Wb
    by_cases q : S.testBit k = true
    · rw [if_pos q, if_pos q, lwB_of (by omega) q]; rfl
    · rw [if_neg q, if_neg q]
/-- the least JOB of j's CHAIN -/
def dgt (K : Nat) (g : Nat → Nat) (j : Nat) : Nat := if K.testBit j = true then lowS (fib K g (g j)) else 0
section KD
variable {K : Nat} {g : Nat → Nat}
theorem dgt_is (hK : K < 1024) {j : Nat} (h : K.testBit j = true) : K.testBit (dgt K g j) = true ∧ g (dgt K g j) = g j ∧ dgt K g j ≤ j ∧ ∀ i, i < dgt K g j → K.testBit i = true → g i ≠ g j := by
  have hj := bit_lt hK h
  have hb : (fib K g (g j)).testBit j = true := by rw [fib_bit hK, h, decide_eq_true rfl]; rfl
  obtain ⟨h1, h2, h3⟩ := low_is hj hb
  have e : dgt K g j = lowS (fib K g (g j)) := if_pos h
  rw [e]
  rw [fib_bit hK, Bool.and_eq_true, decide_eq_true_eq] at h1
  refine ⟨h1.1, h1.2, h2, fun i hi hk q => ?_⟩
  have := h3 i hi
  rw [fib_bit hK, hk, decide_eq_true q] at this
  cases this
theorem dgt_lt (hK : K < 1024) (j : Nat) : dgt K g j < 16 := by
  by_cases h : K.testBit j = true
  · have := (dgt_is (g := g) hK h).2.2.1
    have := bit_lt hK h
    omega
  · unfold dgt; rw [if_neg h]; decide
theorem sm_one {F : Nat → Nat} {c : Nat} : ∀ {n : Nat}, c < n → (∀ k, k ≠ c → F k = 0) → fb_sm F n = F c := by
  intro n hc h
  have hu := fb_sm_upd F 0 hc
  rw [sm_0 (fun k _ => by
    by_cases q : k = c
    · rw [if_pos q]
    · rw [if_neg q, h k q])] at hu
  omega
/-- the low parts of the CHAINS' keys, JOB by JOB -/
theorem lj_all (hK : K < 1024) (hg : ∀ j, K.testBit j = true → g j < 10) : fb_sm (fun c => ljF (fib K g c) 10) 10 = fb_sm (fun j => dgt K g j * 2 ^ (4 * (9 - j))) 10 := by
  have h1 : fb_sm (fun c => ljF (fib K g c) 10) 10 = fb_sm (fun c => fb_sm (fun j => Wb ((fib K g c).testBit j) (lowS (fib K g c) * 2 ^ (4 * (9 - j)))) 10) 10 := fb_sm_cong (fun c _ => ljF_sm _ 10 (Nat.le_refl _))
  rw [h1, sm_comm (fun j c => Wb ((fib K g c).testBit j) (lowS (fib K g c) * 2 ^ (4 * (9 - j)))) 10 10]
  refine fb_sm_cong (fun j hj => ?_)
  by_cases q : K.testBit j = true
  · rw [sm_one (hg j q) (fun c hc => by rw [fib_bit hK, q, decide_eq_false (fun e => hc e.symm)]; rfl), fib_bit hK, q, decide_eq_true rfl]
    unfold dgt
    rw [if_pos q]; rfl
  · rw [sm_0 (fun c _ => by rw [fib_bit hK, show K.testBit j = false by simpa using q]; rfl)]
    unfold dgt
    rw [if_neg q, Nat.zero_mul]
/-- labels by number: those who lead -/
def led (K : Nat) (g : Nat → Nat) (i : Nat) : Bool := K.testBit i && decide (dgt K g i = i)
theorem led_lab (hK : K < 1024) (hc : canon K g) : ∀ n, (∀ i, i < n → K.testBit i = true → g i < fb_ct (led K g) n) ∧ ∀ c, c < fb_ct (led K g) n → ∃ i, i < n ∧ K.testBit i = true ∧ g i = c
  | 0 => ⟨fun i hi => absurd hi (Nat.not_lt_zero i), fun c hc => absurd hc (Nat.not_lt_zero c)⟩
  | n + 1 => by
    obtain ⟨h1, h2⟩ := led_lab hK hc n
    rw [fb_ct_succ]
    by_cases q : K.testBit n = true
    · obtain ⟨d1, d2, d3, d4⟩ := dgt_is (g := g) hK q
      by_cases r : dgt K g n = n
      · have hl : led K g n = true := by unfold led; rw [q, decide_eq_true r]; rfl
        rw [hl, if_pos rfl]
        have hge : ¬ g n < fb_ct (led K g) n := fun z => by
          obtain ⟨i, i1, i2, i3⟩ := h2 _ z
          exact d4 i (by omega) i2 i3
        have hle : ¬ fb_ct (led K g) n < g n := fun z => by
          obtain ⟨i, i1, i2, i3⟩ := hc n q _ z
          have := h1 i i2 i1
          omega
        refine ⟨fun i hi hk => ?_, fun c hc' => ?_⟩
        · rcases Nat.lt_succ_iff_lt_or_eq.mp hi with z | z
          · have := h1 i z hk; omega
          · subst z; omega
        · rcases Nat.lt_succ_iff_lt_or_eq.mp hc' with z | z
          · obtain ⟨i, i1, i2, i3⟩ := h2 c z
            exact ⟨i, by omega, i2, i3⟩
          · exact ⟨n, by omega, q, by omega⟩
      · have hl : led K g n = false := by unfold led; rw [q, decide_eq_false r]; rfl
        rw [hl, if_neg (by decide), Nat.add_zero]
        refine ⟨fun i hi hk => ?_, fun c hc' => ?_⟩
        · rcases Nat.lt_succ_iff_lt_or_eq.mp hi with z | z
          · exact h1 i z hk
          · subst z; rw [← d2]; exact h1 _ (by omega) d1
        · obtain ⟨i, i1, i2, i3⟩ := h2 c hc'
          exact ⟨i, by omega, i2, i3⟩
    · have hl : led K g n = false := by unfold led; rw [show K.testBit n = false by simpa using q]; rfl
      rw [hl, if_neg (by decide), Nat.add_zero]
      refine ⟨fun i hi hk => ?_, fun c hc' => ?_⟩
      · rcases Nat.lt_succ_iff_lt_or_eq.mp hi with z | z
        · exact h1 i z hk
        · subst z; exact absurd hk q
      · obtain ⟨i, i1, i2, i3⟩ := h2 c hc'
        exact ⟨i, by omega, i2, i3⟩
theorem led_new (hK : K < 1024) (hc : canon K g) {n : Nat} (q : K.testBit n = true) (r : dgt K g n = n) : g n = fb_ct (led K g) n := by
  obtain ⟨h1, h2⟩ := led_lab hK hc n
  obtain ⟨d1, d2, d3, d4⟩ := dgt_is (g := g) hK q
  have hge : ¬ g n < fb_ct (led K g) n := fun z => by
    obtain ⟨i, i1, i2, i3⟩ := h2 _ z
    exact d4 i (by omega) i2 i3
  have hle : ¬ fb_ct (led K g) n < g n := fun z => by
    obtain ⟨i, i1, i2, i3⟩ := hc n q _ z
    have := h1 i i2 i1
    omega
  omega
/-- nibbles that are the digits do for the class -/
theorem nibOk_of (hK : K < 1024) (hc : canon K g) {v : Nat} (hn : ∀ n, n < 10 → nib v n = dgt K g n) : nibOk v K g := by
  intro n hn10 q
  obtain ⟨d1, d2, d3, d4⟩ := dgt_is (g := g) hK q
  rw [hn n hn10]
  refine ⟨d3, d1, fun _ => d2, fun r => ?_⟩
  rw [led_new hK hc q r]
  refine fb_ct_cong (fun i hi => ?_)
  rw [hn i (by omega)]
  rfl
theorem nib_count (hK : K < 1024) {v : Nat} (hn : ∀ n, n < 10 → nib v n = dgt K g n) : fb_ct (fun i => K.testBit i && decide (nib v i = i)) 10 = fb_ct (led K g) 10 := fb_ct_cong (fun i hi => by rw [hn i hi]; rfl)
theorem nib_one {v : Nat} {g' : Nat → Nat} (h : nibOk v K g) (h' : nibOk v K g') : ∀ n, n < 10 → K.testBit n = true → g n = g' n := by
  intro n
  induction n using Nat.strongRecOn with
  | ind n ih =>
    intro hn q
    obtain ⟨a1, a2, a3, a4⟩ := h n hn q
    obtain ⟨b1, b2, b3, b4⟩ := h' n hn q
    by_cases r : nib v n = n
    · rw [a4 r, b4 r]
    · rw [← a3 (by omega), ← b3 (by omega)]
      exact ih _ (by omega) (by omega) a2
end KD
/-- the EMPTY minutes of a labelling, none if a CHAIN can't be -/
def cst (co : Nat → Option Nat) (K : Nat) (g : Nat → Nat) (c : Nat) : Nat := (co (fib K g c)).getD 0
theorem kap_split {co : Nat → Option Nat} {K : Nat} {g : Nat → Nat} (h0 : co 0 = some 0) (h : ∀ c, c < 10 → (co (fib K g c)).isSome = true) : kap (fun S => keyO S (co S)) K g = fb_sm (cst co K g) 10 * 2 ^ 40 + fb_sm (fun c => ljF (fib K g c) 10) 10 := by
  have hc : ∀ c, c < 10 → ck0 (fun S => keyO S (co S)) (fib K g c) = cst co K g c * 2 ^ 40 + ljF (fib K g c) 10 := fun c hc => by
    have h1 := h c hc
    unfold ck0 cst
    by_cases q : fib K g c = 0
    · rw [if_pos q, q, h0]; rfl
    · rw [if_neg q]
      cases r : co (fib K g c) with
      | none => rw [r] at h1; cases h1
      | some s => show keyO (fib K g c) (co (fib K g c)) = _; rw [r]; rfl
  unfold kap
  rw [fb_sm_cong hc]
  have : ∀ n, fb_sm (fun c => cst co K g c * 2 ^ 40 + ljF (fib K g c) 10) n = fb_sm (cst co K g) n * 2 ^ 40 + fb_sm (fun c => ljF (fib K g c) 10) n := fun n => by
    rw [fb_sm_add (fun c => cst co K g c * 2 ^ 40) (fun c => ljF (fib K g c) 10) n]
    congr 1
    induction n with
    | zero => show 0 = 0 * 2 ^ 40; rw [Nat.zero_mul]
    | succ n ih => rw [fb_sm_succ, fb_sm_succ, ih, Nat.add_mul]
  exact this 10
theorem kap_no {co : Nat → Option Nat} {K : Nat} {g : Nat → Nat} (h0 : co 0 = some 0) {c : Nat} (hc : c < 10) (h : co (fib K g c) = none) : 2 ^ 61 ≤ kap (fun S => keyO S (co S)) K g := by
  have h1 := fb_sm_part (fun c => ck0 (fun S => keyO S (co S)) (fib K g c)) hc
  have h2 : ck0 (fun S => keyO S (co S)) (fib K g c) = 2 ^ 61 := by
    unfold ck0
    rw [if_neg (fun q => by rw [q, h0] at h; cases h)]
    show keyO _ (co (fib K g c)) = _
    rw [h]; rfl
  have h3 : ck0 (fun S => keyO S (co S)) (fib K g c) ≤ kap (fun S => keyO S (co S)) K g := Nat.le_trans (Nat.le_add_left _ _) h1
  rw [h2] at h3
  exact h3
/-- a key below 2^61 tells minutes and digits -/
theorem kap_dec {co : Nat → Option Nat} {K v : Nat} {g : Nat → Nat} (hK : K < 1024) (h0 : co 0 = some 0) (hg : ∀ j, K.testBit j = true → g j < 10) (hv : v = kap (fun S => keyO S (co S)) K g) (hlt : v < 2 ^ 61) :
    (∀ c, c < 10 → (co (fib K g c)).isSome = true) ∧ v / 2 ^ 40 = fb_sm (cst co K g) 10 ∧ ∀ n, n < 10 → nib v n = dgt K g n := by
  have h1 : ∀ c, c < 10 → (co (fib K g c)).isSome = true := fun c hc => by
    cases q : co (fib K g c) with
    | none =>
      have := kap_no h0 hc q
      rw [← hv] at this
      omega
    | some s => rfl
  have h2 : v = fb_sm (cst co K g) 10 * 2 ^ 40 + fb_sm (fun j => dgt K g j * 2 ^ (4 * (9 - j))) 10 := by rw [hv, kap_split h0 h1, lj_all hK hg]
  exact ⟨h1, div_dg (dgt_lt hK) h2, fun n hn => nib_dg (dgt_lt hK) h2 hn⟩
