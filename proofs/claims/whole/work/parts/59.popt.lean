/-! ===== pure: sets as numbers, the least key of a set in at most r CHAINS ===== -/
def sub (S K : Nat) : Prop := S &&& K = S
theorem sub_bit {S K : Nat} : sub S K ↔ ∀ i, S.testBit i = true → K.testBit i = true := by
  constructor
  · intro h i hi
    have : (S &&& K).testBit i = true := by rw [h]; exact hi
    rw [Nat.testBit_and, Bool.and_eq_true] at this
    exact this.2
  · intro h
    refine Nat.eq_of_testBit_eq (fun i => ?_)
    rw [Nat.testBit_and]
    cases q : S.testBit i with
    | false => rfl
    | true => rw [h i q]; rfl
theorem sub_rfl (S : Nat) : sub S S := Nat.and_self S
theorem sub_0 (K : Nat) : sub 0 K := Nat.zero_and K
theorem sub_andR (a K : Nat) : sub (a &&& K) K := by unfold sub; rw [Nat.and_assoc, Nat.and_self]
theorem sub_andL (a K : Nat) : sub (a &&& K) a := by rw [Nat.and_comm]; exact sub_andR K a
theorem sub_trans {A B C : Nat} (h : sub A B) (h' : sub B C) : sub A C := sub_bit.mpr (fun i hi => sub_bit.mp h' i (sub_bit.mp h i hi))
theorem sub_le {A B : Nat} (h : sub A B) : A ≤ B := by have := Nat.and_le_right (n := A) (m := B); rw [h] at this; exact this
theorem and_half (a b : Nat) : (a &&& b) / 2 = a / 2 &&& b / 2 := Nat.eq_of_testBit_eq (fun i => by simp [Nat.testBit_div_two, Nat.testBit_and])
theorem and_low (a b : Nat) : (a &&& b) % 2 = if a % 2 = 1 ∧ b % 2 = 1 then 1 else 0 := by
  have h := Nat.and_mod_two_eq_one (a := a) (b := b)
  by_cases q : a % 2 = 1 ∧ b % 2 = 1
  · rw [if_pos q]; exact h.mpr q
  · rw [if_neg q]
    have : ¬ (a &&& b) % 2 = 1 := fun r => q (h.mp r)
    omega
/-- the next lesser part of K -/
theorem sub_next : ∀ (P K S : Nat), sub P K → sub S K → S < P → S ≤ (P - 1) &&& K
  | P, K, S, hP, hS, h => by
    have hP2 : sub (P / 2) (K / 2) := by unfold sub; rw [← and_half, hP]
    have hS2 : sub (S / 2) (K / 2) := by unfold sub; rw [← and_half, hS]
    have e1 := and_half (P - 1) K
    have e2 := and_low (P - 1) K
    have e3 := and_low S K
    rw [hS] at e3
    have e4 := and_low P K
    rw [hP] at e4
    by_cases q : P % 2 = 1
    · have e5 : (P - 1) / 2 = P / 2 := by omega
      rw [e5] at e1
      unfold sub at hP2
      rw [hP2] at e1
      omega
    · have ih := sub_next (P / 2) (K / 2) (S / 2) hP2 hS2 (by omega)
      rw [show P / 2 - 1 = (P - 1) / 2 by omega, ← e1] at ih
      by_cases k1 : K % 2 = 1
      · rw [if_pos ⟨by omega, k1⟩] at e2
        omega
      · rw [if_neg (fun r => k1 r.2)] at e3
        omega
  termination_by P => P
  decreasing_by omega
/-- its least member, as a set; the others -/
def lb (S : Nat) : Nat := S - (S &&& (S - 1))
def oth (S : Nat) : Nat := S &&& (S - 1)
set_option maxRecDepth 100000 in
theorem lb_all : ∀ S, S < 1024 → nI S &&& (-nI S) = nI (lb S) ∧ nI S ^^^ nI (lb S) = nI (oth S) ∧ (lb S &&& S == lb S) = true ∧ (S = 0 ∨ lb S ≠ 0) ∧ lb S < 1024 ∧ (lb S &&& oth S = 0) ∧ (lb S ||| oth S = S) := by decide +kernel
theorem lb_sub {S : Nat} (h : S < 1024) : sub (lb S) S := by have := (lb_all S h).2.2.1; unfold sub; simpa using this
theorem oth_sub (S : Nat) : sub (oth S) S := sub_andL S (S - 1)
/-- a set out of a property -/
def mkM (p : Nat → Bool) : Nat → Nat
  | 0 => 0
  | n + 1 => mkM p n + (if p n = true then 2 ^ n else 0)
theorem mkM_lt (p : Nat → Bool) : ∀ n, mkM p n < 2 ^ n
  | 0 => Nat.one_pos
  | n + 1 => by
    have h := mkM_lt p n
    have h2 : 2 ^ (n + 1) = 2 ^ n + 2 ^ n := by rw [Nat.pow_succ]; omega
    unfold mkM
    split <;> omega
theorem mkM_bit (p : Nat → Bool) : ∀ n i, (mkM p n).testBit i = (decide (i < n) && p i)
  | 0, i => by simp [mkM]
  | n + 1, i => by
    have hl := mkM_lt p n
    unfold mkM
    by_cases q : p n = true
    · rw [if_pos q, Nat.add_comm]
      rcases Nat.lt_trichotomy i n with h | h | h
      · rw [tb_lo hl h, mkM_bit p n i, decide_eq_true h, decide_eq_true (show i < n + 1 by omega)]
      · subst h; rw [tb_hi hl, decide_eq_true (show i < i + 1 by omega), q]; rfl
      · rw [Nat.testBit_lt_two_pow (Nat.lt_of_lt_of_le (by omega : 2 ^ n + mkM p n < 2 ^ n + 2 ^ n) (by have := Nat.pow_le_pow_right (n := 2) (by decide) (show n + 1 ≤ i by omega); rw [Nat.pow_succ] at this; omega)), decide_eq_false (show ¬ i < n + 1 by omega)]; rfl
    · rw [if_neg q, Nat.add_zero, mkM_bit p n i]
      by_cases h : i = n
      · subst h
        rw [decide_eq_false (Nat.lt_irrefl i), show p i = false by simpa using q, Bool.and_false, Bool.and_false]
      · rw [show decide (i < n) = decide (i < n + 1) from by rw [decide_eq_decide]; omega]
theorem bit_lt {S i : Nat} (hS : S < 1024) (h : S.testBit i = true) : i < 10 := by
  rcases Nat.lt_or_ge i 10 with q | q
  · exact q
  · rw [Nat.testBit_lt_two_pow (Nat.lt_of_lt_of_le hS (Nat.pow_le_pow_right (n := 2) (show 2 > 0 by decide) q))] at h; cases h
theorem bit_ex {S : Nat} (h : S ≠ 0) : ∃ i, S.testBit i = true := by
  apply Classical.byContradiction
  intro q
  exact h (Nat.eq_of_testBit_eq (fun i => by rw [Nat.zero_testBit]; cases r : S.testBit i with
    | false => rfl
    | true => exact absurd ⟨i, r⟩ q))
/-- the JOBS of S with label c -/
def fib (S : Nat) (g : Nat → Nat) (c : Nat) : Nat := mkM (fun j => S.testBit j && decide (g j = c)) 10
theorem fib_lt (S : Nat) (g : Nat → Nat) (c : Nat) : fib S g c < 1024 := mkM_lt _ 10
theorem fib_bit {S : Nat} (hS : S < 1024) (g : Nat → Nat) (c i : Nat) : (fib S g c).testBit i = (S.testBit i && decide (g i = c)) := by
  unfold fib
  rw [mkM_bit]
  cases q : S.testBit i with
  | false => simp
  | true => rw [decide_eq_true (bit_lt hS q)]; rfl
theorem fib_0 {S : Nat} (hS : S < 1024) {g : Nat → Nat} {c : Nat} (h : ∀ j, S.testBit j = true → g j ≠ c) : fib S g c = 0 := Nat.eq_of_testBit_eq (fun i => by
  rw [fib_bit hS, Nat.zero_testBit]
  cases q : S.testBit i with
  | false => rfl
  | true => rw [decide_eq_false (h i q)]; rfl)
/-- every lesser label stands ahead -/
def canon (S : Nat) (g : Nat → Nat) : Prop := ∀ j, S.testBit j = true → ∀ c, c < g j → ∃ i, S.testBit i = true ∧ i < j ∧ g i = c
def ck0 (ck : Nat → Nat) (S : Nat) : Nat := if S = 0 then 0 else ck S
def kap (ck : Nat → Nat) (S : Nat) (g : Nat → Nat) : Nat := fb_sm (fun c => ck0 ck (fib S g c)) 10
def nch (S : Nat) (g : Nat → Nat) : Nat := fb_ct (fun c => decide (fib S g c ≠ 0)) 10
def isOpt (ck : Nat → Nat) (r S v : Nat) : Prop := v ≤ 2 ^ 61 ∧ (∀ g : Nat → Nat, (∀ j, S.testBit j = true → g j < 10) → nch S g ≤ r → v ≤ kap ck S g) ∧ (v < 2 ^ 61 → ∃ g : Nat → Nat, (∀ j, S.testBit j = true → g j < r) ∧ canon S g ∧ v = kap ck S g)
theorem opt_0 (ck : Nat → Nat) (r : Nat) : isOpt ck r 0 0 := by
  refine ⟨by decide, fun _ _ _ => Nat.zero_le _, fun _ => ⟨fun _ => 0, fun j h => (by rw [Nat.zero_testBit] at h; cases h), fun j h => (by rw [Nat.zero_testBit] at h; cases h), ?_⟩⟩
  unfold kap
  rw [sm_0 (fun c _ => by rw [fib_0 (by decide) (fun j h => by rw [Nat.zero_testBit] at h; cases h)]; rfl)]
theorem ct_one {p : Nat → Bool} {n i j : Nat} (h : fb_ct p n ≤ 1) (hi : i < n) (hj : j < n) (pi : p i = true) (pj : p j = true) : i = j := by
  have aux : ∀ i j, i < j → j < n → p i = true → p j = true → 2 ≤ fb_ct p n := fun i j hij hj pi pj => by
    have h1 := fb_ct_mono p (show j + 1 ≤ n by omega)
    have h2 := fb_ct_mono p (show i + 1 ≤ j by omega)
    rw [fb_ct_succ, pj, if_pos rfl] at h1
    rw [fb_ct_succ, pi, if_pos rfl] at h2
    omega
  rcases Nat.lt_trichotomy i j with q | q | q
  · have := aux i j q hj pi pj; omega
  · exact q
  · have := aux j i q hi pj pi; omega
theorem kap_one {ck : Nat → Nat} {S : Nat} {g : Nat → Nat} {c : Nat} (hS : S < 1024) (h0 : S ≠ 0) (hc : c < 10) (h : ∀ j, S.testBit j = true → g j = c) : kap ck S g = ck S := by
  have hf : fib S g c = S := Nat.eq_of_testBit_eq (fun i => by
    rw [fib_bit hS]
    cases q : S.testBit i with
    | false => rfl
    | true => rw [decide_eq_true (h i q)]; rfl)
  have hz : ∀ c', c' ≠ c → fib S g c' = 0 := fun c' hc' => fib_0 hS (fun j hj e => hc' (by rw [← e, h j hj]))
  have hu := fb_sm_upd (fun c' => ck0 ck (fib S g c')) 0 hc
  rw [sm_0 (fun k _ => by
    by_cases q : k = c
    · rw [if_pos q]
    · rw [if_neg q, hz k q]; rfl)] at hu
  have e : ck0 ck (fib S g c) = ck S := by rw [hf]; unfold ck0; rw [if_neg h0]
  rw [e] at hu
  unfold kap
  omega
theorem opt_1 {ck : Nat → Nat} {S : Nat} (hS : S < 1024) (h0 : S ≠ 0) (hk : ck S ≤ 2 ^ 61) : isOpt ck 1 S (ck S) := by
  refine ⟨hk, fun g hg hn => ?_, fun _ => ⟨fun _ => 0, fun _ _ => Nat.one_pos, fun j _ c hc => absurd hc (Nat.not_lt_zero c), (kap_one hS h0 (c := 0) (by decide) (fun _ _ => rfl)).symm⟩⟩
  obtain ⟨i, hi⟩ := bit_ex h0
  have hne : ∀ j, S.testBit j = true → fib S g (g j) ≠ 0 := fun j hj e => by
    have := fib_bit hS g (g j) j
    rw [e, Nat.zero_testBit, hj, decide_eq_true rfl] at this
    cases this
  have hall : ∀ j, S.testBit j = true → g j = g i := fun j hj => ct_one hn (hg j hj) (hg i hi) (decide_eq_true (hne j hj)) (decide_eq_true (hne i hi))
  rw [kap_one hS h0 (hg i hi) hall]
  exact Nat.le_refl _
/-- the bits of the split -/
theorem low_ex {S : Nat} (hS : S < 1024) (h0 : S ≠ 0) : ∃ l, l < 10 ∧ S.testBit l = true ∧ (∀ j, S.testBit j = true → l ≤ j) ∧ (∀ j, (lb S).testBit j = decide (j = l)) ∧ ∀ j, (oth S).testBit j = (S.testBit j && decide (j ≠ l)) := by
  have hall := lb_all S hS
  obtain ⟨i, hi⟩ := bit_ex h0
  obtain ⟨l, h1, h2⟩ := pk_least (fun k => S.testBit k = true) ⟨i, hi⟩
  have h2' : ∀ j, S.testBit j = true → l ≤ j := fun j hj => Nat.le_of_not_lt (fun q => h2 j q hj)
  have hl := bit_lt hS h1
  have hmod : S % 2 ^ l = 0 := Nat.eq_of_testBit_eq (fun j => by
    rw [Nat.testBit_mod_two_pow, Nat.zero_testBit]
    by_cases q : j < l
    · rw [show S.testBit j = false by simpa using h2 j q]; simp
    · rw [decide_eq_false q]; rfl)
  have hpos : 0 < 2 ^ l := Nat.two_pow_pos l
  have hS2 : ∃ k, S = 2 ^ l * (2 * k + 1) := by
    refine ⟨S / 2 ^ l / 2, ?_⟩
    have e1 := Nat.div_add_mod S (2 ^ l)
    have e2 : S / 2 ^ l % 2 = 1 := by
      rw [Nat.testBit_eq_decide_div_mod_eq] at h1
      simpa using h1
    rw [hmod, Nat.add_zero] at e1
    rw [show 2 * (S / 2 ^ l / 2) + 1 = S / 2 ^ l by omega]
    exact e1.symm
  obtain ⟨k, hk⟩ := hS2
  have ho : oth S = 2 ^ l * (2 * k) := by
    have e1 : S - 1 = 2 ^ l * (2 * k) + (2 ^ l - 1) := by
      rw [hk, Nat.mul_add, Nat.mul_one]; omega
    refine Nat.eq_of_testBit_eq (fun j => ?_)
    unfold oth
    rw [Nat.testBit_and, e1, hk]
    rcases Nat.lt_or_ge j l with q | q
    · have : (2 ^ l * (2 * k + 1)).testBit j = false := by rw [Nat.testBit_two_pow_mul]; simp; omega
      rw [this, Nat.testBit_two_pow_mul]
      simp; omega
    · rw [Nat.testBit_two_pow_mul, Nat.testBit_two_pow_mul_add _ (by omega), if_neg (by omega), Nat.testBit_two_pow_mul, decide_eq_true q]
      obtain ⟨e, rfl⟩ : ∃ e, j = l + e := ⟨j - l, by omega⟩
      rw [Nat.add_sub_cancel_left]
      cases e with
      | zero => simp
      | succ e =>
        rw [Nat.testBit_succ, Nat.testBit_succ, show (2 * k + 1) / 2 = k by omega, show 2 * k / 2 = k by omega]
        simp
  have hlb : lb S = 2 ^ l := by
    have : lb S = S - oth S := rfl
    rw [this, ho, hk, Nat.mul_add, Nat.mul_one]; omega
  refine ⟨l, hl, h1, h2', fun j => ?_, fun j => ?_⟩
  · rw [hlb, Nat.testBit_two_pow]
    rw [decide_eq_decide]
    exact eq_comm
  · rw [ho, hk, Nat.testBit_two_pow_mul, Nat.testBit_two_pow_mul]
    rcases Nat.lt_or_ge j l with q | q
    · rw [decide_eq_false (show ¬ j ≥ l by omega)]; rfl
    · obtain ⟨e, rfl⟩ : ∃ e, j = l + e := ⟨j - l, by omega⟩
      rw [Nat.add_sub_cancel_left]
      cases e with
      | zero => simp
      | succ e =>
        rw [Nat.testBit_succ, Nat.testBit_succ, show (2 * k + 1) / 2 = k by omega, show 2 * k / 2 = k by omega]
        simp
theorem opt_s {ck : Nat → Nat} {r S v : Nat} (hS : S < 1024) (h0 : S ≠ 0) (hr : r + 1 ≤ 10) (h1 : v ≤ 2 ^ 61) (h2 : ∀ P, sub P (oth S) → ∃ u, isOpt ck r (oth S ^^^ P) u ∧ v ≤ ck (lb S ||| P) + u) (h3 : v = 2 ^ 61 ∨ ∃ P u, sub P (oth S) ∧ isOpt ck r (oth S ^^^ P) u ∧ v = ck (lb S ||| P) + u) : isOpt ck (r + 1) S v := by
  obtain ⟨l, hl, hSl, hmin, hlb, hot⟩ := low_ex hS h0
  have hOS : oth S < 1024 := Nat.lt_of_le_of_lt (sub_le (oth_sub S)) hS
  refine ⟨h1, fun g hg hn => ?_, fun hv => ?_⟩
  · let c0 := g l
    let P := mkM (fun j => (oth S).testBit j && decide (g j = c0)) 10
    have hPb : ∀ j, P.testBit j = ((oth S).testBit j && decide (g j = c0)) := fun j => by
      show (mkM _ 10).testBit j = _
      rw [mkM_bit]
      cases q : (oth S).testBit j with
      | false => simp
      | true => rw [decide_eq_true (bit_lt hOS q)]; rfl
    have hPO : sub P (oth S) := sub_bit.mpr (fun i hi => by rw [hPb, Bool.and_eq_true] at hi; exact hi.1)
    have hC : lb S ||| P = fib S g c0 := Nat.eq_of_testBit_eq (fun j => by
      rw [Nat.testBit_or, hlb, hPb, hot, fib_bit hS]
      by_cases q : j = l
      · subst q; rw [decide_eq_true rfl, hSl, decide_eq_true (show g j = c0 from rfl)]; rfl
      · rw [decide_eq_false q, decide_eq_true (show j ≠ l from q)]; simp)
    have hTb : ∀ j, (oth S ^^^ P).testBit j = (S.testBit j && decide (g j ≠ c0)) := fun j => by
      rw [Nat.testBit_xor, hPb, hot]
      by_cases q : j = l
      · subst q; simp [c0]
      · rw [decide_eq_true (show j ≠ l from q), Bool.and_true]
        cases S.testBit j with
        | false => rfl
        | true => by_cases e : g j = c0 <;> simp [e]
    have hT : oth S ^^^ P < 1024 := Nat.xor_lt_two_pow (n := 10) hOS (mkM_lt _ 10)
    obtain ⟨u, hu, hvu⟩ := h2 P hPO
    have hf : ∀ c, fib (oth S ^^^ P) g c = if c = c0 then 0 else fib S g c := fun c => by
      by_cases q : c = c0
      · rw [if_pos q]
        refine fib_0 hT (fun j hj e => ?_)
        rw [hTb, Bool.and_eq_true, decide_eq_true_eq] at hj
        exact hj.2 (e.trans q)
      · rw [if_neg q]
        refine Nat.eq_of_testBit_eq (fun j => ?_)
        rw [fib_bit hT, fib_bit hS, hTb]
        by_cases e : g j = c
        · rw [decide_eq_true e, decide_eq_true (show g j ≠ c0 from fun z => q (e.symm.trans z)), Bool.and_true, Bool.and_true]
        · rw [decide_eq_false e]; simp
    have hc0 : c0 < 10 := hg l hSl
    have hC0 : fib S g c0 ≠ 0 := fun e => by
      have := fib_bit hS g c0 l
      rw [e, Nat.zero_testBit, hSl, decide_eq_true (show g l = c0 from rfl)] at this
      cases this
    have hnT : nch (oth S ^^^ P) g ≤ r := by
      have hu := fb_ct_upd (fun c => decide (fib S g c ≠ 0)) false hc0
      rw [if_pos (decide_eq_true hC0)] at hu
      have e : nch (oth S ^^^ P) g = fb_ct (fun k => if k = c0 then false else decide (fib S g k ≠ 0)) 10 := by
        unfold nch
        refine fb_ct_cong (fun c _ => ?_)
        rw [hf]
        by_cases q : c = c0
        · rw [if_pos q, if_pos q]; rfl
        · rw [if_neg q, if_neg q]
      unfold nch at hn
      rw [e]
      simp at hu hn ⊢
      omega
    have hgT : ∀ j, (oth S ^^^ P).testBit j = true → g j < 10 := fun j hj => hg j (by rw [hTb, Bool.and_eq_true] at hj; exact hj.1)
    have hlow := hu.2.1 g hgT hnT
    have hsum : kap ck (oth S ^^^ P) g + ck (fib S g c0) = kap ck S g := by
      have hu := fb_sm_upd (fun c => ck0 ck (fib S g c)) 0 hc0
      have e : kap ck (oth S ^^^ P) g = fb_sm (fun k => if k = c0 then 0 else ck0 ck (fib S g k)) 10 := by
        unfold kap
        refine fb_sm_cong (fun c _ => ?_)
        rw [hf]
        by_cases q : c = c0
        · rw [if_pos q, if_pos q]; rfl
        · rw [if_neg q, if_neg q]
      have e2 : ck0 ck (fib S g c0) = ck (fib S g c0) := by unfold ck0; rw [if_neg hC0]
      rw [← e, e2] at hu
      unfold kap at hu ⊢
      omega
    rw [hC] at hvu
    omega
  · rcases h3 with h3 | ⟨P, u, hP, hu, hvu⟩
    · omega
    · obtain ⟨g', hg', hcan, hug⟩ := hu.2.2 (by omega)
      have hPb : ∀ j, P.testBit j = true → (oth S).testBit j = true := sub_bit.mp hP
      have hP10 : P < 1024 := Nat.lt_of_le_of_lt (sub_le hP) hOS
      have hT : oth S ^^^ P < 1024 := Nat.xor_lt_two_pow (n := 10) hOS hP10
      have hCb : ∀ j, (lb S ||| P).testBit j = (decide (j = l) || P.testBit j) := fun j => by rw [Nat.testBit_or, hlb]
      have hTb : ∀ j, (oth S ^^^ P).testBit j = (S.testBit j && !(lb S ||| P).testBit j) := fun j => by
        rw [Nat.testBit_xor, hCb, hot]
        have hpj := hPb j
        rw [hot] at hpj
        by_cases q : j = l
        · subst q
          rw [decide_eq_false (show ¬ j ≠ j from fun z => z rfl), Bool.and_false] at hpj
          have : P.testBit j = false := by cases z : P.testBit j with
            | false => rfl
            | true => cases hpj z
          rw [this]; simp
        · rw [decide_eq_true (show j ≠ l from q), Bool.and_true] at hpj ⊢
          rw [decide_eq_false q, Bool.false_or]
          cases z : P.testBit j with
          | false => simp
          | true => rw [hpj z]; rfl
      let g : Nat → Nat := fun j => if (lb S ||| P).testBit j = true then 0 else g' j + 1
      have hgC : ∀ j, (lb S ||| P).testBit j = true → g j = 0 := fun j hj => if_pos hj
      have hgT : ∀ j, ¬ (lb S ||| P).testBit j = true → g j = g' j + 1 := fun j hj => if_neg hj
      have hCl : (lb S ||| P).testBit l = true := by rw [hCb, decide_eq_true rfl]; rfl
      have hCS : ∀ j, (lb S ||| P).testBit j = true → S.testBit j = true := fun j hj => by
        rw [hCb, Bool.or_eq_true, decide_eq_true_eq] at hj
        rcases hj with q | q
        · rw [q]; exact hSl
        · have := hPb j q
          rw [hot, Bool.and_eq_true] at this
          exact this.1
      have hTj : ∀ j, S.testBit j = true → ¬ (lb S ||| P).testBit j = true → (oth S ^^^ P).testBit j = true := fun j h1 h2 => by
        rw [hTb, h1, show (lb S ||| P).testBit j = false by simpa using h2]; rfl
      refine ⟨g, fun j hj => ?_, fun j hj c hc => ?_, ?_⟩
      · by_cases q : (lb S ||| P).testBit j = true
        · rw [hgC j q]; omega
        · rw [hgT j q]; have := hg' j (hTj j hj q); omega
      · by_cases q : (lb S ||| P).testBit j = true
        · rw [hgC j q] at hc; omega
        · rw [hgT j q] at hc
          cases c with
          | zero => exact ⟨l, hSl, Nat.lt_of_le_of_ne (hmin j hj) (fun e => q (by rw [← e]; exact hCl)), hgC l hCl⟩
          | succ c =>
            obtain ⟨i, i1, i2, i3⟩ := hcan j (hTj j hj q) c (by omega)
            rw [hTb, Bool.and_eq_true] at i1
            have i4 : ¬ (lb S ||| P).testBit i = true := by simpa using i1.2
            exact ⟨i, i1.1, i2, by rw [hgT i i4, i3]⟩
      · have f0 : fib S g 0 = lb S ||| P := Nat.eq_of_testBit_eq (fun j => by
          rw [fib_bit hS]
          by_cases q : (lb S ||| P).testBit j = true
          · rw [q, hCS j q, decide_eq_true (hgC j q)]; rfl
          · rw [show (lb S ||| P).testBit j = false by simpa using q, decide_eq_false (by rw [hgT j q]; omega), Bool.and_false])
        have fs : ∀ c, fib S g (1 + c) = fib (oth S ^^^ P) g' c := fun c => Nat.eq_of_testBit_eq (fun j => by
          rw [fib_bit hS, fib_bit hT, hTb]
          by_cases q : (lb S ||| P).testBit j = true
          · rw [q, decide_eq_false (by rw [hgC j q]; omega)]; simp
          · rw [show (lb S ||| P).testBit j = false by simpa using q, show decide (g j = 1 + c) = decide (g' j = c) from by rw [decide_eq_decide, hgT j q]; omega]
            simp)
        have hne : lb S ||| P ≠ 0 := fun e => by rw [e, Nat.zero_testBit] at hCl; cases hCl
        have f9 : fib (oth S ^^^ P) g' 9 = 0 := fib_0 hT (fun j hj => by have := hg' j hj; omega)
        have k1 : kap ck S g = ck (lb S ||| P) + fb_sm (fun c => ck0 ck (fib (oth S ^^^ P) g' c)) 9 := by
          unfold kap
          rw [show 10 = 1 + 9 from rfl, fb_sm_split]
          congr 1
          · show 0 + ck0 ck (fib S g 0) = _
            rw [f0]; unfold ck0; rw [if_neg hne, Nat.zero_add]
          · exact fb_sm_cong (fun c _ => by rw [fs])
        have k2 : kap ck (oth S ^^^ P) g' = fb_sm (fun c => ck0 ck (fib (oth S ^^^ P) g' c)) 9 := by
          unfold kap
          rw [fb_sm_succ, f9]; rfl
        rw [k1, ← k2, ← hug]
        exact hvu
