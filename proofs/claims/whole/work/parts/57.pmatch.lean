/-! ===== pure: sets that MATCH, counted from their least and from their greatest ===== -/
def Wb (b : Bool) (x : Nat) : Nat := if b = true then x else 0
theorem Wb_sm (b : Bool) (F : Nat → Nat) (n : Nat) : Wb b (fb_sm F n) = fb_sm (fun i => Wb b (F i)) n := by
  cases b
  · exact (sm_0 (fun _ _ => rfl)).symm
  · rfl
theorem Wb_W (b c : Bool) (x : Nat) : Wb b (Wb c x) = Wb (b && c) x := by cases b <;> cases c <;> rfl
theorem ct_sm (p : Nat → Bool) : ∀ n, fb_ct p n = fb_sm (fun i => Wb (p i) 1) n
  | 0 => rfl
  | n + 1 => by rw [fb_ct_succ, fb_sm_succ, ct_sm p n]; rfl
theorem sm_lt (F : Nat → Nat) {t : Nat} : ∀ {n : Nat}, t ≤ n → fb_sm F t = fb_sm (fun s => Wb (decide (s < t)) (F s)) n
  | 0, h => by rw [show t = 0 by omega]; rfl
  | n + 1, h => by
    rw [fb_sm_succ]
    by_cases q : t = n + 1
    · subst q
      rw [fb_sm_succ, show Wb (decide (n < n + 1)) (F n) = F n from by simp [Wb]]
      congr 1
      exact fb_sm_cong (fun k hk => by rw [show decide (k < n + 1) = true from decide_eq_true (by omega)]; rfl)
    · rw [← sm_lt F (show t ≤ n by omega), show Wb (decide (n < t)) (F n) = 0 from by rw [show decide (n < t) = false from decide_eq_false (by omega)]; rfl]
      rfl
theorem sm_comm (F : Nat → Nat → Nat) (m : Nat) : ∀ n, fb_sm (fun t => fb_sm (fun s => F s t) m) n = fb_sm (fun s => fb_sm (fun t => F s t) n) m
  | 0 => (sm_0 (fun _ _ => rfl)).symm
  | n + 1 => by
    rw [fb_sm_succ, sm_comm F m n, ← fb_sm_add]
    rfl
theorem sm_rev3 (F : Nat → Nat → Nat → Nat) (n : Nat) : fb_sm (fun d => fb_sm (fun c => fb_sm (fun b => F b c d) n) n) n = fb_sm (fun b => fb_sm (fun c => fb_sm (fun d => F b c d) n) n) n := by
  have h1 : ∀ d, d < n → fb_sm (fun c => fb_sm (fun b => F b c d) n) n = fb_sm (fun b => fb_sm (fun c => F b c d) n) n := fun d _ => sm_comm (fun b c => F b c d) n n
  rw [fb_sm_cong h1, sm_comm (fun b d => fb_sm (fun c => F b c d) n) n n]
  exact fb_sm_cong (fun b _ => sm_comm (fun c d => F b c d) n n)
theorem sm_rev4 (F : Nat → Nat → Nat → Nat → Nat) (n : Nat) : fb_sm (fun d => fb_sm (fun c => fb_sm (fun b => fb_sm (fun a => F a b c d) n) n) n) n = fb_sm (fun a => fb_sm (fun b => fb_sm (fun c => fb_sm (fun d => F a b c d) n) n) n) n := by
  have h1 : ∀ d, d < n → fb_sm (fun c => fb_sm (fun b => fb_sm (fun a => F a b c d) n) n) n = fb_sm (fun a => fb_sm (fun b => fb_sm (fun c => F a b c d) n) n) n := fun d _ => sm_rev3 (fun a b c => F a b c d) n
  rw [fb_sm_cong h1, sm_comm (fun a d => fb_sm (fun b => fb_sm (fun c => F a b c d) n) n) n n]
  refine fb_sm_cong (fun a _ => ?_)
  rw [sm_comm (fun b d => fb_sm (fun c => F a b c d) n) n n]
  exact fb_sm_cong (fun b _ => sm_comm (fun c d => F a b c d) n n)
/-- S is a set of k numbers below n, each two alike, each with P -/
def isG (al : Nat → Nat → Bool) (k n : Nat) (P : Nat → Bool) (S : Nat) : Prop := fb_ct (fun i => S.testBit i) n = k ∧ (∀ f, f < n → ∀ e, e < f → S.testBit e = true → S.testBit f = true → al e f = true) ∧ ∀ e, e < n → S.testBit e = true → P e = true
noncomputable def G (al : Nat → Nat → Bool) (k n : Nat) (P : Nat → Bool) : Nat := fb_ct (fun S => cB (isG al k n P S)) (2 ^ n)
theorem cB_cong {p q : Prop} (h : p ↔ q) : cB p = cB q := by rw [propext h]
theorem G_0 (al : Nat → Nat → Bool) (P : Nat → Bool) : ∀ n, G al 0 n P = 1
  | n => by
    unfold G
    have hp : 2 ^ n = 1 + (2 ^ n - 1) := by have := Nat.two_pow_pos n; omega
    rw [hp, fb_ct_split]
    have h1 : fb_ct (fun S => cB (isG al 0 n P S)) 1 = 1 := by
      rw [fb_ct_succ, show cB (isG al 0 n P 0) = true from cB_t ⟨fb_ct_zero.mpr (fun k _ => Nat.zero_testBit k), fun f _ e _ h => (by rw [Nat.zero_testBit] at h; cases h), fun e _ h => (by rw [Nat.zero_testBit] at h; cases h)⟩]
      rfl
    have h2 : fb_ct (fun S => cB (isG al 0 n P (1 + S))) (2 ^ n - 1) = 0 := by
      refine fb_ct_zero.mpr (fun k hk => cB_f (fun q => ?_))
      have q1 := fb_ct_zero.mp q.1
      have : 1 + k = 0 := Nat.eq_of_testBit_eq (fun i => by
        rw [Nat.zero_testBit]
        rcases Nat.lt_or_ge i n with h | h
        · exact q1 i h
        · exact Nat.testBit_lt_two_pow (Nat.lt_of_lt_of_le (by omega) (Nat.pow_le_pow_right (by decide) h)))
      omega
    rw [h1, h2]
theorem tb_lo {n S i : Nat} (hS : S < 2 ^ n) (hi : i < n) : (2 ^ n + S).testBit i = S.testBit i := Nat.testBit_two_pow_add_gt hi S
theorem tb_hi {n S : Nat} (hS : S < 2 ^ n) : (2 ^ n + S).testBit n = true := by
  rw [Nat.testBit_two_pow_add_eq, Nat.testBit_lt_two_pow hS]; rfl
theorem G_s (al : Nat → Nat → Bool) (k n : Nat) (P : Nat → Bool) : G al (k + 1) (n + 1) P = G al (k + 1) n P + Wb (P n) (G al k n (fun s => P s && al s n)) := by
  unfold G
  rw [show 2 ^ (n + 1) = 2 ^ n + 2 ^ n by rw [Nat.pow_succ]; omega, fb_ct_split]
  congr 1
  · refine fb_ct_cong (fun S hS => cB_cong ?_)
    have h0 : S.testBit n = false := Nat.testBit_lt_two_pow hS
    unfold isG
    rw [fb_ct_succ, h0]
    refine and_congr (by simp) (and_congr ⟨fun h f hf => h f (by omega), fun h f hf e he h1 h2 => ?_⟩ ⟨fun h e he => h e (by omega), fun h e he h1 => ?_⟩)
    · rcases Nat.lt_succ_iff_lt_or_eq.mp hf with q | q
      · exact h f q e he h1 h2
      · subst q; rw [h0] at h2; cases h2
    · rcases Nat.lt_succ_iff_lt_or_eq.mp he with q | q
      · exact h e q h1
      · subst q; rw [h0] at h1; cases h1
  · by_cases hP : P n = true
    · rw [hP]
      show _ = fb_ct _ _
      refine fb_ct_cong (fun S hS => cB_cong ?_)
      unfold isG
      rw [fb_ct_succ, tb_hi hS, if_pos rfl, fb_ct_cong (fun i hi => tb_lo hS hi)]
      constructor
      · rintro ⟨h1, h2, h3⟩
        refine ⟨by omega, fun f hf e he a b => h2 f (by omega) e he (by rw [tb_lo hS (by omega)]; exact a) (by rw [tb_lo hS hf]; exact b), fun e he a => ?_⟩
        rw [Bool.and_eq_true]
        exact ⟨h3 e (by omega) (by rw [tb_lo hS he]; exact a), h2 n (by omega) e he (by rw [tb_lo hS he]; exact a) (tb_hi hS)⟩
      · rintro ⟨h1, h2, h3⟩
        refine ⟨by omega, fun f hf e he a b => ?_, fun e he a => ?_⟩
        · rcases Nat.lt_succ_iff_lt_or_eq.mp hf with q | q
          · rw [tb_lo hS (by omega)] at a b
            exact h2 f q e he a b
          · subst q
            rw [tb_lo hS he] at a
            exact ((Bool.and_eq_true _ _).mp (h3 e he a)).2
        · rcases Nat.lt_succ_iff_lt_or_eq.mp he with q | q
          · rw [tb_lo hS q] at a
            exact ((Bool.and_eq_true _ _).mp (h3 e q a)).1
          · subst q; exact hP
    · rw [show P n = false by simpa using hP]
      show _ = 0
      refine fb_ct_zero.mpr (fun S hS => cB_f (fun q => hP (q.2.2 n (by omega) (tb_hi hS))))
theorem G_z (al : Nat → Nat → Bool) (k : Nat) (P : Nat → Bool) : G al (k + 1) 0 P = 0 := by
  unfold G
  refine fb_ct_zero.mpr (fun S _ => cB_f (fun q => ?_))
  have := q.1
  simp [fb_ct] at this
theorem G_sm (al : Nat → Nat → Bool) (k : Nat) (P : Nat → Bool) : ∀ n, G al (k + 1) n P = fb_sm (fun t => Wb (P t) (G al k t (fun s => P s && al s t))) n
  | 0 => G_z al k P
  | n + 1 => by rw [G_s, G_sm al k P n, fb_sm_succ]
theorem G_sm' (al : Nat → Nat → Bool) (k : Nat) (P : Nat → Bool) {t n : Nat} (h : t ≤ n) : G al (k + 1) t P = fb_sm (fun s => Wb (decide (s < t) && P s) (G al k s (fun r => P r && al r s))) n := by
  rw [G_sm, sm_lt _ h]
  exact fb_sm_cong (fun s _ => Wb_W _ _ _)
theorem G1 (al : Nat → Nat → Bool) (P : Nat → Bool) {t n : Nat} (h : t ≤ n) : G al 1 t P = fb_sm (fun s => Wb (decide (s < t) && P s) 1) n := by
  rw [G_sm' al 0 P h]
  exact fb_sm_cong (fun s _ => by rw [G_0])
theorem G2 (al : Nat → Nat → Bool) (P : Nat → Bool) {t n : Nat} (h : t ≤ n) : G al 2 t P = fb_sm (fun s => fb_sm (fun r => Wb ((decide (s < t) && P s) && (decide (r < s) && (P r && al r s))) 1) n) n := by
  rw [G_sm' al 1 P h]
  refine fb_sm_cong (fun s hs => ?_)
  rw [G1 al _ (show s ≤ n by omega), Wb_sm]
  exact fb_sm_cong (fun r _ => Wb_W _ _ _)
theorem G4 (al : Nat → Nat → Bool) (P : Nat → Bool) {t n : Nat} (h : t ≤ n) : G al 4 t P = fb_sm (fun d => fb_sm (fun c => fb_sm (fun b => fb_sm (fun a => Wb ((decide (d < t) && P d) && ((decide (c < d) && (P c && al c d)) && ((decide (b < c) && ((P b && al b d) && al b c)) && (decide (a < b) && (((P a && al a d) && al a c) && al a b))))) 1) n) n) n) n := by
  rw [G_sm' al 3 P h]
  refine fb_sm_cong (fun d hd => ?_)
  rw [G_sm' al 2 _ (show d ≤ n by omega), Wb_sm]
  refine fb_sm_cong (fun c hc => ?_)
  rw [G2 al _ (show c ≤ n by omega), Wb_W, Wb_sm]
  refine fb_sm_cong (fun b hb => ?_)
  rw [Wb_sm]
  refine fb_sm_cong (fun a ha => ?_)
  rw [Wb_W]
  congr 1
  simp only [Bool.and_assoc]
/-! the class's masks -/
theorem lmF_bit (al : Nat → Nat → Bool) (a : Nat) : ∀ n i, (lmF al a n).testBit i = (decide (i < n) && (decide (a < i) && al a i))
  | 0, i => by simp [lmF]
  | n + 1, i => by
    have hl := lmF_lt al a n
    unfold lmF
    by_cases q : a < n ∧ al a n = true
    · rw [if_pos q, Nat.add_comm]
      rcases Nat.lt_trichotomy i n with h | h | h
      · rw [tb_lo hl h, lmF_bit al a n i, decide_eq_true h, decide_eq_true (show i < n + 1 by omega)]
      · subst h; rw [tb_hi hl, decide_eq_true (show i < i + 1 by omega), decide_eq_true q.1, q.2]; rfl
      · rw [Nat.testBit_lt_two_pow (Nat.lt_of_lt_of_le (by omega : 2 ^ n + lmF al a n < 2 ^ n + 2 ^ n) (by have := Nat.pow_le_pow_right (n := 2) (by decide) (show n + 1 ≤ i by omega); rw [Nat.pow_succ] at this; omega)), decide_eq_false (show ¬ i < n + 1 by omega)]; rfl
    · rw [if_neg q, Nat.add_zero, lmF_bit al a n i]
      by_cases h : i = n
      · subst h
        rw [decide_eq_false (Nat.lt_irrefl i), decide_eq_true (show i < i + 1 by omega)]
        have : (decide (a < i) && al a i) = false := by
          rw [Bool.and_eq_false_iff]
          by_cases h1 : a < i
          · right; simpa using fun h2 => q ⟨h1, h2⟩
          · left; exact decide_eq_false h1
        rw [this]; rfl
      · rw [show decide (i < n) = decide (i < n + 1) from by rw [decide_eq_decide]; omega]
theorem pop_n {x n : Nat} (h16 : n ≤ 16) (hx : ∀ i, n ≤ i → x.testBit i = false) : pop x = fb_sm (fun i => Wb (x.testBit i) 1) n := by
  unfold pop
  rw [show 16 = n + (16 - n) by omega, fb_ct_split, ct_sm, fb_ct_zero.mpr (fun k _ => hx (n + k) (by omega)), Nat.add_zero]
theorem sets2 (al : Nat → Nat → Bool) {n : Nat} (h16 : n ≤ 16) : fb_sm (setsF (fun a => lmF al a n) n 2) n = G al 2 n (fun _ => true) := by
  rw [G2 al _ (Nat.le_refl n), sm_comm]
  refine fb_sm_cong (fun a ha => ?_)
  unfold setsF
  rw [if_pos rfl, pop_n h16 (fun i hi => by rw [lmF_bit, decide_eq_false (show ¬ i < n by omega)]; rfl)]
  refine fb_sm_cong (fun b hb => ?_)
  rw [lmF_bit]
  congr 1
  rw [decide_eq_true hb]
  simp
theorem sets4 (al : Nat → Nat → Bool) {n : Nat} (h16 : n ≤ 16) : fb_sm (setsF (fun a => lmF al a n) n 4) n = G al 4 n (fun _ => true) := by
  rw [G4 al _ (Nat.le_refl n), sm_rev4]
  refine fb_sm_cong (fun a ha => ?_)
  unfold setsF
  rw [if_neg (by decide)]
  unfold fours
  refine fb_sm_cong (fun b hb => ?_)
  unfold f4b
  have hz : ∀ x, (if a < b then x else 0) = Wb (decide (a < b)) x := fun x => by unfold Wb; by_cases h : a < b <;> simp [h]
  rw [hz, Wb_sm]
  refine fb_sm_cong (fun c hc => ?_)
  unfold f4c
  have hz2 : ∀ x, (if b < c ∧ (ofTwo (fun a => lmF al a n) a b).testBit c = true then x else 0) = Wb (decide (b < c) && (ofTwo (fun a => lmF al a n) a b).testBit c) x := fun x => by
    unfold Wb
    by_cases h : b < c <;> simp [h]
  have ho : ∀ i, (ofTwo (fun a => lmF al a n) a b).testBit i = ((decide (a < b) && al a b) && ((decide (i < n) && (decide (a < i) && al a i)) && (decide (i < n) && (decide (b < i) && al b i)))) := fun i => by
    unfold ofTwo
    rw [lmF_bit, decide_eq_true hb, Bool.true_and]
    by_cases h : (decide (a < b) && al a b) = true
    · rw [if_pos h, h, Nat.testBit_and, lmF_bit, lmF_bit]; rfl
    · rw [if_neg h, show (decide (a < b) && al a b) = false by simpa using h, Nat.zero_testBit]; rfl
  rw [hz2, Wb_W, pop_n h16 (fun i hi => by rw [Nat.testBit_and, ho, decide_eq_false (show ¬ i < n by omega)]; simp), Wb_sm]
  refine fb_sm_cong (fun d hd => ?_)
  rw [Wb_W, Nat.testBit_and, ho, ho, lmF_bit]
  congr 1
  rw [Bool.eq_iff_iff]
  simp only [Bool.and_eq_true, decide_eq_true_eq]
  constructor
  · rintro ⟨⟨h1, h2, ⟨h3, h4⟩, ⟨h5, h6, h7⟩, h8, h9, h10⟩, ⟨h11, ⟨h12, h13, h14⟩, h15, h16, h17⟩, h18, h19, h20⟩
    exact ⟨⟨hd, trivial⟩, ⟨h19, trivial, h20⟩, ⟨h2, ⟨trivial, h17⟩, h10⟩, h1, ⟨⟨trivial, h14⟩, h7⟩, h4⟩
  · rintro ⟨⟨h1, -⟩, ⟨h2, -, h3⟩, ⟨h4, ⟨-, h5⟩, h6⟩, h7, ⟨⟨-, h8⟩, h9⟩, h10⟩
    exact ⟨⟨h7, h4, ⟨h7, h10⟩, ⟨hc, by omega, h9⟩, hc, h4, h6⟩, ⟨⟨h7, h10⟩, ⟨hd, by omega, h8⟩, hd, by omega, h5⟩, hd, h2, h3⟩
/-! the reference's -/
theorem mb_nI {k i : Nat} (hk : k < 65536) (hi : i < 16) : mb (nI k) i ↔ k.testBit i = true := by
  unfold mb
  rw [pk_shrN (by omega) (nI i &&& 31) i (s_l i (by omega)), show (1 : Int32) = nI 1 from rfl, fa_and, Nat.and_one_is_mod, nI_eq (by omega) (by omega), Nat.testBit_eq_decide_div_mod_eq]
  simp
theorem mny_nI {S : Nat} (hS : S < 65536) : ∀ k, k ≤ 16 → mny (nI S) k = nI (fb_ct (fun i => S.testBit i) k)
  | 0, _ => rfl
  | k + 1, h => by
    unfold mny
    rw [mny_nI hS k (by omega), fb_ct_succ, pk_shrN (by omega) (nI k &&& 31) k (s_l k (by omega)), show (1 : Int32) = nI 1 from rfl, fa_and, Nat.and_one_is_mod, nI_add, Nat.testBit_eq_decide_div_mod_eq]
    congr 2
    by_cases q : S / 2 ^ k % 2 = 1
    · simp [q]
    · rw [show S / 2 ^ k % 2 = 0 by omega]; simp
theorem ref_G {H : PH} {n k : Nat} {al : Nat → Nat → Bool} (h16 : n ≤ 16) (hk : k ≤ 16) (hal : ∀ f, f < n → ∀ e, e < f → (mal H e f ↔ al e f = true)) : fb_ct (mtP H n k) (2 ^ n) = G al k n (fun _ => true) := by
  have hp : 2 ^ n ≤ 65536 := Nat.pow_le_pow_right (by decide) h16 (n := 2)
  unfold G
  refine fb_ct_cong (fun S hS => cB_cong ?_)
  have hS16 : S < 65536 := by omega
  have hct := fb_ct_le (fun i => S.testBit i) 16
  rw [mny_nI hS16 16 (Nat.le_refl _), nI_eq (by omega) (by omega)]
  have e1 : fb_ct (fun i => S.testBit i) 16 = fb_ct (fun i => S.testBit i) n := by
    have := pop_n (x := S) h16 (fun i hi => Nat.testBit_lt_two_pow (Nat.lt_of_lt_of_le hS (Nat.pow_le_pow_right (by decide) hi)))
    rw [← ct_sm] at this
    exact this
  rw [e1]
  unfold isG
  refine and_congr Iff.rfl ⟨fun h => ⟨fun f hf e he h1 h2 => (hal f hf e he).mp (h e (by omega) f hf he ((mb_nI hS16 (by omega)).mpr h1) ((mb_nI hS16 (by omega)).mpr h2)), fun _ _ _ => rfl⟩, fun h e he f hf hef h1 h2 => (hal f hf e hef).mpr (h.1 f hf e hef ((mb_nI hS16 (by omega)).mp h1) ((mb_nI hS16 (by omega)).mp h2))⟩
/-- both count the same sets -/
theorem matches_eq {H : PH} {n k : Nat} {al : Nat → Nat → Bool} (h16 : n ≤ 16) (hk : k = 2 ∨ k = 4) (hal : ∀ f, f < n → ∀ e, e < f → (mal H e f ↔ al e f = true)) : fb_sm (setsF (fun a => lmF al a n) n k) n = fb_ct (mtP H n k) (2 ^ n) := by
  rcases hk with rfl | rfl
  · rw [sets2 al h16, ref_G h16 (by decide) hal]
  · rw [sets4 al h16, ref_G h16 (by decide) hal]
