/-! ===== pure: labellings in the order in which the reference looks at them ===== -/
/-- how many labels stand ahead of place i -/
def mxL (q : Nat → Nat) : Nat → Nat
  | 0 => 0
  | i + 1 => if q i = mxL q i then mxL q i + 1 else mxL q i
theorem mxL_le (q : Nat → Nat) : ∀ i, mxL q i ≤ i
  | 0 => Nat.le_refl _
  | i + 1 => by have := mxL_le q i; unfold mxL; split <;> omega
theorem mxL_cong {q q' : Nat → Nat} : ∀ {i : Nat}, (∀ e, e < i → q e = q' e) → mxL q i = mxL q' i
  | 0, _ => rfl
  | i + 1, h => by unfold mxL; rw [mxL_cong (fun e he => h e (by omega)), h i (by omega)]
theorem mxL_lab (q : Nat → Nat) : ∀ i c, c < mxL q i → ∃ e, e < i ∧ q e = c
  | 0, c, h => absurd h (Nat.not_lt_zero c)
  | i + 1, c, h => by
    unfold mxL at h
    by_cases r : q i = mxL q i
    · rw [if_pos r] at h
      rcases Nat.lt_succ_iff_lt_or_eq.mp h with z | z
      · obtain ⟨e, e1, e2⟩ := mxL_lab q i c z
        exact ⟨e, by omega, e2⟩
      · exact ⟨i, by omega, by omega⟩
    · rw [if_neg r] at h
      obtain ⟨e, e1, e2⟩ := mxL_lab q i c h
      exact ⟨e, by omega, e2⟩
theorem mxL_gt {q : Nat → Nat} : ∀ {n : Nat}, (∀ i, i < n → q i ≤ mxL q i) → ∀ e, e < n → q e < mxL q n
  | 0, _, e, h => absurd h (Nat.not_lt_zero e)
  | n + 1, hv, e, h => by
    have ih := mxL_gt (n := n) (fun i hi => hv i (by omega))
    unfold mxL
    rcases Nat.lt_succ_iff_lt_or_eq.mp h with z | z
    · have := ih e z; split <;> omega
    · subst z
      have := hv e (by omega)
      split <;> omega
def vld (n car : Nat) (q : Nat → Nat) : Prop := ∀ i, i < n → q i ≤ mxL q i ∧ q i < car
def ltx (q' q : Nat → Nat) (k : Nat) : Prop := ∃ i, i < k ∧ (∀ e, e < i → q' e = q e) ∧ q' i < q i
theorem ltx_cong {q' q p : Nat → Nat} {k : Nat} (h : ∀ e, e < k → q e = p e) (hl : ltx q' q k) : ltx q' p k := by
  obtain ⟨i, h1, h2, h3⟩ := hl
  exact ⟨i, h1, fun e he => (h2 e he).trans (h e (by omega)), by rw [← h i h1]; exact h3⟩
section PX
variable {K m : Nat} {kp : Nat → Bool} {q q' : Nat → Nat}
/-- the label of JOB j -/
def labs (kp : Nat → Bool) (q : Nat → Nat) (j : Nat) : Nat := q (fb_ct kp j)
theorem ct_lt_of {kp : Nat → Bool} {i j : Nat} (h : i < j) (hi : kp i = true) : fb_ct kp i < fb_ct kp j := by
  have := fb_ct_mono kp (show i + 1 ≤ j by omega)
  rw [fb_ct_succ, hi, if_pos rfl] at this
  omega
theorem vld_canon {n car : Nat} (hn : n = fb_ct kp m) (hv : vld n car q) (hK : ∀ j, K.testBit j = true ↔ j < m ∧ kp j = true) : canon K (labs kp q) := by
  intro j hj c hc
  have hjm := (hK j).mp hj
  have hr := ct_lt_of hjm.1 hjm.2
  have h1 := (hv (fb_ct kp j) (by omega)).1
  obtain ⟨e, e1, e2⟩ := mxL_lab q (fb_ct kp j) c (Nat.lt_of_lt_of_le hc h1)
  obtain ⟨i, i1, i2, i3⟩ := fb_ct_kth e1
  exact ⟨i, (hK i).mpr ⟨by omega, i2⟩, i1, by unfold labs; rw [i3]; exact e2⟩
theorem dgt_uniq {g : Nat → Nat} (hK : K < 1024) {j x : Nat} (hj : K.testBit j = true) (h1 : K.testBit x = true) (h2 : g x = g j) (h3 : ∀ i, i < x → K.testBit i = true → g i ≠ g j) : dgt K g j = x := by
  obtain ⟨d1, d2, d3, d4⟩ := dgt_is (g := g) hK hj
  rcases Nat.lt_trichotomy (dgt K g j) x with z | z | z
  · exact absurd d2 (h3 _ z d1)
  · exact z
  · exact absurd h2 (d4 _ z h1)
theorem hrn_lt {a b : Nat → Nat} (ha : ∀ j, a j < 16) {k : Nat} (h : hrn a 0 k < hrn b 0 k) : ∀ e, hrn a 0 (k + e) < hrn b 0 (k + e)
  | 0 => h
  | e + 1 => by
    have ih := hrn_lt ha h e
    show hrn a 0 (k + e) * 16 + a (k + e) < hrn b 0 (k + e) * 16 + b (k + e)
    have := ha (k + e)
    omega
theorem hrn_eq {a b : Nat → Nat} : ∀ {k : Nat}, (∀ j, j < k → a j = b j) → hrn a 0 k = hrn b 0 k
  | 0, _ => rfl
  | k + 1, h => by
    show hrn a 0 k * 16 + a k = hrn b 0 k * 16 + b k
    rw [hrn_eq (fun j hj => h j (by omega)), h k (by omega)]
theorem low_hrn (a : Nat → Nat) : fb_sm (fun j => a j * 2 ^ (4 * (9 - j))) 10 = hrn a 0 10 := by
  have h1 := hrn_sum a 0 10 (Nat.le_refl _)
  rw [Nat.sub_self, Nat.pow_zero, Nat.mul_one, Nat.zero_mul, Nat.zero_add] at h1
  exact h1
/-- what stands ahead has the lesser low part -/
theorem lex_low {n car : Nat} (hKl : K < 1024) (hm : m ≤ 10) (hn : n = fb_ct kp m) (hK : ∀ j, K.testBit j = true ↔ j < m ∧ kp j = true) (hv : vld n car q) (hl : ltx q' q n) :
    fb_sm (fun j => dgt K (labs kp q') j * 2 ^ (4 * (9 - j))) 10 < fb_sm (fun j => dgt K (labs kp q) j * 2 ^ (4 * (9 - j))) 10 := by
  have hc := vld_canon hn hv hK
  obtain ⟨i0, h1, h2, h3⟩ := hl
  rw [hn] at h1
  obtain ⟨J, j1, j2, j3⟩ := fb_ct_kth h1
  have hJ := (hK J).mpr ⟨j1, j2⟩
  have hag : ∀ i, i < J → K.testBit i = true → labs kp q' i = labs kp q i := fun i hi hk => by
    have := ct_lt_of hi ((hK i).mp hk).2
    unfold labs
    exact h2 _ (by omega)
  have hlt : labs kp q' J < labs kp q J := by unfold labs; rw [j3]; exact h3
  rw [low_hrn, low_hrn]
  have hd1 : hrn (dgt K (labs kp q')) 0 J = hrn (dgt K (labs kp q)) 0 J := hrn_eq (fun j hj => by
    by_cases hk : K.testBit j = true
    · obtain ⟨d1, d2, d3, d4⟩ := dgt_is (g := labs kp q) hKl hk
      refine dgt_uniq hKl hk d1 ?_ (fun i hi hki => ?_)
      · rw [hag _ (by omega) d1, hag j hj hk]; exact d2
      · rw [hag i (by omega) hki, hag j hj hk]; exact d4 i hi hki
    · unfold dgt; rw [if_neg hk, if_neg hk])
  have hd2 : dgt K (labs kp q') J < dgt K (labs kp q) J := by
    obtain ⟨d1, d2, d3, d4⟩ := dgt_is (g := labs kp q) hKl hJ
    obtain ⟨i, i1, i2, i3⟩ := hc _ d1 (labs kp q' J) (by rw [d2]; exact hlt)
    obtain ⟨e1, e2, e3, e4⟩ := dgt_is (g := labs kp q') hKl hJ
    have : ¬ i < dgt K (labs kp q') J := fun z => e4 i z i1 (by rw [hag i (by omega) i1]; exact i3)
    omega
  have hJ10 : J + 1 ≤ 10 := by omega
  have h9 := hrn_lt (a := dgt K (labs kp q')) (b := dgt K (labs kp q)) (dgt_lt hKl) (k := J + 1) (by
    show hrn _ 0 J * 16 + dgt K (labs kp q') J < hrn _ 0 J * 16 + dgt K (labs kp q) J
    rw [hd1]; omega) (10 - (J + 1))
  rw [show J + 1 + (10 - (J + 1)) = 10 by omega] at h9
  exact h9
end PX
/-- the best so far, among the labellings of D -/
def OptD (kq : (Nat → Nat) → Nat) (n car : Nat) (D : (Nat → Nat) → Prop) : Option (Nat → Nat) → Prop
  | none => ∀ q', vld n car q' → D q' → 2 ^ 61 ≤ kq q'
  | some s => vld n car s ∧ D s ∧ kq s < 2 ^ 61 ∧ ∀ q', vld n car q' → D q' → kq s ≤ kq q'
theorem OptD_iff {kq : (Nat → Nat) → Nat} {n car : Nat} {D D' : (Nat → Nat) → Prop} (h : ∀ q', vld n car q' → (D q' ↔ D' q')) : ∀ {b}, OptD kq n car D b → OptD kq n car D' b
  | none, ho => fun q' hv hd => ho q' hv ((h q' hv).mpr hd)
  | some s, ho => ⟨ho.1, (h s ho.1).mp ho.2.1, ho.2.2.1, fun q' hv hd => ho.2.2.2 q' hv ((h q' hv).mpr hd)⟩
/-- places up to k are q's, the next label at k is c -/
def DX (k : Nat) (q : Nat → Nat) (c : Nat) (q' : Nat → Nat) : Prop := ltx q' q k ∨ ((∀ e, e < k → q' e = q e) ∧ q' k < c)
def DL (k : Nat) (q : Nat → Nat) (q' : Nat → Nat) : Prop := ltx q' q k ∨ ∀ e, e < k → q' e = q e
def upq (q : Nat → Nat) (k c : Nat) : Nat → Nat := fun i => if i = k then c else q i
theorem upq_k (q : Nat → Nat) (k c : Nat) : upq q k c k = c := if_pos rfl
theorem upq_lt (q : Nat → Nat) (k c : Nat) {e : Nat} (h : e < k) : upq q k c e = q e := if_neg (by omega)
theorem DX_0 {k : Nat} {q q' : Nat → Nat} {c : Nat} : DX k q c q' ↔ DX (k + 1) (upq q k c) 0 q' := by
  have hu := @upq_lt q k c
  constructor
  · rintro (⟨i, h1, h2, h3⟩ | ⟨h1, h2⟩)
    · exact Or.inl ⟨i, by omega, fun e he => by rw [hu (by omega)]; exact h2 e he, by rw [hu h1]; exact h3⟩
    · exact Or.inl ⟨k, by omega, fun e he => by rw [hu he]; exact h1 e he, by rw [upq_k]; exact h2⟩
  · rintro (⟨i, h1, h2, h3⟩ | ⟨h1, h2⟩)
    · rcases Nat.lt_succ_iff_lt_or_eq.mp h1 with z | z
      · exact Or.inl ⟨i, z, fun e he => by rw [h2 e he, hu (by omega)], by rw [hu z] at h3; exact h3⟩
      · subst z
        rw [upq_k] at h3
        exact Or.inr ⟨fun e he => by rw [h2 e he, hu he], h3⟩
    · omega
theorem DL_s {k : Nat} {q q' : Nat → Nat} {c : Nat} : DL (k + 1) (upq q k c) q' ↔ DX k q (c + 1) q' := by
  have hu := @upq_lt q k c
  constructor
  · rintro (⟨i, h1, h2, h3⟩ | h1)
    · rcases Nat.lt_succ_iff_lt_or_eq.mp h1 with z | z
      · exact Or.inl ⟨i, z, fun e he => by rw [h2 e he, hu (by omega)], by rw [hu z] at h3; exact h3⟩
      · subst z
        rw [upq_k] at h3
        exact Or.inr ⟨fun e he => by rw [h2 e he, hu he], by omega⟩
    · exact Or.inr ⟨fun e he => by rw [h1 e (by omega), hu he], by rw [h1 k (by omega), upq_k]; omega⟩
  · rintro (⟨i, h1, h2, h3⟩ | ⟨h1, h2⟩)
    · exact Or.inl ⟨i, by omega, fun e he => by rw [hu (by omega)]; exact h2 e he, by rw [hu h1]; exact h3⟩
    · rcases Nat.lt_succ_iff_lt_or_eq.mp h2 with z | z
      · exact Or.inl ⟨k, by omega, fun e he => by rw [hu he]; exact h1 e he, by rw [upq_k]; exact z⟩
      · refine Or.inr (fun e he => ?_)
        rcases Nat.lt_succ_iff_lt_or_eq.mp he with y | y
        · rw [hu y]; exact h1 e y
        · subst y; rw [upq_k]; exact z
theorem DX_L {n car k : Nat} {q q' : Nat → Nat} {c : Nat} (hk : k < n) (hv : vld n car q') (hc : mxL q k < c ∨ car ≤ c) : DX k q c q' ↔ DL k q q' := by
  constructor
  · rintro (h | h)
    · exact Or.inl h
    · exact Or.inr h.1
  · rintro (h | h)
    · exact Or.inl h
    · have h1 := hv k hk
      rw [mxL_cong h] at h1
      exact Or.inr ⟨h, by omega⟩
