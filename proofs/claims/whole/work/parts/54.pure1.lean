/-! ===== pure: small equalities between class and reference ===== -/
/-- the least minute is one -/
theorem least_one {p : Nat → Prop} {a s s' : Nat} (h1 : a ≤ s) (h2 : a ≤ s') (hp : p s) (hp' : p s') (hm : ∀ u, a ≤ u → u < s → ¬ p u) (hm' : ∀ u, a ≤ u → u < s' → ¬ p u) : s = s' := by
  rcases Nat.lt_trichotomy s s' with q | q | q
  · exact absurd hp (hm' s h1 q)
  · exact q
  · exact absurd hp' (hm s' h2 q)
theorem siV_one {ok ok' : Nat → Prop} {D D' : Nat → Int32} {n : Nat} {o o' : Option Nat} (h : siV ok D n o) (h' : siV ok' D' n o') (hok : ∀ e, e < n → (ok e ↔ ok' e)) (hD : ∀ e, e < n → D e = D' e) : o = o' := by
  cases o with
  | none =>
    cases o' with
    | none => rfl
    | some b => exact absurd ((hok b h'.1).mpr h'.2.1) (h b h'.1)
  | some a =>
    cases o' with
    | none => exact absurd ((hok a h.1).mp h.2.1) (h' a h.1)
    | some b =>
      have h1 := h.2.2 b h'.1 ((hok b h'.1).mpr h'.2.1)
      have h2 := h'.2.2 a h.1 ((hok a h.1).mp h.2.1)
      rw [← hD a h.1, ← hD b h'.1] at h2
      have e : D a = D b := Int32.le_antisymm h1.1 h2.1
      exact congrArg some (Nat.le_antisymm (h1.2 e) (h2.2 e.symm))
