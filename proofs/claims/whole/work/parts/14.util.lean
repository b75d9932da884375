/-! small things that the walks use -/
noncomputable def bI (p : Prop) : Int32 := @ite Int32 p (Classical.propDecidable p) 1 0
theorem bI_t {p : Prop} (h : p) : bI p = 1 := by unfold bI; exact if_pos h
theorem bI_f {p : Prop} (h : ¬ p) : bI p = 0 := by unfold bI; exact if_neg h
theorem bI_01 (p : Prop) : bI p = 0 ∨ bI p = 1 := (Classical.em p).elim (fun h => Or.inr (bI_t h)) (fun h => Or.inl (bI_f h))
theorem bI_eq0 {p : Prop} : bI p = 0 ↔ ¬ p := ⟨fun h q => by rw [bI_t q] at h; exact absurd h (by decide), bI_f⟩
theorem bI_eq1 {p : Prop} : bI p = 1 ↔ p := ⟨fun h => Classical.byContradiction (fun q => by rw [bI_f q] at h; exact absurd h (by decide)), bI_t⟩
theorem bI_iff {p q : Prop} (h : p ↔ q) : bI p = bI q := by rw [propext h]
theorem bq_t {Q : Option Value → PH → Prop} {H : PH} {p : Prop} (hq : Q (some (.int (bI p))) H) (h : p) : Q (some (.int 1)) H := by rw [bI_t h] at hq; exact hq
theorem bq_f {Q : Option Value → PH → Prop} {H : PH} {p : Prop} (hq : Q (some (.int (bI p))) H) (h : ¬ p) : Q (some (.int 0)) H := by rw [bI_f h] at hq; exact hq
section Util
variable {y : MD} {d kc ks pc : Nat} {lo : List (Option Value)} {st : List Value} {H : PH} {Q : Option Value → PH → Prop}
theorem wp_ifb_eq {p : Prop} {off : Int} {tgt : Nat} (hd : decode y.2.1 pc = .ok (.ifCond .eq off, 3)) (ht : (pc : Int) + off = (tgt : Int)) (kt : ¬ p → Wp y d kc ks tgt lo st H Q) (kf : p → Wp y d kc ks (pc + 3) lo st H Q) : Wp y d kc ks pc lo (.int (bI p) :: st) H Q :=
  wp_if_eq hd ht (fun h => kt (bI_eq0.mp h)) (fun h => kf (Classical.not_not.mp (fun q => h (bI_eq0.mpr q))))
theorem wp_ifb_ne {p : Prop} {off : Int} {tgt : Nat} (hd : decode y.2.1 pc = .ok (.ifCond .ne off, 3)) (ht : (pc : Int) + off = (tgt : Int)) (kt : p → Wp y d kc ks tgt lo st H Q) (kf : ¬ p → Wp y d kc ks (pc + 3) lo st H Q) : Wp y d kc ks pc lo (.int (bI p) :: st) H Q :=
  wp_if_ne hd ht (fun h => kt (Classical.not_not.mp (fun q => h (bI_eq0.mpr q)))) (fun h => kf (bI_eq0.mp h))
theorem wp_inc {i : Nat} {n : Int} {x c : Int32} (hd : decode y.2.1 pc = .ok (.iinc i n, 3)) (hl0 : lo[i]? = some (some (.int x))) (hc : Int32.ofInt n = c) (hn : i < y.2.2.1) (k : Wp y d kc ks (pc + 3) (lset lo i (.int (x + c))) st H Q) : Wp y d kc ks pc lo st H Q := wp_iinc hd hl0 (by rw [hc]) hn k
theorem wp_incN {i j : Nat} (hd : decode y.2.1 pc = .ok (.iinc i 1, 3)) (hl0 : lo[i]? = some (some (.int (nI j)))) (hn : i < y.2.2.1) (k : Wp y d kc ks (pc + 3) (lset lo i (.int (nI (j + 1)))) st H Q) : Wp y d kc ks pc lo st H Q := wp_iinc hd hl0 (by rw [nI_succ]; rfl) hn k
theorem wp_ialoadN {a n i : Nat} (hd : decode y.2.1 pc = .ok (.iaload, 1)) (hk : hK H a = (20, n)) (hi : i < n) (hn : n < 2 ^ 31) (kk : Wp y d kc ks (pc + 1) lo (.int (hI H a i) :: st) H Q) : Wp y d kc ks pc lo (.int (nI i) :: .ref a :: st) H Q := wp_iaload hd hk (vp_in_nI hi hn) (by rw [nI_clamp (by omega)]; exact kk)
theorem wp_baloadN {a n k i : Nat} (hd : decode y.2.1 pc = .ok (.baload, 1)) (hk : hK H a = (k, n)) (hkk : k = 21 ∨ k = 22) (hi : i < n) (hn : n < 2 ^ 31) (kk : Wp y d kc ks (pc + 1) lo (.int (hI H a i) :: st) H Q) : Wp y d kc ks pc lo (.int (nI i) :: .ref a :: st) H Q := wp_baload hd hk hkk (vp_in_nI hi hn) (by rw [nI_clamp (by omega)]; exact kk)
theorem wp_laloadN {a n i : Nat} (hd : decode y.2.1 pc = .ok (.laload, 1)) (hk : hK H a = (23, n)) (hi : i < n) (hn : n < 2 ^ 31) (kk : Wp y d kc ks (pc + 1) lo (.long (hL H a i) :: st) H Q) : Wp y d kc ks pc lo (.int (nI i) :: .ref a :: st) H Q := wp_laload hd hk (vp_in_nI hi hn) (by rw [nI_clamp (by omega)]; exact kk)
theorem wp_aaloadN {a n k i : Nat} (hd : decode y.2.1 pc = .ok (.aaload, 1)) (hk : hK H a = (k, n)) (hkk : k = 24 ∨ k = 25) (hi : i < n) (hn : n < 2 ^ 31) (kk : Wp y d kc ks (pc + 1) lo (va_rf (hR H a i) :: st) H Q) : Wp y d kc ks pc lo (.int (nI i) :: .ref a :: st) H Q := wp_aaload hd hk hkk (vp_in_nI hi hn) (by rw [nI_clamp (by omega)]; exact kk)
theorem wp_iastoreN {a n i : Nat} {x : Int32} (hd : decode y.2.1 pc = .ok (.iastore, 1)) (hk : hK H a = (20, n)) (hi : i < n) (hn : n < 2 ^ 31) (kk : Wp y d kc ks (pc + 1) lo st (sI H a i x) Q) : Wp y d kc ks pc lo (.int x :: .int (nI i) :: .ref a :: st) H Q := wp_iastore hd hk (vp_in_nI hi hn) (by rw [nI_clamp (by omega)]; exact kk)
theorem wp_bastoreN {a n i : Nat} {x : Int32} (hd : decode y.2.1 pc = .ok (.bastore, 1)) (hk : hK H a = (21, n)) (hi : i < n) (hn : n < 2 ^ 31) (kk : Wp y d kc ks (pc + 1) lo st (sI H a i x.toInt8.toInt32) Q) : Wp y d kc ks pc lo (.int x :: .int (nI i) :: .ref a :: st) H Q := wp_bastore hd hk (vp_in_nI hi hn) (by rw [nI_clamp (by omega)]; exact kk)
theorem wp_zastoreN {a n i : Nat} {x : Int32} (hd : decode y.2.1 pc = .ok (.bastore, 1)) (hk : hK H a = (22, n)) (hx : x = 0 ∨ x = 1) (hi : i < n) (hn : n < 2 ^ 31) (kk : Wp y d kc ks (pc + 1) lo st (sI H a i x) Q) : Wp y d kc ks pc lo (.int x :: .int (nI i) :: .ref a :: st) H Q := wp_zastore hd hk hx (vp_in_nI hi hn) (by rw [nI_clamp (by omega)]; exact kk)
theorem wp_lastoreN {a n i : Nat} {x : Int64} (hd : decode y.2.1 pc = .ok (.lastore, 1)) (hk : hK H a = (23, n)) (hi : i < n) (hn : n < 2 ^ 31) (kk : Wp y d kc ks (pc + 1) lo st (sL H a i x) Q) : Wp y d kc ks pc lo (.long x :: .int (nI i) :: .ref a :: st) H Q := wp_lastore hd hk (vp_in_nI hi hn) (by rw [nI_clamp (by omega)]; exact kk)
theorem wp_aastoreN {a n k v nv ci i : Nat} (hd : decode y.2.1 pc = .ok (.aastore, 1)) (hk : hK H a = (k, n)) (hkk : (k = 24 ∧ ci = 2) ∨ (k = 25 ∧ ci = 3)) (hv : hK H v = (ci + 1, nv)) (hi : i < n) (hn : n < 2 ^ 31) (kk : Wp y d kc ks (pc + 1) lo st (sR H a i (some v)) Q) : Wp y d kc ks pc lo (.ref v :: .int (nI i) :: .ref a :: st) H Q := wp_aastore hd hk hkk hv (vp_in_nI hi hn) (by rw [nI_clamp (by omega)]; exact kk)
theorem wp_aaloadA {a n k i q : Nat} (hd : decode y.2.1 pc = .ok (.aaload, 1)) (hk : hK H a = (k, n)) (hkk : k = 24 ∨ k = 25) (hi : i < n) (hn : n < 2 ^ 31) (hr : hR H a i = some q) (kk : Wp y d kc ks (pc + 1) lo (.ref q :: st) H Q) : Wp y d kc ks pc lo (.int (nI i) :: .ref a :: st) H Q := wp_aaloadN hd hk hkk hi hn (by rw [hr]; exact kk)
end Util
/-- within(a, l, h) -/
theorem c_X11_within {d : Nat} {a l h : Int32} {H : PH} {Q : Option Value → PH → Prop} (hq : Q (some (.int (bI (l ≤ a ∧ a ≤ h)))) H) : Wp mX11_within d 0 0 0 [some (.int a), some (.int l), some (.int h)] [] H Q := by
  refine wp_iload_n dX11_within_0 rfl ?_
  refine wp_iload_n dX11_within_1 rfl ?_
  refine wp_icmp_lt (tgt := 14) dX11_within_2 (by decide) (fun h2 => ?_) (fun h2 => ?_)
  · refine wp_iconst (v := 0) dX11_within_14 (by decide) ?_
    refine wp_zreturn rfl (Or.inl rfl) dX11_within_15 ?_
    first | exact bq_t hq ⟨Int32.not_lt.mp h2, Int32.not_lt.mp h7⟩ | exact bq_f hq (fun q => absurd q.1 (Int32.not_le.mpr h2)) | exact bq_f hq (fun q => absurd q.2 (Int32.not_le.mpr h7))
  · refine wp_iload_n dX11_within_5 rfl ?_
    refine wp_iload_n dX11_within_6 rfl ?_
    refine wp_icmp_gt (tgt := 14) dX11_within_7 (by decide) (fun h7 => ?_) (fun h7 => ?_)
    · refine wp_iconst (v := 0) dX11_within_14 (by decide) ?_
      refine wp_zreturn rfl (Or.inl rfl) dX11_within_15 ?_
      first | exact bq_t hq ⟨Int32.not_lt.mp h2, Int32.not_lt.mp h7⟩ | exact bq_f hq (fun q => absurd q.1 (Int32.not_le.mpr h2)) | exact bq_f hq (fun q => absurd q.2 (Int32.not_le.mpr h7))
    · refine wp_iconst (v := 1) dX11_within_10 (by decide) ?_
      refine wp_goto (tgt := 15) dX11_within_11 (by decide) ?_
      refine wp_zreturn rfl (Or.inr rfl) dX11_within_15 ?_
      first | exact bq_t hq ⟨Int32.not_lt.mp h2, Int32.not_lt.mp h7⟩ | exact bq_f hq (fun q => absurd q.1 (Int32.not_le.mpr h2)) | exact bq_f hq (fun q => absurd q.2 (Int32.not_le.mpr h7))
theorem Fix_sI {H : PH} {a k : Nat} {v : Int32} (h : Fix H) : Fix (sI H a k v) := h
theorem Fix_sL {H : PH} {a k : Nat} {v : Int64} (h : Fix H) : Fix (sL H a k v) := h
theorem Fix_sRow {H : PH} {a : Nat} {f : Nat → Int32} (h : Fix H) : Fix (sRow H a f) := h
theorem fixK_lt : ∀ e ∈ fixK, e.1 ≤ 69 := by decide
theorem fixR_lt : ∀ e ∈ fixR, e.1.1 ≤ 69 := by decide
theorem Fix_nC {H : PH} {k n : Nat} (h : Fix H) : Fix (nC H k n) := by
  have hn : 69 ≤ hN H := h.2.2
  refine ⟨fun e he => ?_, fun e he => ?_, by rw [hN_nC]; have := h.2.2; omega⟩
  · have := fixK_lt e he
    rw [hK_nC, u1_ne (by omega)]; exact h.1 e he
  · have := fixR_lt e he
    rw [hR_nC, u1_ne (by omega)]; exact h.2.1 e he
theorem Fix_sR {H : PH} {a k : Nat} {v : Option Nat} (h : Fix H) (hx : ∀ e ∈ fixR, e.1 ≠ (a, k)) : Fix (sR H a k v) := by
  refine ⟨h.1, fun e he => ?_, h.2.2⟩
  rw [hR_sR]
  have := hx e he
  by_cases h1 : e.1.1 = a
  · rw [u2_ne2 (fun h2 => this (by rw [← h1, ← h2]))]; exact h.2.1 e he
  · rw [u2_ne1 h1]; exact h.2.1 e he
