/-! ===== the reference's worked: the loop ===== -/
section MWL
variable {d : Nat} {H : PH} {Q : Option Value → PH → Prop} {H1 : PH} {nm : Nat → Int32} {o : OL} {c a b : Nat}
theorem l_worked {la : Int32} (hF : Fix H) (hc : c ≤ 10) (hn : o.length ≤ 600) (hst : ∀ i x, o[i]? = some x → hI H 48 (600 * c + i) = nI x.1 ∧ hI H 49 (600 * c + i) = nI x.2) (hok : ∀ x, x ∈ o → okI x) (hnm : ∀ k, k < 6 → hI H 64 k = nm k) (hb : b ≤ o.length) : ∀ (j k : Nat) (S : List Int32) (H1 : PH) (l6 l7 l8 : Option Value), j + k = b → PW H S H1 → ht ((o.take b).drop k) S.length = some 1 → S.length + vls ((o.take b).drop k) ≤ 100 → (∀ r H', ev nm ((o.take b).drop k) S = [r] → eqX isPw H H' → Q (some (.int r)) H') → Wp mX12_worked d 0 0 12 [some (.ref 33), some (.int (nI c)), some (.int la), some (.int (nI b)), some (.int (nI S.length)), some (.int (nI (600 * c + k))), l6, l7, l8] [] H1 Q := by
  intro j
  induction j with
  | zero =>
    intro k S H1 l6 l7 l8 hk hP hh hv hq
    have hk' : k = b := by omega
    subst hk'
    have hF1 := PW_fix hF hP
    rw [dr_nil] at hh hq
    have hS : S.length = 1 := Option.some.inj (show some S.length = some 1 from hh)
    obtain ⟨r, hr⟩ := List.length_eq_one_iff.mp hS
    subst hr
    have hq := fun H' => hq r H' rfl
    have h63 : hI H1 63 0 = r := hP.2 0 r rfl
    have e600 : (600 : Int32) * nI c + nI k = nI (600 * c + k) := nI_m 600 c k
    refine wp_iload dX12_worked_12 rfl ?_
    refine wp_sipush (v := 600) dX12_worked_14 (by decide) ?_
    refine wp_iload_n dX12_worked_17 rfl ?_
    refine wp_imul dX12_worked_18 ?_
    refine wp_iload_n dX12_worked_19 rfl ?_
    refine wp_iadd dX12_worked_20 ?_
    rw [e600]
    refine wp_icmp_ge (tgt := 418) dX12_worked_21 (by decide) (fun _ => ?_) (fun h21 => absurd h21 (fun q => q (nI_le (Nat.le_refl _) (by omega))))
    refine wp_aload_n dX12_worked_418 rfl ?_
    refine wp_geta dX12_worked_419 fl_RX12_111 rfl (fk_33 hF1) (fr_33_52 hF1) ?_
    refine wp_iconst (v := 0) dX12_worked_422 (by decide) ?_
    refine wp_ialoadN dX12_worked_423 (fk_63 hF1) (by decide) (by decide) ?_
    rw [show hI H1 63 0 = r from h63]
    refine wp_ireturn rfl dX12_worked_424 ?_
    exact hq H1 hP.1
  | succ j ih =>
    intro k S H1 l6 l7 l8 hk hP hh hv hq
    obtain ⟨x, hx, hd⟩ := dr_cons (o := o) (b := b) (k := k) (by omega) hb
    rw [hd] at hh hv hq
    cases e : ef x S.length with
    | none =>
      have hh : (ef x S.length).bind (ht ((o.take b).drop (k + 1))) = some 1 := hh
      rw [e] at hh; cases hh
    | some h =>
      have hh : (ef x S.length).bind (ht ((o.take b).drop (k + 1))) = some 1 := hh
      rw [e] at hh
      have hh : ht ((o.take b).drop (k + 1)) h = some 1 := hh
      have hv' := ef_vls e hv
      have hlen := ev1_len (nm := nm) e
      refine l_worked1 hF hP hc (by omega) (by omega : k < b) (by omega) (hst k x hx) hnm (hok x (List.mem_of_getElem? hx)) e (by omega) (by omega) rfl (fun m6 m7 m8 H' hP' => ?_)
      have rec' := ih (k + 1) (ev1 nm x S) H' m6 m7 m8 (by omega) hP' (by rw [hlen]; exact hh) (by rw [hlen]; exact hv') hq
      rw [hlen] at rec'
      exact rec'
theorem c_X12_worked (hF : Fix H) (hc : c ≤ 10) (hn : o.length ≤ 600) (hst : ∀ i x, o[i]? = some x → hI H 48 (600 * c + i) = nI x.1 ∧ hI H 49 (600 * c + i) = nI x.2) (hok : ∀ x, x ∈ o → okI x) (hvl : vls o ≤ 100) (hnm : ∀ k, k < 6 → hI H 64 k = nm k) (hs : SG o a b) (hq : ∀ r H', ev nm ((o.take b).drop a) [] = [r] → eqX isPw H H' → Q (some (.int r)) H') : Wp mX12_worked d 0 0 0 [some (.ref 33), some (.int (nI c)), some (.int (nI a)), some (.int (nI b)), none, none, none, none, none] [] H Q := by
  have hbl := hs.2.1
  have hab := hs.1
  have h := l_worked (d := d) (la := nI a) (Q := Q) hF hc hn hst hok hnm hs.2.1 (b - a) a [] H none none none (by omega) ⟨eqX_rfl, fun i y hi => by simp at hi⟩ hs.2.2 (by have := vls_le (o.take b) a; have := vls_take o b; show 0 + _ ≤ 100; omega) hq
  have e600 : (600 : Int32) * nI c + nI a = nI (600 * c + a) := nI_m 600 c a
  refine wp_iconst (v := 0) dX12_worked_0 (by decide) ?_
  refine wp_istore dX12_worked_1 (by decide) ?_
  refine wp_sipush (v := 600) dX12_worked_3 (by decide) ?_
  refine wp_iload_n dX12_worked_6 rfl ?_
  refine wp_imul dX12_worked_7 ?_
  refine wp_iload_n dX12_worked_8 rfl ?_
  refine wp_iadd dX12_worked_9 ?_
  rw [e600]
  refine wp_istore dX12_worked_10 (by decide) ?_
  exact h
end MWL
