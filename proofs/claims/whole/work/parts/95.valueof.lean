/-! ===== Pricer: valueOf ===== -/
theorem dr_cons {o : OL} {b k : Nat} (hk : k < b) (hb : b ≤ o.length) : ∃ x, o[k]? = some x ∧ (o.take b).drop k = x :: (o.take b).drop (k + 1) := by
  have hl : k < (o.take b).length := by rw [List.length_take]; omega
  refine ⟨(o.take b)[k], ?_, List.drop_eq_getElem_cons hl⟩
  rw [List.getElem_take, List.getElem?_eq_getElem (by omega)]
theorem dr_nil {o : OL} {b : Nat} : (o.take b).drop b = [] := List.drop_of_length_le (by rw [List.length_take]; omega)
theorem vls_le : ∀ (l : OL) (i : Nat), vls (l.drop i) ≤ vls l
  | [], i => by rw [List.drop_nil]; exact Nat.le_refl _
  | x :: l, 0 => Nat.le_refl _
  | x :: l, i + 1 => by
    show vls (l.drop i) ≤ vls l + _
    have := vls_le l i
    omega
theorem vls_take (l : OL) (i : Nat) : vls (l.take i) ≤ vls l := by
  have h := vls_app (l.take i) (l.drop i)
  rw [List.take_append_drop] at h
  omega
theorem ef_vls {x : Nat × Nat} {n h : Nat} {l : OL} (e : ef x n = some h) (hv : n + vls (x :: l) ≤ 100) : h + vls l ≤ 100 := by
  have hv : n + (vls l + if x.1 < 40 then 1 else 0) ≤ 100 := hv
  unfold ef at e
  by_cases q : x.1 < 40
  · rw [if_pos q] at e hv; cases e; omega
  · rw [if_neg q] at e hv
    by_cases q2 : x.1 = 40 ∨ x.1 = 50
    · rw [if_pos q2] at e
      split at e
      · cases e; omega
      · cases e
    · rw [if_neg q2] at e
      split at e
      · cases e; omega
      · cases e
section VOF
variable {d : Nat} {H : PH} {Q : Option Value → PH → Prop} {H1 : PH} {nm : Nat → Int32} {o : OL} {p a b : Nat}
theorem l_X7_valueOf {la : Int32} (hF : Fix H) (hp : hK H p = (20, o.length)) (hp70 : 22 < p) (hn : o.length ≤ 600) (hcd : ∀ i x, o[i]? = some x → hI H p i = encC x) (hok : ∀ x, x ∈ o → okI x) (hnm : ∀ k, k < 6 → hI H 22 k = nm k) (hb : b ≤ o.length) : ∀ (j k : Nat) (S : List Int32) (H1 : PH), j + k = b → CQ7 H S H1 → ht ((o.take b).drop k) S.length = some 1 → S.length + vls ((o.take b).drop k) ≤ 100 → (∀ r H', ev nm ((o.take b).drop k) S = [r] → CQ7 H [] H' → Q (some (.int r)) H') → Wp mX7_valueOf (d + 2) 0 0 12 [some (.ref 20), some (.ref p), some (.int la), some (.int (nI b)), some (.int (nI k))] [] H1 Q := by
  intro j
  induction j with
  | zero =>
    intro k S H1 hk hP hh hv hq
    have hk' : k = b := by omega
    subst hk'
    have hF1 := CQ_fix hF hP
    rw [dr_nil] at hh hq
    have hS : S.length = 1 := Option.some.inj (show some S.length = some 1 from hh)
    obtain ⟨r, hr⟩ := List.length_eq_one_iff.mp hS
    subst hr
    have hq := fun H' => hq r H' rfl
    refine wp_iload dX7_valueOf_12 rfl ?_
    refine wp_iload_n dX7_valueOf_14 rfl ?_
    refine wp_icmp_ge (tgt := 39) dX7_valueOf_15 (by decide) (fun _ => ?_) (fun h15 => absurd h15 (fun q => q (nI_le (Nat.le_refl _) (by omega))))
    refine wp_aload_n dX7_valueOf_39 rfl ?_
    refine wp_callv0 (ci := 7) dX7_valueOf_40 lk_RX7_69 ok_X7_pop im_X7_pop se_X7_pop rfl rfl (fk_20 hF1) (Nat.le_of_ble_eq_true rfl) (Nat.le_of_ble_eq_true rfl) ?_
    refine l_X7_pop hF hP (by decide) (fun H' hP' => ?_)
    refine wp_ireturn rfl dX7_valueOf_43 ?_
    exact hq H' hP'
  | succ j ih =>
    intro k S H1 hk hP hh hv hq
    have hF1 := CQ_fix hF hP
    obtain ⟨x, hx, hd⟩ := dr_cons (o := o) (b := b) (k := k) (by omega) hb
    rw [hd] at hh hv hq
    have hkp : hK H1 p = (20, o.length) := by rw [hP.1.2.1]; exact hp
    have hcx : hI H1 p k = encC x := by rw [hP.1.2.2.2.2 p k (by unfold isPr; omega)]; exact hcd k x hx
    have hox := hok x (List.mem_of_getElem? hx)
    cases e : ef x S.length with
    | none =>
      have hh : (ef x S.length).bind (ht ((o.take b).drop (k + 1))) = some 1 := hh
      rw [e] at hh; cases hh
    | some h =>
      have hh : (ef x S.length).bind (ht ((o.take b).drop (k + 1))) = some 1 := hh
      rw [e] at hh
      have hh : ht ((o.take b).drop (k + 1)) h = some 1 := hh
      have hv' := ef_vls e hv
      have hlen := ev1_len (nm := nm) e
      have rec' := fun H' hP' => ih (k + 1) (ev1 nm x S) H' (by omega) hP' (by rw [hlen]; exact hh) (by rw [hlen]; exact hv') hq
      refine wp_iload dX7_valueOf_12 rfl ?_
      refine wp_iload_n dX7_valueOf_14 rfl ?_
      refine wp_icmp_ge (tgt := 39) dX7_valueOf_15 (by decide) (fun h15 => absurd h15 (nI_ge (by omega : k < b) (by omega))) (fun _ => ?_)
      refine wp_iload dX7_valueOf_18 rfl ?_
      refine wp_aload_n dX7_valueOf_20 rfl ?_
      refine wp_alen dX7_valueOf_21 (hkp) (by simp) ?_
      refine wp_icmp_ge (tgt := 39) dX7_valueOf_22 (by decide) (fun h22 => absurd h22 (nI_ge (by omega : k < o.length) (by omega))) (fun _ => ?_)
      refine wp_aload_n dX7_valueOf_25 rfl ?_
      refine wp_aload_n dX7_valueOf_26 rfl ?_
      refine wp_iload dX7_valueOf_27 rfl ?_
      refine wp_ialoadN dX7_valueOf_29 (hkp) (by omega) (by omega) ?_
      rw [hcx]
      refine wp_callv1 (ci := 7) dX7_valueOf_30 lk_RX7_65 ok_X7_step im_X7_step se_X7_step rfl rfl (fk_20 hF1) (Nat.le_of_ble_eq_true rfl) (Nat.le_of_ble_eq_true rfl) ?_
      refine c_X7_step hF hP hnm hox e (by omega) (by omega) (fun H' hP' => ?_)
      have hF2 := CQ_fix hF hP'
      refine wp_incN dX7_valueOf_33 rfl (by decide) ?_
      refine wp_goto (tgt := 12) dX7_valueOf_36 (by decide) ?_
      exact rec' H' hP'
theorem max_0 {a : Nat} (h : a < 2 ^ 31) : maxI (nI a) 0 = nI a := by
  unfold maxI
  rw [if_neg (Int32.not_lt.mpr (nI_pos' h))]
theorem c_X7_valueOf (hF : Fix H) (hp : hK H p = (20, o.length)) (hp70 : 22 < p) (hn : o.length ≤ 600) (hcd : ∀ i x, o[i]? = some x → hI H p i = encC x) (hok : ∀ x, x ∈ o → okI x) (hvl : vls o ≤ 100) (hnm : ∀ k, k < 6 → hI H 22 k = nm k) (hs : SG o a b) (hq : ∀ r H', ev nm ((o.take b).drop a) [] = [r] → eqX isPr H H' → Q (some (.int r)) H') : Wp mX7_valueOf (d + 2) 0 0 0 [some (.ref 20), some (.ref p), some (.int (nI a)), some (.int (nI b)), none] [] H Q := by
  have hP : CQ7 H [] (sI H 20 2 0) := ⟨eqX_sI eqX_rfl (Or.inl ⟨rfl, rfl⟩), by rw [hI_sI', if_pos ⟨rfl, rfl⟩]; rfl, fun i y hi => by simp at hi⟩
  have hbl := hs.2.1
  have hab := hs.1
  have h := l_X7_valueOf (d := d) (la := nI a) (Q := Q) hF hp hp70 hn hcd hok hnm hs.2.1 (b - a) a [] (sI H 20 2 0) (by omega) hP hs.2.2 (by have := vls_le (o.take b) a; have := vls_take o b; show 0 + _ ≤ 100; omega) (fun r H' e hP' => hq r H' e hP'.1)
  refine wp_aload_n dX7_valueOf_0 rfl ?_
  refine wp_iconst (v := 0) dX7_valueOf_1 (by decide) ?_
  refine wp_puti dX7_valueOf_2 fl_RX7_56 (mp_7_2 _ _) rfl (fk_20 hF) ?_
  refine wp_iload_n dX7_valueOf_5 rfl ?_
  refine wp_iconst (v := 0) dX7_valueOf_6 (by decide) ?_
  refine wp_calls2 dX7_valueOf_7 lk_RX7_59 ok_J9_max_7cf53 st_J9_max_7cf53 (Nat.le_of_ble_eq_true rfl) (Nat.le_of_ble_eq_true rfl) ?_
  refine c_J9_max_7cf53 ?_
  rw [max_0 (by omega)]
  refine wp_istore dX7_valueOf_10 (by decide) ?_
  exact h
end VOF
