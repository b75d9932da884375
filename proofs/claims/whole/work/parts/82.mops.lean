/-! ===== the reference's pile of signs that wait ===== -/
def isMr (a k : Nat) : Prop := (a = 33 ∧ (k = 37 ∨ k = 38 ∨ k = 41 ∨ k = 42 ∨ k = 43 ∨ k = 45 ∨ k = 46 ∨ k = 47 ∨ k = 50 ∨ k = 51)) ∨ a = 58 ∨ a = 59 ∨ a = 62
def Wt (W : List Nat) (H : PH) : Prop := hI H 33 50 = nI W.length ∧ (∀ i x, W.reverse[i]? = some x → hI H 62 i = nI x) ∧ hI H 33 51 = nI (deepW W)
def Ot (o : OL) (H : PH) : Prop := hI H 33 37 = nI o.length ∧ ∀ i x, o[i]? = some x → hI H 58 i = nI x.1 ∧ hI H 59 i = nI x.2
def MR (H : PH) (bf : Nat → Int32) (N s v : Nat) (o : OL) (W : List Nat) (H' : PH) : Prop := eqM isMr H H' ∧ MTp H' bf N ∧ mTok bf N s H' ∧ s ≤ N ∧ hI H' 33 38 = nI v ∧ v ≤ 100 ∧ Ot o H' ∧ Wt W H' ∧ hI H' 33 41 = 0 ∧ hI H' 33 42 = -1
def MB (H : PH) (f : FT) (H' : PH) : Prop := eqM isMr H H' ∧ hI H' 33 41 = nI f.1 ∧ 1 ≤ f.1 ∧ f.1 ≤ 3 ∧ hI H' 33 42 = nI f.2
/-- room for the rows -/
def RB9 (o : OL) (W : List Nat) : Prop := o.length + W.length ≤ 600 ∧ W.length ≤ 390 ∧ deepW W ≤ 8 ∧ ∀ x, x ∈ W → x < 100
section MO
variable {d : Nat} {H : PH} {Q : Option Value → PH → Prop} {bf : Nat → Int32} {N s v : Nat} {o : OL} {W : List Nat} {H1 : PH}
theorem MR_fix (hF : Fix H) (hM : MR H bf N s v o W H1) : Fix H1 := Fix_eqM hM.1 hF
theorem mTok_k {H2 : PH} (h : mTok bf N s H1) (h1 : ∀ k, (k = 43 ∨ k = 45 ∨ k = 46 ∨ k = 47) → hI H2 33 k = hI H1 33 k) (h2 : hL H2 33 48 = hL H1 33 48) : mTok bf N s H2 := by
  unfold mTok
  rw [h1 45 (by omega), h1 46 (by omega), h1 43 (by omega), h1 47 (by omega), h2]
  exact h
theorem MTp_k {H2 : PH} (h : MTp H1 bf N) (h1 : hI H2 33 44 = hI H1 33 44) (h2 : ∀ j, hI H2 61 j = hI H1 61 j) : MTp H2 bf N := ⟨h.1, by rw [h1]; exact h.2.1, fun j hj => by rw [h2]; exact h.2.2 j hj⟩
theorem getA {α : Type} {l : List α} {x y : α} {i : Nat} (h : (l ++ [x])[i]? = some y) : (i < l.length ∧ l[i]? = some y) ∨ (i = l.length ∧ y = x) := by
  rcases Nat.lt_trichotomy i l.length with z | z | z
  · rw [List.getElem?_append_left z] at h; exact Or.inl ⟨z, h⟩
  · subst z
    rw [List.getElem?_append_right (Nat.le_refl _), Nat.sub_self] at h
    cases h; exact Or.inr ⟨rfl, rfl⟩
  · rw [List.getElem?_eq_none (by rw [List.length_append]; show l.length + 1 ≤ i; omega)] at h; cases h
theorem MR_put {a b : Nat} (hM : MR H bf N s v o W H1) : MR H bf N s v (o ++ [(a, b)]) W (sI (sI (sI H1 58 o.length (nI a)) 59 o.length (nI b)) 33 37 (nI (o.length + 1))) := by
  obtain ⟨h1, h2, h3, h4, h5, h6, h7, h8, h9, h10⟩ := hM
  have q33 : ∀ k, k ≠ 37 → hI (sI (sI (sI H1 58 o.length (nI a)) 59 o.length (nI b)) 33 37 (nI (o.length + 1))) 33 k = hI H1 33 k := fun k hk => by rw [hI_sI', if_neg (by omega), hI_sI', if_neg (by omega), hI_sI', if_neg (by omega)]
  refine ⟨eqM_sI (eqM_sI (eqM_sI h1 (by unfold isMr; omega)) (by unfold isMr; omega)) (by unfold isMr; omega), MTp_k h2 (q33 44 (by decide)) (fun j => by rw [hI_sI', if_neg (by omega), hI_sI', if_neg (by omega), hI_sI', if_neg (by omega)]), mTok_k h3 (fun k hk => q33 k (by omega)) rfl, h4, by rw [q33 38 (by decide)]; exact h5, h6, ⟨by rw [hI_sI', if_pos ⟨rfl, rfl⟩, List.length_append]; rfl, fun i x hi => ?_⟩, ⟨by rw [q33 50 (by decide)]; exact h8.1, fun i x hi => by rw [hI_sI', if_neg (by omega), hI_sI', if_neg (by omega), hI_sI', if_neg (by omega)]; exact h8.2.1 i x hi, by rw [q33 51 (by decide)]; exact h8.2.2⟩, by rw [q33 41 (by decide)]; exact h9, by rw [q33 42 (by decide)]; exact h10⟩
  have q58 : hI (sI (sI (sI H1 58 o.length (nI a)) 59 o.length (nI b)) 33 37 (nI (o.length + 1))) 58 i = if i = o.length then nI a else hI H1 58 i := by
    rw [hI_sI', if_neg (by omega), hI_sI', if_neg (by omega), hI_sI']
    by_cases z : i = o.length
    · rw [if_pos ⟨rfl, z⟩, if_pos z]
    · rw [if_neg (fun y => z y.2), if_neg z]
  have q59 : hI (sI (sI (sI H1 58 o.length (nI a)) 59 o.length (nI b)) 33 37 (nI (o.length + 1))) 59 i = if i = o.length then nI b else hI H1 59 i := by
    rw [hI_sI', if_neg (by omega), hI_sI']
    by_cases z : i = o.length
    · rw [if_pos ⟨rfl, z⟩, if_pos z]
    · rw [if_neg (fun y => z y.2), if_neg z, hI_sI', if_neg (by omega)]
  rw [q58, q59]
  rcases getA hi with ⟨z1, z2⟩ | ⟨z1, z2⟩
  · rw [if_neg (by omega), if_neg (by omega)]; exact h7.2 i x z2
  · subst z2
    rw [if_pos z1, if_pos z1]; exact ⟨rfl, rfl⟩
theorem c_X12_step {a b : Nat} (hF : Fix H) (hM : MR H bf N s v o W H1) (hl : o.length < 600) (hq : ∀ H', MR H bf N s v (o ++ [(a, b)]) W H' → Q none H') : Wp mX12_step d 0 0 0 [some (.ref 33), some (.int (nI a)), some (.int (nI b))] [] H1 Q := by
  have hF1 := MR_fix hF hM
  have h37 := hM.2.2.2.2.2.2.1.1
  refine wp_aload_n dX12_step_0 rfl ?_
  refine wp_geta dX12_step_1 fl_RX12_93 rfl (fk_33 hF1) (fr_33_33 hF1) ?_
  refine wp_aload_n dX12_step_4 rfl ?_
  refine wp_geti dX12_step_5 fl_RX12_265 rfl (fk_33 hF1) ?_
  rw [h37]
  refine wp_iload_n dX12_step_8 rfl ?_
  refine wp_iastoreN dX12_step_9 (fk_58 hF1) (by omega) (by decide) ?_
  refine wp_aload_n dX12_step_10 rfl ?_
  refine wp_geta dX12_step_11 fl_RX12_96 rfl (fk_33 (Fix_sI hF1)) (fr_33_34 (Fix_sI hF1)) ?_
  refine wp_aload_n dX12_step_14 rfl ?_
  refine wp_geti dX12_step_15 fl_RX12_265 rfl (fk_33 (Fix_sI hF1)) ?_
  rw [hI_sI', if_neg (by omega), h37]
  refine wp_iload_n dX12_step_18 rfl ?_
  refine wp_iastoreN dX12_step_19 (fk_59 (Fix_sI hF1)) (by omega) (by decide) ?_
  refine wp_aload_n dX12_step_20 rfl ?_
  refine wp_dup dX12_step_21 rfl ?_
  refine wp_geti dX12_step_22 fl_RX12_265 rfl (fk_33 (Fix_sI (Fix_sI hF1))) ?_
  rw [hI_sI', if_neg (by omega), hI_sI', if_neg (by omega), h37]
  refine wp_iconst (v := 1) dX12_step_25 (by decide) ?_
  refine wp_iadd dX12_step_26 ?_
  rw [nI_1]
  refine wp_puti dX12_step_27 fl_RX12_265 (mp_12_37 _ _) rfl (fk_33 (Fix_sI (Fix_sI hF1))) ?_
  refine wp_return rfl dX12_step_30 ?_
  exact hq _ (MR_put hM)
theorem MR_hold {x : Nat} {H2 : PH} (hM : MR H bf N s v o W H1) (e : H2 = sI (sI H1 62 W.length (nI x)) 33 50 (nI (W.length + 1))) (hx : isN x = false) : MR H bf N s v o (x :: W) H2 := by
  subst e
  obtain ⟨h1, h2, h3, h4, h5, h6, h7, h8, h9, h10⟩ := hM
  have q33 : ∀ k, k ≠ 50 → hI (sI (sI H1 62 W.length (nI x)) 33 50 (nI (W.length + 1))) 33 k = hI H1 33 k := fun k hk => by rw [hI_sI', if_neg (by omega), hI_sI', if_neg (by omega)]
  have qo : ∀ a k, a ≠ 33 → a ≠ 62 → hI (sI (sI H1 62 W.length (nI x)) 33 50 (nI (W.length + 1))) a k = hI H1 a k := fun a k h1 h2 => by rw [hI_sI', if_neg (by omega), hI_sI', if_neg (by omega)]
  refine ⟨eqM_sI (eqM_sI h1 (by unfold isMr; omega)) (by unfold isMr; omega), MTp_k h2 (q33 44 (by decide)) (fun j => qo 61 j (by decide) (by decide)), mTok_k h3 (fun k hk => q33 k (by omega)) rfl, h4, by rw [q33 38 (by decide)]; exact h5, h6, ⟨by rw [q33 37 (by decide)]; exact h7.1, fun i y hi => by rw [qo 58 i (by decide) (by decide), qo 59 i (by decide) (by decide)]; exact h7.2 i y hi⟩, ⟨by rw [hI_sI', if_pos ⟨rfl, rfl⟩]; rfl, fun i y hi => ?_, ?_⟩, by rw [q33 41 (by decide)]; exact h9, by rw [q33 42 (by decide)]; exact h10⟩
  · rw [List.reverse_cons] at hi
    rw [hI_sI', if_neg (by omega), hI_sI']
    rcases getA hi with ⟨z1, z2⟩ | ⟨z1, z2⟩
    · rw [List.length_reverse] at z1
      rw [if_neg (by omega)]; exact h8.2.1 i y z2
    · rw [List.length_reverse] at z1
      subst z1; subst z2
      rw [if_pos ⟨rfl, rfl⟩]
  · rw [q33 51 (by decide), h8.2.2]
    show nI (deepW W) = nI (deepW W + (if isN x = true then 1 else 0))
    rw [hx]; rfl
theorem MR_deep {x : Nat} {H2 : PH} (hM : MR H bf N s v o W H1) (e : H2 = sI (sI (sI H1 62 W.length (nI x)) 33 50 (nI (W.length + 1))) 33 51 (nI (deepW W + 1))) (hx : isN x = true) : MR H bf N s v o (x :: W) H2 := by
  subst e
  obtain ⟨h1, h2, h3, h4, h5, h6, h7, h8, h9, h10⟩ := hM
  have q33 : ∀ k, k ≠ 50 → k ≠ 51 → hI (sI (sI (sI H1 62 W.length (nI x)) 33 50 (nI (W.length + 1))) 33 51 (nI (deepW W + 1))) 33 k = hI H1 33 k := fun k hk hk2 => by rw [hI_sI', if_neg (by omega), hI_sI', if_neg (by omega), hI_sI', if_neg (by omega)]
  have qo : ∀ a k, a ≠ 33 → a ≠ 62 → hI (sI (sI (sI H1 62 W.length (nI x)) 33 50 (nI (W.length + 1))) 33 51 (nI (deepW W + 1))) a k = hI H1 a k := fun a k h1 h2 => by rw [hI_sI', if_neg (by omega), hI_sI', if_neg (by omega), hI_sI', if_neg (by omega)]
  refine ⟨eqM_sI (eqM_sI (eqM_sI h1 (by unfold isMr; omega)) (by unfold isMr; omega)) (by unfold isMr; omega), MTp_k h2 (q33 44 (by decide) (by decide)) (fun j => qo 61 j (by decide) (by decide)), mTok_k h3 (fun k hk => q33 k (by omega) (by omega)) rfl, h4, by rw [q33 38 (by decide) (by decide)]; exact h5, h6, ⟨by rw [q33 37 (by decide) (by decide)]; exact h7.1, fun i y hi => by rw [qo 58 i (by decide) (by decide), qo 59 i (by decide) (by decide)]; exact h7.2 i y hi⟩, ⟨by rw [hI_sI', if_neg (by omega), hI_sI', if_pos ⟨rfl, rfl⟩]; rfl, fun i y hi => ?_, ?_⟩, by rw [q33 41 (by decide) (by decide)]; exact h9, by rw [q33 42 (by decide) (by decide)]; exact h10⟩
  · rw [List.reverse_cons] at hi
    rw [hI_sI', if_neg (by omega), hI_sI', if_neg (by omega), hI_sI']
    rcases getA hi with ⟨z1, z2⟩ | ⟨z1, z2⟩
    · rw [List.length_reverse] at z1
      rw [if_neg (by omega)]; exact h8.2.1 i y z2
    · rw [List.length_reverse] at z1
      subst z1; subst z2
      rw [if_pos ⟨rfl, rfl⟩]
  · rw [hI_sI', if_pos ⟨rfl, rfl⟩]
    show _ = nI (deepW W + (if isN x = true then 1 else 0))
    rw [hx]; rfl
theorem c_X12_hold {x : Nat} (hx : x < 100) (hF : Fix H) (hM : MR H bf N s v o W H1) (hl : W.length < 400) (hq : ∀ H', MR H bf N s v o (x :: W) H' → Q none H') : Wp mX12_hold d 0 0 0 [some (.ref 33), some (.int (nI x))] [] H1 Q := by
  have hF1 := MR_fix hF hM
  have h50 := hM.2.2.2.2.2.2.2.1.1
  have h51 := hM.2.2.2.2.2.2.2.1.2.2
  have ex : ∀ k : Nat, k < 100 → (nI x = nI k ↔ x = k) := fun k hk => nI_eq (by omega) (by omega)
  have hno : isN x = false → ∀ H2, H2 = sI (sI H1 62 W.length (nI x)) 33 50 (nI (W.length + 1)) → Q none H2 := fun h H2 e => hq _ (MR_hold hM e h)
  have hye : isN x = true → ∀ H2, H2 = sI (sI (sI H1 62 W.length (nI x)) 33 50 (nI (W.length + 1))) 33 51 (nI (deepW W + 1)) → Q none H2 := fun h H2 e => hq _ (MR_deep hM e h)
  refine wp_aload_n dX12_hold_0 rfl ?_
  refine wp_geta dX12_hold_1 fl_RX12_108 rfl (fk_33 hF1) (fr_33_49 hF1) ?_
  refine wp_aload_n dX12_hold_4 rfl ?_
  refine wp_geti dX12_hold_5 fl_RX12_268 rfl (fk_33 hF1) ?_
  rw [h50]
  refine wp_iload_n dX12_hold_8 rfl ?_
  refine wp_iastoreN dX12_hold_9 (fk_62 hF1) (by omega) (by decide) ?_
  refine wp_aload_n dX12_hold_10 rfl ?_
  refine wp_dup dX12_hold_11 rfl ?_
  refine wp_geti dX12_hold_12 fl_RX12_268 rfl (fk_33 (Fix_sI hF1)) ?_
  rw [hI_sI', if_neg (by omega), h50]
  refine wp_iconst (v := 1) dX12_hold_15 (by decide) ?_
  refine wp_iadd dX12_hold_16 ?_
  rw [nI_1]
  refine wp_puti dX12_hold_17 fl_RX12_268 (mp_12_50 _ _) rfl (fk_33 (Fix_sI hF1)) ?_
  refine wp_iload_n dX12_hold_20 rfl ?_
  refine wp_bipush (v := 51) dX12_hold_21 (by decide) ?_
  refine wp_icmp_eq (tgt := 38) dX12_hold_23 (by decide) (fun h23 => ?_) (fun h23 => ?_)
  · refine wp_aload_n dX12_hold_38 rfl ?_
    refine wp_dup dX12_hold_39 rfl ?_
    refine wp_geti dX12_hold_40 fl_RX12_271 rfl (fk_33 (Fix_sI (Fix_sI hF1))) ?_
    rw [hI_sI', if_neg (by omega), hI_sI', if_neg (by omega), h51]
    refine wp_iconst (v := 1) dX12_hold_43 (by decide) ?_
    refine wp_iadd dX12_hold_44 ?_
    rw [nI_1]
    refine wp_puti dX12_hold_45 fl_RX12_271 (mp_12_51 _ _) rfl (fk_33 (Fix_sI (Fix_sI hF1))) ?_
    refine wp_return rfl dX12_hold_48 ?_
    first
        | exact hno (decide_eq_false (fun z => by rcases z with z | z | z <;> first | exact h23 ((ex 51 (by decide)).mpr z) | exact h29 ((ex 40 (by decide)).mpr z) | exact h35 ((ex 50 (by decide)).mpr z))) _ rfl
        | exact hye (decide_eq_true (Or.inl ((ex 51 (by decide)).mp h23))) _ rfl
        | exact hye (decide_eq_true (Or.inr (Or.inl ((ex 40 (by decide)).mp h29)))) _ rfl
        | exact hye (decide_eq_true (Or.inr (Or.inr ((ex 50 (by decide)).mp h35)))) _ rfl
  · refine wp_iload_n dX12_hold_26 rfl ?_
    refine wp_bipush (v := 40) dX12_hold_27 (by decide) ?_
    refine wp_icmp_eq (tgt := 38) dX12_hold_29 (by decide) (fun h29 => ?_) (fun h29 => ?_)
    · refine wp_aload_n dX12_hold_38 rfl ?_
      refine wp_dup dX12_hold_39 rfl ?_
      refine wp_geti dX12_hold_40 fl_RX12_271 rfl (fk_33 (Fix_sI (Fix_sI hF1))) ?_
      rw [hI_sI', if_neg (by omega), hI_sI', if_neg (by omega), h51]
      refine wp_iconst (v := 1) dX12_hold_43 (by decide) ?_
      refine wp_iadd dX12_hold_44 ?_
      rw [nI_1]
      refine wp_puti dX12_hold_45 fl_RX12_271 (mp_12_51 _ _) rfl (fk_33 (Fix_sI (Fix_sI hF1))) ?_
      refine wp_return rfl dX12_hold_48 ?_
      first
          | exact hno (decide_eq_false (fun z => by rcases z with z | z | z <;> first | exact h23 ((ex 51 (by decide)).mpr z) | exact h29 ((ex 40 (by decide)).mpr z) | exact h35 ((ex 50 (by decide)).mpr z))) _ rfl
          | exact hye (decide_eq_true (Or.inl ((ex 51 (by decide)).mp h23))) _ rfl
          | exact hye (decide_eq_true (Or.inr (Or.inl ((ex 40 (by decide)).mp h29)))) _ rfl
          | exact hye (decide_eq_true (Or.inr (Or.inr ((ex 50 (by decide)).mp h35)))) _ rfl
    · refine wp_iload_n dX12_hold_32 rfl ?_
      refine wp_bipush (v := 50) dX12_hold_33 (by decide) ?_
      refine wp_icmp_ne (tgt := 48) dX12_hold_35 (by decide) (fun h35 => ?_) (fun h35 => ?_)
      · refine wp_return rfl dX12_hold_48 ?_
        first
            | exact hno (decide_eq_false (fun z => by rcases z with z | z | z <;> first | exact h23 ((ex 51 (by decide)).mpr z) | exact h29 ((ex 40 (by decide)).mpr z) | exact h35 ((ex 50 (by decide)).mpr z))) _ rfl
            | exact hye (decide_eq_true (Or.inl ((ex 51 (by decide)).mp h23))) _ rfl
            | exact hye (decide_eq_true (Or.inr (Or.inl ((ex 40 (by decide)).mp h29)))) _ rfl
            | exact hye (decide_eq_true (Or.inr (Or.inr ((ex 50 (by decide)).mp h35)))) _ rfl
      · refine wp_aload_n dX12_hold_38 rfl ?_
        refine wp_dup dX12_hold_39 rfl ?_
        refine wp_geti dX12_hold_40 fl_RX12_271 rfl (fk_33 (Fix_sI (Fix_sI hF1))) ?_
        rw [hI_sI', if_neg (by omega), hI_sI', if_neg (by omega), h51]
        refine wp_iconst (v := 1) dX12_hold_43 (by decide) ?_
        refine wp_iadd dX12_hold_44 ?_
        rw [nI_1]
        refine wp_puti dX12_hold_45 fl_RX12_271 (mp_12_51 _ _) rfl (fk_33 (Fix_sI (Fix_sI hF1))) ?_
        refine wp_return rfl dX12_hold_48 ?_
        first
            | exact hno (decide_eq_false (fun z => by rcases z with z | z | z <;> first | exact h23 ((ex 51 (by decide)).mpr z) | exact h29 ((ex 40 (by decide)).mpr z) | exact h35 ((ex 50 (by decide)).mpr z))) _ rfl
            | exact hye (decide_eq_true (Or.inl ((ex 51 (by decide)).mp h23))) _ rfl
            | exact hye (decide_eq_true (Or.inr (Or.inl ((ex 40 (by decide)).mp h29)))) _ rfl
            | exact hye (decide_eq_true (Or.inr (Or.inr ((ex 50 (by decide)).mp h35)))) _ rfl
/-- one taken off -/
theorem MR_off {x : Nat} {H2 : PH} (hM : MR H bf N s v o (x :: W) H1) (e : H2 = if isN x = true then sI (sI H1 33 50 (nI W.length)) 33 51 (nI (deepW W)) else sI H1 33 50 (nI W.length)) : MR H bf N s v o W H2 := by
  obtain ⟨h1, h2, h3, h4, h5, h6, h7, h8, h9, h10⟩ := hM
  have hrev : ∀ i y, W.reverse[i]? = some y → hI H1 62 i = nI y := fun i y hi => h8.2.1 i y (by
    rw [List.reverse_cons, List.getElem?_append_left (List.getElem?_eq_some_iff.mp hi).1]; exact hi)
  by_cases q : isN x = true
  · rw [if_pos q] at e
    subst e
    have q33 : ∀ k, k ≠ 50 → k ≠ 51 → hI (sI (sI H1 33 50 (nI W.length)) 33 51 (nI (deepW W))) 33 k = hI H1 33 k := fun k hk hk2 => by rw [hI_sI', if_neg (by omega), hI_sI', if_neg (by omega)]
    have qo : ∀ a k, a ≠ 33 → hI (sI (sI H1 33 50 (nI W.length)) 33 51 (nI (deepW W))) a k = hI H1 a k := fun a k h1 => by rw [hI_sI', if_neg (by omega), hI_sI', if_neg (by omega)]
    exact ⟨eqM_sI (eqM_sI h1 (by unfold isMr; omega)) (by unfold isMr; omega), MTp_k h2 (q33 44 (by decide) (by decide)) (fun j => qo 61 j (by decide)), mTok_k h3 (fun k hk => q33 k (by omega) (by omega)) rfl, h4, by rw [q33 38 (by decide) (by decide)]; exact h5, h6, ⟨by rw [q33 37 (by decide) (by decide)]; exact h7.1, fun i y hi => by rw [qo 58 i (by decide), qo 59 i (by decide)]; exact h7.2 i y hi⟩, ⟨by rw [hI_sI', if_neg (by omega), hI_sI', if_pos ⟨rfl, rfl⟩], fun i y hi => by rw [qo 62 i (by decide)]; exact hrev i y hi, by rw [hI_sI', if_pos ⟨rfl, rfl⟩]⟩, by rw [q33 41 (by decide) (by decide)]; exact h9, by rw [q33 42 (by decide) (by decide)]; exact h10⟩
  · rw [if_neg q] at e
    subst e
    have q33 : ∀ k, k ≠ 50 → hI (sI H1 33 50 (nI W.length)) 33 k = hI H1 33 k := fun k hk => by rw [hI_sI', if_neg (by omega)]
    have qo : ∀ a k, a ≠ 33 → hI (sI H1 33 50 (nI W.length)) a k = hI H1 a k := fun a k h1 => by rw [hI_sI', if_neg (by omega)]
    have hd : deepW (x :: W) = deepW W := by show deepW W + (if isN x = true then 1 else 0) = _; rw [if_neg q]; rfl
    exact ⟨eqM_sI h1 (by unfold isMr; omega), MTp_k h2 (q33 44 (by decide)) (fun j => qo 61 j (by decide)), mTok_k h3 (fun k hk => q33 k (by omega)) rfl, h4, by rw [q33 38 (by decide)]; exact h5, h6, ⟨by rw [q33 37 (by decide)]; exact h7.1, fun i y hi => by rw [qo 58 i (by decide), qo 59 i (by decide)]; exact h7.2 i y hi⟩, ⟨by rw [hI_sI', if_pos ⟨rfl, rfl⟩], fun i y hi => by rw [qo 62 i (by decide)]; exact hrev i y hi, by rw [q33 51 (by decide), h8.2.2, hd]⟩, by rw [q33 41 (by decide)]; exact h9, by rw [q33 42 (by decide)]; exact h10⟩
theorem top_62 {x : Nat} (hM : MR H bf N s v o (x :: W) H1) : hI H1 62 W.length = nI x := hM.2.2.2.2.2.2.2.1.2.1 W.length x (by rw [List.reverse_cons, List.getElem?_append_right (by rw [List.length_reverse]; exact Nat.le_refl _), List.length_reverse, Nat.sub_self]; rfl)
theorem c_X12_pop {x : Nat} (hx : x < 100) (hx5 : x ≠ 51) (hF : Fix H) (hM : MR H bf N s v o (x :: W) H1) (hl : o.length < 600) (hw : W.length < 400) (hq : ∀ H', MR H bf N s v (o ++ [(x, 0)]) W H' → Q none H') : Wp mX12_pop (d + 1) 0 0 0 [some (.ref 33)] [] H1 Q := by
  have hF1 := MR_fix hF hM
  have h50 : hI H1 33 50 = nI (W.length + 1) := hM.2.2.2.2.2.2.2.1.1
  have h51 := hM.2.2.2.2.2.2.2.1.2.2
  have h62 := top_62 hM
  have ex : ∀ k : Nat, k < 100 → (nI x = nI k ↔ x = k) := fun k hk => nI_eq (by omega) (by omega)
  by_cases q : isN x = true
  · have hM2 := MR_off hM (H2 := sI (sI H1 33 50 (nI W.length)) 33 51 (nI (deepW W))) (by rw [if_pos q])
    have hF2 := MR_fix hF hM2
    have hd : deepW (x :: W) = deepW W + 1 := by show deepW W + (if isN x = true then 1 else 0) = _; rw [if_pos q]
    rw [hd] at h51
    have hx2 : x = 40 ∨ x = 50 := by have : x = 51 ∨ x = 40 ∨ x = 50 := of_decide_eq_true q; omega
    have tail : Wp mX12_pop (d + 1) 0 0 38 [some (.ref 33)] [] (sI H1 33 50 (nI W.length)) Q := by
      refine wp_aload_n dX12_pop_38 rfl ?_
      refine wp_dup dX12_pop_39 rfl ?_
      refine wp_geti dX12_pop_40 fl_RX12_271 rfl (fk_33 (Fix_sI hF1)) ?_
      rw [hI_sI', if_neg (by omega), h51]
      refine wp_iconst (v := 1) dX12_pop_43 (by decide) ?_
      refine wp_isub dX12_pop_44 ?_
      rw [nI_pred]
      refine wp_puti dX12_pop_45 fl_RX12_271 (mp_12_51 _ _) rfl (fk_33 (Fix_sI hF1)) ?_
      refine wp_aload_n dX12_pop_48 rfl ?_
      refine wp_aload_n dX12_pop_49 rfl ?_
      refine wp_geta dX12_pop_50 fl_RX12_108 rfl (fk_33 (Fix_sI (Fix_sI hF1))) (fr_33_49 (Fix_sI (Fix_sI hF1))) ?_
      refine wp_aload_n dX12_pop_53 rfl ?_
      refine wp_geti dX12_pop_54 fl_RX12_268 rfl (fk_33 (Fix_sI (Fix_sI hF1))) ?_
      rw [hI_sI', if_neg (by omega), hI_sI', if_pos ⟨rfl, rfl⟩]
      refine wp_ialoadN dX12_pop_57 (fk_62 (Fix_sI (Fix_sI hF1))) (by omega) (by decide) ?_
      rw [hI_sI', if_neg (by omega), hI_sI', if_neg (by omega), h62]
      refine wp_iconst (v := 0) dX12_pop_58 (by decide) ?_
      refine wp_callv2 (ci := 12) dX12_pop_59 lk_RX12_274 ok_X12_step im_X12_step se_X12_step rfl rfl (fk_33 (Fix_sI (Fix_sI hF1))) (Nat.le_of_ble_eq_true rfl) (Nat.le_of_ble_eq_true rfl) ?_
      refine c_X12_step (b := 0) hF hM2 hl (fun H' hM' => ?_)
      refine wp_return rfl dX12_pop_62 ?_
      exact hq H' hM'
    refine wp_aload_n dX12_pop_0 rfl ?_
    refine wp_dup dX12_pop_1 rfl ?_
    refine wp_geti dX12_pop_2 fl_RX12_268 rfl (fk_33 hF1) ?_
    rw [h50]
    refine wp_iconst (v := 1) dX12_pop_5 (by decide) ?_
    refine wp_isub dX12_pop_6 ?_
    rw [nI_pred]
    refine wp_puti dX12_pop_7 fl_RX12_268 (mp_12_50 _ _) rfl (fk_33 hF1) ?_
    refine wp_aload_n dX12_pop_10 rfl ?_
    refine wp_geta dX12_pop_11 fl_RX12_108 rfl (fk_33 (Fix_sI hF1)) (fr_33_49 (Fix_sI hF1)) ?_
    refine wp_aload_n dX12_pop_14 rfl ?_
    refine wp_geti dX12_pop_15 fl_RX12_268 rfl (fk_33 (Fix_sI hF1)) ?_
    rw [hI_sI', if_pos ⟨rfl, rfl⟩]
    refine wp_ialoadN dX12_pop_18 (fk_62 (Fix_sI hF1)) (by omega) (by decide) ?_
    rw [hI_sI', if_neg (by omega), h62]
    refine wp_bipush (v := 40) dX12_pop_19 (by decide) ?_
    refine wp_icmp_eq (tgt := 38) dX12_pop_21 (by decide) (fun h21 => ?_) (fun h21 => ?_)
    · exact tail
    · refine wp_aload_n dX12_pop_24 rfl ?_
      refine wp_geta dX12_pop_25 fl_RX12_108 rfl (fk_33 (Fix_sI hF1)) (fr_33_49 (Fix_sI hF1)) ?_
      refine wp_aload_n dX12_pop_28 rfl ?_
      refine wp_geti dX12_pop_29 fl_RX12_268 rfl (fk_33 (Fix_sI hF1)) ?_
      rw [hI_sI', if_pos ⟨rfl, rfl⟩]
      refine wp_ialoadN dX12_pop_32 (fk_62 (Fix_sI hF1)) (by omega) (by decide) ?_
      rw [hI_sI', if_neg (by omega), h62]
      refine wp_bipush (v := 50) dX12_pop_33 (by decide) ?_
      refine wp_icmp_ne (tgt := 48) dX12_pop_35 (by decide) (fun h35 => ?_) (fun h35 => ?_)
      · exact absurd hx2 (fun z => z.elim (fun y => h21 ((ex 40 (by decide)).mpr y)) (fun y => h35 ((ex 50 (by decide)).mpr y)))
      · exact tail
  · have hM2 := MR_off hM (H2 := sI H1 33 50 (nI W.length)) (by rw [if_neg q])
    have hF2 := MR_fix hF hM2
    have hx2 : ¬ (x = 51 ∨ x = 40 ∨ x = 50) := fun z => q (decide_eq_true z)
    refine wp_aload_n dX12_pop_0 rfl ?_
    refine wp_dup dX12_pop_1 rfl ?_
    refine wp_geti dX12_pop_2 fl_RX12_268 rfl (fk_33 hF1) ?_
    rw [h50]
    refine wp_iconst (v := 1) dX12_pop_5 (by decide) ?_
    refine wp_isub dX12_pop_6 ?_
    rw [nI_pred]
    refine wp_puti dX12_pop_7 fl_RX12_268 (mp_12_50 _ _) rfl (fk_33 hF1) ?_
    refine wp_aload_n dX12_pop_10 rfl ?_
    refine wp_geta dX12_pop_11 fl_RX12_108 rfl (fk_33 (Fix_sI hF1)) (fr_33_49 (Fix_sI hF1)) ?_
    refine wp_aload_n dX12_pop_14 rfl ?_
    refine wp_geti dX12_pop_15 fl_RX12_268 rfl (fk_33 (Fix_sI hF1)) ?_
    rw [hI_sI', if_pos ⟨rfl, rfl⟩]
    refine wp_ialoadN dX12_pop_18 (fk_62 (Fix_sI hF1)) (by omega) (by decide) ?_
    rw [hI_sI', if_neg (by omega), h62]
    refine wp_bipush (v := 40) dX12_pop_19 (by decide) ?_
    refine wp_icmp_eq (tgt := 38) dX12_pop_21 (by decide) (fun h21 => absurd h21 (fun z => hx2 (Or.inr (Or.inl ((ex 40 (by decide)).mp z))))) (fun _ => ?_)
    refine wp_aload_n dX12_pop_24 rfl ?_
    refine wp_geta dX12_pop_25 fl_RX12_108 rfl (fk_33 (Fix_sI hF1)) (fr_33_49 (Fix_sI hF1)) ?_
    refine wp_aload_n dX12_pop_28 rfl ?_
    refine wp_geti dX12_pop_29 fl_RX12_268 rfl (fk_33 (Fix_sI hF1)) ?_
    rw [hI_sI', if_pos ⟨rfl, rfl⟩]
    refine wp_ialoadN dX12_pop_32 (fk_62 (Fix_sI hF1)) (by omega) (by decide) ?_
    rw [hI_sI', if_neg (by omega), h62]
    refine wp_bipush (v := 50) dX12_pop_33 (by decide) ?_
    refine wp_icmp_ne (tgt := 48) dX12_pop_35 (by decide) (fun _ => ?_) (fun h35 => absurd h35 (fun z => hx2 (Or.inr (Or.inr ((ex 50 (by decide)).mp z)))))
    refine wp_aload_n dX12_pop_48 rfl ?_
    refine wp_aload_n dX12_pop_49 rfl ?_
    refine wp_geta dX12_pop_50 fl_RX12_108 rfl (fk_33 (Fix_sI hF1)) (fr_33_49 (Fix_sI hF1)) ?_
    refine wp_aload_n dX12_pop_53 rfl ?_
    refine wp_geti dX12_pop_54 fl_RX12_268 rfl (fk_33 (Fix_sI hF1)) ?_
    rw [hI_sI', if_pos ⟨rfl, rfl⟩]
    refine wp_ialoadN dX12_pop_57 (fk_62 (Fix_sI hF1)) (by omega) (by decide) ?_
    rw [hI_sI', if_neg (by omega), h62]
    refine wp_iconst (v := 0) dX12_pop_58 (by decide) ?_
    refine wp_callv2 (ci := 12) dX12_pop_59 lk_RX12_274 ok_X12_step im_X12_step se_X12_step rfl rfl (fk_33 (Fix_sI hF1)) (Nat.le_of_ble_eq_true rfl) (Nat.le_of_ble_eq_true rfl) ?_
    refine c_X12_step (b := 0) hF hM2 hl (fun H' hM' => ?_)
    refine wp_return rfl dX12_pop_62 ?_
    exact hq H' hM'
theorem c_X12_settle {l : Nat} (hl9 : l < 100) (hF : Fix H) : ∀ (W : List Nat) (o : OL) (H1 : PH), MR H bf N s v o W H1 → RB9 o W → (∀ H', MR H bf N s v (stp (pS l) W o).2 (stp (pS l) W o).1 H' → Q none H') → Wp mX12_settle (d + 2) 0 0 0 [some (.ref 33), some (.int (nI l))] [] H1 Q
  | [], o, H1, hM, hb, hq => by
    have hF1 := MR_fix hF hM
    have h50 : hI H1 33 50 = nI 0 := hM.2.2.2.2.2.2.2.1.1
    refine wp_aload_n dX12_settle_0 rfl ?_
    refine wp_geti dX12_settle_1 fl_RX12_268 rfl (fk_33 hF1) ?_
    rw [h50]
    refine wp_if_le (tgt := 45) dX12_settle_4 (by decide) (fun _ => ?_) (fun h4 => absurd h4 (fun q => q (by decide)))
    refine wp_return rfl dX12_settle_45 ?_
    exact hq H1 hM
  | x :: W, o, H1, hM, hb, hq => by
    have hF1 := MR_fix hF hM
    have h50 : hI H1 33 50 = nI (W.length + 1) := hM.2.2.2.2.2.2.2.1.1
    have h62 := top_62 hM
    obtain ⟨b1, b2, b3, b4⟩ := hb
    have b1' : o.length + (W.length + 1) ≤ 600 := b1
    have b2' : W.length + 1 ≤ 390 := b2
    have hx := b4 x (List.mem_cons_self ..)
    have ex : ∀ k : Nat, k < 100 → (nI x = nI k ↔ x = k) := fun k hk => nI_eq (by omega) (by omega)
    by_cases q : pS l x = true
    · have hp : l ≤ x ∧ x ≠ 51 := of_decide_eq_true q
      rw [stp_t q] at hq
      have rec' := fun H' hM' => c_X12_settle hl9 hF W (o ++ [(x, 0)]) H' hM' ⟨by rw [List.length_append]; show o.length + 1 + W.length ≤ 600; omega, by omega, by
          have : deepW (x :: W) = deepW W + (if isN x = true then 1 else 0) := rfl
          omega, fun y hy => b4 y (List.mem_cons_of_mem _ hy)⟩ hq
      refine wp_aload_n dX12_settle_0 rfl ?_
      refine wp_geti dX12_settle_1 fl_RX12_268 rfl (fk_33 hF1) ?_
      rw [h50]
      refine wp_if_le (tgt := 45) dX12_settle_4 (by decide) (fun h4 => absurd h4 (nI_nle (by omega) (by omega))) (fun _ => ?_)
      refine wp_aload_n dX12_settle_7 rfl ?_
      refine wp_geta dX12_settle_8 fl_RX12_108 rfl (fk_33 hF1) (fr_33_49 hF1) ?_
      refine wp_aload_n dX12_settle_11 rfl ?_
      refine wp_geti dX12_settle_12 fl_RX12_268 rfl (fk_33 hF1) ?_
      rw [h50]
      refine wp_iconst (v := 1) dX12_settle_15 (by decide) ?_
      refine wp_isub dX12_settle_16 ?_
      rw [nI_pred]
      refine wp_ialoadN dX12_settle_17 (fk_62 hF1) (by omega) (by decide) ?_
      rw [h62]
      refine wp_bipush (v := 51) dX12_settle_18 (by decide) ?_
      refine wp_icmp_eq (tgt := 45) dX12_settle_20 (by decide) (fun h20 => absurd h20 (fun z => hp.2 ((ex 51 (by decide)).mp z))) (fun _ => ?_)
      refine wp_aload_n dX12_settle_23 rfl ?_
      refine wp_geta dX12_settle_24 fl_RX12_108 rfl (fk_33 hF1) (fr_33_49 hF1) ?_
      refine wp_aload_n dX12_settle_27 rfl ?_
      refine wp_geti dX12_settle_28 fl_RX12_268 rfl (fk_33 hF1) ?_
      rw [h50]
      refine wp_iconst (v := 1) dX12_settle_31 (by decide) ?_
      refine wp_isub dX12_settle_32 ?_
      rw [nI_pred]
      refine wp_ialoadN dX12_settle_33 (fk_62 hF1) (by omega) (by decide) ?_
      rw [h62]
      refine wp_iload_n dX12_settle_34 rfl ?_
      refine wp_icmp_lt (tgt := 45) dX12_settle_35 (by decide) (fun h35 => absurd h35 (nI_nlt hp.1 (by omega))) (fun _ => ?_)
      refine wp_aload_n dX12_settle_38 rfl ?_
      refine wp_callv0 (ci := 12) dX12_settle_39 lk_RX12_277 ok_X12_pop im_X12_pop se_X12_pop rfl rfl (fk_33 hF1) (Nat.le_of_ble_eq_true rfl) (Nat.le_of_ble_eq_true rfl) ?_
      refine c_X12_pop hx hp.2 hF hM (by omega) (by omega) (fun H' hM' => ?_)
      refine wp_goto (tgt := 0) dX12_settle_42 (by decide) ?_
      exact rec' H' hM'
    · have hp : ¬ (l ≤ x ∧ x ≠ 51) := fun z => q (decide_eq_true z)
      rw [stp_f (by simpa using q)] at hq
      refine wp_aload_n dX12_settle_0 rfl ?_
      refine wp_geti dX12_settle_1 fl_RX12_268 rfl (fk_33 hF1) ?_
      rw [h50]
      refine wp_if_le (tgt := 45) dX12_settle_4 (by decide) (fun h4 => absurd h4 (nI_nle (by omega) (by omega))) (fun _ => ?_)
      refine wp_aload_n dX12_settle_7 rfl ?_
      refine wp_geta dX12_settle_8 fl_RX12_108 rfl (fk_33 hF1) (fr_33_49 hF1) ?_
      refine wp_aload_n dX12_settle_11 rfl ?_
      refine wp_geti dX12_settle_12 fl_RX12_268 rfl (fk_33 hF1) ?_
      rw [h50]
      refine wp_iconst (v := 1) dX12_settle_15 (by decide) ?_
      refine wp_isub dX12_settle_16 ?_
      rw [nI_pred]
      refine wp_ialoadN dX12_settle_17 (fk_62 hF1) (by omega) (by decide) ?_
      rw [h62]
      refine wp_bipush (v := 51) dX12_settle_18 (by decide) ?_
      refine wp_icmp_eq (tgt := 45) dX12_settle_20 (by decide) (fun h20 => ?_) (fun h20 => ?_)
      · refine wp_return rfl dX12_settle_45 ?_
        exact hq H1 hM
      · refine wp_aload_n dX12_settle_23 rfl ?_
        refine wp_geta dX12_settle_24 fl_RX12_108 rfl (fk_33 hF1) (fr_33_49 hF1) ?_
        refine wp_aload_n dX12_settle_27 rfl ?_
        refine wp_geti dX12_settle_28 fl_RX12_268 rfl (fk_33 hF1) ?_
        rw [h50]
        refine wp_iconst (v := 1) dX12_settle_31 (by decide) ?_
        refine wp_isub dX12_settle_32 ?_
        rw [nI_pred]
        refine wp_ialoadN dX12_settle_33 (fk_62 hF1) (by omega) (by decide) ?_
        rw [h62]
        refine wp_iload_n dX12_settle_34 rfl ?_
        refine wp_icmp_lt (tgt := 45) dX12_settle_35 (by decide) (fun h35 => ?_) (fun h35 => ?_)
        · refine wp_return rfl dX12_settle_45 ?_
          exact hq H1 hM
        · exact absurd ⟨Nat.le_of_not_lt (fun z => h35 (nI_lt z (by omega))), fun z => h20 ((ex 51 (by decide)).mpr z)⟩ hp
end MO
