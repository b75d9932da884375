/-! ===== price of the class ===== -/
theorem c_X11_price {d m : Nat} {jo fr tt : Nat → Nat} {x1 x2 : Int32} {H : PH} {Q : Option Value → PH → Prop} (hF : Fix H) (hJ : JS H m jo fr tt) (hq0 : ¬ ((0 ≤ x1 ∧ x1 < nI m) ∧ 0 ≤ x2 ∧ x2 ≤ 1000) → Q (some (.int 0)) H)
    (hq1 : ∀ j, j < m → x1 = nI j → 0 ≤ x2 → x2 ≤ 1000 → ∃ o E A p q r, hR H (jo j) 6 = some A ∧ PL H A p q r o.length E.length ∧ (22 < p ∧ 22 < q ∧ 22 < r) ∧ o.length ≤ 600 ∧ E.length ≤ 10 ∧ (∀ i x, o[i]? = some x → hI H p i = encC x) ∧ (∀ i, i < E.length → hI H q i = nI (E.getD i (0, 0)).1 ∧ hI H r i = nI (E.getD i (0, 0)).2) ∧ LF o E ∧ (∀ x, x ∈ o → okI x) ∧ vls o ≤ 100 ∧ ∀ H', eqX isPq H H' → Q (some (.int (prV (nmF (hI H (jo j) 0) (wy H (fr j) (tt j)) (hI H (jo j) 4) (hI H (jo j) 3) (hI H (jo j) 5) x2) o E E.length 0))) H') : Wp mX11_price (d + 4) 0 0 0 [some (.ref 1), some (.int x1), some (.int x2), none] [] H Q := by
  have hJ0 := hJ
  obtain ⟨hn, h10, hr, hk, h69, hinj, hfr, htt⟩ := hJ
  have fA : ∀ j, j < m → x1 = nI j → Wp mX11_price (d + 4) 0 0 13 [some (.ref 1), some (.int x1), some (.int x2), some (.ref (jo j))] [] H Q := by
    intro j hj hxj
    have hkj := hk j hj
    have ef := (hfr j hj).1
    have et := (htt j hj).1
    have q9 := h69 j hj
    have hin : 0 ≤ x1 ∧ x1 < nI m := by rw [hxj]; exact ⟨nI_pos' (by omega), nI_lt hj (by omega)⟩
    have f26 : 0 ≤ x2 → x2 ≤ 1000 → Wp mX11_price (d + 4) 0 0 26 [some (.ref 1), some (.int x1), some (.int x2), some (.ref (jo j))] [] H Q := by
      intro h2 h3
      obtain ⟨o, E, A, p, q, r, g0, g1, g2, g3, g4, g5, g6, g7, g8, g9, gq⟩ := hq1 j hj hxj h2 h3
      have hfj := (hfr j hj).2
      have htj := (htt j hj).2
      generalize jo j = J at *
      refine wp_aload_n dX11_price_26 rfl ?_
      refine wp_geta dX11_price_27 fl_RX11_60 rfl (fk_1 hF) (fr_1_6 hF) ?_
      refine wp_aload_n dX11_price_30 rfl ?_
      refine wp_aload_n dX11_price_31 rfl ?_
      refine wp_geta dX11_price_32 fl_RX11_19 rfl (fk_1 hF) (fr_1_1 hF) ?_
      refine wp_aload_n dX11_price_35 rfl ?_
      refine wp_geti dX11_price_36 fl_RX11_204 rfl (hkj) ?_
      rw [ef]
      refine wp_aload_n dX11_price_39 rfl ?_
      refine wp_geti dX11_price_40 fl_RX11_207 rfl (hkj) ?_
      rw [et]
      refine wp_callv2 (ci := 1) dX11_price_43 lk_RX11_210 ok_X1_minutesBetween im_X1_minutesBetween se_X1_minutesBetween rfl rfl (fk_5 hF) (Nat.le_of_ble_eq_true rfl) (Nat.le_of_ble_eq_true rfl) ?_
      refine c_X1_minutesBetween hF hfj htj ?_
      refine wp_iload_n dX11_price_46 rfl ?_
      refine wp_callv3 (ci := 7) dX11_price_47 lk_RX11_213 ok_X7_quote im_X7_quote se_X7_quote rfl rfl (fk_20 hF) (Nat.le_of_ble_eq_true rfl) (Nat.le_of_ble_eq_true rfl) ?_
      refine c_X7_quote hF hkj q9 g0 g1 g2 g3 g4 g5 g6 g7 g8 g9 (fun H' hx => ?_)
      refine wp_ireturn rfl dX11_price_50 ?_
      exact gq H' hx
    generalize jo j = J at *
    refine wp_iload_n dX11_price_13 rfl ?_
    refine wp_iconst (v := 0) dX11_price_14 (by decide) ?_
    refine wp_sipush (v := 1000) dX11_price_15 (by decide) ?_
    refine wp_calls3 dX11_price_18 lk_RX11_201 ok_X11_within st_X11_within (Nat.le_of_ble_eq_true rfl) (Nat.le_of_ble_eq_true rfl) ?_
    refine c_X11_within ?_
    refine wp_ifb_ne (tgt := 26) dX11_price_21 (by decide) (fun h21 => ?_) (fun h21 => ?_)
    · exact f26 h21.1 h21.2
    · refine wp_iconst (v := 0) dX11_price_24 (by decide) ?_
      refine wp_ireturn rfl dX11_price_25 ?_
      exact hq0 (fun w => h21 w.2)
  have fB : ¬ (0 ≤ x1 ∧ x1 < nI m) → Q (some (.int 0)) H := fun h => hq0 (fun w => h w.1)
  have g : ∀ J : Option Nat, True := fun _ => trivial
  refine wp_aload_n dX11_price_0 rfl ?_
  refine wp_geta dX11_price_1 fl_RX11_19 rfl (fk_1 hF) (fr_1_1 hF) ?_
  refine wp_iload_n dX11_price_4 rfl ?_
  refine wp_callv1 (ci := 1) dX11_price_5 lk_RX11_124 ok_X1_find im_X1_find se_X1_find rfl rfl (fk_5 hF) (Nat.le_of_ble_eq_true rfl) (Nat.le_of_ble_eq_true rfl) ?_
  refine c_X1_find hF hJ0 (fun j hj hxj => ?_) (fun hx => ?_)
  · refine wp_astore_n dX11_price_8 (by decide) ?_
    refine wp_aload_n dX11_price_9 rfl ?_
    refine wp_ifnull (r := some _) (tgt := 24) dX11_price_10 (by decide) (fun h => by cases h) (fun _ _ => ?_)
    exact fA j hj hxj
  · refine wp_astore_nN dX11_price_8 (by decide) ?_
    refine wp_aload_nN dX11_price_9 rfl ?_
    refine wp_ifnull (r := none) (tgt := 24) dX11_price_10 (by decide) (fun _ => ?_) (fun _ h => by cases h)
    refine wp_iconst (v := 0) dX11_price_24 (by decide) ?_
    refine wp_ireturn rfl dX11_price_25 ?_
    exact fB hx
