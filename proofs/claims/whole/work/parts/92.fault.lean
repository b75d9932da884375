/-! ===== fault, of both ===== -/
section FLT
variable {d : Nat} {H : PH} {Q : Option Value → PH → Prop} {x : Int32}
def ftA (x a b : Int32) : Int32 := if x = 0 then a else if x = 1 then b else -1
theorem c_X11_fault (hF : Fix H) (hq : Q (some (.int (ftA x (hI H 16 11) (hI H 16 12)))) H) : Wp mX11_fault d 0 0 0 [some (.ref 1), some (.int x)] [] H Q := by
  by_cases h0 : x = 0
  · subst h0
    refine wp_iload_n dX11_fault_0 rfl ?_
    refine wp_lookup (tgt := 28) (off := 27) dX11_fault_1 (by decide) (by decide) (by decide) ?_
    refine wp_aload_n dX11_fault_28 rfl ?_
    refine wp_geta dX11_fault_29 fl_RX11_53 rfl (fk_1 hF) (fr_1_5 hF) ?_
    refine wp_geti dX11_fault_32 fl_RX11_195 rfl (fk_16 hF) ?_
    refine wp_ireturn rfl dX11_fault_35 ?_
    exact hq
  · by_cases h1 : x = 1
    · subst h1
      refine wp_iload_n dX11_fault_0 rfl ?_
      refine wp_lookup (tgt := 36) (off := 35) dX11_fault_1 (by decide) (by decide) (by decide) ?_
      refine wp_aload_n dX11_fault_36 rfl ?_
      refine wp_geta dX11_fault_37 fl_RX11_53 rfl (fk_1 hF) (fr_1_5 hF) ?_
      refine wp_geti dX11_fault_40 fl_RX11_198 rfl (fk_16 hF) ?_
      refine wp_ireturn rfl dX11_fault_43 ?_
      exact hq
    · have e : ftA x (hI H 16 11) (hI H 16 12) = -1 := by unfold ftA; rw [if_neg h0, if_neg h1]
      rw [e] at hq
      have ho : Op.lookupswitch.offset [(0, 27), (1, 35)] 43 x.toInt = 43 := by
        show (if (0 : Int) = x.toInt then (27 : Int) else if (1 : Int) = x.toInt then 35 else 43) = 43
        rw [if_neg (fun h => h0 (Int32.toInt_inj.mp h.symm)), if_neg (fun h => h1 (Int32.toInt_inj.mp h.symm))]
      refine wp_iload_n dX11_fault_0 rfl ?_
      refine wp_lookup (tgt := 44) (off := 43) dX11_fault_1 (by decide) ho (by decide) ?_
      refine wp_iconst (v := -1) dX11_fault_44 (by decide) ?_
      refine wp_ireturn rfl dX11_fault_45 ?_
      exact hq
/-- PRICES, in the class -/
theorem c_X11_prices {bf : Nat → Int32} {N : Nat} (hF : Fix H) (hT : CTp H bf N) (hq1 : ∀ f H', PRn bf N (.inl f) → CLB H f H' → Q (some (.int (-1))) (sI H' 14 1 0)) (hq2 : ∀ ln s v o E H1 H', PRn bf N (.inr (o, E)) → CL H bf N ln s v o E H1 → newPL H1 o E H' → Q (some (.int (nI E.length))) (sR (sI H' 14 1 0) 1 8 (some (hN H1 + 1)))) : Wp mX11_prices (d + 61) 4 623 0 [some (.ref 1), none] [] H Q := by
  have hN600 := hT.1.1
  have f8a : ∀ f H', PRn bf N (.inl f) → CLB H f H' → Wp mX11_prices (d + 61) 0 0 7 [some (.ref 1), none] [.null] H' Q := by
    intro f H' hp hb
    have hF2 := Fix_eqX hb.1 hF
    have k14 : hI H' 14 1 = nI N := by rw [hb.1.2.2.2.2 14 1 (by unfold isRl; omega)]; exact hT.2.1
    have h := hq1 f H' hp hb
    refine wp_astore_nN dX11_prices_7 (by decide) ?_
    refine wp_aload_n dX11_prices_8 rfl ?_
    refine wp_geta dX11_prices_9 fl_RX11_44 rfl (fk_1 hF2) (fr_1_4 hF2) ?_
    refine wp_iconst (v := 0) dX11_prices_12 (by decide) ?_
    refine wp_callv1 (ci := 9) dX11_prices_13 lk_RX11_188 ok_X9_cutTo im_X9_cutTo se_X9_cutTo rfl rfl (fk_14 hF2) (Nat.le_of_ble_eq_true rfl) (Nat.le_of_ble_eq_true rfl) ?_
    refine wp_deep (d := 0 + 1) (by omega) (c_X9_cutTo hF2 k14 (fun _ => ?_) (fun q => absurd ⟨by decide, nI_le (a := 0) (b := N) (Nat.zero_le _) (by omega)⟩ q))
    refine wp_pop dX11_prices_16 rfl ?_
    refine wp_aload_nN dX11_prices_17 rfl ?_
    refine wp_ifnonnull (r := none) (tgt := 23) dX11_prices_18 (by decide) (fun _ => ?_) (fun _ h => by cases h)
    refine wp_iconst (v := -1) dX11_prices_21 (by decide) ?_
    refine wp_ireturn rfl dX11_prices_22 ?_
    exact h
  have f8b : ∀ ln s v o E H1 H', PRn bf N (.inr (o, E)) → CL H bf N ln s v o E H1 → newPL H1 o E H' → Wp mX11_prices (d + 61) 0 0 7 [some (.ref 1), none] [.ref (hN H1 + 1)] H' Q := by
    intro ln s v o E H1 H' hp hc hn
    have hF1 := Fix_eqX hc.1 hF
    have h69 : 69 ≤ hN H1 := hF1.2.2
    have hF2 := Fix_gro hn.1 hF1
    have k14 : hI H' 14 1 = nI N := by rw [(hn.1.2 14 (by omega)).2.1, hc.1.2.2.2.2 14 1 (by unfold isRl; omega)]; exact hT.2.1
    have h := hq2 ln s v o E H1 H' hp hc hn
    have g : ∀ k, hR (sR (sI H' 14 1 0) 1 8 (some (hN H1 + 1))) (hN H1 + 1) k = hR H' (hN H1 + 1) k := fun k => by rw [hR_sR, u2_row (by omega)]; rfl
    have hP : PL (sR (sI H' 14 1 0) 1 8 (some (hN H1 + 1))) (hN H1 + 1) (hN H1 + 2) (hN H1 + 3) (hN H1 + 4) o.length E.length := by
      obtain ⟨p1, p2, p3, p4, p5, p6, p7⟩ := hn.2.1
      exact ⟨p1, by rw [g]; exact p2, by rw [g]; exact p3, by rw [g]; exact p4, p5, p6, p7⟩
    generalize hN H1 + 1 = P at *
    refine wp_astore_n dX11_prices_7 (by decide) ?_
    refine wp_aload_n dX11_prices_8 rfl ?_
    refine wp_geta dX11_prices_9 fl_RX11_44 rfl (fk_1 hF2) (fr_1_4 hF2) ?_
    refine wp_iconst (v := 0) dX11_prices_12 (by decide) ?_
    refine wp_callv1 (ci := 9) dX11_prices_13 lk_RX11_188 ok_X9_cutTo im_X9_cutTo se_X9_cutTo rfl rfl (fk_14 hF2) (Nat.le_of_ble_eq_true rfl) (Nat.le_of_ble_eq_true rfl) ?_
    refine wp_deep (d := 0 + 1) (by omega) (c_X9_cutTo hF2 k14 (fun _ => ?_) (fun q => absurd ⟨by decide, nI_le (a := 0) (b := N) (Nat.zero_le _) (by omega)⟩ q))
    refine wp_pop dX11_prices_16 rfl ?_
    refine wp_aload_n dX11_prices_17 rfl ?_
    refine wp_ifnonnull (r := some _) (tgt := 23) dX11_prices_18 (by decide) (fun h => by cases h) (fun _ _ => ?_)
    refine wp_aload_n dX11_prices_23 rfl ?_
    refine wp_aload_n dX11_prices_24 rfl ?_
    refine wp_puta dX11_prices_25 fl_RX11_76 (mp_11_8 _ _) rfl (fk_1 (Fix_sI hF2)) ?_
    refine wp_aload_n dX11_prices_28 rfl ?_
    refine wp_callv0 (ci := 5) dX11_prices_29 lk_RX11_145 ok_X5_countLines im_X5_countLines se_X5_countLines rfl rfl (hP.1) (Nat.le_of_ble_eq_true rfl) (Nat.le_of_ble_eq_true rfl) ?_
    refine wp_deep (d := 0 + 1) (by omega) (c_X5_countLines hP ?_)
    refine wp_ireturn rfl dX11_prices_32 ?_
    exact h
  refine wp_aload_n dX11_prices_0 rfl ?_
  refine wp_geta dX11_prices_1 fl_RX11_53 rfl (fk_1 hF) (fr_1_5 hF) ?_
  refine wp_callv0n (kc := 0) (ks := 0) (mc := 4) (ms := 623) (ci := 6) dX11_prices_4 lk_RX11_191 ok_X6_readAll im_X6_readAll se_X6_readAll rfl rfl (fk_16 hF) (Nat.le_of_ble_eq_true rfl) (Nat.le_of_ble_eq_true rfl) ?_
  refine c_X6_readAll hF hT (fun f H' hp hb => ?_) (fun ln s v o E H1 H' hp hc hn => ?_)
  · first
        | exact f8a f H' hp hb
        | exact f8b ln s v o E H1 H' hp hc hn
  · first
        | exact f8a f H' hp hb
        | exact f8b ln s v o E H1 H' hp hc hn
end FLT
