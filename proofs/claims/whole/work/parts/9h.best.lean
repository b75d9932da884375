/-! ===== a step of the law: BEST and price: by program (mkrel.py) ===== -/
section SB
variable {L u d : Nat} {X : Nat → Int32} {H : PH} {Q : Option Value → PH → Prop}
theorem hasB_off {m car : Nat} {jo fr tt ord : Nat → Nat} {w : Nat → Nat → Nat} {H1 : PH} (h10 : m ≤ 10) (hc6 : car ≤ 6) (h : hasB H m car jo fr tt ord w H1) {j : Nat} (hj : j < 10) (hk : ¬ (Kc H jo m).testBit j = true) : hI H1 12 j = -1 := by
  obtain ⟨v, hopt, h1, h2⟩ := h
  have hkm : Kc H jo m < 1024 := Nat.lt_of_lt_of_le (mkM_lt _ m) (Nat.pow_le_pow_right (n := 2) (by decide) h10)
  by_cases hv : v < 2 ^ 61
  · obtain ⟨g, hg, hcan, hvk⟩ := hopt.2.2 hv
    have hg10 : ∀ j, (Kc H jo m).testBit j = true → g j < 10 := fun j hj => by have := hg j hj; omega
    obtain ⟨k1, k2, k3⟩ := kap_dec (co := fun S => chF fr tt ord w (folB H jo fr tt) S m 0 none 0) hkm (chF_0 _ _ _ _ _ _ _) hg10 hvk hv
    have := (h2 hv).2.2 g (nibOk_of hkm hcan k3) j hj
    rw [if_neg hk] at this
    exact this
  · exact (h1 (by omega)).2.2 j hj
theorem RCa_best {m car : Nat} {jo fr tt ord pos : Nat → Nat} {w : Nat → Nat → Nat} {H1 H2 : PH} (h : fra B_best (fun _ _ => False) H H2) (h69 : 69 ≤ hN H) (rJ : RJb H m jo fr tt ord pos) (z2 : hL H1 11 0 = 0) (z3 : hI H1 9 4 = hI H 5 5) (z4 : hasB H m car jo fr tt ord w H1) (l : eqX isLy H1 H2) (rC : RCa H m car jo fr tt ord w u) : RCa H2 m car jo fr tt ord w u := by
  obtain ⟨r1, ⟨cg, c1, c2, -⟩, -⟩ := rC
  have kf : ∀ a k, a ≤ 69 → ¬ B_best a k → hI H2 a k = hI H a k := fun a k ha q => h.2.2.1 a k (by omega) q
  have e5 : hI H2 5 5 = hI H 5 5 := kf 5 5 (by omega) (by unfold B_best; omega)
  have l9 : ∀ k, hI H2 9 k = hI H1 9 k := fun k => l.2.2.2.2 9 k (by unfold isLy; omega)
  refine ⟨by rw [l.2.2.1]; exact z2, ⟨cg, c1, e5.trans c2, Or.inr ⟨cg, Nat.le_refl _, by rw [l9, z3]; exact c2⟩⟩, fun _ => ?_⟩
  have ko : ∀ i k, i < m → hI H2 (jo i) k = hI H (jo i) k := fun i k hi => h.2.2.1 _ k (rJ.2.2.2.2.1 i hi) (by have := rJ.1.2.2.2.2.1 i hi; unfold B_best; omega)
  exact hasB_cong (fun t ht => (rJ.2.2.1 t ht).2) (fol_at (fun k => kf 6 k (by omega) (by unfold B_best; omega)) ko) (fun i hi => ko i 8 hi) ⟨l9 5, l9 6⟩ (fun k => l.2.2.2.2 12 k (by unfold isLy; omega)) z4
theorem s_empty (hRl : Rel L X u H) (hq : ∀ x H1, Mid L X H1 → (∀ d Q', (∀ H2, Rel L X (u + 1) H2 → Q' (some (.int x)) H2) → Wp mX12_empty (d + 8) 0 0 0 [some (.ref 33)] [] H1 Q') → Q (some (.int x)) H1) : Wp mX11_empty (d + 70) 4 623 0 [some (.ref 1)] [] H Q := by
  obtain ⟨hF, hk0, hi0, n, ho, m, jo, fr, tt, ord, pos, w, car, N, nb, rH, rJ, rW, rL, rC, rT, rB, rS, rF⟩ := id hRl
  have h69 : 69 ≤ hN H := hF.2.2
  have mid : Mid L X H := ⟨hF, hk0, hi0⟩
  have h16 : n ≤ 16 := rH.1.2.1
  have h10 : m ≤ 10 := rJ.1.2.1
  refine wp_room (kc := 0) (ks := 0) (by omega) (by omega) ?_
  refine c_X11_empty hF rJ.1 rJ.2.2.1 rW.1 rW.2.2.1 rW.2.2.2.2.1 rW.2.2.2.2.2 rC.1 rC.2.2 (fun H1 z1 z2 z3 z4 => ?_)
  · have h1 : fra B_best (fun _ _ => False) H H1 := fra_Z z1 (fun a k q => by unfold is9 at q; unfold B_best; omega)
    have hF1 := Fix_eqZ z1 hF
    have rJ1 : RJb H1 m jo fr tt ord pos := RJb_fr h1 h69 (fun a k b => Or.inr (by unfold B_best at b; omega)) (fun _ q => q) rJ
    have rW1 : RWy H1 w car := RWy_fr h1 h69 (fun a k b => by unfold B_best at b; unfold OffW; omega) rW
    have z5 : hasB H1 m car jo fr tt ord w H1 := hasB_cong (fun t ht => (rJ.2.2.1 t ht).2) (fun i j hi hj => folB_eqZ z1 (rJ.1.2.2.2.2.1 i hi) (rJ.1.2.2.2.2.1 j hj)) (fun i hi => h1.2.2.1 _ 8 (rJ.2.2.2.2.1 i hi) (by have := rJ.1.2.2.2.2.1 i hi; unfold B_best; omega)) ⟨rfl, rfl⟩ (fun _ => rfl) z4
    refine hq _ _ (Mid_fra h1 hF1 (fun k q => by unfold B_best at q; omega) mid) (fun d Q' k => ?_)
    refine c_X12_empty hF1 rJ1.2.1 rW1.2.1 rJ1.2.2.2.1 rW1.2.2.2.1 rW1.2.2.2.2.2 (fun H2 l1 l2 => ?_)
    have h : fra B_best (fun _ _ => False) H H2 := fra_trans h1 (fra_X l1 (fun a k q => by unfold isLy at q; unfold B_best; omega))
    rw [← (best_ans h10 rW.2.2.2.2.2 (K_eq rJ1) (ck_eq rW1 rJ1) z5 l2).1]
    exact k _ ⟨Fix_fra h (fun _ _ q => q) hF, (h.2.1 0 (by omega)).trans hk0, (funext (fun k => h.2.2.1 0 k (by omega) (fun b => by unfold B_best at b; omega))).trans hi0, n, ho, m, jo, fr, tt, ord, pos, w, car, N, nb,
      RHo_fr h h69 (fun a k b => Or.inr (by unfold B_best at b; omega)) (fun _ q => q) rH,
      RJb_fr h h69 (fun a k b => Or.inr (by unfold B_best at b; omega)) (fun _ q => q) rJ,
      RWy_fr h h69 (fun a k b => by unfold B_best at b; unfold OffW; omega) rW,
      RLs_fr h h69 (fun j hj => ⟨rJ.2.2.2.2.1 j hj, rJ.1.2.2.2.2.1 j hj⟩) (fun a k b => Or.inr (by unfold B_best at b; omega)) (fun _ _ q => q.elim) (fun c _ => row_fr h h69 (fun a k b => by unfold B_best at b; omega) c) h10 rL,
      RCa_up (RCa_best h h69 rJ z2 z3 z4 l1 rC),
      RTp_fr h h69 (fun a k b => by unfold B_best at b; omega) rT,
      RBk_fr h h69 (fun a k b => by unfold B_best at b; unfold OffB; omega) rB,
      RSp_fr h h69 (fun a k b => by unfold B_best at b; omega) rS,
      RFt_fr h h69 (fun a k b => by unfold B_best at b; omega) rF⟩
theorem s_chains (hRl : Rel L X u H) (hq : ∀ x H1, Mid L X H1 → (∀ d Q', (∀ H2, Rel L X (u + 1) H2 → Q' (some (.int x)) H2) → Wp mX12_chains (d + 8) 0 0 0 [some (.ref 33)] [] H1 Q') → Q (some (.int x)) H1) : Wp mX11_chains (d + 70) 4 623 0 [some (.ref 1)] [] H Q := by
  obtain ⟨hF, hk0, hi0, n, ho, m, jo, fr, tt, ord, pos, w, car, N, nb, rH, rJ, rW, rL, rC, rT, rB, rS, rF⟩ := id hRl
  have h69 : 69 ≤ hN H := hF.2.2
  have mid : Mid L X H := ⟨hF, hk0, hi0⟩
  have h16 : n ≤ 16 := rH.1.2.1
  have h10 : m ≤ 10 := rJ.1.2.1
  refine wp_room (kc := 0) (ks := 0) (by omega) (by omega) ?_
  refine c_X11_chains hF rJ.1 rJ.2.2.1 rW.1 rW.2.2.1 rW.2.2.2.2.1 rW.2.2.2.2.2 rC.1 rC.2.2 (fun H1 z1 z2 z3 z4 => ?_)
  · have h1 : fra B_best (fun _ _ => False) H H1 := fra_Z z1 (fun a k q => by unfold is9 at q; unfold B_best; omega)
    have hF1 := Fix_eqZ z1 hF
    have rJ1 : RJb H1 m jo fr tt ord pos := RJb_fr h1 h69 (fun a k b => Or.inr (by unfold B_best at b; omega)) (fun _ q => q) rJ
    have rW1 : RWy H1 w car := RWy_fr h1 h69 (fun a k b => by unfold B_best at b; unfold OffW; omega) rW
    have z5 : hasB H1 m car jo fr tt ord w H1 := hasB_cong (fun t ht => (rJ.2.2.1 t ht).2) (fun i j hi hj => folB_eqZ z1 (rJ.1.2.2.2.2.1 i hi) (rJ.1.2.2.2.2.1 j hj)) (fun i hi => h1.2.2.1 _ 8 (rJ.2.2.2.2.1 i hi) (by have := rJ.1.2.2.2.2.1 i hi; unfold B_best; omega)) ⟨rfl, rfl⟩ (fun _ => rfl) z4
    refine hq _ _ (Mid_fra h1 hF1 (fun k q => by unfold B_best at q; omega) mid) (fun d Q' k => ?_)
    refine c_X12_chains hF1 rJ1.2.1 rW1.2.1 rJ1.2.2.2.1 rW1.2.2.2.1 rW1.2.2.2.2.2 (fun H2 l1 l2 => ?_)
    have h : fra B_best (fun _ _ => False) H H2 := fra_trans h1 (fra_X l1 (fun a k q => by unfold isLy at q; unfold B_best; omega))
    rw [← (best_ans h10 rW.2.2.2.2.2 (K_eq rJ1) (ck_eq rW1 rJ1) z5 l2).2.1]
    exact k _ ⟨Fix_fra h (fun _ _ q => q) hF, (h.2.1 0 (by omega)).trans hk0, (funext (fun k => h.2.2.1 0 k (by omega) (fun b => by unfold B_best at b; omega))).trans hi0, n, ho, m, jo, fr, tt, ord, pos, w, car, N, nb,
      RHo_fr h h69 (fun a k b => Or.inr (by unfold B_best at b; omega)) (fun _ q => q) rH,
      RJb_fr h h69 (fun a k b => Or.inr (by unfold B_best at b; omega)) (fun _ q => q) rJ,
      RWy_fr h h69 (fun a k b => by unfold B_best at b; unfold OffW; omega) rW,
      RLs_fr h h69 (fun j hj => ⟨rJ.2.2.2.2.1 j hj, rJ.1.2.2.2.2.1 j hj⟩) (fun a k b => Or.inr (by unfold B_best at b; omega)) (fun _ _ q => q.elim) (fun c _ => row_fr h h69 (fun a k b => by unfold B_best at b; omega) c) h10 rL,
      RCa_up (RCa_best h h69 rJ z2 z3 z4 l1 rC),
      RTp_fr h h69 (fun a k b => by unfold B_best at b; omega) rT,
      RBk_fr h h69 (fun a k b => by unfold B_best at b; unfold OffB; omega) rB,
      RSp_fr h h69 (fun a k b => by unfold B_best at b; omega) rS,
      RFt_fr h h69 (fun a k b => by unfold B_best at b; omega) rF⟩
theorem s_chain {a : Int32} (hRl : Rel L X u H) (hq : ∀ x H1, Mid L X H1 → (∀ d Q', (∀ H2, Rel L X (u + 1) H2 → Q' (some (.int x)) H2) → Wp mX12_chain (d + 8) 0 0 0 [some (.ref 33), some (.int a)] [] H1 Q') → Q (some (.int x)) H1) : Wp mX11_chain (d + 70) 4 623 0 [some (.ref 1), some (.int a)] [] H Q := by
  obtain ⟨hF, hk0, hi0, n, ho, m, jo, fr, tt, ord, pos, w, car, N, nb, rH, rJ, rW, rL, rC, rT, rB, rS, rF⟩ := id hRl
  have h69 : 69 ≤ hN H := hF.2.2
  have mid : Mid L X H := ⟨hF, hk0, hi0⟩
  have h16 : n ≤ 16 := rH.1.2.1
  have h10 : m ≤ 10 := rJ.1.2.1
  refine wp_room (kc := 0) (ks := 0) (by omega) (by omega) ?_
  refine c_X11_chain hF rJ.1 rJ.2.2.1 rW.1 rW.2.2.1 rW.2.2.2.2.1 rW.2.2.2.2.2 rC.1 rC.2.2 (fun H1 z1 z2 z3 z4 j hj ea => ?_) (fun H1 z1 z2 z3 z4 hn => ?_)
  · have h1 : fra B_best (fun _ _ => False) H H1 := fra_Z z1 (fun a k q => by unfold is9 at q; unfold B_best; omega)
    have hF1 := Fix_eqZ z1 hF
    have rJ1 : RJb H1 m jo fr tt ord pos := RJb_fr h1 h69 (fun a k b => Or.inr (by unfold B_best at b; omega)) (fun _ q => q) rJ
    have rW1 : RWy H1 w car := RWy_fr h1 h69 (fun a k b => by unfold B_best at b; unfold OffW; omega) rW
    have z5 : hasB H1 m car jo fr tt ord w H1 := hasB_cong (fun t ht => (rJ.2.2.1 t ht).2) (fun i j hi hj => folB_eqZ z1 (rJ.1.2.2.2.2.1 i hi) (rJ.1.2.2.2.2.1 j hj)) (fun i hi => h1.2.2.1 _ 8 (rJ.2.2.2.2.1 i hi) (by have := rJ.1.2.2.2.2.1 i hi; unfold B_best; omega)) ⟨rfl, rfl⟩ (fun _ => rfl) z4
    refine hq _ _ (Mid_fra h1 hF1 (fun k q => by unfold B_best at q; omega) mid) (fun d Q' k => ?_)
    refine c_X12_chain hF1 rJ1.2.1 rW1.2.1 rJ1.2.2.2.1 rW1.2.2.2.1 rW1.2.2.2.2.2 (fun H2 l1 l2 j' hj' ea' hd => ?_) (fun hn => ?_)
    · have h : fra B_best (fun _ _ => False) H H2 := fra_trans h1 (fra_X l1 (fun a k q => by unfold isLy at q; unfold B_best; omega))
      have ej : j' = j := (nI_eq (by omega) (by omega)).mp (ea'.symm.trans ea)
      rw [ej] at hj' hd
      rw [ej, ← (best_ans h10 rW.2.2.2.2.2 (K_eq rJ1) (ck_eq rW1 rJ1) z5 l2).2.2.1 j hj' (by unfold kpB; exact decide_eq_true hd)]
      exact k _ ⟨Fix_fra h (fun _ _ q => q) hF, (h.2.1 0 (by omega)).trans hk0, (funext (fun k => h.2.2.1 0 k (by omega) (fun b => by unfold B_best at b; omega))).trans hi0, n, ho, m, jo, fr, tt, ord, pos, w, car, N, nb,
      RHo_fr h h69 (fun a k b => Or.inr (by unfold B_best at b; omega)) (fun _ q => q) rH,
      RJb_fr h h69 (fun a k b => Or.inr (by unfold B_best at b; omega)) (fun _ q => q) rJ,
      RWy_fr h h69 (fun a k b => by unfold B_best at b; unfold OffW; omega) rW,
      RLs_fr h h69 (fun j hj => ⟨rJ.2.2.2.2.1 j hj, rJ.1.2.2.2.2.1 j hj⟩) (fun a k b => Or.inr (by unfold B_best at b; omega)) (fun _ _ q => q.elim) (fun c _ => row_fr h h69 (fun a k b => by unfold B_best at b; omega) c) h10 rL,
      RCa_up (RCa_best h h69 rJ z2 z3 z4 l1 rC),
      RTp_fr h h69 (fun a k b => by unfold B_best at b; omega) rT,
      RBk_fr h h69 (fun a k b => by unfold B_best at b; unfold OffB; omega) rB,
      RSp_fr h h69 (fun a k b => by unfold B_best at b; omega) rS,
      RFt_fr h h69 (fun a k b => by unfold B_best at b; omega) rF⟩
    · rw [← hasB_off h10 rW.2.2.2.2.2 z5 hj (fun q => by
        rw [K_eq rJ1] at q
        have := Kof_t q
        exact hn ⟨j, this.1, ea, of_decide_eq_true this.2⟩)]
      exact k _ ⟨Fix_fra h1 (fun _ _ q => q) hF, (h1.2.1 0 (by omega)).trans hk0, (funext (fun k => h1.2.2.1 0 k (by omega) (fun b => by unfold B_best at b; omega))).trans hi0, n, ho, m, jo, fr, tt, ord, pos, w, car, N, nb,
      RHo_fr h1 h69 (fun a k b => Or.inr (by unfold B_best at b; omega)) (fun _ q => q) rH,
      RJb_fr h1 h69 (fun a k b => Or.inr (by unfold B_best at b; omega)) (fun _ q => q) rJ,
      RWy_fr h1 h69 (fun a k b => by unfold B_best at b; unfold OffW; omega) rW,
      RLs_fr h1 h69 (fun j hj => ⟨rJ.2.2.2.2.1 j hj, rJ.1.2.2.2.2.1 j hj⟩) (fun a k b => Or.inr (by unfold B_best at b; omega)) (fun _ _ q => q.elim) (fun c _ => row_fr h1 h69 (fun a k b => by unfold B_best at b; omega) c) h10 rL,
      RCa_up (RCa_best h1 h69 rJ z2 z3 z4 eqX_rfl rC),
      RTp_fr h1 h69 (fun a k b => by unfold B_best at b; omega) rT,
      RBk_fr h1 h69 (fun a k b => by unfold B_best at b; unfold OffB; omega) rB,
      RSp_fr h1 h69 (fun a k b => by unfold B_best at b; omega) rS,
      RFt_fr h1 h69 (fun a k b => by unfold B_best at b; omega) rF⟩
  · have h1 : fra B_best (fun _ _ => False) H H1 := fra_Z z1 (fun a k q => by unfold is9 at q; unfold B_best; omega)
    have hF1 := Fix_eqZ z1 hF
    have rJ1 : RJb H1 m jo fr tt ord pos := RJb_fr h1 h69 (fun a k b => Or.inr (by unfold B_best at b; omega)) (fun _ q => q) rJ
    have rW1 : RWy H1 w car := RWy_fr h1 h69 (fun a k b => by unfold B_best at b; unfold OffW; omega) rW
    have z5 : hasB H1 m car jo fr tt ord w H1 := hasB_cong (fun t ht => (rJ.2.2.1 t ht).2) (fun i j hi hj => folB_eqZ z1 (rJ.1.2.2.2.2.1 i hi) (rJ.1.2.2.2.2.1 j hj)) (fun i hi => h1.2.2.1 _ 8 (rJ.2.2.2.2.1 i hi) (by have := rJ.1.2.2.2.2.1 i hi; unfold B_best; omega)) ⟨rfl, rfl⟩ (fun _ => rfl) z4
    refine hq _ _ (Mid_fra h1 hF1 (fun k q => by unfold B_best at q; omega) mid) (fun d Q' k => ?_)
    refine c_X12_chain hF1 rJ1.2.1 rW1.2.1 rJ1.2.2.2.1 rW1.2.2.2.1 rW1.2.2.2.2.2 (fun H2 l1 l2 j hj ea hd => absurd ⟨by rw [ea]; exact nI_pos' (by omega), by rw [ea]; exact nI_lt (b := 10) (by omega) (by decide)⟩ hn) (fun _ => ?_)
    exact k _ ⟨Fix_fra h1 (fun _ _ q => q) hF, (h1.2.1 0 (by omega)).trans hk0, (funext (fun k => h1.2.2.1 0 k (by omega) (fun b => by unfold B_best at b; omega))).trans hi0, n, ho, m, jo, fr, tt, ord, pos, w, car, N, nb,
      RHo_fr h1 h69 (fun a k b => Or.inr (by unfold B_best at b; omega)) (fun _ q => q) rH,
      RJb_fr h1 h69 (fun a k b => Or.inr (by unfold B_best at b; omega)) (fun _ q => q) rJ,
      RWy_fr h1 h69 (fun a k b => by unfold B_best at b; unfold OffW; omega) rW,
      RLs_fr h1 h69 (fun j hj => ⟨rJ.2.2.2.2.1 j hj, rJ.1.2.2.2.2.1 j hj⟩) (fun a k b => Or.inr (by unfold B_best at b; omega)) (fun _ _ q => q.elim) (fun c _ => row_fr h1 h69 (fun a k b => by unfold B_best at b; omega) c) h10 rL,
      RCa_up (RCa_best h1 h69 rJ z2 z3 z4 eqX_rfl rC),
      RTp_fr h1 h69 (fun a k b => by unfold B_best at b; omega) rT,
      RBk_fr h1 h69 (fun a k b => by unfold B_best at b; unfold OffB; omega) rB,
      RSp_fr h1 h69 (fun a k b => by unfold B_best at b; omega) rS,
      RFt_fr h1 h69 (fun a k b => by unfold B_best at b; omega) rF⟩
theorem s_price {a b : Int32} (hRl : Rel L X u H) (hq : ∀ x H1, Mid L X H1 → (∀ d Q', (∀ H2, Rel L X (u + 1) H2 → Q' (some (.int x)) H2) → Wp mX12_price (d + 8) 0 0 0 [some (.ref 33), some (.int a), some (.int b), none, none, none] [] H1 Q') → Q (some (.int x)) H1) : Wp mX11_price (d + 70) 4 623 0 [some (.ref 1), some (.int a), some (.int b), none] [] H Q := by
  obtain ⟨hF, hk0, hi0, n, ho, m, jo, fr, tt, ord, pos, w, car, N, nb, rH, rJ, rW, rL, rC, rT, rB, rS, rF⟩ := id hRl
  have h69 : 69 ≤ hN H := hF.2.2
  have mid : Mid L X H := ⟨hF, hk0, hi0⟩
  have h16 : n ≤ 16 := rH.1.2.1
  have h10 : m ≤ 10 := rJ.1.2.1
  refine wp_room (kc := 0) (ks := 0) (by omega) (by omega) ?_
  refine c_X11_price hF rJ.1 (fun hn => ?_) (fun j hj ea g0 g1 => ?_)
  · refine hq _ H mid (fun d Q' k => c_X12_price hF rJ.2.1 (fun _ => k H (Rel_up hRl)) (fun j hj ea g0 g1 => absurd ⟨⟨by rw [ea]; exact nI_pos' (by omega), by rw [ea]; exact nI_lt hj (by omega)⟩, g0, g1⟩ hn))
  · obtain ⟨A, o, E, e1, ⟨p, q, r, pl, p1, p2, p3, a1, a2, c1, c2⟩, ⟨k1, k2, k3, k4, k5⟩, e4⟩ := rL.2 j hj
    refine ⟨o, E, A, p, q, r, e1, pl, ⟨by have := p1.1; omega, by have := p2.1; omega, by have := p3.1; omega⟩, k1, k2, c1, c2, k3, k4, k5, fun H1 x1 => ?_⟩
    have h1 : fra B_price (fun _ _ => False) H H1 := fra_X x1 (fun a k q => by unfold isPq isPr at q; unfold B_price; omega)
    have hF1 := Fix_eqX x1 hF
    have rJ1 : RJb H1 m jo fr tt ord pos := RJb_fr h1 h69 (fun a k b => Or.inr (by unfold B_price at b; omega)) (fun _ q => q) rJ
    have rW1 : RWy H1 w car := RWy_fr h1 h69 (fun a k b => by unfold B_price at b; unfold OffW; omega) rW
    refine hq _ _ (Mid_fra h1 hF1 (fun k q => by unfold B_price at q; omega) mid) (fun d Q' k => ?_)
    refine c_X12_price hF1 rJ1.2.1 (fun hn => absurd ⟨⟨by rw [ea]; exact nI_pos' (by omega), by rw [ea]; exact nI_lt hj (by omega)⟩, g0, g1⟩ hn) (fun j' hj' ea' _ _ => ⟨o, E, ?_, k1, k2, k3, k4, k5, fun H2 x2 => ?_⟩)
    · rw [(nI_eq (by omega) (by omega)).mp (ea'.symm.trans ea)]
      exact RowC_eq k1 k2 (row_fr h1 h69 (fun a k b => by unfold B_price at b; omega) j) e4
    · have h : fra B_price (fun _ _ => False) H H2 := fra_trans h1 (fra_X x2 (fun a k q => by unfold isPx isPw at q; unfold B_price; omega))
      have g := rJ.2.2.2.2.2.1 j hj
      have kf : ∀ x, 40 ≤ x → x ≤ 45 → hI H1 x j = hI H x j := fun x hx1 hx2 => h1.2.2.1 x j (by omega) (by unfold B_price; omega)
      have f1 := rJ.1.2.2.2.2.2.2.1 j hj
      have f2 := rJ.1.2.2.2.2.2.2.2 j hj
      rw [(nI_eq (by omega) (by omega)).mp (ea'.symm.trans ea), kf 40 (by omega) (by omega), kf 43 (by omega) (by omega), kf 44 (by omega) (by omega), kf 45 (by omega) (by omega), (rW1.2.1 _ _ f1.2 f2.2).1, ← (rW.1 _ _ f1.2 f2.2).1, ← g.1, ← g.2.1, ← g.2.2.1, ← g.2.2.2.1]
      exact k _ ⟨Fix_fra h (fun _ _ q => q) hF, (h.2.1 0 (by omega)).trans hk0, (funext (fun k => h.2.2.1 0 k (by omega) (fun b => by unfold B_price at b; omega))).trans hi0, n, ho, m, jo, fr, tt, ord, pos, w, car, N, nb,
      RHo_fr h h69 (fun a k b => Or.inr (by unfold B_price at b; omega)) (fun _ q => q) rH,
      RJb_fr h h69 (fun a k b => Or.inr (by unfold B_price at b; omega)) (fun _ q => q) rJ,
      RWy_fr h h69 (fun a k b => by unfold B_price at b; unfold OffW; omega) rW,
      RLs_fr h h69 (fun j hj => ⟨rJ.2.2.2.2.1 j hj, rJ.1.2.2.2.2.1 j hj⟩) (fun a k b => Or.inr (by unfold B_price at b; omega)) (fun _ _ q => q.elim) (fun c _ => row_fr h h69 (fun a k b => by unfold B_price at b; omega) c) h10 rL,
      RCa_up (RCa_fr h h69 (fun a k b => Or.inr (by unfold B_price at b; omega)) (fun a k b => by unfold B_price at b; omega) rJ (by rw [x2.2.2.1, x1.2.2.1]) rC),
      RTp_fr h h69 (fun a k b => by unfold B_price at b; omega) rT,
      RBk_fr h h69 (fun a k b => by unfold B_price at b; unfold OffB; omega) rB,
      RSp_fr h h69 (fun a k b => by unfold B_price at b; omega) rS,
      RFt_fr h h69 (fun a k b => by unfold B_price at b; omega) rF⟩
end SB
