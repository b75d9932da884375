/-! ===== a step of the law: calls that write: by program (mkrel.py) ===== -/
section SW
variable {L u d : Nat} {X : Nat → Int32} {H : PH} {Q : Option Value → PH → Prop}
theorem n3 : ∀ e ∈ fixR, e.1.1 ≠ 3 := by decide
theorem n7 : ∀ e ∈ fixR, e.1.1 ≠ 7 := by decide
def B_lame (o j a k : Nat) : Prop := (a = o ∧ k = 4) ∨ (a = 38 ∧ k = j)
def B_spans (a k : Nat) : Prop := (a = 2 ∧ (k = 3 ∨ k = 4)) ∨ (a = 33 ∧ (k = 1 ∨ k = 2))
def B_way (a k : Nat) : Prop := a = 6 ∨ (a = 5 ∧ k = 5) ∨ a = 39
def B_car (a k : Nat) : Prop := (a = 5 ∧ (k = 4 ∨ k = 5)) ∨ (a = 33 ∧ k = 3)
def B_need (a k : Nat) : Prop := (a = 13 ∧ k = 2) ∨ (a = 33 ∧ k = 4)
def B_drop (o j a k : Nat) : Prop := (a = o ∧ k = 8) ∨ (a = 5 ∧ k = 5) ∨ (a = 47 ∧ k = j)
def B_team (o j a k : Nat) : Prop := (a = o ∧ k = 7) ∨ (a = 46 ∧ k = j)
def B_price (a k : Nat) : Prop := (a = 20 ∧ k = 2) ∨ a = 21 ∨ a = 22 ∨ a = 63 ∨ a = 64
def B_un (j a k : Nat) : Prop := (a = 28 ∧ k = j) ∨ (a = 69 ∧ k = j)
def B_best (a k : Nat) : Prop := a = 12 ∨ (a = 9 ∧ 4 ≤ k) ∨ (52 ≤ a ∧ a ≤ 57) ∨ (a = 33 ∧ 24 ≤ k ∧ k ≤ 26)
theorem s_horse {a b c e : Int32} (hRl : Rel L X u H) (hq : ∀ x H1, Mid L X H1 → (∀ d Q', (∀ H2, Rel L X (u + 1) H2 → Q' (some (.int x)) H2) → Wp mX12_horse (d + 8) 0 0 0 [some (.ref 33), some (.int a), some (.int b), some (.int c), some (.int e)] [] H1 Q') → Q (some (.int x)) H1) : Wp mX11_horse (d + 70) 4 623 0 [some (.ref 1), some (.int a), some (.int b), some (.int c), some (.int e)] [] H Q := by
  obtain ⟨hF, hk0, hi0, n, ho, m, jo, fr, tt, ord, pos, w, car, N, nb, rH, rJ, rW, rL, rC, rT, rB, rS, rF⟩ := id hRl
  have h69 : 69 ≤ hN H := hF.2.2
  have mid : Mid L X H := ⟨hF, hk0, hi0⟩
  have h16 : n ≤ 16 := rH.1.2.1
  have h10 : m ≤ 10 := rJ.1.2.1
  refine wp_room (kc := 1) (ks := 5) (by omega) (by omega) ?_
  refine c_X11_horse hF (c_X8_add hF rH.1 (fun hc hn => ?_) (fun hn => ?_))
  · have h1 : fra (B_horse n) (C_horse n) H (hNew H n a b c e) := fra_hNew
    have h : fra (B_horse n) (C_horse n) H (mhNew (hNew H n a b c e) n a b c e) := fra_mhNew h1
    have hF1 : Fix (hNew H n a b c e) := Fix_fra h1 (fun x hx q => n3 x hx q.1) hF
    refine hq _ _ (Mid_fra h1 hF1 (fun k q => by unfold B_horse at q; omega) mid) (fun d Q' k => ?_)
    refine c_X12_horse (H := hNew H n a b c e) (n := n) hF1 (by
      unfold hNew
      rw [hI_sI', if_neg (by omega), hI_sR, hI_sI', if_neg (by omega), hI_sI', if_neg (by omega), hI_sI', if_neg (by omega), hI_sI', if_neg (by omega), hI_nC' (by omega)]
      exact rH.2.1) h16 (fun _ _ => ?_) (fun hn' => absurd ⟨hc, hn⟩ hn')
    exact k _ ⟨Fix_fra h (fun x hx q => n3 x hx q.1) hF, (h.2.1 0 (by omega)).trans hk0, (funext (fun k => h.2.2.1 0 k (by omega) (fun b => by unfold B_horse at b; omega))).trans hi0, n + 1, _, m, jo, fr, tt, ord, pos, w, car, N, nb,
      RHo_new h69 hc hn rH,
      RJb_fr h h69 (fun a k b => Or.inr (by unfold B_horse at b; omega)) (fun k q => absurd q.1 (by decide)) rJ,
      RWy_fr h h69 (fun a k b => by unfold B_horse at b; unfold OffW; omega) rW,
      RLs_fr h h69 (fun j hj => ⟨rJ.2.2.2.2.1 j hj, rJ.1.2.2.2.2.1 j hj⟩) (fun a k b => Or.inr (by unfold B_horse at b; omega)) (fun a k q => by have := q.1; omega) (fun c _ => row_fr h h69 (fun a k b => by unfold B_horse at b; omega) c) h10 rL,
      RCa_up (RCa_fr h h69 (fun a k b => Or.inr (by unfold B_horse at b; omega)) (fun a k b => by unfold B_horse at b; omega) rJ (show hL (nC H 3 5) 11 0 = hL H 11 0 from hL_nC' (by omega)) rC),
      RTp_fr h h69 (fun a k b => by unfold B_horse at b; omega) rT,
      RBk_fr h h69 (fun a k b => by unfold B_horse at b; unfold OffB; omega) rB,
      RSp_fr h h69 (fun a k b => by unfold B_horse at b; omega) rS,
      RFt_fr h h69 (fun a k b => by unfold B_horse at b; omega) rF⟩
  · exact hq _ H mid (fun d Q' k => c_X12_horse hF rH.2.1 h16 (fun hc hn' => absurd ⟨hc, hn'⟩ hn) (fun _ => k H (Rel_up hRl)))
theorem s_lame {a b : Int32} (hRl : Rel L X u H) (hz : b = 0 ∨ b = 1) (hq : ∀ x H1, Mid L X H1 → (∀ d Q', (∀ H2, Rel L X (u + 1) H2 → Q' (some (.int x)) H2) → Wp mX12_lame (d + 8) 0 0 0 [some (.ref 33), some (.int a), some (.int b)] [] H1 Q') → Q (some (.int x)) H1) : Wp mX11_lame (d + 70) 4 623 0 [some (.ref 1), some (.int a), some (.int b)] [] H Q := by
  obtain ⟨hF, hk0, hi0, n, ho, m, jo, fr, tt, ord, pos, w, car, N, nb, rH, rJ, rW, rL, rC, rT, rB, rS, rF⟩ := id hRl
  have h69 : 69 ≤ hN H := hF.2.2
  have mid : Mid L X H := ⟨hF, hk0, hi0⟩
  have h16 : n ≤ 16 := rH.1.2.1
  have h10 : m ≤ 10 := rJ.1.2.1
  refine wp_room (kc := 0) (ks := 0) (by omega) (by omega) ?_
  refine c_X11_lame hF (c_X8_setLame hF rH.1 hz (fun j hj ea => ?_) (fun hn => ?_))
  · have o9 := rH.1.2.2.2.2.1 j hj
    have ok := rH.1.2.2.2.1 j hj
    have h1 : fra (B_lame (ho j) j) (fun _ _ => False) H (sI H (ho j) 4 b) := fra_sI fra_rfl (Or.inl ⟨rfl, rfl⟩)
    have h : fra (B_lame (ho j) j) (fun _ _ => False) H (sI (sI H (ho j) 4 b) 38 j b) := fra_sI h1 (Or.inr ⟨rfl, rfl⟩)
    refine hq _ _ (Mid_fra h1 (Fix_sI hF) (fun k q => by unfold B_lame at q; omega) mid) (fun d Q' k => ?_)
    refine c_X12_lame (n := n) (H := sI H (ho j) 4 b) (Fix_sI hF) (by rw [hI_sI', if_neg (by omega)]; exact rH.2.1) h16 hz (fun j' hj' ea' => ?_) (fun hn => absurd ⟨by rw [ea]; exact nI_pos' (by omega), by rw [ea]; exact nI_lt hj (by omega)⟩ hn)
    rw [(nI_eq (by omega) (by omega)).mp (ea'.symm.trans ea)]
    exact k _ ⟨Fix_fra h (fun _ _ q => q) hF, (h.2.1 0 (by omega)).trans hk0, (funext (fun k => h.2.2.1 0 k (by omega) (fun b => by unfold B_lame at b; omega))).trans hi0, n, ho, m, jo, fr, tt, ord, pos, w, car, N, nb,
      RHo_lame rH hj,
      RJb_fr h h69 (fun a k b => by
          rcases b with ⟨rfl, _⟩ | b
          · exact Or.inl ⟨o9, by rw [ok]; decide⟩
          · exact Or.inr (by omega)) (fun _ q => q) rJ,
      RWy_fr h h69 (fun a k b => by unfold B_lame at b; unfold OffW; omega) rW,
      RLs_fr h h69 (fun j hj => ⟨rJ.2.2.2.2.1 j hj, rJ.1.2.2.2.2.1 j hj⟩) (fun a k b => by
          rcases b with ⟨rfl, _⟩ | b
          · exact Or.inl ⟨o9, by rw [ok]; decide⟩
          · exact Or.inr (by omega)) (fun _ _ q => q.elim) (fun c _ => row_fr h h69 (fun a k b => by unfold B_lame at b; omega) c) h10 rL,
      RCa_up (RCa_fr h h69 (fun a k b => by
          rcases b with ⟨rfl, _⟩ | b
          · exact Or.inl ⟨o9, by rw [ok]; decide⟩
          · exact Or.inr (by omega)) (fun a k b => by unfold B_lame at b; omega) rJ rfl rC),
      RTp_fr h h69 (fun a k b => by unfold B_lame at b; omega) rT,
      RBk_fr h h69 (fun a k b => by unfold B_lame at b; unfold OffB; omega) rB,
      RSp_fr h h69 (fun a k b => by unfold B_lame at b; omega) rS,
      RFt_fr h h69 (fun a k b => by unfold B_lame at b; omega) rF⟩
  · exact hq _ H mid (fun d Q' k => c_X12_lame hF rH.2.1 h16 hz (fun j hj ea => absurd ⟨by rw [ea]; exact nI_pos' (by omega), by rw [ea]; exact nI_lt hj (by omega)⟩ hn) (fun _ => k H (Rel_up hRl)))
theorem s_spans {a b : Int32} (hRl : Rel L X u H) (hq : ∀ x H1, Mid L X H1 → (∀ d Q', (∀ H2, Rel L X (u + 1) H2 → Q' (some (.int x)) H2) → Wp mX12_spans (d + 8) 0 0 0 [some (.ref 33), some (.int a), some (.int b)] [] H1 Q') → Q (some (.int x)) H1) : Wp mX11_spans (d + 70) 4 623 0 [some (.ref 1), some (.int a), some (.int b)] [] H Q := by
  obtain ⟨hF, hk0, hi0, n, ho, m, jo, fr, tt, ord, pos, w, car, N, nb, rH, rJ, rW, rL, rC, rT, rB, rS, rF⟩ := id hRl
  have h69 : 69 ≤ hN H := hF.2.2
  have mid : Mid L X H := ⟨hF, hk0, hi0⟩
  have h16 : n ≤ 16 := rH.1.2.1
  have h10 : m ≤ 10 := rJ.1.2.1
  refine wp_room (kc := 0) (ks := 0) (by omega) (by omega) ?_
  refine c_X11_spans hF (c_X8_setSpans hF (fun g1 g2 => ?_) (fun hn => ?_))
  · have h1 : fra B_spans (fun _ _ => False) H (sI (sI H 2 3 a) 2 4 b) := fra_sI (fra_sI fra_rfl (Or.inl ⟨rfl, Or.inl rfl⟩)) (Or.inl ⟨rfl, Or.inr rfl⟩)
    have h : fra B_spans (fun _ _ => False) H (sI (sI (sI (sI H 2 3 a) 2 4 b) 33 1 a) 33 2 b) := fra_sI (fra_sI h1 (Or.inr ⟨rfl, Or.inl rfl⟩)) (Or.inr ⟨rfl, Or.inr rfl⟩)
    refine hq _ _ (Mid_fra h1 (Fix_sI (Fix_sI hF)) (fun k q => by unfold B_spans at q; omega) mid) (fun d Q' k => ?_)
    refine c_X12_spans (Fix_sI (Fix_sI hF)) (fun _ _ => ?_) (fun hn => absurd ⟨g1, g2⟩ hn)
    have s' : RSp (sI (sI (sI (sI H 2 3 a) 2 4 b) 33 1 a) 33 2 b) := ⟨by simp [hI_sI'], by simp [hI_sI'], by simp [hI_sI', rS.2.2]⟩
    exact k _ ⟨Fix_fra h (fun _ _ q => q) hF, (h.2.1 0 (by omega)).trans hk0, (funext (fun k => h.2.2.1 0 k (by omega) (fun b => by unfold B_spans at b; omega))).trans hi0, n, ho, m, jo, fr, tt, ord, pos, w, car, N, nb,
      RHo_fr h h69 (fun a k b => Or.inr (by unfold B_spans at b; omega)) (fun _ q => q) rH,
      RJb_fr h h69 (fun a k b => Or.inr (by unfold B_spans at b; omega)) (fun _ q => q) rJ,
      RWy_fr h h69 (fun a k b => by unfold B_spans at b; unfold OffW; omega) rW,
      RLs_fr h h69 (fun j hj => ⟨rJ.2.2.2.2.1 j hj, rJ.1.2.2.2.2.1 j hj⟩) (fun a k b => Or.inr (by unfold B_spans at b; omega)) (fun _ _ q => q.elim) (fun c _ => row_fr h h69 (fun a k b => by unfold B_spans at b; omega) c) h10 rL,
      RCa_up (RCa_fr h h69 (fun a k b => Or.inr (by unfold B_spans at b; omega)) (fun a k b => by unfold B_spans at b; omega) rJ rfl rC),
      RTp_fr h h69 (fun a k b => by unfold B_spans at b; omega) rT,
      RBk_fr h h69 (fun a k b => by unfold B_spans at b; unfold OffB; omega) rB,
      s',
      RFt_fr h h69 (fun a k b => by unfold B_spans at b; omega) rF⟩
  · exact hq _ H mid (fun d Q' k => c_X12_spans hF (fun g1 g2 => absurd ⟨g1, g2⟩ hn) (fun _ => k H (Rel_up hRl)))
theorem s_way {a b c : Int32} (hRl : Rel L X u H) (hu : u < 1000000) (hq : ∀ x H1, Mid L X H1 → (∀ d Q', (∀ H2, Rel L X (u + 1) H2 → Q' (some (.int x)) H2) → Wp mX12_way (d + 8) 0 0 0 [some (.ref 33), some (.int a), some (.int b), some (.int c)] [] H1 Q') → Q (some (.int x)) H1) : Wp mX11_way (d + 70) 4 623 0 [some (.ref 1), some (.int a), some (.int b), some (.int c)] [] H Q := by
  obtain ⟨hF, hk0, hi0, n, ho, m, jo, fr, tt, ord, pos, w, car, N, nb, rH, rJ, rW, rL, rC, rT, rB, rS, rF⟩ := id hRl
  have h69 : 69 ≤ hN H := hF.2.2
  have mid : Mid L X H := ⟨hF, hk0, hi0⟩
  have h16 : n ≤ 16 := rH.1.2.1
  have h10 : m ≤ 10 := rJ.1.2.1
  refine wp_room (kc := 0) (ks := 0) (by omega) (by omega) ?_
  refine c_X11_way hF (c_X1_setWay hF (fun i j hi hj hij ea eb hv => ?_) (fun hn => ?_))
  · obtain ⟨V, hV, eV⟩ := N_of (M := 300) (by decide) hv
    have h1 : fra B_way (fun _ _ => False) H (wNew H i j c) := fra_sI (fra_sI (fra_sI fra_rfl (Or.inl rfl)) (Or.inl rfl)) (Or.inr (Or.inl ⟨rfl, rfl⟩))
    have h : fra B_way (fun _ _ => False) H (mwNew (wNew H i j c) i j c) := fra_sI (fra_sI h1 (Or.inr (Or.inr rfl))) (Or.inr (Or.inr rfl))
    have hF1 : Fix (wNew H i j c) := Fix_fra h1 (fun _ _ q => q) hF
    refine hq _ _ (Mid_fra h1 hF1 (fun k q => by unfold B_way at q; omega) mid) (fun d Q' k => ?_)
    refine c_X12_way hF1 (fun i' j' hi' hj' _ ea' eb' _ => ?_) (fun hn => absurd ⟨⟨by rw [ea]; exact nI_pos' (by omega), by rw [ea]; exact nI_lt (b := 8) hi (by decide)⟩, ⟨by rw [eb]; exact nI_pos' (by omega), by rw [eb]; exact nI_lt (b := 8) hj (by decide)⟩, fun q => hij ((nI_eq (by omega) (by omega)).mp (by rw [← ea, ← eb]; exact q)), hv⟩ hn)
    rw [(nI_eq (by omega) (by omega)).mp (ea'.symm.trans ea), (nI_eq (by omega) (by omega)).mp (eb'.symm.trans eb)]
    have e5 : hI (mwNew (wNew H i j c) i j c) 5 5 = hI H 5 5 + 1 := by
      unfold mwNew wNew
      rw [hI_sI', if_neg (by omega), hI_sI', if_neg (by omega), hI_sI', if_pos ⟨rfl, rfl⟩]
    exact k _ ⟨Fix_fra h (fun _ _ q => q) hF, (h.2.1 0 (by omega)).trans hk0, (funext (fun k => h.2.2.1 0 k (by omega) (fun b => by unfold B_way at b; omega))).trans hi0, n, ho, m, jo, fr, tt, ord, pos, _, car, N, nb,
      RHo_fr h h69 (fun a k b => Or.inr (by unfold B_way at b; omega)) (fun _ q => q) rH,
      RJb_fr h h69 (fun a k b => Or.inr (by unfold B_way at b; omega)) (fun _ q => q) rJ,
      RWy_way hi hj eV hV rW,
      RLs_fr h h69 (fun j hj => ⟨rJ.2.2.2.2.1 j hj, rJ.1.2.2.2.2.1 j hj⟩) (fun a k b => Or.inr (by unfold B_way at b; omega)) (fun _ _ q => q.elim) (fun c _ => row_fr h h69 (fun a k b => by unfold B_way at b; omega) c) h10 rL,
      RCa_bump (H := H) hu rfl (h.2.2.1 9 4 (by omega) (fun b => by unfold B_way at b; omega)) e5 rC,
      RTp_fr h h69 (fun a k b => by unfold B_way at b; omega) rT,
      RBk_fr h h69 (fun a k b => by unfold B_way at b; unfold OffB; omega) rB,
      RSp_fr h h69 (fun a k b => by unfold B_way at b; omega) rS,
      RFt_fr h h69 (fun a k b => by unfold B_way at b; omega) rF⟩
  · exact hq _ H mid (fun d Q' k => c_X12_way hF (fun i j hi hj hij ea eb hv => absurd ⟨⟨by rw [ea]; exact nI_pos' (by omega), by rw [ea]; exact nI_le (b := 7) (by omega) (by decide)⟩, ⟨by rw [eb]; exact nI_pos' (by omega), by rw [eb]; exact nI_le (b := 7) (by omega) (by decide)⟩, fun q => hij ((nI_eq (by omega) (by omega)).mp (by rw [← ea, ← eb]; exact q)), hv⟩ hn) (fun _ => k H (Rel_up hRl)))
theorem s_carriages {a : Int32} (hRl : Rel L X u H) (hu : u < 1000000) (hq : ∀ x H1, Mid L X H1 → (∀ d Q', (∀ H2, Rel L X (u + 1) H2 → Q' (some (.int x)) H2) → Wp mX12_carriages (d + 8) 0 0 0 [some (.ref 33), some (.int a)] [] H1 Q') → Q (some (.int x)) H1) : Wp mX11_carriages (d + 70) 4 623 0 [some (.ref 1), some (.int a)] [] H Q := by
  obtain ⟨hF, hk0, hi0, n, ho, m, jo, fr, tt, ord, pos, w, car, N, nb, rH, rJ, rW, rL, rC, rT, rB, rS, rF⟩ := id hRl
  have h69 : 69 ≤ hN H := hF.2.2
  have mid : Mid L X H := ⟨hF, hk0, hi0⟩
  have h16 : n ≤ 16 := rH.1.2.1
  have h10 : m ≤ 10 := rJ.1.2.1
  refine wp_room (kc := 0) (ks := 0) (by omega) (by omega) ?_
  refine c_X11_carriages hF (c_X1_setCarriages hF (fun g => ?_) (fun hn => ?_))
  · obtain ⟨V, hV, eV⟩ := N_of (M := 6) (by decide) ⟨le_tr (by decide) g.1, g.2⟩
    have hV1 : 1 ≤ V := (nI_leI (a := 1) (by decide) (by omega)).mp (by rw [← eV]; exact g.1)
    have h1 : fra B_car (fun _ _ => False) H (sI (sI H 5 4 a) 5 5 (hI H 5 5 + 1)) := fra_sI (fra_sI fra_rfl (Or.inl ⟨rfl, Or.inl rfl⟩)) (Or.inl ⟨rfl, Or.inr rfl⟩)
    have h : fra B_car (fun _ _ => False) H (sI (sI (sI H 5 4 a) 5 5 (hI H 5 5 + 1)) 33 3 a) := fra_sI h1 (Or.inr ⟨rfl, rfl⟩)
    refine hq _ _ (Mid_fra h1 (Fix_sI (Fix_sI hF)) (fun k q => by unfold B_car at q; omega) mid) (fun d Q' k => ?_)
    refine c_X12_carriages (Fix_sI (Fix_sI hF)) (fun _ => ?_) (fun hn => absurd g hn)
    have w' : RWy (sI (sI (sI H 5 4 a) 5 5 (hI H 5 5 + 1)) 33 3 a) w V := by
      refine ⟨fun x y hx hy => ?_, fun x y hx hy => ?_, ?_, ?_, hV1, hV⟩
      · have := rW.1 x y hx hy
        unfold wy at this ⊢
        rw [h.2.2.1 6 _ (by omega) (fun q => by unfold B_car at q; omega)]
        exact this
      · have := rW.2.1 x y hx hy
        unfold mwy at this ⊢
        rw [h.2.2.1 39 _ (by omega) (fun q => by unfold B_car at q; omega)]
        exact this
      · rw [hI_sI', if_neg (by omega), hI_sI', if_neg (by omega), hI_sI', if_pos ⟨rfl, rfl⟩]; exact eV
      · rw [hI_sI', if_pos ⟨rfl, rfl⟩]; exact eV
    have e5 : hI (sI (sI (sI H 5 4 a) 5 5 (hI H 5 5 + 1)) 33 3 a) 5 5 = hI H 5 5 + 1 := by rw [hI_sI', if_neg (by omega), hI_sI', if_pos ⟨rfl, rfl⟩]
    exact k _ ⟨Fix_fra h (fun _ _ q => q) hF, (h.2.1 0 (by omega)).trans hk0, (funext (fun k => h.2.2.1 0 k (by omega) (fun b => by unfold B_car at b; omega))).trans hi0, n, ho, m, jo, fr, tt, ord, pos, w, V, N, nb,
      RHo_fr h h69 (fun a k b => Or.inr (by unfold B_car at b; omega)) (fun _ q => q) rH,
      RJb_fr h h69 (fun a k b => Or.inr (by unfold B_car at b; omega)) (fun _ q => q) rJ,
      w',
      RLs_fr h h69 (fun j hj => ⟨rJ.2.2.2.2.1 j hj, rJ.1.2.2.2.2.1 j hj⟩) (fun a k b => Or.inr (by unfold B_car at b; omega)) (fun _ _ q => q.elim) (fun c _ => row_fr h h69 (fun a k b => by unfold B_car at b; omega) c) h10 rL,
      RCa_bump (H := H) hu rfl (h.2.2.1 9 4 (by omega) (fun b => by unfold B_car at b; omega)) e5 rC,
      RTp_fr h h69 (fun a k b => by unfold B_car at b; omega) rT,
      RBk_fr h h69 (fun a k b => by unfold B_car at b; unfold OffB; omega) rB,
      RSp_fr h h69 (fun a k b => by unfold B_car at b; omega) rS,
      RFt_fr h h69 (fun a k b => by unfold B_car at b; omega) rF⟩
  · exact hq _ H mid (fun d Q' k => c_X12_carriages hF (fun g => absurd g hn) (fun _ => k H (Rel_up hRl)))
theorem s_need {a : Int32} (hRl : Rel L X u H) (hq : ∀ x H1, Mid L X H1 → (∀ d Q', (∀ H2, Rel L X (u + 1) H2 → Q' (some (.int x)) H2) → Wp mX12_need (d + 8) 0 0 0 [some (.ref 33), some (.int a)] [] H1 Q') → Q (some (.int x)) H1) : Wp mX11_need (d + 70) 4 623 0 [some (.ref 1), some (.int a)] [] H Q := by
  obtain ⟨hF, hk0, hi0, n, ho, m, jo, fr, tt, ord, pos, w, car, N, nb, rH, rJ, rW, rL, rC, rT, rB, rS, rF⟩ := id hRl
  have h69 : 69 ≤ hN H := hF.2.2
  have mid : Mid L X H := ⟨hF, hk0, hi0⟩
  have h16 : n ≤ 16 := rH.1.2.1
  have h10 : m ≤ 10 := rJ.1.2.1
  refine wp_room (kc := 0) (ks := 0) (by omega) (by omega) ?_
  refine c_X11_need hF (c_X10_setLeast hF (fun g => ?_) (fun hn => ?_))
  · have h1 : fra B_need (fun _ _ => False) H (sI H 13 2 a) := fra_sI fra_rfl (Or.inl ⟨rfl, rfl⟩)
    have h : fra B_need (fun _ _ => False) H (sI (sI H 13 2 a) 33 4 a) := fra_sI h1 (Or.inr ⟨rfl, rfl⟩)
    refine hq _ _ (Mid_fra h1 (Fix_sI hF) (fun k q => by unfold B_need at q; omega) mid) (fun d Q' k => ?_)
    refine c_X12_need (Fix_sI hF) (fun _ => ?_) (fun hn => absurd g hn)
    have s' : RSp (sI (sI H 13 2 a) 33 4 a) := ⟨by simp [hI_sI', rS.1], by simp [hI_sI', rS.2.1], by simp [hI_sI']⟩
    exact k _ ⟨Fix_fra h (fun _ _ q => q) hF, (h.2.1 0 (by omega)).trans hk0, (funext (fun k => h.2.2.1 0 k (by omega) (fun b => by unfold B_need at b; omega))).trans hi0, n, ho, m, jo, fr, tt, ord, pos, w, car, N, nb,
      RHo_fr h h69 (fun a k b => Or.inr (by unfold B_need at b; omega)) (fun _ q => q) rH,
      RJb_fr h h69 (fun a k b => Or.inr (by unfold B_need at b; omega)) (fun _ q => q) rJ,
      RWy_fr h h69 (fun a k b => by unfold B_need at b; unfold OffW; omega) rW,
      RLs_fr h h69 (fun j hj => ⟨rJ.2.2.2.2.1 j hj, rJ.1.2.2.2.2.1 j hj⟩) (fun a k b => Or.inr (by unfold B_need at b; omega)) (fun _ _ q => q.elim) (fun c _ => row_fr h h69 (fun a k b => by unfold B_need at b; omega) c) h10 rL,
      RCa_up (RCa_fr h h69 (fun a k b => Or.inr (by unfold B_need at b; omega)) (fun a k b => by unfold B_need at b; omega) rJ rfl rC),
      RTp_fr h h69 (fun a k b => by unfold B_need at b; omega) rT,
      RBk_fr h h69 (fun a k b => by unfold B_need at b; unfold OffB; omega) rB,
      s',
      RFt_fr h h69 (fun a k b => by unfold B_need at b; omega) rF⟩
  · exact hq _ H mid (fun d Q' k => c_X12_need hF (fun g => absurd g hn) (fun _ => k H (Rel_up hRl)))
theorem s_matches {a : Int32} (hRl : Rel L X u H) (hq : ∀ x H1, Mid L X H1 → (∀ d Q', (∀ H2, Rel L X (u + 1) H2 → Q' (some (.int x)) H2) → Wp mX12_matches (d + 8) 0 0 0 [some (.ref 33), some (.int a), none, none] [] H1 Q') → Q (some (.int x)) H1) : Wp mX11_matches (d + 70) 4 623 0 [some (.ref 1), some (.int a)] [] H Q := by
  obtain ⟨hF, hk0, hi0, n, ho, m, jo, fr, tt, ord, pos, w, car, N, nb, rH, rJ, rW, rL, rC, rT, rB, rS, rF⟩ := id hRl
  have h69 : 69 ≤ hN H := hF.2.2
  have mid : Mid L X H := ⟨hF, hk0, hi0⟩
  have h16 : n ≤ 16 := rH.1.2.1
  have h10 : m ≤ 10 := rJ.1.2.1
  refine wp_room (kc := 0) (ks := 0) (by omega) (by omega) ?_
  refine c_X11_matches hF rH.1 (fun k0 H1 ek hk2 h1 => ?_) (fun hn => ?_)
  · have h : fra is4 (fun _ _ => False) H H1 := fra_X h1 (fun a k q => q)
    have hF1 := Fix_eqX h1 hF
    refine hq _ _ (Mid_fra h hF1 (fun k q => by unfold is4 at q; omega) mid) (fun d Q' k => ?_)
    have rH1 : RHo H1 n ho := RHo_fr h h69 (fun a k b => Or.inr (by unfold is4 at b; omega)) (fun _ q => q) rH
    have rS1 : RSp H1 := RSp_fr h h69 (fun a k b => by unfold is4 at b; omega) rS
    refine c_X12_matches hF1 rH1.2.1 h16 (fun k1 ek1 hk1 => ?_) (fun hn => absurd (by rw [ek]; rcases hk2 with q | q <;> rw [q]; exact Or.inl rfl; exact Or.inr rfl) hn)
    have e01 : k1 = k0 := (nI_eq (by omega) (by omega)).mp (ek1.symm.trans ek)
    rw [e01, ← matches_eq (al := alB H ho) h16 hk2 (fun f hf e he => (al_mal rH1 rS1 f hf e he).trans (by unfold alB; rw [decide_eq_true_iff, decide_eq_true_iff]; exact alk_eq h1 (rH.1.2.2.2.2.1 e (by omega)) (rH.1.2.2.2.2.1 f hf)))]
    exact k _ ⟨Fix_fra h (fun _ _ q => q) hF, (h.2.1 0 (by omega)).trans hk0, (funext (fun k => h.2.2.1 0 k (by omega) (fun b => by unfold is4 at b; omega))).trans hi0, n, ho, m, jo, fr, tt, ord, pos, w, car, N, nb,
      RHo_fr h h69 (fun a k b => Or.inr (by unfold is4 at b; omega)) (fun _ q => q) rH,
      RJb_fr h h69 (fun a k b => Or.inr (by unfold is4 at b; omega)) (fun _ q => q) rJ,
      RWy_fr h h69 (fun a k b => by unfold is4 at b; unfold OffW; omega) rW,
      RLs_fr h h69 (fun j hj => ⟨rJ.2.2.2.2.1 j hj, rJ.1.2.2.2.2.1 j hj⟩) (fun a k b => Or.inr (by unfold is4 at b; omega)) (fun _ _ q => q.elim) (fun c _ => row_fr h h69 (fun a k b => by unfold is4 at b; omega) c) h10 rL,
      RCa_up (RCa_fr h h69 (fun a k b => Or.inr (by unfold is4 at b; omega)) (fun a k b => by unfold is4 at b; omega) rJ (by rw [h1.2.2.1]) rC),
      RTp_fr h h69 (fun a k b => by unfold is4 at b; omega) rT,
      RBk_fr h h69 (fun a k b => by unfold is4 at b; unfold OffB; omega) rB,
      RSp_fr h h69 (fun a k b => by unfold is4 at b; omega) rS,
      RFt_fr h h69 (fun a k b => by unfold is4 at b; omega) rF⟩
  · exact hq _ H mid (fun d Q' k => c_X12_matches hF rH.2.1 h16 (fun k0 ek hk2 => absurd (by rw [ek]; rcases hk2 with q | q <;> rw [q]; exact Or.inl rfl; exact Or.inr rfl) hn) (fun _ => k H (Rel_up hRl)))
theorem s_drop {a : Int32} (hRl : Rel L X u H) (hu : u < 1000000) (hq : ∀ x H1, Mid L X H1 → (∀ d Q', (∀ H2, Rel L X (u + 1) H2 → Q' (some (.int x)) H2) → Wp mX12_drop (d + 8) 0 0 0 [some (.ref 33), some (.int a)] [] H1 Q') → Q (some (.int x)) H1) : Wp mX11_drop (d + 70) 4 623 0 [some (.ref 1), some (.int a)] [] H Q := by
  obtain ⟨hF, hk0, hi0, n, ho, m, jo, fr, tt, ord, pos, w, car, N, nb, rH, rJ, rW, rL, rC, rT, rB, rS, rF⟩ := id hRl
  have h69 : 69 ≤ hN H := hF.2.2
  have mid : Mid L X H := ⟨hF, hk0, hi0⟩
  have h16 : n ≤ 16 := rH.1.2.1
  have h10 : m ≤ 10 := rJ.1.2.1
  refine wp_room (kc := 0) (ks := 0) (by omega) (by omega) ?_
  refine c_X11_drop hF (c_X1_cancel hF rJ.1 (fun j hj ea hd => ?_) (fun hn => ?_))
  · have o9 := rJ.1.2.2.2.2.1 j hj
    have ok := rJ.1.2.2.2.1 j hj
    have h1 : fra (B_drop (jo j) j) (fun _ _ => False) H (sI (sI H (jo j) 8 1) 5 5 (hI H 5 5 + 1)) := fra_sI (fra_sI fra_rfl (Or.inl ⟨rfl, rfl⟩)) (Or.inr (Or.inl ⟨rfl, rfl⟩))
    have h : fra (B_drop (jo j) j) (fun _ _ => False) H (sI (sI (sI H (jo j) 8 1) 5 5 (hI H 5 5 + 1)) 47 j 1) := fra_sI h1 (Or.inr (Or.inr ⟨rfl, rfl⟩))
    refine hq _ _ (Mid_fra h1 (Fix_sI (Fix_sI hF)) (fun k q => by unfold B_drop at q; omega) mid) (fun d Q' k => ?_)
    refine c_X12_drop (m := m) (H := sI (sI H (jo j) 8 1) 5 5 (hI H 5 5 + 1)) (Fix_sI (Fix_sI hF)) (by rw [hI_sI', if_neg (by omega), hI_sI', if_neg (by omega)]; exact rJ.2.1.1) h10 (fun j' hj' ea' _ => ?_) (fun hn => absurd ⟨j, hj, ea, by rw [hI_sI', if_neg (by omega), hI_sI', if_neg (by omega), ← (rJ.2.2.2.2.2.1 j hj).2.2.2.2.2]; exact hd⟩ hn)
    rw [(nI_eq (by omega) (by omega)).mp (ea'.symm.trans ea)]
    have e5 : hI (sI (sI (sI H (jo j) 8 1) 5 5 (hI H 5 5 + 1)) 47 j 1) 5 5 = hI H 5 5 + 1 := by rw [hI_sI', if_neg (by omega), hI_sI', if_pos ⟨rfl, rfl⟩]
    have j' : RJb (sI (sI (sI H (jo j) 8 1) 5 5 (hI H 5 5 + 1)) 47 j 1) m jo fr tt ord pos := RJb_set (H := H) (f := 8) (v := 1) (Or.inr rfl) hj rfl rfl rfl (fun x k hx => by
      show (if x = 47 ∧ k = j then (1 : Int32) else if x = 5 ∧ k = 5 then hI H 5 5 + 1 else if x = jo j ∧ k = 8 then 1 else hI H x k) = (if x = 47 ∧ k = j then 1 else if x = jo j ∧ k = 8 then 1 else hI H x k)
      rw [if_neg (c := x = 5 ∧ k = 5) hx]) rJ
    exact k _ ⟨Fix_fra h (fun _ _ q => q) hF, (h.2.1 0 (by omega)).trans hk0, (funext (fun k => h.2.2.1 0 k (by omega) (fun b => by unfold B_drop at b; omega))).trans hi0, n, ho, m, jo, fr, tt, ord, pos, w, car, N, nb,
      RHo_fr h h69 (fun a k b => by
          rcases b with ⟨rfl, _⟩ | b
          · exact Or.inl ⟨o9, by rw [ok]; decide⟩
          · exact Or.inr (by omega)) (fun _ q => q) rH,
      j',
      RWy_fr h h69 (fun a k b => by unfold B_drop at b; unfold OffW; omega) rW,
      RLs_fr h h69 (fun j hj => ⟨rJ.2.2.2.2.1 j hj, rJ.1.2.2.2.2.1 j hj⟩) (fun a k b => by
          rcases b with ⟨rfl, _⟩ | b
          · exact Or.inl ⟨o9, by rw [ok]; decide⟩
          · exact Or.inr (by omega)) (fun _ _ q => q.elim) (fun c _ => row_fr h h69 (fun a k b => by unfold B_drop at b; omega) c) h10 rL,
      RCa_bump (H := H) hu rfl (h.2.2.1 9 4 (by omega) (fun b => by unfold B_drop at b; omega)) e5 rC,
      RTp_fr h h69 (fun a k b => by unfold B_drop at b; omega) rT,
      RBk_fr h h69 (fun a k b => by unfold B_drop at b; unfold OffB; omega) rB,
      RSp_fr h h69 (fun a k b => by unfold B_drop at b; omega) rS,
      RFt_fr h h69 (fun a k b => by unfold B_drop at b; omega) rF⟩
  · exact hq _ H mid (fun d Q' k => c_X12_drop hF rJ.2.1.1 h10 (fun j hj ea hd => absurd ⟨j, hj, ea, by rw [(rJ.2.2.2.2.2.1 j hj).2.2.2.2.2]; exact hd⟩ hn) (fun _ => k H (Rel_up hRl)))
theorem RCa_set7 {m car j : Nat} {jo fr tt ord : Nat → Nat} {w : Nat → Nat → Nat} {H2 : PH} (hO : ∀ t, t < m → ord t < m) (h9 : ∀ i, i < m → 69 < jo i) (hj : 69 < jo j) (hl : hL H2 11 0 = hL H 11 0) (he : ∀ a k, a ≠ 46 → ¬ (a = jo j ∧ k = 7) → hI H2 a k = hI H a k) (hr : RCa H m car jo fr tt ord w u) : RCa H2 m car jo fr tt ord w u := by
  obtain ⟨r1, r2, r3⟩ := hr
  refine ⟨by rw [hl]; exact r1, by rw [he 5 5 (by omega) (by omega), he 9 4 (by omega) (by omega)]; exact r2, fun q => ?_⟩
  rw [he 5 5 (by omega) (by omega), he 9 4 (by omega) (by omega)] at q
  refine hasB_cong hO (fun i k hi hk => ?_) (fun i hi => he _ 8 (by have := h9 i hi; omega) (by omega)) ⟨he 9 5 (by omega) (by omega), he 9 6 (by omega) (by omega)⟩ (fun k => he 12 k (by omega) (by omega)) (r3 q)
  have a1 := h9 i hi
  have a2 := h9 k hk
  unfold folB cFol cEnd wy
  rw [he 6 _ (by omega) (by omega), he 6 _ (by omega) (by omega), he (jo i) 3 (by omega) (by omega), he (jo i) 4 (by omega) (by omega), he (jo k) 3 (by omega) (by omega)]
theorem s_team {a b : Int32} (hRl : Rel L X u H) (hq : ∀ x H1, Mid L X H1 → (∀ d Q', (∀ H2, Rel L X (u + 1) H2 → Q' (some (.int x)) H2) → Wp mX12_team (d + 8) 0 0 0 [some (.ref 33), some (.int a), some (.int b)] [] H1 Q') → Q (some (.int x)) H1) : Wp mX11_team (d + 70) 4 623 0 [some (.ref 1), some (.int a), some (.int b)] [] H Q := by
  obtain ⟨hF, hk0, hi0, n, ho, m, jo, fr, tt, ord, pos, w, car, N, nb, rH, rJ, rW, rL, rC, rT, rB, rS, rF⟩ := id hRl
  have h69 : 69 ≤ hN H := hF.2.2
  have mid : Mid L X H := ⟨hF, hk0, hi0⟩
  have h16 : n ≤ 16 := rH.1.2.1
  have h10 : m ≤ 10 := rJ.1.2.1
  refine wp_room (kc := 0) (ks := 0) (by omega) (by omega) ?_
  refine c_X11_team hF (c_X10_harness hF rJ.1 rH.1.1 (fun j hj ea hd hz hk => ?_) (fun hn => ?_))
  · have o9 := rJ.1.2.2.2.2.1 j hj
    have ok := rJ.1.2.2.2.1 j hj
    have g := rJ.2.2.2.2.2.1 j hj
    have hz' := (hall_set h16).mp hz
    have h1 : fra (B_team (jo j) j) (fun _ _ => False) H (sI H (jo j) 7 b) := fra_sI fra_rfl (Or.inl ⟨rfl, rfl⟩)
    have h : fra (B_team (jo j) j) (fun _ _ => False) H (sI (sI H (jo j) 7 b) 46 j b) := fra_sI h1 (Or.inr ⟨rfl, rfl⟩)
    refine hq _ _ (Mid_fra h1 (Fix_sI hF) (fun k q => by unfold B_team at q; omega) mid) (fun d Q' k => ?_)
    refine c_X12_team (m := m) (n := n) (H := sI H (jo j) 7 b) (Fix_sI hF) (by rw [hI_sI', if_neg (by omega)]; exact rJ.2.1.1) h10 (by rw [hI_sI', if_neg (by omega)]; exact rH.2.1) (fun j' hj' ea' _ _ _ => ?_) (fun hn => absurd ⟨j, hj, ea, by rw [hI_sI', if_neg (by omega), ← g.2.2.2.2.2]; exact hd, hz', by rw [← bc_set h16 hz', hI_sI', if_neg (by omega), ← g.2.2.2.1]; exact hk⟩ hn)
    rw [(nI_eq (by omega) (by omega)).mp (ea'.symm.trans ea)]
    have j' : RJb (sI (sI H (jo j) 7 b) 46 j b) m jo fr tt ord pos := RJb_set (H := H) (f := 7) (v := b) (Or.inl rfl) hj rfl rfl rfl (fun x k hx => rfl) rJ
    have c' : RCa (sI (sI H (jo j) 7 b) 46 j b) m car jo fr tt ord w u := RCa_set7 (H := H) (fun t ht => (rJ.2.2.1 t ht).2) rJ.1.2.2.2.2.1 o9 rfl (fun x k h1 h2 => by rw [hI_sI', if_neg (fun q => h1 q.1), hI_sI', if_neg h2]) rC
    exact k _ ⟨Fix_fra h (fun _ _ q => q) hF, (h.2.1 0 (by omega)).trans hk0, (funext (fun k => h.2.2.1 0 k (by omega) (fun b => by unfold B_team at b; omega))).trans hi0, n, ho, m, jo, fr, tt, ord, pos, w, car, N, nb,
      RHo_fr h h69 (fun a k b => by
          rcases b with ⟨rfl, _⟩ | b
          · exact Or.inl ⟨o9, by rw [ok]; decide⟩
          · exact Or.inr (by omega)) (fun _ q => q) rH,
      j',
      RWy_fr h h69 (fun a k b => by unfold B_team at b; unfold OffW; omega) rW,
      RLs_fr h h69 (fun j hj => ⟨rJ.2.2.2.2.1 j hj, rJ.1.2.2.2.2.1 j hj⟩) (fun a k b => by
          rcases b with ⟨rfl, _⟩ | b
          · exact Or.inl ⟨o9, by rw [ok]; decide⟩
          · exact Or.inr (by omega)) (fun _ _ q => q.elim) (fun c _ => row_fr h h69 (fun a k b => by unfold B_team at b; omega) c) h10 rL,
      RCa_up c',
      RTp_fr h h69 (fun a k b => by unfold B_team at b; omega) rT,
      RBk_fr h h69 (fun a k b => by unfold B_team at b; unfold OffB; omega) rB,
      RSp_fr h h69 (fun a k b => by unfold B_team at b; omega) rS,
      RFt_fr h h69 (fun a k b => by unfold B_team at b; omega) rF⟩
  · exact hq _ H mid (fun d Q' k => c_X12_team hF rJ.2.1.1 h10 rH.2.1 (fun j hj ea hd hs hk => absurd ⟨j, hj, ea, by rw [(rJ.2.2.2.2.2.1 j hj).2.2.2.2.2]; exact hd, (hall_set h16).mpr hs, by rw [bc_set h16 hs, (rJ.2.2.2.2.2.1 j hj).2.2.2.1]; exact hk⟩ hn) (fun _ => k H (Rel_up hRl)))
theorem hL_ap1 {N : Nat} {b : Int32} : hL (ap1 H N b) = hL H := rfl
theorem hL_mp1 {N : Nat} {b : Int32} : hL (mp1 H N b) = hL H := rfl
theorem hL_feed {N : Nat} {a b c e f : Int32} : hL (mpA (apA H N a b c e f) N a b c e f) = hL H := by
  unfold mpA mpd apA apd
  iterate 20 rw [hL_mp1]
  iterate 20 rw [hL_ap1]
theorem s_feed {a b c e f : Int32} (hRl : Rel L X u H) (hq : ∀ x H1, Mid L X H1 → (∀ d Q', (∀ H2, Rel L X (u + 1) H2 → Q' (some (.int x)) H2) → Wp mX12_feed (d + 8) 0 0 0 [some (.ref 33), some (.int a), some (.int b), some (.int c), some (.int e), some (.int f)] [] H1 Q') → Q (some (.int x)) H1) : Wp mX11_feed (d + 70) 4 623 0 [some (.ref 1), some (.int a), some (.int b), some (.int c), some (.int e), some (.int f)] [] H Q := by
  obtain ⟨hF, hk0, hi0, n, ho, m, jo, fr, tt, ord, pos, w, car, N, nb, rH, rJ, rW, rL, rC, rT, rB, rS, rF⟩ := id hRl
  have h69 : 69 ≤ hN H := hF.2.2
  have mid : Mid L X H := ⟨hF, hk0, hi0⟩
  have h16 : n ≤ 16 := rH.1.2.1
  have h10 : m ≤ 10 := rJ.1.2.1
  refine wp_room (kc := 0) (ks := 0) (by omega) (by omega) ?_
  refine c_X11_feed hF (c_X9_appendAll hF rT.1 rT.2.2.1 (fun hL => ?_) (fun hn => ?_))
  · have h1 : fra B_feed (fun _ _ => False) H (apA H N a b c e f) := fra_apA fra_rfl
    have h : fra B_feed (fun _ _ => False) H (mpA (apA H N a b c e f) N a b c e f) := fra_mpA h1
    have hF1 : Fix (apA H N a b c e f) := Fix_fra h1 (fun _ _ q => q) hF
    refine hq _ _ (Mid_fra h1 hF1 (fun k q => by unfold B_feed at q; omega) mid) (fun d Q' k => ?_)
    refine c_X12_feed (L := N) (H := apA H N a b c e f) hF1 (by rw [apA_33]; exact rT.2.1) rT.2.2.1 (fun _ => ?_) (fun hn => absurd hL hn)
    exact k _ ⟨Fix_fra h (fun _ _ q => q) hF, (h.2.1 0 (by omega)).trans hk0, (funext (fun k => h.2.2.1 0 k (by omega) (fun b => by unfold B_feed at b; omega))).trans hi0, n, ho, m, jo, fr, tt, ord, pos, w, car, N + 20, nb,
      RHo_fr h h69 (fun a k b => Or.inr (by unfold B_feed at b; omega)) (fun _ q => q) rH,
      RJb_fr h h69 (fun a k b => Or.inr (by unfold B_feed at b; omega)) (fun _ q => q) rJ,
      RWy_fr h h69 (fun a k b => by unfold B_feed at b; unfold OffW; omega) rW,
      RLs_fr h h69 (fun j hj => ⟨rJ.2.2.2.2.1 j hj, rJ.1.2.2.2.2.1 j hj⟩) (fun a k b => Or.inr (by unfold B_feed at b; omega)) (fun _ _ q => q.elim) (fun c _ => row_fr h h69 (fun a k b => by unfold B_feed at b; omega) c) h10 rL,
      RCa_up (RCa_fr h h69 (fun a k b => Or.inr (by unfold B_feed at b; omega)) (fun a k b => by unfold B_feed at b; omega) rJ (by rw [hL_feed]) rC),
      RTp_feed hL rT,
      RBk_fr h h69 (fun a k b => by unfold B_feed at b; unfold OffB; omega) rB,
      RSp_fr h h69 (fun a k b => by unfold B_feed at b; omega) rS,
      RFt_fr h h69 (fun a k b => by unfold B_feed at b; omega) rF⟩
  · exact hq _ H mid (fun d Q' k => c_X12_feed hF rT.2.1 rT.2.2.1 (fun h => absurd h hn) (fun _ => k H (Rel_up hRl)))
theorem s_end {a : Int32} (hRl : Rel L X u H) (hq : ∀ x H1, Mid L X H1 → (∀ d Q', (∀ H2, Rel L X (u + 1) H2 → Q' (some (.int x)) H2) → Wp mX12_end (d + 8) 0 0 0 [some (.ref 33), some (.int a)] [] H1 Q') → Q (some (.int x)) H1) : Wp mX11_end (d + 70) 4 623 0 [some (.ref 1), some (.int a)] [] H Q := by
  obtain ⟨hF, hk0, hi0, n, ho, m, jo, fr, tt, ord, pos, w, car, N, nb, rH, rJ, rW, rL, rC, rT, rB, rS, rF⟩ := id hRl
  have h69 : 69 ≤ hN H := hF.2.2
  have mid : Mid L X H := ⟨hF, hk0, hi0⟩
  have h16 : n ≤ 16 := rH.1.2.1
  have h10 : m ≤ 10 := rJ.1.2.1
  refine wp_room (kc := 0) (ks := 0) (by omega) (by omega) ?_
  refine c_X11_end hF (c_X9_cutTo hF rT.1 (fun g => ?_) (fun hn => ?_))
  · have hN6 := rT.2.2.1
    obtain ⟨V, hV, eV⟩ := N_of (M := N) (by omega) g
    have h1 : fra B_feed (fun _ _ => False) H (sI H 14 1 a) := fra_sI fra_rfl (Or.inr (Or.inl ⟨rfl, rfl⟩))
    have h : fra B_feed (fun _ _ => False) H (sI (sI H 14 1 a) 33 40 a) := fra_sI h1 (Or.inr (Or.inr (Or.inr ⟨rfl, rfl⟩)))
    refine hq _ _ (Mid_fra h1 (Fix_sI hF) (fun k q => by unfold B_feed at q; omega) mid) (fun d Q' k => ?_)
    refine c_X12_end (L := N) (H := sI H 14 1 a) (Fix_sI hF) (by rw [hI_sI', if_neg (by omega)]; exact rT.2.1) (fun _ => ?_) (fun hn => absurd g hn)
    have t' : RTp (sI (sI H 14 1 a) 33 40 a) V := ⟨by rw [hI_sI', if_neg (by omega), hI_sI', if_pos ⟨rfl, rfl⟩]; exact eV, by rw [hI_sI', if_pos ⟨rfl, rfl⟩]; exact eV, by omega, fun j hj => by rw [hI_sI', if_neg (by omega), hI_sI', if_neg (by omega), hI_sI', if_neg (by omega), hI_sI', if_neg (by omega)]; exact rT.2.2.2 j (by omega)⟩
    exact k _ ⟨Fix_fra h (fun _ _ q => q) hF, (h.2.1 0 (by omega)).trans hk0, (funext (fun k => h.2.2.1 0 k (by omega) (fun b => by unfold B_feed at b; omega))).trans hi0, n, ho, m, jo, fr, tt, ord, pos, w, car, V, nb,
      RHo_fr h h69 (fun a k b => Or.inr (by unfold B_feed at b; omega)) (fun _ q => q) rH,
      RJb_fr h h69 (fun a k b => Or.inr (by unfold B_feed at b; omega)) (fun _ q => q) rJ,
      RWy_fr h h69 (fun a k b => by unfold B_feed at b; unfold OffW; omega) rW,
      RLs_fr h h69 (fun j hj => ⟨rJ.2.2.2.2.1 j hj, rJ.1.2.2.2.2.1 j hj⟩) (fun a k b => Or.inr (by unfold B_feed at b; omega)) (fun _ _ q => q.elim) (fun c _ => row_fr h h69 (fun a k b => by unfold B_feed at b; omega) c) h10 rL,
      RCa_up (RCa_fr h h69 (fun a k b => Or.inr (by unfold B_feed at b; omega)) (fun a k b => by unfold B_feed at b; omega) rJ rfl rC),
      t',
      RBk_fr h h69 (fun a k b => by unfold B_feed at b; unfold OffB; omega) rB,
      RSp_fr h h69 (fun a k b => by unfold B_feed at b; omega) rS,
      RFt_fr h h69 (fun a k b => by unfold B_feed at b; omega) rF⟩
  · exact hq _ H mid (fun d Q' k => c_X12_end hF rT.2.1 (fun g => absurd g hn) (fun _ => k H (Rel_up hRl)))
theorem s_broken {a b c e : Int32} (hRl : Rel L X u H) (hq : ∀ x H1, Mid L X H1 → (∀ d Q', (∀ H2, Rel L X (u + 1) H2 → Q' (some (.int x)) H2) → Wp mX12_broken (d + 8) 0 0 0 [some (.ref 33), some (.int a), some (.int b), some (.int c), some (.int e)] [] H1 Q') → Q (some (.int x)) H1) : Wp mX11_broken (d + 70) 4 623 0 [some (.ref 1), some (.int a), some (.int b), some (.int c), some (.int e)] [] H Q := by
  obtain ⟨hF, hk0, hi0, n, ho, m, jo, fr, tt, ord, pos, w, car, N, nb, rH, rJ, rW, rL, rC, rT, rB, rS, rF⟩ := id hRl
  have h69 : 69 ≤ hN H := hF.2.2
  have mid : Mid L X H := ⟨hF, hk0, hi0⟩
  have h16 : n ≤ 16 := rH.1.2.1
  have h10 : m ≤ 10 := rJ.1.2.1
  refine wp_room (kc := 0) (ks := 0) (by omega) (by omega) ?_
  refine c_X11_broken hF (c_X0_enter hF rB.1 rB.2.2.1 (fun hc hn => ?_) (fun hn => ?_))
  · have h1 : fra (B_book nb) (fun _ _ => False) H (bkNew H nb a b c e) := fra_bkNew fra_rfl
    have h : fra (B_book nb) (fun _ _ => False) H (mdNew (bkNew H nb a b c e) nb a b c e) := fra_mdNew h1
    have hF1 : Fix (bkNew H nb a b c e) := Fix_fra h1 (fun _ _ q => q) hF
    refine hq _ _ (Mid_fra h1 hF1 (fun k q => by unfold B_book at q; omega) mid) (fun d Q' k => ?_)
    refine c_X12_broken (n := nb) (H := bkNew H nb a b c e) hF1 (by
      unfold bkNew
      rw [hI_sI', if_neg (by omega), hI_sI', if_neg (by omega), hI_sI', if_neg (by omega), hI_sI', if_neg (by omega), hI_sI', if_neg (by omega), hI_sI', if_neg (by omega)]
      exact rB.2.1) rB.2.2.1 (fun _ _ => ?_) (fun hn' => absurd ⟨hc, hn⟩ hn')
    exact k _ ⟨Fix_fra h (fun _ _ q => q) hF, (h.2.1 0 (by omega)).trans hk0, (funext (fun k => h.2.2.1 0 k (by omega) (fun b => by unfold B_book at b; omega))).trans hi0, n, ho, m, jo, fr, tt, ord, pos, w, car, N, nb + 1,
      RHo_fr h h69 (fun a k b => Or.inr (by unfold B_book at b; omega)) (fun _ q => q) rH,
      RJb_fr h h69 (fun a k b => Or.inr (by unfold B_book at b; omega)) (fun _ q => q) rJ,
      RWy_fr h h69 (fun a k b => by unfold B_book at b; unfold OffW; omega) rW,
      RLs_fr h h69 (fun j hj => ⟨rJ.2.2.2.2.1 j hj, rJ.1.2.2.2.2.1 j hj⟩) (fun a k b => Or.inr (by unfold B_book at b; omega)) (fun _ _ q => q.elim) (fun c _ => row_fr h h69 (fun a k b => by unfold B_book at b; omega) c) h10 rL,
      RCa_up (RCa_fr h h69 (fun a k b => Or.inr (by unfold B_book at b; omega)) (fun a k b => by unfold B_book at b; omega) rJ rfl rC),
      RTp_fr h h69 (fun a k b => by unfold B_book at b; omega) rT,
      RBk_new h69 hc hn rB,
      RSp_fr h h69 (fun a k b => by unfold B_book at b; omega) rS,
      RFt_fr h h69 (fun a k b => by unfold B_book at b; omega) rF⟩
  · exact hq _ H mid (fun d Q' k => c_X12_broken hF rB.2.1 rB.2.2.1 (fun hc hn' => absurd ⟨hc, hn'⟩ hn) (fun _ => k H (Rel_up hRl)))
theorem s_untell {a b : Int32} (hRl : Rel L X u H) (hq : ∀ x H1, Mid L X H1 → (∀ d Q', (∀ H2, Rel L X (u + 1) H2 → Q' (some (.int x)) H2) → Wp mX12_untell (d + 8) 0 0 0 [some (.ref 33), some (.int a), some (.int b)] [] H1 Q') → Q (some (.int x)) H1) : Wp mX11_untell (d + 70) 4 623 0 [some (.ref 1), some (.int a), some (.int b)] [] H Q := by
  obtain ⟨hF, hk0, hi0, n, ho, m, jo, fr, tt, ord, pos, w, car, N, nb, rH, rJ, rW, rL, rC, rT, rB, rS, rF⟩ := id hRl
  have h69 : 69 ≤ hN H := hF.2.2
  have mid : Mid L X H := ⟨hF, hk0, hi0⟩
  have h16 : n ≤ 16 := rH.1.2.1
  have h10 : m ≤ 10 := rJ.1.2.1
  refine wp_room (kc := 0) (ks := 0) (by omega) (by omega) ?_
  have h40 := rB.2.2.1
  refine c_X11_untell hF (c_X0_takeBack hF rB.1 rB.2.2.1 (fun j hj ea hm1 g => ?_) (fun hn => ?_))
  · have r := rB.2.2.2 j hj
    rw [r.1.2.2.2.1] at g
    rw [r.1.2.2.2.2] at hm1
    have h1 : fra (B_un j) (fun _ _ => False) H (sI H 28 j b) := fra_sI fra_rfl (Or.inl ⟨rfl, rfl⟩)
    have h : fra (B_un j) (fun _ _ => False) H (sI (sI H 28 j b) 69 j b) := fra_sI h1 (Or.inr ⟨rfl, rfl⟩)
    refine hq _ _ (Mid_fra h1 (Fix_sI hF) (fun k q => by unfold B_un at q; omega) mid) (fun d Q' k => ?_)
    refine c_X12_untell (n := nb) (H := sI H 28 j b) (Fix_sI hF) (by rw [hI_sI', if_neg (by omega)]; exact rB.2.1) rB.2.2.1 (fun j' hj' ea' _ _ => ?_) (fun hn => absurd ⟨j, hj, ea, by rw [hI_sI', if_neg (by omega), hm1]; decide, by rw [hI_sI', if_neg (by omega)]; exact g⟩ hn)
    rw [(nI_eq (by omega) (by omega)).mp (ea'.symm.trans ea)]
    exact k _ ⟨Fix_fra h (fun _ _ q => q) hF, (h.2.1 0 (by omega)).trans hk0, (funext (fun k => h.2.2.1 0 k (by omega) (fun b => by unfold B_un at b; omega))).trans hi0, n, ho, m, jo, fr, tt, ord, pos, w, car, N, nb,
      RHo_fr h h69 (fun a k b => Or.inr (by unfold B_un at b; omega)) (fun _ q => q) rH,
      RJb_fr h h69 (fun a k b => Or.inr (by unfold B_un at b; omega)) (fun _ q => q) rJ,
      RWy_fr h h69 (fun a k b => by unfold B_un at b; unfold OffW; omega) rW,
      RLs_fr h h69 (fun j hj => ⟨rJ.2.2.2.2.1 j hj, rJ.1.2.2.2.2.1 j hj⟩) (fun a k b => Or.inr (by unfold B_un at b; omega)) (fun _ _ q => q.elim) (fun c _ => row_fr h h69 (fun a k b => by unfold B_un at b; omega) c) h10 rL,
      RCa_up (RCa_fr h h69 (fun a k b => Or.inr (by unfold B_un at b; omega)) (fun a k b => by unfold B_un at b; omega) rJ rfl rC),
      RTp_fr h h69 (fun a k b => by unfold B_un at b; omega) rT,
      RBk_un hj g.1 rB,
      RSp_fr h h69 (fun a k b => by unfold B_un at b; omega) rS,
      RFt_fr h h69 (fun a k b => by unfold B_un at b; omega) rF⟩
  · refine hq _ H mid (fun d Q' k => c_X12_untell hF rB.2.1 rB.2.2.1 (fun j hj ea hm1 g => absurd ?_ hn) (fun _ => k H (Rel_up hRl)))
    have r := rB.2.2.2 j hj
    refine ⟨j, hj, ea, ?_, by rw [r.1.2.2.2.1]; exact g⟩
    rw [r.1.2.2.2.2]
    rcases r.2.2.2 with q | q
    · exact q
    · exact absurd hm1 (Int32.not_lt.mpr q)
end SW
