/-! ===== a step of the law: the class's call, then the reference's: by program (mkrel.py) ===== -/
def Mid (L : Nat) (X : Nat → Int32) (H : PH) : Prop := Fix H ∧ hK H 0 = (99, L) ∧ hI H 0 = X
def Rel (L : Nat) (X : Nat → Int32) (u : Nat) (H : PH) : Prop := Fix H ∧ hK H 0 = (99, L) ∧ hI H 0 = X ∧ ∃ (n : Nat) (ho : Nat → Nat) (m : Nat) (jo fr tt ord pos : Nat → Nat) (w : Nat → Nat → Nat) (car N nb : Nat), RHo H n ho ∧ RJb H m jo fr tt ord pos ∧ RWy H w car ∧ RLs H m jo ∧ RCa H m car jo fr tt ord w u ∧ RTp H N ∧ RBk H nb ∧ RSp H ∧ RFt H
section ST
variable {L u d : Nat} {X : Nat → Int32} {H : PH} {Q : Option Value → PH → Prop}
theorem Fix_fra {B C : Nat → Nat → Prop} {H H' : PH} (h : fra B C H H') (hC : ∀ e ∈ fixR, ¬ C e.1.1 e.1.2) (hF : Fix H) : Fix H' :=
  ⟨fun e he => (h.2.1 e.1 (Nat.le_trans (fixK_lt e he) hF.2.2)).trans (hF.1 e he), fun e he => (h.2.2.2 e.1.1 e.1.2 (Nat.le_trans (fixR_lt e he) hF.2.2) (hC e he)).trans (hF.2.1 e he), Nat.le_trans hF.2.2 h.1⟩
theorem Mid_fra {B C : Nat → Nat → Prop} {H H' : PH} (h : fra B C H H') (hF' : Fix H') (hB : ∀ k, ¬ B 0 k) (hM : Mid L X H) : Mid L X H' :=
  ⟨hF', (h.2.1 0 (Nat.zero_le _)).trans hM.2.1, (funext (fun k => h.2.2.1 0 k (Nat.zero_le _) (hB k))).trans hM.2.2⟩
theorem RCa_up {m car : Nat} {jo fr tt ord : Nat → Nat} {w : Nat → Nat → Nat} (h : RCa H m car jo fr tt ord w u) : RCa H m car jo fr tt ord w (u + 1) := by
  obtain ⟨h1, ⟨cg, h2, h3⟩, h4⟩ := h
  exact ⟨h1, ⟨cg, by omega, h3⟩, h4⟩
theorem RCa_bump {m car m2 car2 : Nat} {jo fr tt ord jo2 fr2 tt2 ord2 : Nat → Nat} {w w2 : Nat → Nat → Nat} {H2 : PH} (hu : u < 1000000) (hl : hL H2 11 0 = hL H 11 0) (h9 : hI H2 9 4 = hI H 9 4) (h5 : hI H2 5 5 = hI H 5 5 + 1) (h : RCa H m car jo fr tt ord w u) : RCa H2 m2 car2 jo2 fr2 tt2 ord2 w2 (u + 1) := by
  obtain ⟨h1, ⟨cg, h2, h3, h4⟩, -⟩ := h
  have e5 : hI H2 5 5 = nI (cg + 1) := by rw [h5, h3, nI_1]
  refine ⟨by rw [hl]; exact h1, ⟨cg + 1, by omega, e5, ?_⟩, fun q => ?_⟩
  · rw [h9]
    rcases h4 with h4 | ⟨sn, h4, h6⟩
    · exact Or.inl h4
    · exact Or.inr ⟨sn, by omega, h6⟩
  · rw [h9, e5] at q
    rcases h4 with h4 | ⟨sn, h4, h6⟩
    · rw [h4] at q
      exact absurd q.symm (nI_m1 (by omega))
    · rw [h6, nI_eq (by omega) (by omega)] at q
      omega
theorem Rel_up (hRl : Rel L X u H) : Rel L X (u + 1) H := by
  obtain ⟨hF, hk0, hi0, n, ho, m, jo, fr, tt, ord, pos, w, car, N, nb, rH, rJ, rW, rL, rC, rT, rB, rS, rF⟩ := hRl
  exact ⟨hF, hk0, hi0, n, ho, m, jo, fr, tt, ord, pos, w, car, N, nb, rH, rJ, rW, rL, RCa_up rC, rT, rB, rS, rF⟩
theorem s_match {a : Int32} (hRl : Rel L X u H) (hq : ∀ x H1, Mid L X H1 → (∀ d Q', (∀ H2, Rel L X (u + 1) H2 → Q' (some (.int x)) H2) → Wp mX12_match (d + 8) 0 0 0 [some (.ref 33), some (.int a)] [] H1 Q') → Q (some (.int x)) H1) : Wp mX11_match (d + 70) 4 623 0 [some (.ref 1), some (.int a)] [] H Q := by
  obtain ⟨hF, hk0, hi0, n, ho, m, jo, fr, tt, ord, pos, w, car, N, nb, rH, rJ, rW, rL, rC, rT, rB, rS, rF⟩ := id hRl
  have h69 : 69 ≤ hN H := hF.2.2
  have mid : Mid L X H := ⟨hF, hk0, hi0⟩
  have h16 : n ≤ 16 := rH.1.2.1
  have h10 : m ≤ 10 := rJ.1.2.1
  refine wp_room (kc := 0) (ks := 0) (by omega) (by omega) ?_
  refine c_X11_match hF rH.1 ?_
  exact hq _ H mid (fun d Q' k => c_X12_match hF rH.2.1 h16 (by rw [← bI_iff (match_eq rH rS a)]; exact k H (Rel_up hRl)))
theorem s_of {a b : Int32} (hRl : Rel L X u H) (hq : ∀ x H1, Mid L X H1 → (∀ d Q', (∀ H2, Rel L X (u + 1) H2 → Q' (some (.int x)) H2) → Wp mX12_of (d + 8) 0 0 0 [some (.ref 33), some (.int a), some (.int b)] [] H1 Q') → Q (some (.int x)) H1) : Wp mX11_of (d + 70) 4 623 0 [some (.ref 1), some (.int a), some (.int b), none] [] H Q := by
  obtain ⟨hF, hk0, hi0, n, ho, m, jo, fr, tt, ord, pos, w, car, N, nb, rH, rJ, rW, rL, rC, rT, rB, rS, rF⟩ := id hRl
  have h69 : 69 ≤ hN H := hF.2.2
  have mid : Mid L X H := ⟨hF, hk0, hi0⟩
  have h16 : n ≤ 16 := rH.1.2.1
  have h10 : m ≤ 10 := rJ.1.2.1
  refine wp_room (kc := 0) (ks := 0) (by omega) (by omega) ?_
  have hs : ∀ j, ∃ A ln, j < m → hR H (jo j) 6 = some A ∧ (∃ p q r c, PL H A p q r c ln) ∧ hI H 51 j = nI ln := by
    intro j
    by_cases hj : j < m
    · obtain ⟨A, o, E, e1, ⟨p, q, r, e2, -⟩, -, e4⟩ := rL.2 j hj
      exact ⟨A, E.length, fun _ => ⟨e1, ⟨p, q, r, _, e2⟩, e4.2.2.2⟩⟩
    · exact ⟨0, 0, fun q => absurd q hj⟩
  obtain ⟨bk, hs⟩ := Classical.skolem.mp hs
  obtain ⟨ln, hs⟩ := Classical.skolem.mp hs
  refine c_X11_of (bk := bk) (ln := ln) hF rJ.1 (fun j hj => ⟨(hs j hj).1, (hs j hj).2.1⟩) (fun j hj ea => ?_) (fun hn => ?_)
  · refine hq _ H mid (fun d Q' k => c_X12_of hF rJ.2.1 (fun j' hj' ea' => ?_) (fun hn => absurd ⟨by rw [ea]; exact nI_pos' (by omega), by rw [ea]; exact nI_lt hj (by omega)⟩ hn))
    have ej : j' = j := (nI_eq (by omega) (by omega)).mp (ea'.symm.trans ea)
    rw [ej]
    have g := rJ.2.2.2.2.2.1 j hj
    rw [← end_eq rW rJ hj, ← g.2.2.2.2.1, ← g.2.2.2.2.2, (hs j hj).2.2]
    exact k H (Rel_up hRl)
  · exact hq _ H mid (fun d Q' k => c_X12_of hF rJ.2.1 (fun j hj ea => absurd ⟨by rw [ea]; exact nI_pos' (by omega), by rw [ea]; exact nI_lt hj (by omega)⟩ hn) (fun _ => k H (Rel_up hRl)))
theorem s_behind {a b : Int32} (hRl : Rel L X u H) (hq : ∀ x H1, Mid L X H1 → (∀ d Q', (∀ H2, Rel L X (u + 1) H2 → Q' (some (.int x)) H2) → Wp mX12_behind (d + 8) 0 0 0 [some (.ref 33), some (.int a), some (.int b)] [] H1 Q') → Q (some (.int x)) H1) : Wp mX11_behind (d + 70) 4 623 0 [some (.ref 1), some (.int a), some (.int b), none, none] [] H Q := by
  obtain ⟨hF, hk0, hi0, n, ho, m, jo, fr, tt, ord, pos, w, car, N, nb, rH, rJ, rW, rL, rC, rT, rB, rS, rF⟩ := id hRl
  have h69 : 69 ≤ hN H := hF.2.2
  have mid : Mid L X H := ⟨hF, hk0, hi0⟩
  have h16 : n ≤ 16 := rH.1.2.1
  have h10 : m ≤ 10 := rJ.1.2.1
  refine wp_room (kc := 0) (ks := 0) (by omega) (by omega) ?_
  refine c_X11_behind hF rJ.1 (fun i j hi hj ea eb hd he => ?_) (fun hn => ?_)
  · refine hq _ H mid (fun d Q' k => c_X12_behind hF rJ.2.1 (fun i' j' hi' hj' ea' eb' _ _ => ?_) (fun hn => absurd ⟨⟨i, hi, ea, by rw [← (rJ.2.2.2.2.2.1 i hi).2.2.2.2.2]; exact hd⟩, ⟨j, hj, eb, by rw [← (rJ.2.2.2.2.2.1 j hj).2.2.2.2.2]; exact he⟩⟩ hn))
    rw [(nI_eq (by omega) (by omega)).mp (ea'.symm.trans ea), (nI_eq (by omega) (by omega)).mp (eb'.symm.trans eb), ← propext (fol_eq rW rJ hi hj)]
    exact k H (Rel_up hRl)
  · exact hq _ H mid (fun d Q' k => c_X12_behind hF rJ.2.1 (fun i j hi hj ea eb hd he => absurd ⟨⟨i, hi, ea, by rw [(rJ.2.2.2.2.2.1 i hi).2.2.2.2.2]; exact hd⟩, ⟨j, hj, eb, by rw [(rJ.2.2.2.2.2.1 j hj).2.2.2.2.2]; exact he⟩⟩ hn) (fun _ => k H (Rel_up hRl)))
theorem s_right {a : Int32} (hRl : Rel L X u H) (hq : ∀ x H1, Mid L X H1 → (∀ d Q', (∀ H2, Rel L X (u + 1) H2 → Q' (some (.int x)) H2) → Wp mX12_right (d + 8) 0 0 0 [some (.ref 33), some (.int a)] [] H1 Q') → Q (some (.int x)) H1) : Wp mX11_right (d + 70) 4 623 0 [some (.ref 1), some (.int a)] [] H Q := by
  obtain ⟨hF, hk0, hi0, n, ho, m, jo, fr, tt, ord, pos, w, car, N, nb, rH, rJ, rW, rL, rC, rT, rB, rS, rF⟩ := id hRl
  have h69 : 69 ≤ hN H := hF.2.2
  have mid : Mid L X H := ⟨hF, hk0, hi0⟩
  have h16 : n ≤ 16 := rH.1.2.1
  have h10 : m ≤ 10 := rJ.1.2.1
  refine wp_room (kc := 0) (ks := 0) (by omega) (by omega) ?_
  refine c_X11_right hF (c_X10_standingOf hF rJ.1 rJ.2.2.1 rH.1 (fun j hj ea hd => ?_) (fun hn => ?_))
  · refine hq _ H mid (fun d Q' k => c_X12_right hF rJ.2.1 rJ.2.2.2.1 rH.2.1 h16 (fun j' hj' ea' _ => ?_) (fun hn => absurd ⟨j, hj, ea, by rw [← (rJ.2.2.2.2.2.1 j hj).2.2.2.2.2]; exact hd⟩ hn))
    rw [(nI_eq (by omega) (by omega)).mp (ea'.symm.trans ea)]
    have e : (if hI H (jo j) 7 = 0 then (1 : Int32) else flw H jo fr tt ord ho m n j (hI H (jo j) 7)) = rgt H fr tt ord m n j (hI H 46 j) := by
      rw [(rJ.2.2.2.2.2.1 j hj).2.2.2.2.1]
      by_cases z : hI H 46 j = 0
      · rw [if_pos z]
        unfold rgt
        rw [if_pos z]
      · rw [if_neg z]
        exact flw_rgt rH rS rW rJ hj z
    rw [← e]
    exact k H (Rel_up hRl)
  · exact hq _ H mid (fun d Q' k => c_X12_right hF rJ.2.1 rJ.2.2.2.1 rH.2.1 h16 (fun j hj ea hd => absurd ⟨j, hj, ea, by rw [(rJ.2.2.2.2.2.1 j hj).2.2.2.2.2]; exact hd⟩ hn) (fun _ => k H (Rel_up hRl)))
theorem s_strength {a b : Int32} (hRl : Rel L X u H) (hq : ∀ x H1, Mid L X H1 → (∀ d Q', (∀ H2, Rel L X (u + 1) H2 → Q' (some (.int x)) H2) → Wp mX12_strength (d + 8) 0 0 0 [some (.ref 33), some (.int a), some (.int b)] [] H1 Q') → Q (some (.int x)) H1) : Wp mX11_strength (d + 70) 4 623 0 [some (.ref 1), some (.int a), some (.int b)] [] H Q := by
  obtain ⟨hF, hk0, hi0, n, ho, m, jo, fr, tt, ord, pos, w, car, N, nb, rH, rJ, rW, rL, rC, rT, rB, rS, rF⟩ := id hRl
  have h69 : 69 ≤ hN H := hF.2.2
  have mid : Mid L X H := ⟨hF, hk0, hi0⟩
  have h16 : n ≤ 16 := rH.1.2.1
  have h10 : m ≤ 10 := rJ.1.2.1
  refine wp_room (kc := 0) (ks := 0) (by omega) (by omega) ?_
  refine c_X11_strength hF rJ.1 rJ.2.2.1 rH.1 (fun j h hj hh ea eb hd hbb => ?_) (fun hn => ?_)
  · have g := rJ.2.2.2.2.2.1 j hj
    refine hq _ H mid (fun d Q' k => c_X12_strength hF rJ.2.1 rJ.2.2.2.1 rH.2.1 h16 (fun j' h' hj' hh' ea' eb' _ _ => ?_) (fun hn => absurd ⟨j, h, hj, hh, ea, eb, by rw [← g.2.2.2.2.2]; exact hd, by rw [← g.2.2.2.2.1]; exact (hb_mb _ (by omega)).mp hbb⟩ hn))
    rw [(nI_eq (by omega) (by omega)).mp (ea'.symm.trans ea), (nI_eq (by omega) (by omega)).mp (eb'.symm.trans eb), ← str_eq rH rW rJ hh]
    exact k H (Rel_up hRl)
  · exact hq _ H mid (fun d Q' k => c_X12_strength hF rJ.2.1 rJ.2.2.2.1 rH.2.1 h16 (fun j h hj hh ea eb hd hbb => absurd ⟨j, h, hj, hh, ea, eb, by rw [(rJ.2.2.2.2.2.1 j hj).2.2.2.2.2]; exact hd, by rw [(rJ.2.2.2.2.2.1 j hj).2.2.2.2.1]; exact (hb_mb _ (by omega)).mpr hbb⟩ hn) (fun _ => k H (Rel_up hRl)))
theorem s_standIn {a b : Int32} (hRl : Rel L X u H) (hq : ∀ x H1, Mid L X H1 → (∀ d Q', (∀ H2, Rel L X (u + 1) H2 → Q' (some (.int x)) H2) → Wp mX12_standIn (d + 8) 0 0 0 [some (.ref 33), some (.int a), some (.int b), none, none, none, none, none] [] H1 Q') → Q (some (.int x)) H1) : Wp mX11_standIn (d + 70) 4 623 0 [some (.ref 1), some (.int a), some (.int b)] [] H Q := by
  obtain ⟨hF, hk0, hi0, n, ho, m, jo, fr, tt, ord, pos, w, car, N, nb, rH, rJ, rW, rL, rC, rT, rB, rS, rF⟩ := id hRl
  have h69 : 69 ≤ hN H := hF.2.2
  have mid : Mid L X H := ⟨hF, hk0, hi0⟩
  have h16 : n ≤ 16 := rH.1.2.1
  have h10 : m ≤ 10 := rJ.1.2.1
  refine wp_room (kc := 0) (ks := 0) (by omega) (by omega) ?_
  refine c_X11_standIn hF rJ.1 rJ.2.2.1 rH.1 (fun j h hj hh ea eb hd hbb o ho1 => ?_) (fun hn => ?_)
  · have g := rJ.2.2.2.2.2.1 j hj
    refine hq _ H mid (fun d Q' k => c_X12_standIn hF rJ.2.1 rJ.2.2.2.1 rH.2.1 h16 (fun j' h' hj' hh' ea' eb' _ _ o' ho2 => ?_) (fun hn => absurd ⟨j, h, hj, hh, ea, eb, by rw [← g.2.2.2.2.2]; exact hd, by rw [← g.2.2.2.2.1]; exact (mb_ne _ _).mpr ((hb_mb _ (by omega)).mp hbb)⟩ hn))
    have e1 : j' = j := (nI_eq (by omega) (by omega)).mp (ea'.symm.trans ea)
    have e2 : h' = h := (nI_eq (by omega) (by omega)).mp (eb'.symm.trans eb)
    subst e1
    subst e2
    rw [← stand_eq rH rS rW rJ hj hh ho1 ho2]
    exact k H (Rel_up hRl)
  · exact hq _ H mid (fun d Q' k => c_X12_standIn hF rJ.2.1 rJ.2.2.2.1 rH.2.1 h16 (fun j h hj hh ea eb hd hbb => absurd ⟨j, h, hj, hh, ea, eb, by rw [(rJ.2.2.2.2.2.1 j hj).2.2.2.2.2]; exact hd, by rw [(rJ.2.2.2.2.2.1 j hj).2.2.2.2.1]; exact (hb_mb _ (by omega)).mpr ((mb_ne _ _).mp hbb)⟩ hn) (fun _ => k H (Rel_up hRl)))
theorem s_fault {a : Int32} (hRl : Rel L X u H) (hq : ∀ x H1, Mid L X H1 → (∀ d Q', (∀ H2, Rel L X (u + 1) H2 → Q' (some (.int x)) H2) → Wp mX12_fault (d + 8) 0 0 0 [some (.ref 33), some (.int a)] [] H1 Q') → Q (some (.int x)) H1) : Wp mX11_fault (d + 70) 4 623 0 [some (.ref 1), some (.int a)] [] H Q := by
  obtain ⟨hF, hk0, hi0, n, ho, m, jo, fr, tt, ord, pos, w, car, N, nb, rH, rJ, rW, rL, rC, rT, rB, rS, rF⟩ := id hRl
  have h69 : 69 ≤ hN H := hF.2.2
  have mid : Mid L X H := ⟨hF, hk0, hi0⟩
  have h16 : n ≤ 16 := rH.1.2.1
  have h10 : m ≤ 10 := rJ.1.2.1
  refine wp_room (kc := 0) (ks := 0) (by omega) (by omega) ?_
  refine c_X11_fault hF ?_
  exact hq _ H mid (fun d Q' k => c_X12_fault hF (by rw [← rF.1, ← rF.2]; exact k H (Rel_up hRl)))
theorem s_whole {a b c : Int32} (hRl : Rel L X u H) (hq : ∀ x H1, Mid L X H1 → (∀ d Q', (∀ H2, Rel L X (u + 1) H2 → Q' (some (.int x)) H2) → Wp mX12_whole (d + 8) 0 0 0 [some (.ref 33), some (.int a), some (.int b), some (.int c)] [] H1 Q') → Q (some (.int x)) H1) : Wp mX11_whole (d + 70) 4 623 0 [some (.ref 1), some (.int a), some (.int b), some (.int c)] [] H Q := by
  obtain ⟨hF, hk0, hi0, n, ho, m, jo, fr, tt, ord, pos, w, car, N, nb, rH, rJ, rW, rL, rC, rT, rB, rS, rF⟩ := id hRl
  have h69 : 69 ≤ hN H := hF.2.2
  have mid : Mid L X H := ⟨hF, hk0, hi0⟩
  have h16 : n ≤ 16 := rH.1.2.1
  have h10 : m ≤ 10 := rJ.1.2.1
  refine wp_room (kc := 0) (ks := 0) (by omega) (by omega) ?_
  refine c_X11_whole hF (c_X0_wholeAt hF rB.1 rB.2.2.1 ?_)
  exact hq _ H mid (fun d Q' k => c_X12_whole hF rB.2.1 rB.2.2.1 (by rw [← propext (whole_eq rB a b c)]; exact k H (Rel_up hRl)))
theorem s_free {a b c e : Int32} (hRl : Rel L X u H) (hq : ∀ x H1, Mid L X H1 → (∀ d Q', (∀ H2, Rel L X (u + 1) H2 → Q' (some (.int x)) H2) → Wp mX12_free (d + 8) 0 0 0 [some (.ref 33), some (.int a), some (.int b), some (.int c), some (.int e), none, none] [] H1 Q') → Q (some (.int x)) H1) : Wp mX11_free (d + 70) 4 623 0 [some (.ref 1), some (.int a), some (.int b), some (.int c), some (.int e)] [] H Q := by
  obtain ⟨hF, hk0, hi0, n, ho, m, jo, fr, tt, ord, pos, w, car, N, nb, rH, rJ, rW, rL, rC, rT, rB, rS, rF⟩ := id hRl
  have h69 : 69 ≤ hN H := hF.2.2
  have mid : Mid L X H := ⟨hF, hk0, hi0⟩
  have h16 : n ≤ 16 := rH.1.2.1
  have h10 : m ≤ 10 := rJ.1.2.1
  refine wp_room (kc := 0) (ks := 0) (by omega) (by omega) ?_
  obtain ⟨f1, f2, f3⟩ := bk_ft rB
  refine c_X11_free hF (c_X0_firstFree hF rB.1 rB.2.2.1 f1 f2 f3 (fun m0 z s em el hm hz hz5 hc h1 h2 h3 h4 => ?_) (fun hn => ?_))
  · refine hq _ H mid (fun d Q' k => c_X12_free hF rB.2.1 rB.2.2.1 (fun i hi => (rB.2.2.2 i hi).2.1.2.2) (fun m1 z1 s1 em1 el1 hm1 hz1 hz51 _ g1 g2 g3 g4 => ?_) (fun hn => absurd ⟨hc, ⟨by rw [em]; exact nI_pos' (by omega), by rw [em]; exact nI_le (b := 3000) hm (by decide)⟩, ⟨by rw [el]; exact nI_le (a := 1) hz (by omega), by rw [el]; exact nI_le (b := 500) hz5 (by decide)⟩⟩ hn))
    have e1 : m1 = m0 := (nI_eq (by omega) (by omega)).mp (em1.symm.trans em)
    have e2 : z1 = z := (nI_eq (by omega) (by omega)).mp (el1.symm.trans el)
    subst e1
    subst e2
    rw [← free_eq rB hz hz5 h1 h2 h3 h4 g1 g2 g3 g4]
    exact k H (Rel_up hRl)
  · refine hq _ H mid (fun d Q' k => c_X12_free hF rB.2.1 rB.2.2.1 (fun i hi => (rB.2.2.2 i hi).2.1.2.2) (fun m1 z1 s1 em el hm hz hz5 hc _ _ _ _ => absurd ⟨hc, ⟨by rw [em]; exact nI_pos' (by omega), by rw [em]; exact nI_le (b := 3000) hm (by decide)⟩, ⟨by rw [el]; exact nI_le (a := 1) hz (by omega), by rw [el]; exact nI_le (b := 500) hz5 (by decide)⟩⟩ hn) (fun _ => k H (Rel_up hRl)))
theorem s_about {a : Int32} (hRl : Rel L X u H) (hq : ∀ x H1, Mid L X H1 → (∀ d Q', (∀ H2, Rel L X (u + 1) H2 → Q' (some (.int x)) H2) → Wp mX12_about (d + 8) 0 0 0 [some (.ref 33), some (.int a)] [] H1 Q') → Q (some (.int x)) H1) : Wp mX11_about (d + 70) 4 623 0 [some (.ref 1), some (.int a)] [] H Q := by
  obtain ⟨hF, hk0, hi0, n, ho, m, jo, fr, tt, ord, pos, w, car, N, nb, rH, rJ, rW, rL, rC, rT, rB, rS, rF⟩ := id hRl
  have h69 : 69 ≤ hN H := hF.2.2
  have mid : Mid L X H := ⟨hF, hk0, hi0⟩
  have h16 : n ≤ 16 := rH.1.2.1
  have h10 : m ≤ 10 := rJ.1.2.1
  refine wp_room (kc := 0) (ks := 0) (by omega) (by omega) ?_
  obtain ⟨A, o, E, e1, ⟨p, q, r, e2, -⟩, -, e4⟩ := rL.1
  refine c_X11_about hF e1 e2 ?_
  refine hq _ H mid (fun d Q' k => c_X12_about hF ?_)
  rw [rH.2.1, rJ.2.1.1, rW.2.2.2.1, e4.2.2.2, rB.2.1, rT.2.1, ← rH.1.1, ← rJ.1.1, ← rW.2.2.1, ← rB.1, ← rT.1]
  exact k H (Rel_up hRl)
end ST
