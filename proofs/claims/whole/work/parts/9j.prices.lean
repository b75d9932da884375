/-! ===== a step of the law: prices: by program (mkrel.py) ===== -/
section SP
variable {L u d : Nat} {X : Nat → Int32} {H : PH} {Q : Option Value → PH → Prop}
theorem and255 (x : Int32) : ∃ b, b < 256 ∧ x &&& 255 = nI b :=
  ⟨(x.toBitVec &&& 255#32).toNat, by rw [BitVec.toNat_and]; exact Nat.lt_of_le_of_lt Nat.and_le_right (by decide), Int32.toBitVec_inj.mp (by show x.toBitVec &&& 255#32 = BitVec.ofNat 32 (x.toBitVec &&& 255#32).toNat; rw [BitVec.ofNat_toNat]; simp)⟩
def tbf (H : PH) (N j : Nat) : Int32 := if j < N then hI H 61 j else -1
theorem tbf_ok {N : Nat} (rT : RTp H N) : CTp H (tbf H N) N := by
  refine ⟨⟨rT.2.2.1, fun p hp => ?_, fun p hp => if_neg (by omega)⟩, rT.1, fun j hj => ?_⟩
  · unfold tbf
    rw [if_pos hp, ← rT.2.2.2 p hp]
    exact and255 _
  · unfold tbf
    rw [if_pos hj]
    exact rT.2.2.2 j hj
def B_prf (a k : Nat) : Prop := (16 ≤ a ∧ a ≤ 19) ∨ (a = 14 ∧ k = 1) ∨ (a = 33 ∧ 36 ≤ k ∧ k ≤ 51) ∨ (58 ≤ a ∧ a ≤ 60) ∨ a = 62
def B_prn (a k : Nat) : Prop := (16 ≤ a ∧ a ≤ 19) ∨ (a = 14 ∧ k = 1) ∨ (a = 33 ∧ 36 ≤ k ∧ k ≤ 51) ∨ (58 ≤ a ∧ a ≤ 60) ∨ a = 62 ∨ ((a = 48 ∨ a = 49) ∧ 6000 ≤ k) ∨ (a = 50 ∧ 220 ≤ k) ∨ (a = 51 ∧ k = 10)
def C_pr (a k : Nat) : Prop := a = 1 ∧ k = 8
theorem n18 : ∀ e ∈ fixR, ¬ (e.1.1 = 1 ∧ e.1.2 = 8) := by decide
theorem row_prn {H2 : PH} {C : Nat → Nat → Prop} (h : fra B_prn C H H2) (h69 : 69 ≤ hN H) {c : Nat} (hc : c < 10) : rowEq c H H2 :=
  ⟨fun i hi => ⟨h.2.2.1 48 _ (by omega) (by unfold B_prn; omega), h.2.2.1 49 _ (by omega) (by unfold B_prn; omega)⟩, fun i hi => h.2.2.1 50 _ (by omega) (by unfold B_prn; omega), h.2.2.1 51 _ (by omega) (by unfold B_prn; omega)⟩
theorem LRo_new {H1 H' H3 : PH} {o : OL} {E : List (Nat × Nat)} (h69 : 69 ≤ hN H1) (hp : newPL H1 o E H') (hn : hN H3 = hN H') (hk : hK H3 = hK H') (hr : ∀ a k, 69 < a → hR H3 a k = hR H' a k) (hi : ∀ a k, 69 < a → hI H3 a k = hI H' a k) : LRo H3 (hN H1 + 1) o E := by
  obtain ⟨g, ⟨p1, p2, p3, p4, p5, p6, p7⟩, c1, c2⟩ := hp
  have g1 := g.1
  refine ⟨hN H1 + 2, hN H1 + 3, hN H1 + 4, ⟨by rw [hk]; exact p1, by rw [hr _ _ (by omega)]; exact p2, by rw [hr _ _ (by omega)]; exact p3, by rw [hr _ _ (by omega)]; exact p4, by rw [hk]; exact p5, by rw [hk]; exact p6, by rw [hk]; exact p7⟩, ⟨by omega, by omega⟩, ⟨by omega, by omega⟩, ⟨by omega, by omega⟩, by omega, by omega, fun i x hx => by rw [hi _ _ (by omega)]; exact c1 i x hx, fun i hi' => ?_⟩
  rw [hi _ _ (by omega), hi _ _ (by omega)]
  refine c2 i _ ?_
  rw [List.getD_eq_getElem?_getD, List.getElem?_eq_getElem hi']
  rfl
theorem s_prices (hRl : Rel L X u H) (hq : ∀ x H1, Mid L X H1 → (∀ d Q', (∀ H2, Rel L X (u + 1) H2 → Q' (some (.int x)) H2) → Wp mX12_prices (d + 8) 0 0 0 [some (.ref 33), none] [] H1 Q') → Q (some (.int x)) H1) : Wp mX11_prices (d + 70) 4 623 0 [some (.ref 1), none] [] H Q := by
  obtain ⟨hF, hk0, hi0, n, ho, m, jo, fr, tt, ord, pos, w, car, N, nb, rH, rJ, rW, rL, rC, rT, rB, rS, rF⟩ := id hRl
  have h69 : 69 ≤ hN H := hF.2.2
  have mid : Mid L X H := ⟨hF, hk0, hi0⟩
  have h16 : n ≤ 16 := rH.1.2.1
  have h10 : m ≤ 10 := rJ.1.2.1
  refine wp_room (kc := 4) (ks := 623) (by omega) (by omega) ?_
  have hT := tbf_ok rT
  refine c_X11_prices hF hT (fun f H' hr b1 => ?_) (fun ln s v o E H1 H' hr b1 b2 => ?_)
  · have h1 : fra B_prf (fun _ _ => False) H (sI H' 14 1 0) := fra_sI (fra_X b1.1 (fun a k q => by unfold isRl at q; unfold B_prf; omega)) (Or.inr (Or.inl ⟨rfl, rfl⟩))
    have hF1 : Fix (sI H' 14 1 0) := Fix_fra h1 (fun _ _ q => q) hF
    refine hq _ _ (Mid_fra h1 hF1 (fun k q => by unfold B_prf at q; omega) mid) (fun d Q' k => ?_)
    refine c_X12_prices hF1 hT.1 (by rw [hI_sI', if_neg (by omega), b1.1.2.2.2.2 33 40 (by unfold isRl; omega)]; exact rT.2.1) (fun j hj => by rw [hI_sI', if_neg (by omega), b1.1.2.2.2.2 61 j (by unfold isRl; omega)]; exact (if_pos hj).symm) hr (fun f2 ef H3 m1 => ?_) (fun o E ef => by cases ef)
    cases ef
    have h : fra B_prf (fun _ _ => False) H H3 := fra_trans h1 (fra_M m1.1 (fun a k q => by unfold isMb isMl isMr at q; unfold B_prf; omega))
    have t' : RTp H3 0 := ⟨by rw [m1.1.2.2.2.1 14 1 (by unfold isMb isMl isMr; omega), hI_sI', if_pos ⟨rfl, rfl⟩]; rfl, m1.2.2.2.2.2, by omega, fun j hj => absurd hj (Nat.not_lt_zero j)⟩
    have f' : RFt H3 := ⟨by rw [m1.2.1, m1.1.2.2.2.1 16 11 (by unfold isMb isMl isMr; omega), hI_sI', if_neg (by omega)]; exact b1.2.1, by rw [m1.2.2.2.2.1, m1.1.2.2.2.1 16 12 (by unfold isMb isMl isMr; omega), hI_sI', if_neg (by omega)]; exact b1.2.2.2.2.1⟩
    exact k _ ⟨Fix_fra h (fun _ _ q => q) hF, (h.2.1 0 (by omega)).trans hk0, (funext (fun k => h.2.2.1 0 k (by omega) (fun b => by unfold B_prf at b; omega))).trans hi0, n, ho, m, jo, fr, tt, ord, pos, w, car, 0, nb,
      RHo_fr h h69 (fun a k b => Or.inr (by unfold B_prf at b; omega)) (fun _ q => q) rH,
      RJb_fr h h69 (fun a k b => Or.inr (by unfold B_prf at b; omega)) (fun _ q => q) rJ,
      RWy_fr h h69 (fun a k b => by unfold B_prf at b; unfold OffW; omega) rW,
      RLs_fr h h69 (fun j hj => ⟨rJ.2.2.2.2.1 j hj, rJ.1.2.2.2.2.1 j hj⟩) (fun a k b => Or.inr (by unfold B_prf at b; omega)) (fun _ _ q => q.elim) (fun c _ => row_fr h h69 (fun a k b => by unfold B_prf at b; omega) c) h10 rL,
      RCa_up (RCa_fr h h69 (fun a k b => Or.inr (by unfold B_prf at b; omega)) (fun a k b => by unfold B_prf at b; omega) rJ (by rw [m1.1.2.2.2.2 11 0 (by omega)]; show hL H' 11 0 = _; rw [b1.1.2.2.1]) rC),
      t',
      RBk_fr h h69 (fun a k b => by unfold B_prf at b; unfold OffB; omega) rB,
      RSp_fr h h69 (fun a k b => by unfold B_prf at b; omega) rS,
      f'⟩
  · have n1 : hN H1 = hN H := b1.1.1
    have h0 : fra B_prn C_pr H H' := fra_trans (fra_X b1.1 (fun a k q => by unfold isRl at q; unfold B_prn; omega)) (fra_gro b2.1)
    have h1 : fra B_prn C_pr H (sR (sI H' 14 1 0) 1 8 (some (hN H1 + 1))) := fra_sR (fra_sI h0 (Or.inr (Or.inl ⟨rfl, rfl⟩))) ⟨rfl, rfl⟩
    have hF1 : Fix (sR (sI H' 14 1 0) 1 8 (some (hN H1 + 1))) := Fix_fra h1 (fun x hx q => n18 x hx q) hF
    have ks : ∀ a k, a ≤ 69 → ¬ isRl a k → ¬ (a = 14 ∧ k = 1) → hI (sR (sI H' 14 1 0) 1 8 (some (hN H1 + 1))) a k = hI H a k := fun a k ha q1 q2 => by
      rw [hI_sR, hI_sI', if_neg q2, (b2.1.2 a (by omega)).2.1]
      exact b1.1.2.2.2.2 a k q1
    refine hq _ _ (Mid_fra h1 hF1 (fun k q => by unfold B_prn at q; omega) mid) (fun d Q' k => ?_)
    refine c_X12_prices hF1 hT.1 (by rw [ks 33 40 (by omega) (by unfold isRl; omega) (by omega)]; exact rT.2.1) (fun j hj => by rw [ks 61 j (by omega) (by unfold isRl; omega) (by omega)]; exact (if_pos hj).symm) hr (fun f2 ef => by cases ef) (fun o2 E2 ef ev eL eE eo H3 m1 => ?_)
    cases ef
    obtain ⟨v2, hv2, hv3⟩ := ev
    have h : fra B_prn C_pr H H3 := fra_trans h1 (fra_M m1.1 (fun a k q => by unfold isMe isMl isMr isMc at q; unfold B_prn; omega))
    have t' : RTp H3 0 := ⟨by rw [m1.1.2.2.2.1 14 1 (by unfold isMe isMl isMr isMc; omega), hI_sR, hI_sI', if_pos ⟨rfl, rfl⟩]; rfl, m1.2.2.2.2, by omega, fun j hj => absurd hj (Nat.not_lt_zero j)⟩
    have r16 : ∀ k, hI H3 16 k = hI H1 16 k := fun k => by
      rw [m1.1.2.2.2.1 16 k (by unfold isMe isMl isMr isMc; omega), hI_sR, hI_sI', if_neg (by omega), (b2.1.2 16 (by omega)).2.1]
    have f' : RFt H3 := ⟨by rw [m1.2.2.1, r16]; exact b1.2.2.2.2.2.1.2.2.1.2.2.2.2, by rw [m1.2.2.2.1, r16]; exact b1.2.2.2.2.2.1.2.2.2.2.2.2.2.2.2⟩
    have hl : hL H3 11 0 = hL H 11 0 := by
      rw [m1.1.2.2.2.2 11 0 (by omega)]
      show hL H' 11 0 = _
      rw [(b2.1.2 11 (by omega)).2.2.1, b1.1.2.2.1]
    have okO1 : okO o E := ⟨eo, eE, eL, hv3.2, Nat.le_trans hv3.1 hv2⟩
    have oL : ∀ x k, B_prn x k → OffL H x := fun x k b => Or.inr (by unfold B_prn at b; omega)
    have cL : ∀ x k, C_pr x k → x < 29 := fun x k q => by have := q.1; omega
    have l' : RLs H3 m jo := by
      refine ⟨⟨hN H1 + 1, o, E, by rw [m1.1.2.2.1, hR_sR', if_pos ⟨rfl, rfl⟩], LRo_new (by omega) b2 m1.1.1 m1.1.2.1 (fun a k ha => by rw [m1.1.2.2.1, hR_sR', if_neg (by omega)]; rfl) (fun a k ha => by rw [m1.1.2.2.2.1 a k (by unfold isMe isMl isMr isMc; omega), hI_sR, hI_sI', if_neg (by omega)]), okO1, m1.2.1⟩, fun j hj => ?_⟩
      obtain ⟨A1, o1, E1, f1, f2, f3, f4⟩ := rL.2 j hj
      exact ⟨A1, o1, E1, by rw [h.2.2.2 (jo j) 6 (rJ.2.2.2.2.1 j hj) (fun q => by have := q.1; have := rJ.1.2.2.2.2.1 j hj; omega)]; exact f1, LRo_fr h h69 oL cL f2, f3, RowC_eq f3.1 f3.2.1 (row_prn h h69 (by omega)) f4⟩
    exact k _ ⟨Fix_fra h (fun x hx q => n18 x hx q) hF, (h.2.1 0 (by omega)).trans hk0, (funext (fun k => h.2.2.1 0 k (by omega) (fun b => by unfold B_prn at b; omega))).trans hi0, n, ho, m, jo, fr, tt, ord, pos, w, car, 0, nb,
      RHo_fr h h69 (fun a k b => Or.inr (by unfold B_prn at b; omega)) (fun k q => absurd q.1 (by decide)) rH,
      RJb_fr h h69 (fun a k b => Or.inr (by unfold B_prn at b; omega)) (fun k q => absurd q.1 (by decide)) rJ,
      RWy_fr h h69 (fun a k b => by unfold B_prn at b; unfold OffW; omega) rW,
      l',
      RCa_up (RCa_fr h h69 (fun a k b => Or.inr (by unfold B_prn at b; omega)) (fun a k b => by unfold B_prn at b; omega) rJ hl rC),
      t',
      RBk_fr h h69 (fun a k b => by unfold B_prn at b; unfold OffB; omega) rB,
      RSp_fr h h69 (fun a k b => by unfold B_prn at b; omega) rS,
      f'⟩
end SP
