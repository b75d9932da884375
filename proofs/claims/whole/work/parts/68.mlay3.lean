/-! ===== the reference's lay, whole; BEST on both sides ===== -/
section LC
variable {d m car : Nat} {fr tt ord pos : Nat → Nat} {w : Nat → Nat → Nat} {H : PH} {Q : Option Value → PH → Prop}
theorem pj_all (h1 : ∀ t, t < m → ord t < m ∧ pos (ord t) = t) {n : Nat} (hn : n ≤ m) : fb_ct (pjB H ord m) n = fb_ct (fun t => kpB H (ord t)) n := fb_ct_cong (fun t ht => by
  unfold pjB; rw [decide_eq_true (h1 t (by omega)).1, Bool.and_true])
theorem on_ex (H : PH) (m : Nat) : ∃ on : Nat → Nat, ∀ k, k < fb_ct (kpB H) m → on k < m ∧ kpB H (on k) = true ∧ fb_ct (kpB H) (on k) = k := by
  have h : ∀ k, ∃ i, k < fb_ct (kpB H) m → i < m ∧ kpB H i = true ∧ fb_ct (kpB H) i = k := fun k => by
    by_cases q : k < fb_ct (kpB H) m
    · obtain ⟨i, h1, h2, h3⟩ := fb_ct_kth q
      exact ⟨i, fun _ => ⟨h1, h2, h3⟩⟩
    · exact ⟨0, fun z => absurd z q⟩
  exact Classical.skolem.mp h
theorem c_X12_lay (hF : Fix H) (hM : MJ H m fr tt) (hw : MWY H w) (hO : OP H m ord pos) (hcar : hI H 33 3 = nI car) (hc6 : car ≤ 6)
    (hq : ∀ b H', eqX isLy H H' → BSt H m (fb_ct (kpB H) m) fr tt ord w b H' → OptD (kqF H m fr tt ord w) (fb_ct (kpB H) m) car (fun _ => True) b → Q none H') : Wp mX12_lay (d + 5) 0 0 0 [some (.ref 33), none, none] [] H Q := by
  have h10 := hM.2.1
  obtain ⟨o1, o2, o3⟩ := hO
  obtain ⟨on, hon⟩ := on_ex H m
  have hn' : fb_ct (kpB H) m = fb_ct (fun t => kpB H (ord t)) m := by rw [← ct_all (H := H) o1 o2 m (Nat.le_refl _), pj_all o1 (Nat.le_refl _)]
  have hn10 : fb_ct (kpB H) m ≤ 10 := by have := fb_ct_le (kpB H) m; omega
  have kont2 : ∀ (H1 : PH), I1 H ord pos m H1 → ∀ H', eqX isLy (sI (sI H1 33 25 (-1)) 33 26 0) H' → (∀ a k, a ≠ 55 → hI H' a k = hI (sI (sI H1 33 25 (-1)) 33 26 0) a k) → (∀ k, k < 10 → hI H' 55 k = -1) → Wp mX12_lay (d + 5) 0 0 136 [some (.ref 33), none, none] [] H' Q := by
    intro H1 hI1 H' he g1 g2
    have hly1 : eqX isLy H (sI (sI H1 33 25 (-1)) 33 26 0) := eqX_sI (eqX_sI hI1.1 (Or.inr (by omega))) (Or.inr (by omega))
    have hly := eqX_trans hly1 he
    have hF1 := Fix_eqX hly hF
    have e24 : hI H' 33 24 = nI (fb_ct (kpB H) m) := by rw [g1 33 24 (by decide), hI_sI', if_neg (by omega), hI_sI', if_neg (by omega)]; exact hI1.2.1
    have e25 : hI H' 33 25 = -1 := by rw [g1 33 25 (by decide), hI_sI', if_neg (by omega), hI_sI', if_pos ⟨rfl, rfl⟩]
    have e26 : hI H' 33 26 = 0 := by rw [g1 33 26 (by decide), hI_sI', if_pos ⟨rfl, rfl⟩]
    have hST : ST H m (fb_ct (kpB H) m) ord H' := by
      refine ⟨hly, e24, fun i h1 h2 => ?_, fun t h1 h2 => ?_⟩
      · rw [g1 52 _ (by decide), hI_sI', if_neg (by omega), hI_sI', if_neg (by omega)]; exact hI1.2.2.1 i h1 h2
      · rw [g1 53 _ (by decide), hI_sI', if_neg (by omega), hI_sI', if_neg (by omega)]
        have h9 := hI1.2.2.2 (ord t) (o1 t h1).1 h2
        rw [(o1 t h1).2, pj_all o1 (by omega)] at h9
        exact h9
    by_cases h0 : fb_ct (kpB H) m = 0
    · have hnk : ∀ j, ¬ (j < m ∧ kpB H j = true) := fun j z => by
        have := fb_ct_zero.mp h0 j z.1
        rw [z.2] at this; cases this
      have hK0 : Kof H m = 0 := Nat.eq_of_testBit_eq (fun j => by
        rw [Nat.zero_testBit]
        cases r : (Kof H m).testBit j with
        | false => rfl
        | true => exact absurd (Kof_t r) (hnk j))
      have hfz : ∀ c, fib (Kof H m) (labs (kpB H) (fun _ => 0)) c = 0 := fun c => by rw [hK0]; exact fib_0 (by decide) (fun j h => by rw [Nat.zero_testBit] at h; cases h)
      have hk0 : kqF H m fr tt ord w (fun _ => 0) = 0 := by
        unfold kqF kap
        exact sm_0 (fun c _ => by rw [hfz c]; rfl)
      have hc0 : csq H m fr tt ord w (fun _ => 0) = 0 := by
        unfold csq
        exact sm_0 (fun c _ => by unfold cst; rw [hfz c, mco_0]; rfl)
      refine wp_aload_n dX12_lay_136 rfl ?_
      refine wp_geta dX12_lay_137 fl_RX12_87 rfl (fk_33 hF1) (fr_33_31 hF1) ?_
      refine wp_iconst (v := 0) dX12_lay_140 (by decide) ?_
      refine wp_iconst (v := 0) dX12_lay_141 (by decide) ?_
      refine wp_iastoreN dX12_lay_142 (fk_56 hF1) (by decide) (by decide) ?_
      refine wp_iconst (v := 0) dX12_lay_143 (by decide) ?_
      refine wp_istore_n dX12_lay_144 (by decide) ?_
      refine wp_aload_n dX12_lay_145 rfl ?_
      refine wp_geti dX12_lay_146 fl_RX12_185 rfl (fk_33 (Fix_sI hF1)) ?_
      rw [hI_sI', if_neg (by omega), e24, h0]
      refine wp_if_ne (tgt := 160) dX12_lay_149 (by decide) (fun h149 => absurd h149 (fun q => q rfl)) (fun _ => ?_)
      refine wp_aload_n dX12_lay_152 rfl ?_
      refine wp_iconst (v := 0) dX12_lay_153 (by decide) ?_
      refine wp_puti dX12_lay_154 fl_RX12_191 (mp_12_25 _ _) rfl (fk_33 (Fix_sI hF1)) ?_
      refine wp_goto (tgt := 172) dX12_lay_157 (by decide) ?_
      refine wp_iload_n dX12_lay_172 rfl ?_
      refine wp_if_lt (tgt := 317) dX12_lay_173 (by decide) (fun h173 => absurd h173 (by decide)) (fun _ => ?_)
      refine wp_aload_n dX12_lay_176 rfl ?_
      refine wp_geti dX12_lay_177 fl_RX12_185 rfl (fk_33 (Fix_sI (Fix_sI hF1))) ?_
      rw [hI_sI', if_neg (by omega), hI_sI', if_neg (by omega), e24, h0]
      refine wp_if_le (tgt := 317) dX12_lay_180 (by decide) (fun _ => ?_) (fun h180 => absurd h180 (fun q => q (by decide)))
      refine wp_return rfl dX12_lay_317 ?_
      refine hq (some (fun _ => 0)) _ (eqX_sI (eqX_sI hly (Or.inl (by omega))) (Or.inr (by omega))) ⟨?_, ?_, fun j h1 h2 => absurd ⟨h1, h2⟩ (hnk j), fun j h1 h2 => ?_⟩ ⟨fun i hi => by omega, trivial, by rw [hk0]; decide, fun q' _ _ => by rw [hk0]; exact Nat.zero_le _⟩
      · rw [hI_sI', if_pos ⟨rfl, rfl⟩, hc0]; rfl
      · rw [hI_sI', if_neg (by omega), hI_sI', if_neg (by omega), e26, h0]; rfl
      · rw [hI_sI', if_neg (by omega), hI_sI', if_neg (by omega)]; exact g2 j h1
    · have hpos : 0 < fb_ct (kpB H) m := by omega
      have ok := hon 0 hpos
      have e52 : hI H' 52 0 = nI (on 0) := by have := hST.2.2.1 (on 0) ok.1 ok.2.1; rw [ok.2.2] at this; exact this
      have kend : ∀ b H'', ST H m (fb_ct (kpB H) m) ord H'' → BSt H m (fb_ct (kpB H) m) fr tt ord w b H'' → OptD (kqF H m fr tt ord w) (fb_ct (kpB H) m) car (DL 0 (fun _ => 0)) b → Wp mX12_lay (d + 5) 0 0 172 [some (.ref 33), some (.int (nI 0 + -1)), none] [] H'' Q := by
        intro b H'' hS hB ho
        refine wp_iload_n dX12_lay_172 rfl ?_
        refine wp_if_lt (tgt := 317) dX12_lay_173 (by decide) (fun _ => ?_) (fun h173 => absurd h173 (fun q => q (by decide)))
        refine wp_return rfl dX12_lay_317 ?_
        exact hq b H'' hS.1 hB (OptD_iff (fun q' _ => ⟨fun _ => trivial, fun _ => Or.inr (fun e he => absurd he (Nat.not_lt_zero e))⟩) ho)
      have hS2 : ST H m (fb_ct (kpB H) m) ord (sI (sI H' 56 0 0) 54 (on 0) (-1)) := ST_eq hST (eqX_sI (eqX_sI eqX_rfl (Or.inr (Or.inr (Or.inl rfl)))) (Or.inl rfl))
      have hgo := l_X12_lay_T (d := d) (on := on) hF hM hw ⟨o1, o2, o3⟩ rfl hn' hon hcar hc6 _ 0 (fun _ => 0) rfl hpos (fun i hi => absurd hi (Nat.not_lt_zero i)) (fun b H'' hS _ _ hB ho => kend b H'' hS hB ho) _ 0 none _ rfl (Nat.zero_le _) hS2 (fun i hi => absurd hi (Nat.not_lt_zero i)) (by rw [hI_sI', if_pos ⟨rfl, rfl⟩]; rfl) (fun i hi => by
          have : i = 0 := by omega
          subst this
          rw [hI_sI', if_neg (by omega), hI_sI', if_pos ⟨rfl, rfl⟩]; rfl) ⟨by rw [hI_sI', if_neg (by omega), hI_sI', if_neg (by omega)]; exact e25, fun j hj => by rw [hI_sI', if_neg (by omega), hI_sI', if_neg (by omega)]; exact g2 j hj⟩ (fun q' _ hd => by
          rcases hd with ⟨i, hi, -⟩ | ⟨-, h⟩
          · exact absurd hi (Nat.not_lt_zero i)
          · exact absurd h (Nat.not_lt_zero _))
      refine wp_aload_n dX12_lay_136 rfl ?_
      refine wp_geta dX12_lay_137 fl_RX12_87 rfl (fk_33 hF1) (fr_33_31 hF1) ?_
      refine wp_iconst (v := 0) dX12_lay_140 (by decide) ?_
      refine wp_iconst (v := 0) dX12_lay_141 (by decide) ?_
      refine wp_iastoreN dX12_lay_142 (fk_56 hF1) (by decide) (by decide) ?_
      refine wp_iconst (v := 0) dX12_lay_143 (by decide) ?_
      refine wp_istore_n dX12_lay_144 (by decide) ?_
      refine wp_aload_n dX12_lay_145 rfl ?_
      refine wp_geti dX12_lay_146 fl_RX12_185 rfl (fk_33 (Fix_sI hF1)) ?_
      rw [hI_sI', if_neg (by omega), e24]
      refine wp_if_ne (tgt := 160) dX12_lay_149 (by decide) (fun _ => ?_) (fun h149 => absurd h149 (nI_ne0 hpos (by omega)))
      refine wp_aload_n dX12_lay_160 rfl ?_
      refine wp_geta dX12_lay_161 fl_RX12_81 rfl (fk_33 (Fix_sI hF1)) (fr_33_29 (Fix_sI hF1)) ?_
      refine wp_aload_n dX12_lay_164 rfl ?_
      refine wp_geta dX12_lay_165 fl_RX12_75 rfl (fk_33 (Fix_sI hF1)) (fr_33_27 (Fix_sI hF1)) ?_
      refine wp_iconst (v := 0) dX12_lay_168 (by decide) ?_
      refine wp_ialoadN dX12_lay_169 (fk_52 (Fix_sI hF1)) (by decide) (by decide) ?_
      rw [hI_sI', if_neg (by omega), show (0 : Nat) = 0 from rfl, e52]
      refine wp_iconst (v := -1) dX12_lay_170 (by decide) ?_
      refine wp_iastoreN dX12_lay_171 (fk_54 (Fix_sI hF1)) (by omega) (by decide) ?_
      exact hgo
  have kont1 : ∀ H1, I1 H ord pos m H1 → Wp mX12_lay (d + 5) 0 0 105 [some (.ref 33), none, none] [] H1 Q := by
    intro H1 hI1
    have hF1 := Fix_eqX hI1.1 hF
    have hly1 : eqX isLy H (sI (sI H1 33 25 (-1)) 33 26 0) := eqX_sI (eqX_sI hI1.1 (Or.inr (by omega))) (Or.inr (by omega))
    refine wp_aload_n dX12_lay_105 rfl ?_
    refine wp_iconst (v := -1) dX12_lay_106 (by decide) ?_
    refine wp_puti dX12_lay_107 fl_RX12_191 (mp_12_25 _ _) rfl (fk_33 hF1) ?_
    refine wp_aload_n dX12_lay_110 rfl ?_
    refine wp_iconst (v := 0) dX12_lay_111 (by decide) ?_
    refine wp_puti dX12_lay_112 fl_RX12_194 (mp_12_26 _ _) rfl (fk_33 (Fix_sI hF1)) ?_
    refine wp_iconst (v := 0) dX12_lay_115 (by decide) ?_
    refine wp_istore_n dX12_lay_116 (by decide) ?_
    exact l_X12_lay_be hF hly1 (kont2 H1 hI1) 10 0 _ (by omega) (by omega) eqX_rfl (fun _ _ _ => rfl) (fun e he => absurd he (Nat.not_lt_zero e))
  refine wp_aload_n dX12_lay_0 rfl ?_
  refine wp_iconst (v := 0) dX12_lay_1 (by decide) ?_
  refine wp_puti dX12_lay_2 fl_RX12_185 (mp_12_24 _ _) rfl (fk_33 hF) ?_
  refine wp_iconst (v := 0) dX12_lay_5 (by decide) ?_
  refine wp_istore_n dX12_lay_6 (by decide) ?_
  exact l_X12_lay_on (d := d + 4) hF hM ⟨o1, o2, o3⟩ kont1 m 0 _ (by omega) (by omega) ⟨eqX_sI eqX_rfl (Or.inr (by omega)), by rw [hI_sI', if_pos ⟨rfl, rfl⟩]; rfl, fun i hi => absurd hi (Nat.not_lt_zero i), fun i hi => absurd hi (Nat.not_lt_zero i)⟩
end LC
/-! pure: both are the same -/
section LE
variable {H : PH} {m n car v : Nat} {fr tt ord : Nat → Nat} {w : Nat → Nat → Nat}
theorem canon_vld {K : Nat} {kp : Nat → Bool} {g : Nat → Nat} {on : Nat → Nat} (hn : n = fb_ct kp m) (hK : ∀ j, K.testBit j = true ↔ j < m ∧ kp j = true) (hon : ∀ k, k < n → on k < m ∧ kp (on k) = true ∧ fb_ct kp (on k) = k) (hc : canon K g) (hl : ∀ j, K.testBit j = true → g j < car) : vld n car (fun i => g (on i)) := by
  have aux : ∀ i, i < n → (∀ e, e < i → g (on e) ≤ mxL (fun i => g (on i)) e) → g (on i) ≤ mxL (fun i => g (on i)) i := fun i hi hp => by
    rcases Nat.lt_or_ge (mxL (fun i => g (on i)) i) (g (on i)) with z | z
    · exfalso
      have oi := hon i hi
      obtain ⟨j, j1, j2, j3⟩ := hc (on i) ((hK _).mpr ⟨oi.1, oi.2.1⟩) _ z
      have hj := (hK j).mp j1
      have hlt := ct_lt_of j2 hj.2
      rw [oi.2.2] at hlt
      have o2 := hon (fb_ct kp j) (by omega)
      have ej : on (fb_ct kp j) = j := fb_ct_kth_one o2.2.1 hj.2 o2.2.2
      have := mxL_gt (q := fun i => g (on i)) (n := i) hp (fb_ct kp j) hlt
      rw [← j3] at this
      simp only [ej] at this
      omega
    · exact z
  intro i
  induction i using Nat.strongRecOn with
  | ind i ih =>
    intro hi
    have oi := hon i hi
    exact ⟨aux i hi (fun e he => (ih e he (by omega)).1), hl _ ((hK _).mpr ⟨oi.1, oi.2.1⟩)⟩
theorem best_eq (h10 : m ≤ 10) (hc6 : car ≤ 6) (ho : isOpt (fun S => keyO S (mco H fr tt ord w m S)) car (Kof H m) v) {b : Option (Nat → Nat)} (hb : OptD (kqF H m fr tt ord w) (fb_ct (kpB H) m) car (fun _ => True) b) :
    (∀ s, b = some s → v = kqF H m fr tt ord w s ∧ v < 2 ^ 61) ∧ (b = none → 2 ^ 61 ≤ v) := by
  obtain ⟨on, hon⟩ := on_ex H m
  have hsome : v < 2 ^ 61 → ∃ q, vld (fb_ct (kpB H) m) car q ∧ kqF H m fr tt ord w q = v := fun hv => by
    obtain ⟨g, g1, g2, g3⟩ := ho.2.2 hv
    refine ⟨fun i => g (on i), canon_vld rfl KofI hon g2 g1, ?_⟩
    rw [g3]
    unfold kqF
    refine kap_cong (fun j hj => ?_)
    have h1 := (KofI j).mp hj
    have o2 := hon (fb_ct (kpB H) j) (ct_lt_of h1.1 h1.2)
    unfold labs
    show g (on (fb_ct (kpB H) j)) = g j
    rw [fb_ct_kth_one o2.2.1 h1.2 o2.2.2]
  have hlow : ∀ q, vld (fb_ct (kpB H) m) car q → v ≤ kqF H m fr tt ord w q := fun q hv => by
    refine ho.2.1 (labs (kpB H) q) (lab10 rfl hc6 hv) ?_
    unfold nch
    have hz : fb_ct (fun k => decide (fib (Kof H m) (labs (kpB H) q) (car + k) ≠ 0)) (10 - car) = 0 := fb_ct_zero.mpr (fun k _ => by
      have : fib (Kof H m) (labs (kpB H) q) (car + k) = 0 := fib_0 (Kof_lt h10) (fun j hj e => by
        have h1 := (KofI j).mp hj
        have := (hv (fb_ct (kpB H) j) (ct_lt_of h1.1 h1.2)).2
        unfold labs at e
        omega)
      simp [this])
    rw [show 10 = car + (10 - car) by omega, fb_ct_split, hz, Nat.add_zero]
    exact fb_ct_le _ _
  constructor
  · intro s hs
    subst hs
    have h1 := hlow s hb.1
    have h2 := hb.2.2.1
    obtain ⟨q, q1, q2⟩ := hsome (by omega)
    have := hb.2.2.2 q q1 trivial
    omega
  · intro hs
    subst hs
    rcases Nat.lt_or_ge v (2 ^ 61) with z | z
    · obtain ⟨q, q1, q2⟩ := hsome z
      have := hb q q1 trivial
      omega
    · exact z
/-- what both say of BEST -/
theorem best_say (h10 : m ≤ 10) (hc6 : car ≤ 6) (ho : isOpt (fun S => keyO S (mco H fr tt ord w m S)) car (Kof H m) v) {b : Option (Nat → Nat)} (hb : OptD (kqF H m fr tt ord w) (fb_ct (kpB H) m) car (fun _ => True) b) :
    (b = none ∧ 2 ^ 61 ≤ v) ∨ ∃ s, b = some s ∧ v < 2 ^ 61 ∧ v / 2 ^ 40 = csq H m fr tt ord w s ∧ nibOk v (Kof H m) (labs (kpB H) s) ∧ fb_ct (fun i => (Kof H m).testBit i && decide (nib v i = i)) 10 = mxL s (fb_ct (kpB H) m) := by
  obtain ⟨e1, e2⟩ := best_eq h10 hc6 ho hb
  cases b with
  | none => exact Or.inl ⟨rfl, e2 rfl⟩
  | some s =>
    right
    obtain ⟨h1, h2⟩ := e1 s rfl
    have hK := Kof_lt (H := H) h10
    have hcan : canon (Kof H m) (labs (kpB H) s) := vld_canon rfl hb.1 KofI
    obtain ⟨k1, k2, k3⟩ := kap_dec (co := mco H fr tt ord w m) hK mco_0 (lab10 rfl hc6 hb.1) h1 h2
    refine ⟨s, rfl, h2, k2, nibOk_of hK hcan k3, ?_⟩
    rw [nib_count hK k3]
    obtain ⟨l1, l2⟩ := led_lab hK hcan 10
    have a1 : ∀ c, c < fb_ct (led (Kof H m) (labs (kpB H) s)) 10 → c < mxL s (fb_ct (kpB H) m) := fun c hc => by
      obtain ⟨i, i1, i2, i3⟩ := l2 c hc
      have hi := (KofI i).mp i2
      rw [← i3]
      exact mxL_gt (fun i hi => (hb.1 i hi).1) _ (ct_lt_of hi.1 hi.2)
    have a2 : ∀ c, c < mxL s (fb_ct (kpB H) m) → c < fb_ct (led (Kof H m) (labs (kpB H) s)) 10 := fun c hc => by
      obtain ⟨e, e1, e2⟩ := mxL_lab _ _ _ hc
      obtain ⟨i, i1, i2, i3⟩ := fb_ct_kth e1
      have := l1 i (by omega) ((KofI i).mpr ⟨i1, i2⟩)
      unfold labs at this
      rw [i3, e2] at this
      exact this
    rcases Nat.lt_trichotomy (fb_ct (led (Kof H m) (labs (kpB H) s)) 10) (mxL s (fb_ct (kpB H) m)) with z | z | z
    · exact absurd (a2 _ z) (Nat.lt_irrefl _)
    · exact z
    · exact absurd (a1 _ z) (Nat.lt_irrefl _)
end LE
