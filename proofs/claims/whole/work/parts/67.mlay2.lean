/-! ===== the reference's lay: all labellings, the best ===== -/
theorem m1p1 (x : Int32) : x + -1 + 1 = x := by rw [Int32.add_assoc, show (-1 : Int32) + 1 = 0 from rfl, Int32.add_zero]
theorem fib_cong {S : Nat} {g g' : Nat → Nat} (h : ∀ j, S.testBit j = true → g j = g' j) (c : Nat) : fib S g c = fib S g' c := mkM_cong (fun j _ => by
  cases q : S.testBit j with
  | false => rfl
  | true => rw [h j q])
theorem kap_cong {ck : Nat → Nat} {S : Nat} {g g' : Nat → Nat} (h : ∀ j, S.testBit j = true → g j = g' j) : kap ck S g = kap ck S g' := by
  unfold kap; exact fb_sm_cong (fun c _ => by rw [fib_cong h])
theorem hrn_bd {a : Nat → Nat} (ha : ∀ j, a j < 16) : ∀ k, hrn a 0 k < 16 ^ k
  | 0 => Nat.one_pos
  | k + 1 => by
    have ih := hrn_bd ha k
    have := ha k
    rw [Nat.pow_succ]
    show hrn a 0 k * 16 + a k < 16 ^ k * 16
    omega
def is2556 (a k : Nat) : Prop := a = 54 ∨ a = 55 ∨ a = 56 ∨ a = 57 ∨ (a = 33 ∧ (k = 25 ∨ k = 26))
section LB
variable {d m n car : Nat} {fr tt ord pos on : Nat → Nat} {w : Nat → Nat → Nat} {H : PH} {Q : Option Value → PH → Prop}
/-- the key of a labelling -/
def kqF (H : PH) (m : Nat) (fr tt ord : Nat → Nat) (w : Nat → Nat → Nat) (q : Nat → Nat) : Nat := kap (fun S => keyO S (mco H fr tt ord w m S)) (Kof H m) (labs (kpB H) q)
def csq (H : PH) (m : Nat) (fr tt ord : Nat → Nat) (w : Nat → Nat → Nat) (q : Nat → Nat) : Nat := fb_sm (cst (mco H fr tt ord w m) (Kof H m) (labs (kpB H) q)) 10
def lwq (H : PH) (m : Nat) (q : Nat → Nat) : Nat := fb_sm (fun j => dgt (Kof H m) (labs (kpB H) q) j * 2 ^ (4 * (9 - j))) 10
def fsq (H : PH) (m : Nat) (fr tt ord : Nat → Nat) (w : Nat → Nat → Nat) (q : Nat → Nat) : Prop := ∀ c, c < 10 → (mco H fr tt ord w m (fib (Kof H m) (labs (kpB H) q) c)).isSome = true
theorem mco_0 : mco H fr tt ord w m 0 = some 0 := chF_0 _ _ _ _ _ _ _
theorem KofI (j : Nat) : (Kof H m).testBit j = true ↔ j < m ∧ kpB H j = true := ⟨Kof_t, fun h => Kof_i h.1 h.2⟩
theorem lab10 {q : Nat → Nat} (hn : n = fb_ct (kpB H) m) (hc6 : car ≤ 6) (hv : vld n car q) : ∀ j, (Kof H m).testBit j = true → labs (kpB H) q j < 10 := fun j hj => by
  have h := (KofI j).mp hj
  have := ct_lt_of h.1 h.2
  have := (hv (fb_ct (kpB H) j) (by omega)).2
  unfold labs
  omega
theorem kq_split {q : Nat → Nat} (h10 : m ≤ 10) (hn : n = fb_ct (kpB H) m) (hc6 : car ≤ 6) (hv : vld n car q) (hf : fsq H m fr tt ord w q) : kqF H m fr tt ord w q = csq H m fr tt ord w q * 2 ^ 40 + lwq H m q := by
  unfold kqF csq lwq
  rw [kap_split mco_0 hf, lj_all (Kof_lt h10) (lab10 hn hc6 hv)]
theorem lwq_lt {q : Nat → Nat} (h10 : m ≤ 10) : lwq H m q < 2 ^ 40 := by
  unfold lwq
  rw [low_hrn]
  exact hrn_bd (dgt_lt (Kof_lt h10)) 10
theorem kq_no {q : Nat → Nat} {c : Nat} (hc : c < 10) (h : mco H fr tt ord w m (fib (Kof H m) (labs (kpB H) q) c) = none) : 2 ^ 61 ≤ kqF H m fr tt ord w q := kap_no mco_0 hc h
theorem kq_fs {q : Nat → Nat} (h : kqF H m fr tt ord w q < 2 ^ 61) : fsq H m fr tt ord w q := fun c hc => by
  cases r : mco H fr tt ord w m (fib (Kof H m) (labs (kpB H) q) c) with
  | none => have := kq_no hc r; omega
  | some x => rfl
/-- what is given of ways and places -/
def GV (m : Nat) (fr tt ord : Nat → Nat) (w : Nat → Nat → Nat) : Prop := (∀ a b, a < 8 → b < 8 → w a b ≤ 300) ∧ (∀ i, i < m → fr i < 8) ∧ (∀ i, i < m → tt i < 8) ∧ ∀ t, t < m → ord t < m
theorem ar5 {x m : Nat} (h : x ≤ 0 + (m + 1) * 300) (hm : m ≤ 10) : x ≤ 3300 := by
  rw [Nat.zero_add] at h
  exact Nat.le_trans h (Nat.le_trans (Nat.mul_le_mul_right 300 (show m + 1 ≤ 11 by omega)) (by decide))
theorem cs_le {q : Nat → Nat} (h10 : m ≤ 10) (hG : GV m fr tt ord w) : csq H m fr tt ord w q ≤ 33000 := by
  unfold csq
  refine Nat.le_trans (fb_sm_le (g := fun _ => 3300) (fun c _ => ?_)) (by rw [fb_sm_const]; decide)
  unfold cst
  cases r : mco H fr tt ord w m (fib (Kof H m) (labs (kpB H) q) c) with
  | none => exact Nat.zero_le _
  | some x => exact ar5 (chF_le hG.1 hG.2.1 hG.2.2.1 hG.2.2.2 m 0 none 0 x (by omega) (fun p hp => by cases hp) r) h10
theorem ar6 {a b L : Nat} (h : a ≤ 33000) (hL : L < 2 ^ 40) (e : b = a * 2 ^ 40 + L) : b < 2 ^ 61 := by omega
theorem ar7 {a b la lb' : Nat} (h : a < b) (hL : la < 2 ^ 40) : a * 2 ^ 40 + la < b * 2 ^ 40 + lb' := by omega
def BSt (H : PH) (m n : Nat) (fr tt ord : Nat → Nat) (w : Nat → Nat → Nat) : Option (Nat → Nat) → PH → Prop
  | none, H1 => hI H1 33 25 = -1 ∧ ∀ j, j < 10 → hI H1 55 j = -1
  | some s, H1 => hI H1 33 25 = nI (csq H m fr tt ord w s) ∧ hI H1 33 26 = nI (mxL s n) ∧ (∀ j, j < m → kpB H j = true → hI H1 55 j = nI (labs (kpB H) s j)) ∧ ∀ j, j < 10 → ¬ (j < m ∧ kpB H j = true) → hI H1 55 j = -1
theorem BSt_eq {b : Option (Nat → Nat)} {H1 H2 : PH} (h25 : hI H2 33 25 = hI H1 33 25) (h26 : hI H2 33 26 = hI H1 33 26) (h55 : ∀ j, hI H2 55 j = hI H1 55 j) (h : BSt H m n fr tt ord w b H1) : BSt H m n fr tt ord w b H2 := by
  cases b with
  | none => exact ⟨h25.trans h.1, fun j hj => (h55 j).trans (h.2 j hj)⟩
  | some s => exact ⟨h25.trans h.1, h26.trans h.2.1, fun j h1 h2 => (h55 j).trans (h.2.2.1 j h1 h2), fun j h1 h2 => (h55 j).trans (h.2.2.2 j h1 h2)⟩
/-- rows that stand while labels change -/
def ST (H : PH) (m n : Nat) (ord : Nat → Nat) (H1 : PH) : Prop := eqX isLy H H1 ∧ hI H1 33 24 = nI n ∧ (∀ i, i < m → kpB H i = true → hI H1 52 (fb_ct (kpB H) i) = nI i) ∧ ∀ t, t < m → kpB H (ord t) = true → hI H1 53 (fb_ct (fun t => kpB H (ord t)) t) = nI (ord t)
theorem ST_eq {H1 H2 : PH} (hs : ST H m n ord H1) (h : eqX is2556 H1 H2) : ST H m n ord H2 := by
  refine ⟨eqX_trans hs.1 (eqX_mono (fun a k q => ?_) h), ?_, fun i h1 h2 => ?_, fun t h1 h2 => ?_⟩
  · unfold is2556 at q; unfold isLy; omega
  · rw [h.2.2.2.2 33 24 (by unfold is2556; omega)]; exact hs.2.1
  · rw [h.2.2.2.2 52 _ (by unfold is2556; omega)]; exact hs.2.2.1 i h1 h2
  · rw [h.2.2.2.2 53 _ (by unfold is2556; omega)]; exact hs.2.2.2 t h1 h2
theorem kpB_ly {H1 : PH} (h : eqX isLy H H1) : kpB H1 = kpB H := by
  funext j; unfold kpB; rw [h.2.2.2.2 47 j (by unfold isLy; omega)]
theorem mfolB_ly {H1 : PH} (h : eqX isLy H H1) : mfolB H1 fr tt = mfolB H fr tt := by
  funext i j; unfold mfolB; rw [decide_eq_decide]; exact mFol_ly h i j
theorem mco_ly {H1 : PH} (h : eqX isLy H H1) : mco H1 fr tt ord w m = mco H fr tt ord w m := by
  funext S; unfold mco; rw [mfolB_ly h]
/-- a look at the labelling q1 = upq q k c, the last place k -/
theorem look_step {k c : Nat} {q : Nat → Nat} (h10 : m ≤ 10) (hn : n = fb_ct (kpB H) m) (hc6 : car ≤ 6) (hG : GV m fr tt ord w) (hkn : k + 1 = n) (hv : vld n car (upq q k c)) {b : Option (Nat → Nat)} {H1 : PH} (hB : BSt H m n fr tt ord w b H1) (ho : OptD (kqF H m fr tt ord w) n car (DX k q c) b) :
    ((∃ e, e < 10 ∧ mco H fr tt ord w m (fib (Kof H m) (labs (kpB H) (upq q k c)) e) = none) → OptD (kqF H m fr tt ord w) n car (DX k q (c + 1)) b) ∧
    (fsq H m fr tt ord w (upq q k c) → (0 ≤ hI H1 33 25 ∧ hI H1 33 25 ≤ nI (csq H m fr tt ord w (upq q k c))) → OptD (kqF H m fr tt ord w) n car (DX k q (c + 1)) b) ∧
    (fsq H m fr tt ord w (upq q k c) → ¬ (0 ≤ hI H1 33 25 ∧ hI H1 33 25 ≤ nI (csq H m fr tt ord w (upq q k c))) → OptD (kqF H m fr tt ord w) n car (DX k q (c + 1)) (some (upq q k c))) := by
  have hcs : ∀ q, csq H m fr tt ord w q ≤ 33000 := fun q => cs_le h10 hG
  have hsame : ∀ q', (∀ e, e < k + 1 → q' e = upq q k c e) → kqF H m fr tt ord w q' = kqF H m fr tt ord w (upq q k c) := fun q' h => by
    unfold kqF
    refine kap_cong (fun j hj => ?_)
    have h1 := (KofI j).mp hj
    have := ct_lt_of h1.1 h1.2
    unfold labs
    exact h _ (by omega)
  have hcase : ∀ q', DX k q (c + 1) q' → DX k q c q' ∨ kqF H m fr tt ord w q' = kqF H m fr tt ord w (upq q k c) := fun q' h => by
    rcases DL_s.mpr h with h | h
    · exact Or.inl (DX_0.mpr (Or.inl h))
    · exact Or.inr (hsame q' h)
  have hup : ∀ q', DX k q c q' → DX k q (c + 1) q' := fun q' h => by
    rcases h with h | h
    · exact Or.inl h
    · exact Or.inr ⟨h.1, by omega⟩
  have hself : DX k q (c + 1) (upq q k c) := DL_s.mp (Or.inr (fun _ _ => rfl))
  refine ⟨fun ⟨e, e1, e2⟩ => ?_, fun hf hb => ?_, fun hf hb => ?_⟩
  · have hbig := kq_no e1 e2
    cases b with
    | none =>
      intro q' hv' hd
      rcases hcase q' hd with h | h
      · exact ho q' hv' h
      · rw [h]; exact hbig
    | some s =>
      refine ⟨ho.1, hup _ ho.2.1, ho.2.2.1, fun q' hv' hd => ?_⟩
      rcases hcase q' hd with h | h
      · exact ho.2.2.2 q' hv' h
      · rw [h]; exact Nat.le_trans (Nat.le_of_lt ho.2.2.1) hbig
  · cases b with
    | none => rw [hB.1] at hb; exact absurd hb.1 (by decide)
    | some s =>
      have hle : csq H m fr tt ord w s ≤ csq H m fr tt ord w (upq q k c) := by
        have := hb.2
        rw [hB.1] at this
        exact (nI_leI (by have := hcs s; omega) (by have := hcs (upq q k c); omega)).mp this
      refine ⟨ho.1, hup _ ho.2.1, ho.2.2.1, fun q' hv' hd => ?_⟩
      rcases hcase q' hd with h | h
      · exact ho.2.2.2 q' hv' h
      · rw [h, kq_split h10 hn hc6 ho.1 (kq_fs ho.2.2.1), kq_split h10 hn hc6 hv hf]
        rcases Nat.lt_or_eq_of_le hle with z | z
        · exact Nat.le_of_lt (ar7 z (lwq_lt h10))
        · rw [z]
          have hlx : ltx s (upq q k c) n := by
            rcases DX_0.mp ho.2.1 with y | y
            · rw [← hkn]; exact y
            · omega
          exact Nat.add_le_add_left (Nat.le_of_lt (lex_low (Kof_lt h10) h10 hn KofI hv hlx)) _
  · have hks := kq_split h10 hn hc6 hv hf
    have hlt : kqF H m fr tt ord w (upq q k c) < 2 ^ 61 := ar6 (hcs _) (lwq_lt h10) hks
    refine ⟨hv, hself, hlt, fun q' hv' hd => ?_⟩
    rcases hcase q' hd with h | h
    · cases b with
      | none => exact Nat.le_trans (Nat.le_of_lt hlt) (ho q' hv' h)
      | some s =>
        have hgt : csq H m fr tt ord w (upq q k c) < csq H m fr tt ord w s := by
          rcases Nat.lt_or_ge (csq H m fr tt ord w (upq q k c)) (csq H m fr tt ord w s) with z | z
          · exact z
          · exact absurd ⟨by rw [hB.1]; exact nI_pos' (by have := hcs s; omega), by rw [hB.1]; exact nI_le z (by have := hcs (upq q k c); omega)⟩ hb
        refine Nat.le_trans ?_ (ho.2.2.2 q' hv' h)
        rw [hks, kq_split h10 hn hc6 ho.1 (kq_fs ho.2.2.1)]
        exact Nat.le_of_lt (ar7 hgt (lwq_lt h10))
    · rw [h]; exact Nat.le_refl _
theorem l_X12_lay_T (hF : Fix H) (hM : MJ H m fr tt) (hw : MWY H w) (hO : OP H m ord pos) (hn : n = fb_ct (kpB H) m) (hn' : n = fb_ct (fun t => kpB H (ord t)) m) (hon : ∀ k, k < n → on k < m ∧ kpB H (on k) = true ∧ fb_ct (kpB H) (on k) = k) (hcar : hI H 33 3 = nI car) (hc6 : car ≤ 6) :
    ∀ (r k : Nat) (q : Nat → Nat), n - k = r → k < n → (∀ i, i < k → q i ≤ mxL q i ∧ q i < car) →
    (∀ b H', ST H m n ord H' → (∀ i, i < k → hI H' 54 (on i) = nI (q i)) → (∀ i, i ≤ k → hI H' 56 i = nI (mxL q i)) → BSt H m n fr tt ord w b H' → OptD (kqF H m fr tt ord w) n car (DL k q) b → Wp mX12_lay (d + 5) 0 0 172 [some (.ref 33), some (.int (nI k + -1)), none] [] H' Q) →
    ∀ (s c : Nat) (b : Option (Nat → Nat)) (H1 : PH), car - c = s → c ≤ car → ST H m n ord H1 → (∀ i, i < k → hI H1 54 (on i) = nI (q i)) → hI H1 54 (on k) = nI c + -1 → (∀ i, i ≤ k → hI H1 56 i = nI (mxL q i)) → BSt H m n fr tt ord w b H1 → OptD (kqF H m fr tt ord w) n car (DX k q c) b →
    Wp mX12_lay (d + 5) 0 0 172 [some (.ref 33), some (.int (nI k)), none] [] H1 Q := by
  have h10 := hM.2.1
  have hn10 : n ≤ 10 := by have := fb_ct_le (kpB H) m; omega
  have hG : GV m fr tt ord w := ⟨fun a b ha hb => (hw a b ha hb).2, fun i hi => (hM.2.2.1 i hi).2, fun i hi => (hM.2.2.2 i hi).2, fun t ht => (hO.1 t ht).1⟩
  have hinj : ∀ i j, i < n → j < n → on i = on j → i = j := fun i j hi hj e => by rw [← (hon i hi).2.2, e, (hon j hj).2.2]
  intro r
  induction r with
  | zero => intro k q h1 h2; omega
  | succ r ihr =>
    intro k q hr hk hvq kont s
    induction s with
    | zero =>
      intro c b H1 hs hc hST h54 h54k h56 hB ho
      have hF1 := Fix_eqX hST.1 hF
      have ok := hon k hk
      have e52 : hI H1 52 k = nI (on k) := by have := hST.2.2.1 (on k) ok.1 ok.2.1; rw [ok.2.2] at this; exact this
      have e3 : hI H1 33 3 = nI car := (hST.1.2.2.2.2 33 3 (by unfold isLy; omega)).trans hcar
      have e56 := h56 k (Nat.le_refl _)
      have h24 := hST.2.1
      have hmx := mxL_le q k
      have hin : c = car := by omega
      subst hin
      refine wp_iload_n dX12_lay_172 rfl ?_
      refine wp_if_lt (tgt := 317) dX12_lay_173 (by decide) (fun h173 => absurd h173 (nI_pos (by omega))) (fun _ => ?_)
      refine wp_aload_n dX12_lay_176 rfl ?_
      refine wp_geti dX12_lay_177 fl_RX12_185 rfl (fk_33 hF1) ?_
      refine wp_if_le (tgt := 317) dX12_lay_180 (by decide) (fun h180 => absurd h180 (by rw [h24]; exact nI_nle (by omega) (by omega))) (fun _ => ?_)
      refine wp_aload_n dX12_lay_183 rfl ?_
      refine wp_geta dX12_lay_184 fl_RX12_75 rfl (fk_33 hF1) (fr_33_27 hF1) ?_
      refine wp_iload_n dX12_lay_187 rfl ?_
      refine wp_ialoadN dX12_lay_188 (fk_52 hF1) (by omega) (by decide) ?_
      rw [e52]
      refine wp_istore_n dX12_lay_189 (by decide) ?_
      refine wp_aload_n dX12_lay_190 rfl ?_
      refine wp_geta dX12_lay_191 fl_RX12_81 rfl (fk_33 hF1) (fr_33_29 hF1) ?_
      refine wp_iload_n dX12_lay_194 rfl ?_
      refine wp_dup2 dX12_lay_195 rfl rfl ?_
      refine wp_ialoadN dX12_lay_196 (fk_54 hF1) (by omega) (by decide) ?_
      rw [h54k]
      refine wp_iconst (v := 1) dX12_lay_197 (by decide) ?_
      refine wp_iadd dX12_lay_198 ?_
      rw [m1p1]
      refine wp_iastoreN dX12_lay_199 (fk_54 hF1) (by omega) (by decide) ?_
      refine wp_aload_n dX12_lay_200 rfl ?_
      refine wp_geta dX12_lay_201 fl_RX12_81 rfl (fk_33 (Fix_sI hF1)) (fr_33_29 (Fix_sI hF1)) ?_
      refine wp_iload_n dX12_lay_204 rfl ?_
      refine wp_ialoadN dX12_lay_205 (fk_54 (Fix_sI hF1)) (by omega) (by decide) ?_
      rw [hI_sI', if_pos ⟨rfl, rfl⟩]
      refine wp_aload_n dX12_lay_206 rfl ?_
      refine wp_geta dX12_lay_207 fl_RX12_87 rfl (fk_33 (Fix_sI hF1)) (fr_33_31 (Fix_sI hF1)) ?_
      refine wp_iload_n dX12_lay_210 rfl ?_
      refine wp_ialoadN dX12_lay_211 (fk_56 (Fix_sI hF1)) (by omega) (by decide) ?_
      rw [hI_sI', if_neg (by omega), e56]
      refine wp_icmp_gt (tgt := 228) dX12_lay_212 (by decide) (fun h212 => ?_) (fun h212 => ?_)
      · refine wp_inc (c := -1) dX12_lay_228 rfl (by decide) (by decide) ?_
        refine wp_goto (tgt := 172) dX12_lay_231 (by decide) ?_
        refine wp_forget 2 (kont b _ (ST_eq hST (eqX_sI eqX_rfl (Or.inl rfl))) (fun i hi => ?_) (fun i hi => ?_) (BSt_eq (by rw [hI_sI', if_neg (by omega)]) (by rw [hI_sI', if_neg (by omega)]) (fun j => by rw [hI_sI', if_neg (by omega)]) hB) (OptD_iff (fun q' hv' => DX_L hk hv' (Or.inr (Nat.le_refl _))) ho))
        · rw [hI_sI', if_neg (fun z => by have := hinj i k (by omega) hk z.2; omega)]; exact h54 i hi
        · rw [hI_sI', if_neg (by omega)]; exact h56 i hi
      · refine wp_aload_n dX12_lay_215 rfl ?_
        refine wp_geta dX12_lay_216 fl_RX12_81 rfl (fk_33 (Fix_sI hF1)) (fr_33_29 (Fix_sI hF1)) ?_
        refine wp_iload_n dX12_lay_219 rfl ?_
        refine wp_ialoadN dX12_lay_220 (fk_54 (Fix_sI hF1)) (by omega) (by decide) ?_
        rw [hI_sI', if_pos ⟨rfl, rfl⟩]
        refine wp_aload_n dX12_lay_221 rfl ?_
        refine wp_geti dX12_lay_222 fl_RX12_16 rfl (fk_33 (Fix_sI hF1)) ?_
        rw [hI_sI', if_neg (by omega), e3]
        refine wp_icmp_lt (tgt := 234) dX12_lay_225 (by decide) (fun h225 => ?_) (fun h225 => ?_)
        · exact absurd (Nat.lt_irrefl c) (fun z => z ((nI_ltI (by omega) (by omega)).mp h225))
        · refine wp_inc (c := -1) dX12_lay_228 rfl (by decide) (by decide) ?_
          refine wp_goto (tgt := 172) dX12_lay_231 (by decide) ?_
          refine wp_forget 2 (kont b _ (ST_eq hST (eqX_sI eqX_rfl (Or.inl rfl))) (fun i hi => ?_) (fun i hi => ?_) (BSt_eq (by rw [hI_sI', if_neg (by omega)]) (by rw [hI_sI', if_neg (by omega)]) (fun j => by rw [hI_sI', if_neg (by omega)]) hB) (OptD_iff (fun q' hv' => DX_L hk hv' (Or.inr (Nat.le_refl _))) ho))
          · rw [hI_sI', if_neg (fun z => by have := hinj i k (by omega) hk z.2; omega)]; exact h54 i hi
          · rw [hI_sI', if_neg (by omega)]; exact h56 i hi
    | succ s ihs =>
      intro c b H1 hs hc hST h54 h54k h56 hB ho
      have hF1 := Fix_eqX hST.1 hF
      have ok := hon k hk
      have e52 : hI H1 52 k = nI (on k) := by have := hST.2.2.1 (on k) ok.1 ok.2.1; rw [ok.2.2] at this; exact this
      have e3 : hI H1 33 3 = nI car := (hST.1.2.2.2.2 33 3 (by unfold isLy; omega)).trans hcar
      have e56 := h56 k (Nat.le_refl _)
      have h24 := hST.2.1
      have hmx := mxL_le q k
      by_cases hgo : c ≤ mxL q k
      · have hq1 : ∀ e, e < k → upq q k c e = q e := fun e he => upq_lt q k c he
        have hmk : mxL (upq q k c) k = mxL q k := mxL_cong hq1
        have hmk1 : mxL (upq q k c) (k + 1) = if c = mxL q k then mxL q k + 1 else mxL q k := by
          show (if upq q k c k = mxL (upq q k c) k then mxL (upq q k c) k + 1 else mxL (upq q k c) k) = _
          rw [upq_k, hmk]
        have hv1 : ∀ i, i < k + 1 → upq q k c i ≤ mxL (upq q k c) i ∧ upq q k c i < car := fun i hi => by
          rcases Nat.lt_succ_iff_lt_or_eq.mp hi with z | z
          · rw [hq1 i z, mxL_cong (fun e he => hq1 e (by omega))]; exact hvq i z
          · subst z; rw [upq_k, hmk]; exact ⟨hgo, by omega⟩
        have hm1 := mxL_le (upq q k c) (k + 1)
        let Hb := sI (sI H1 54 (on k) (nI c)) 56 (k + 1) (nI (mxL (upq q k c) (k + 1)))
        have hb1 : eqX is2556 H1 Hb := eqX_sI (eqX_sI eqX_rfl (Or.inl rfl)) (Or.inr (Or.inr (Or.inl rfl)))
        have hSTb : ST H m n ord Hb := ST_eq hST hb1
        have hFb := Fix_eqX hSTb.1 hF
        have hb54 : ∀ i, i < k + 1 → hI Hb 54 (on i) = nI (upq q k c i) := fun i hi => by
          show hI (sI (sI H1 54 (on k) (nI c)) 56 (k + 1) (nI (mxL (upq q k c) (k + 1)))) 54 (on i) = _
          rw [hI_sI', if_neg (by omega), hI_sI']
          rcases Nat.lt_succ_iff_lt_or_eq.mp hi with z | z
          · rw [if_neg (fun y => by have := hinj i k (by omega) hk y.2; omega), hq1 i z]; exact h54 i z
          · subst z; rw [if_pos ⟨rfl, rfl⟩, upq_k]
        have hb56 : ∀ i, i ≤ k + 1 → hI Hb 56 i = nI (mxL (upq q k c) i) := fun i hi => by
          show hI (sI (sI H1 54 (on k) (nI c)) 56 (k + 1) (nI (mxL (upq q k c) (k + 1)))) 56 i = _
          rw [hI_sI']
          by_cases z : i = k + 1
          · subst z; rw [if_pos ⟨rfl, rfl⟩]
          · rw [if_neg (by omega), hI_sI', if_neg (by omega), h56 i (by omega), mxL_cong (fun e he => hq1 e (by omega))]
        have hBb : BSt H m n fr tt ord w b Hb := BSt_eq (by
            show hI (sI (sI H1 54 (on k) (nI c)) 56 (k + 1) (nI (mxL (upq q k c) (k + 1)))) 33 25 = _
            rw [hI_sI', if_neg (by omega), hI_sI', if_neg (by omega)]) (by
            show hI (sI (sI H1 54 (on k) (nI c)) 56 (k + 1) (nI (mxL (upq q k c) (k + 1)))) 33 26 = _
            rw [hI_sI', if_neg (by omega), hI_sI', if_neg (by omega)]) (fun j => by
            show hI (sI (sI H1 54 (on k) (nI c)) 56 (k + 1) (nI (mxL (upq q k c) (k + 1)))) 55 j = _
            rw [hI_sI', if_neg (by omega), hI_sI', if_neg (by omega)]) hB
        have fin : ∀ b' H', ST H m n ord H' → (∀ i, i < k + 1 → hI H' 54 (on i) = nI (upq q k c i)) → (∀ i, i ≤ k + 1 → hI H' 56 i = nI (mxL (upq q k c) i)) → BSt H m n fr tt ord w b' H' → OptD (kqF H m fr tt ord w) n car (DX k q (c + 1)) b' → Wp mX12_lay (d + 5) 0 0 172 [some (.ref 33), some (.int (nI k)), none] [] H' Q := by
          intro b' H' hS' g54 g56 hB' ho'
          refine ihs (c + 1) b' H' (by omega) (by omega) hS' (fun i hi => ?_) ?_ (fun i hi => ?_) hB' ho'
          · rw [g54 i (by omega), hq1 i hi]
          · rw [g54 k (by omega), upq_k, pk_m1]
          · rw [g56 i (by omega), mxL_cong (fun e he => hq1 e (by omega))]
        have rest : Wp mX12_lay (d + 5) 0 0 274 [some (.ref 33), some (.int (nI k)), some (.int (nI (on k)))] [] Hb Q := by
          by_cases hlast : k + 1 < n
          · have ok1 := hon (k + 1) hlast
            have e521 : hI Hb 52 (k + 1) = nI (on (k + 1)) := by have := hSTb.2.2.1 (on (k + 1)) ok1.1 ok1.2.1; rw [ok1.2.2] at this; exact this
            have h24b := hSTb.2.1
            have hnext := ihr (k + 1) (upq q k c) (by omega) hlast hv1 (fun b' H' hS' g54 g56 hB' ho' => by
              rw [pk_m1]
              exact fin b' H' hS' g54 g56 hB' (OptD_iff (fun q' _ => DL_s) ho')) _ 0 b (sI Hb 54 (on (k + 1)) (-1)) rfl (Nat.zero_le _) (ST_eq hSTb (eqX_sI eqX_rfl (Or.inl rfl))) (fun i hi => by
                rw [hI_sI', if_neg (fun y => by have := hinj i (k + 1) (by omega) hlast y.2; omega)]; exact hb54 i hi) (by rw [hI_sI', if_pos ⟨rfl, rfl⟩]; rfl) (fun i hi => by rw [hI_sI', if_neg (by omega)]; exact hb56 i hi) (BSt_eq (by rw [hI_sI', if_neg (by omega)]) (by rw [hI_sI', if_neg (by omega)]) (fun j => by rw [hI_sI', if_neg (by omega)]) hBb) (OptD_iff (fun q' _ => DX_0) ho)
            refine wp_iload_n dX12_lay_274 rfl ?_
            refine wp_iconst (v := 1) dX12_lay_275 (by decide) ?_
            refine wp_iadd dX12_lay_276 ?_
            rw [nI_1]
            refine wp_aload_n dX12_lay_277 rfl ?_
            refine wp_geti dX12_lay_278 fl_RX12_185 rfl (fk_33 hFb) ?_
            rw [h24b]
            refine wp_icmp_ge (tgt := 302) dX12_lay_281 (by decide) (fun h281 => absurd h281 (nI_ge hlast (by omega))) (fun _ => ?_)
            refine wp_incN dX12_lay_284 rfl (by decide) ?_
            refine wp_aload_n dX12_lay_287 rfl ?_
            refine wp_geta dX12_lay_288 fl_RX12_81 rfl (fk_33 hFb) (fr_33_29 hFb) ?_
            refine wp_aload_n dX12_lay_291 rfl ?_
            refine wp_geta dX12_lay_292 fl_RX12_75 rfl (fk_33 hFb) (fr_33_27 hFb) ?_
            refine wp_iload_n dX12_lay_295 rfl ?_
            refine wp_ialoadN dX12_lay_296 (fk_52 hFb) (by omega) (by decide) ?_
            rw [e521]
            refine wp_iconst (v := -1) dX12_lay_297 (by decide) ?_
            refine wp_iastoreN dX12_lay_298 (fk_54 hFb) (by omega) (by decide) ?_
            refine wp_goto (tgt := 314) dX12_lay_299 (by decide) ?_
            refine wp_goto (tgt := 172) dX12_lay_314 (by decide) ?_
            exact wp_forget 2 hnext
          · have hkn : k + 1 = n := by omega
            have h24b := hSTb.2.1
            have ek := kpB_ly hSTb.1
            have eK : Kof Hb m = Kof H m := by unfold Kof; rw [ek]
            have hvn : vld n car (upq q k c) := fun i hi => hv1 i (by omega)
            have hLK : LK Hb m n (mxL (upq q k c) (k + 1)) fr tt ord pos w (labs (kpB H) (upq q k c)) := by
              unfold LK
              rw [ek]
              refine ⟨MJ_ly hSTb.1 hM, fun a b ha hb => by rw [mwy_ly hSTb.1]; exact hw a b ha hb, hO.1, hO.2.1, h24b, hn', hn, hSTb.2.2.2, hSTb.2.2.1, fun j hj hkj => ?_, by omega, fun c' hc' => ?_⟩
              · have hlt := ct_lt_of hj hkj
                have o2 := hon (fb_ct (kpB H) j) (by omega)
                have ej : on (fb_ct (kpB H) j) = j := fb_ct_kth_one o2.2.1 hkj o2.2.2
                have h9 := hb54 (fb_ct (kpB H) j) (by omega)
                rw [ej] at h9
                refine ⟨h9, ?_⟩
                exact mxL_gt (fun i hi => (hv1 i hi).1) _ (by omega)
              · obtain ⟨e, e1, e2⟩ := mxL_lab _ _ _ hc'
                have o2 := hon e (by omega)
                exact ⟨on e, o2.1, o2.2.1, by unfold labs; rw [o2.2.2]; exact e2⟩
            obtain ⟨s1, s2, s3⟩ := look_step h10 hn hc6 hG hkn hvn hBb ho
            have hkeep : ∀ H', eqX is57 Hb H' → OptD (kqF H m fr tt ord w) n car (DX k q (c + 1)) b → Wp mX12_lay (d + 5) 0 0 172 [some (.ref 33), some (.int (nI k)), none] [] H' Q := by
              intro H' he ho'
              have he2 : eqX is2556 Hb H' := eqX_mono (fun a k z => Or.inr (Or.inr (Or.inr (Or.inl z)))) he
              refine fin b H' (ST_eq hSTb he2) (fun i hi => ?_) (fun i hi => ?_) (BSt_eq (he.2.2.2.2 33 25 (by unfold is57; decide)) (he.2.2.2.2 33 26 (by unfold is57; decide)) (fun j => he.2.2.2.2 55 j (by unfold is57; decide)) hBb) ho'
              · rw [he.2.2.2.2 54 _ (by unfold is57; decide)]; exact hb54 i hi
              · rw [he.2.2.2.2 56 _ (by unfold is57; decide)]; exact hb56 i hi
            have e56b : hI Hb 56 (k + 1) = nI (mxL (upq q k c) (k + 1)) := hb56 (k + 1) (Nat.le_refl _)
            refine wp_iload_n dX12_lay_274 rfl ?_
            refine wp_iconst (v := 1) dX12_lay_275 (by decide) ?_
            refine wp_iadd dX12_lay_276 ?_
            rw [nI_1]
            refine wp_aload_n dX12_lay_277 rfl ?_
            refine wp_geti dX12_lay_278 fl_RX12_185 rfl (fk_33 hFb) ?_
            rw [h24b]
            refine wp_icmp_ge (tgt := 302) dX12_lay_281 (by decide) (fun _ => ?_) (fun h281 => absurd h281 (fun h => h (nI_le (by omega) (by omega))))
            refine wp_aload_n dX12_lay_302 rfl ?_
            refine wp_aload_n dX12_lay_303 rfl ?_
            refine wp_geta dX12_lay_304 fl_RX12_87 rfl (fk_33 hFb) (fr_33_31 hFb) ?_
            refine wp_iload_n dX12_lay_307 rfl ?_
            refine wp_iconst (v := 1) dX12_lay_308 (by decide) ?_
            refine wp_iadd dX12_lay_309 ?_
            rw [nI_1]
            refine wp_ialoadN dX12_lay_310 (fk_56 hFb) (by omega) (by decide) ?_
            rw [e56b]
            refine wp_callv1 (ci := 12) dX12_lay_311 lk_RX12_197 ok_X12_look im_X12_look se_X12_look rfl rfl (fk_33 hFb) (Nat.le_of_ble_eq_true rfl) (Nat.le_of_ble_eq_true rfl) ?_
            refine c_X12_look (d := d) hFb hLK ?_
            unfold lkRes
            rw [mco_ly hSTb.1, eK, ek]
            refine ⟨fun hno H' he => ?_, fun hfe hbb H' he => ?_, fun hfe hbb H' hx1 hx2 hx3 hx4 hx5 hx6 => ?_⟩
            · refine wp_goto (tgt := 172) dX12_lay_314 (by decide) ?_
              refine wp_forget 2 ?_
              first
                | exact hkeep H' he (s1 hno)
                | exact hkeep H' he (s2 hfe hbb)
                | (have he2 : eqX is2556 Hb H' := ⟨hx1.1, hx1.2.1, hx1.2.2.1, hx1.2.2.2.1, fun a k z => hx2 a k (by unfold is2556 at z; omega) (by unfold is2556 at z; omega) (by unfold is2556 at z; omega)⟩
                   refine fin (some (upq q k c)) H' (ST_eq hSTb he2) (fun i hi => ?_) (fun i hi => ?_) ⟨hx3, by rw [← hkn]; exact hx4, hx5, fun j hj1 hj2 => ?_⟩ (s3 hfe hbb)
                   · rw [hx2 54 _ (by decide) (by decide) (by omega)]; exact hb54 i hi
                   · rw [hx2 56 _ (by decide) (by decide) (by omega)]; exact hb56 i hi
                   · rw [hx6 j hj2]
                     cases b with
                     | none => exact hBb.2 j hj1
                     | some s0 => exact hBb.2.2.2 j hj1 hj2)
            · refine wp_goto (tgt := 172) dX12_lay_314 (by decide) ?_
              refine wp_forget 2 ?_
              first
                | exact hkeep H' he (s1 hno)
                | exact hkeep H' he (s2 hfe hbb)
                | (have he2 : eqX is2556 Hb H' := ⟨hx1.1, hx1.2.1, hx1.2.2.1, hx1.2.2.2.1, fun a k z => hx2 a k (by unfold is2556 at z; omega) (by unfold is2556 at z; omega) (by unfold is2556 at z; omega)⟩
                   refine fin (some (upq q k c)) H' (ST_eq hSTb he2) (fun i hi => ?_) (fun i hi => ?_) ⟨hx3, by rw [← hkn]; exact hx4, hx5, fun j hj1 hj2 => ?_⟩ (s3 hfe hbb)
                   · rw [hx2 54 _ (by decide) (by decide) (by omega)]; exact hb54 i hi
                   · rw [hx2 56 _ (by decide) (by decide) (by omega)]; exact hb56 i hi
                   · rw [hx6 j hj2]
                     cases b with
                     | none => exact hBb.2 j hj1
                     | some s0 => exact hBb.2.2.2 j hj1 hj2)
            · refine wp_goto (tgt := 172) dX12_lay_314 (by decide) ?_
              refine wp_forget 2 ?_
              first
                | exact hkeep H' he (s1 hno)
                | exact hkeep H' he (s2 hfe hbb)
                | (have he2 : eqX is2556 Hb H' := ⟨hx1.1, hx1.2.1, hx1.2.2.1, hx1.2.2.2.1, fun a k z => hx2 a k (by unfold is2556 at z; omega) (by unfold is2556 at z; omega) (by unfold is2556 at z; omega)⟩
                   refine fin (some (upq q k c)) H' (ST_eq hSTb he2) (fun i hi => ?_) (fun i hi => ?_) ⟨hx3, by rw [← hkn]; exact hx4, hx5, fun j hj1 hj2 => ?_⟩ (s3 hfe hbb)
                   · rw [hx2 54 _ (by decide) (by decide) (by omega)]; exact hb54 i hi
                   · rw [hx2 56 _ (by decide) (by decide) (by omega)]; exact hb56 i hi
                   · rw [hx6 j hj2]
                     cases b with
                     | none => exact hBb.2 j hj1
                     | some s0 => exact hBb.2.2.2 j hj1 hj2)
        have ecm : nI c = nI (mxL q k) ↔ c = mxL q k := nI_eq (by omega) (by omega)
        refine wp_iload_n dX12_lay_172 rfl ?_
        refine wp_if_lt (tgt := 317) dX12_lay_173 (by decide) (fun h173 => absurd h173 (nI_pos (by omega))) (fun _ => ?_)
        refine wp_aload_n dX12_lay_176 rfl ?_
        refine wp_geti dX12_lay_177 fl_RX12_185 rfl (fk_33 hF1) ?_
        refine wp_if_le (tgt := 317) dX12_lay_180 (by decide) (fun h180 => absurd h180 (by rw [h24]; exact nI_nle (by omega) (by omega))) (fun _ => ?_)
        refine wp_aload_n dX12_lay_183 rfl ?_
        refine wp_geta dX12_lay_184 fl_RX12_75 rfl (fk_33 hF1) (fr_33_27 hF1) ?_
        refine wp_iload_n dX12_lay_187 rfl ?_
        refine wp_ialoadN dX12_lay_188 (fk_52 hF1) (by omega) (by decide) ?_
        rw [e52]
        refine wp_istore_n dX12_lay_189 (by decide) ?_
        refine wp_aload_n dX12_lay_190 rfl ?_
        refine wp_geta dX12_lay_191 fl_RX12_81 rfl (fk_33 hF1) (fr_33_29 hF1) ?_
        refine wp_iload_n dX12_lay_194 rfl ?_
        refine wp_dup2 dX12_lay_195 rfl rfl ?_
        refine wp_ialoadN dX12_lay_196 (fk_54 hF1) (by omega) (by decide) ?_
        rw [h54k]
        refine wp_iconst (v := 1) dX12_lay_197 (by decide) ?_
        refine wp_iadd dX12_lay_198 ?_
        rw [m1p1]
        refine wp_iastoreN dX12_lay_199 (fk_54 hF1) (by omega) (by decide) ?_
        refine wp_aload_n dX12_lay_200 rfl ?_
        refine wp_geta dX12_lay_201 fl_RX12_81 rfl (fk_33 (Fix_sI hF1)) (fr_33_29 (Fix_sI hF1)) ?_
        refine wp_iload_n dX12_lay_204 rfl ?_
        refine wp_ialoadN dX12_lay_205 (fk_54 (Fix_sI hF1)) (by omega) (by decide) ?_
        rw [hI_sI', if_pos ⟨rfl, rfl⟩]
        refine wp_aload_n dX12_lay_206 rfl ?_
        refine wp_geta dX12_lay_207 fl_RX12_87 rfl (fk_33 (Fix_sI hF1)) (fr_33_31 (Fix_sI hF1)) ?_
        refine wp_iload_n dX12_lay_210 rfl ?_
        refine wp_ialoadN dX12_lay_211 (fk_56 (Fix_sI hF1)) (by omega) (by decide) ?_
        rw [hI_sI', if_neg (by omega), e56]
        refine wp_icmp_gt (tgt := 228) dX12_lay_212 (by decide) (fun h212 => absurd h212 (nI_nlt hgo (by omega))) (fun _ => ?_)
        refine wp_aload_n dX12_lay_215 rfl ?_
        refine wp_geta dX12_lay_216 fl_RX12_81 rfl (fk_33 (Fix_sI hF1)) (fr_33_29 (Fix_sI hF1)) ?_
        refine wp_iload_n dX12_lay_219 rfl ?_
        refine wp_ialoadN dX12_lay_220 (fk_54 (Fix_sI hF1)) (by omega) (by decide) ?_
        rw [hI_sI', if_pos ⟨rfl, rfl⟩]
        refine wp_aload_n dX12_lay_221 rfl ?_
        refine wp_geti dX12_lay_222 fl_RX12_16 rfl (fk_33 (Fix_sI hF1)) ?_
        rw [hI_sI', if_neg (by omega), e3]
        refine wp_icmp_lt (tgt := 234) dX12_lay_225 (by decide) (fun _ => ?_) (fun h225 => absurd h225 (fun z => z (nI_lt (by omega) (by omega))))
        refine wp_aload_n dX12_lay_234 rfl ?_
        refine wp_geta dX12_lay_235 fl_RX12_87 rfl (fk_33 (Fix_sI hF1)) (fr_33_31 (Fix_sI hF1)) ?_
        refine wp_iload_n dX12_lay_238 rfl ?_
        refine wp_iconst (v := 1) dX12_lay_239 (by decide) ?_
        refine wp_iadd dX12_lay_240 ?_
        rw [nI_1]
        refine wp_aload_n dX12_lay_241 rfl ?_
        refine wp_geta dX12_lay_242 fl_RX12_81 rfl (fk_33 (Fix_sI hF1)) (fr_33_29 (Fix_sI hF1)) ?_
        refine wp_iload_n dX12_lay_245 rfl ?_
        refine wp_ialoadN dX12_lay_246 (fk_54 (Fix_sI hF1)) (by omega) (by decide) ?_
        rw [hI_sI', if_pos ⟨rfl, rfl⟩]
        refine wp_aload_n dX12_lay_247 rfl ?_
        refine wp_geta dX12_lay_248 fl_RX12_87 rfl (fk_33 (Fix_sI hF1)) (fr_33_31 (Fix_sI hF1)) ?_
        refine wp_iload_n dX12_lay_251 rfl ?_
        refine wp_ialoadN dX12_lay_252 (fk_56 (Fix_sI hF1)) (by omega) (by decide) ?_
        rw [hI_sI', if_neg (by omega), e56]
        refine wp_icmp_ne (tgt := 267) dX12_lay_253 (by decide) (fun h253 => ?_) (fun h253 => ?_)
        · refine wp_aload_n dX12_lay_267 rfl ?_
          refine wp_geta dX12_lay_268 fl_RX12_87 rfl (fk_33 (Fix_sI hF1)) (fr_33_31 (Fix_sI hF1)) ?_
          refine wp_iload_n dX12_lay_271 rfl ?_
          refine wp_ialoadN dX12_lay_272 (fk_56 (Fix_sI hF1)) (by omega) (by decide) ?_
          rw [hI_sI', if_neg (by omega), e56]
          refine wp_iastoreN dX12_lay_273 (fk_56 (Fix_sI hF1)) (by omega) (by decide) ?_
          first
              | (have h9 := rest
                 simp only [Hb] at h9
                 rw [hmk1, if_pos (ecm.mp h253)] at h9
                 exact h9)
              | (have h9 := rest
                 simp only [Hb] at h9
                 rw [hmk1, if_neg (fun z => h253 (ecm.mpr z))] at h9
                 exact h9)
        · refine wp_aload_n dX12_lay_256 rfl ?_
          refine wp_geta dX12_lay_257 fl_RX12_87 rfl (fk_33 (Fix_sI hF1)) (fr_33_31 (Fix_sI hF1)) ?_
          refine wp_iload_n dX12_lay_260 rfl ?_
          refine wp_ialoadN dX12_lay_261 (fk_56 (Fix_sI hF1)) (by omega) (by decide) ?_
          rw [hI_sI', if_neg (by omega), e56]
          refine wp_iconst (v := 1) dX12_lay_262 (by decide) ?_
          refine wp_iadd dX12_lay_263 ?_
          rw [nI_1]
          refine wp_goto (tgt := 273) dX12_lay_264 (by decide) ?_
          refine wp_iastoreN dX12_lay_273 (fk_56 (Fix_sI hF1)) (by omega) (by decide) ?_
          first
              | (have h9 := rest
                 simp only [Hb] at h9
                 rw [hmk1, if_pos (ecm.mp h253)] at h9
                 exact h9)
              | (have h9 := rest
                 simp only [Hb] at h9
                 rw [hmk1, if_neg (fun z => h253 (ecm.mpr z))] at h9
                 exact h9)
      · have hgo' : mxL q k < c := by omega
        refine wp_iload_n dX12_lay_172 rfl ?_
        refine wp_if_lt (tgt := 317) dX12_lay_173 (by decide) (fun h173 => absurd h173 (nI_pos (by omega))) (fun _ => ?_)
        refine wp_aload_n dX12_lay_176 rfl ?_
        refine wp_geti dX12_lay_177 fl_RX12_185 rfl (fk_33 hF1) ?_
        refine wp_if_le (tgt := 317) dX12_lay_180 (by decide) (fun h180 => absurd h180 (by rw [h24]; exact nI_nle (by omega) (by omega))) (fun _ => ?_)
        refine wp_aload_n dX12_lay_183 rfl ?_
        refine wp_geta dX12_lay_184 fl_RX12_75 rfl (fk_33 hF1) (fr_33_27 hF1) ?_
        refine wp_iload_n dX12_lay_187 rfl ?_
        refine wp_ialoadN dX12_lay_188 (fk_52 hF1) (by omega) (by decide) ?_
        rw [e52]
        refine wp_istore_n dX12_lay_189 (by decide) ?_
        refine wp_aload_n dX12_lay_190 rfl ?_
        refine wp_geta dX12_lay_191 fl_RX12_81 rfl (fk_33 hF1) (fr_33_29 hF1) ?_
        refine wp_iload_n dX12_lay_194 rfl ?_
        refine wp_dup2 dX12_lay_195 rfl rfl ?_
        refine wp_ialoadN dX12_lay_196 (fk_54 hF1) (by omega) (by decide) ?_
        rw [h54k]
        refine wp_iconst (v := 1) dX12_lay_197 (by decide) ?_
        refine wp_iadd dX12_lay_198 ?_
        rw [m1p1]
        refine wp_iastoreN dX12_lay_199 (fk_54 hF1) (by omega) (by decide) ?_
        refine wp_aload_n dX12_lay_200 rfl ?_
        refine wp_geta dX12_lay_201 fl_RX12_81 rfl (fk_33 (Fix_sI hF1)) (fr_33_29 (Fix_sI hF1)) ?_
        refine wp_iload_n dX12_lay_204 rfl ?_
        refine wp_ialoadN dX12_lay_205 (fk_54 (Fix_sI hF1)) (by omega) (by decide) ?_
        rw [hI_sI', if_pos ⟨rfl, rfl⟩]
        refine wp_aload_n dX12_lay_206 rfl ?_
        refine wp_geta dX12_lay_207 fl_RX12_87 rfl (fk_33 (Fix_sI hF1)) (fr_33_31 (Fix_sI hF1)) ?_
        refine wp_iload_n dX12_lay_210 rfl ?_
        refine wp_ialoadN dX12_lay_211 (fk_56 (Fix_sI hF1)) (by omega) (by decide) ?_
        rw [hI_sI', if_neg (by omega), e56]
        refine wp_icmp_gt (tgt := 228) dX12_lay_212 (by decide) (fun _ => ?_) (fun h212 => absurd h212 (fun z => z (nI_lt (by omega) (by omega))))
        refine wp_inc (c := -1) dX12_lay_228 rfl (by decide) (by decide) ?_
        refine wp_goto (tgt := 172) dX12_lay_231 (by decide) ?_
        refine wp_forget 2 (kont b _ (ST_eq hST (eqX_sI eqX_rfl (Or.inl rfl))) (fun i hi => ?_) (fun i hi => ?_) (BSt_eq (by rw [hI_sI', if_neg (by omega)]) (by rw [hI_sI', if_neg (by omega)]) (fun j => by rw [hI_sI', if_neg (by omega)]) hB) (OptD_iff (fun q' hv' => DX_L hk hv' (Or.inl (by omega))) ho))
        · rw [hI_sI', if_neg (fun z => by have := hinj i k (by omega) hk z.2; omega)]; exact h54 i hi
        · rw [hI_sI', if_neg (by omega)]; exact h56 i hi
end LB
