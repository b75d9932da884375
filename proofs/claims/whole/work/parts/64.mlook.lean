/-! ===== the reference's look ===== -/
def isLy (a k : Nat) : Prop := (52 ≤ a ∧ a ≤ 57) ∨ (a = 33 ∧ 24 ≤ k ∧ k ≤ 26)
def is57 (a _ : Nat) : Prop := a = 57
def kpB (H : PH) (j : Nat) : Bool := decide (hI H 47 j = 0)
def mfolB (H : PH) (fr tt : Nat → Nat) (i j : Nat) : Bool := decide (mFol H fr tt i j)
def MWY (H : PH) (w : Nat → Nat → Nat) : Prop := ∀ a b, a < 8 → b < 8 → mwy H a b = nI (w a b) ∧ w a b ≤ 300
theorem MJ_ly {H H1 : PH} {m : Nat} {fr tt : Nat → Nat} (h : eqX isLy H H1) (hM : MJ H m fr tt) : MJ H1 m fr tt := by
  have e : ∀ a k, ¬ isLy a k → hI H1 a k = hI H a k := h.2.2.2.2
  obtain ⟨h1, h2, h3, h4⟩ := hM
  refine ⟨by rw [e 33 11 (by unfold isLy; omega)]; exact h1, h2, fun i hi => ?_, fun i hi => ?_⟩
  · rw [e 41 i (by unfold isLy; omega)]; exact h3 i hi
  · rw [e 42 i (by unfold isLy; omega)]; exact h4 i hi
theorem mwy_ly {H H1 : PH} (h : eqX isLy H H1) (a b : Nat) : mwy H1 a b = mwy H a b := by
  unfold mwy; rw [h.2.2.2.2 39 _ (by unfold isLy; omega)]
theorem mFol_ly {H H1 : PH} {fr tt : Nat → Nat} (h : eqX isLy H H1) (i j : Nat) : mFol H1 fr tt i j ↔ mFol H fr tt i j := by
  unfold mFol mEnd
  rw [mwy_ly h, mwy_ly h, h.2.2.2.2 43 i (by unfold isLy; omega), h.2.2.2.2 44 i (by unfold isLy; omega), h.2.2.2.2 43 j (by unfold isLy; omega)]
theorem ly57 {H H1 : PH} (h : eqX is57 H H1) : eqX isLy H H1 := eqX_mono (fun a k q => Or.inl (by unfold is57 at q; omega)) h
/-- the labels g, the order, the rows of the reference while it looks at a LAY -/
def LK (H : PH) (m n ch : Nat) (fr tt ord pos : Nat → Nat) (w : Nat → Nat → Nat) (g : Nat → Nat) : Prop :=
  MJ H m fr tt ∧ MWY H w ∧ (∀ t, t < m → ord t < m ∧ pos (ord t) = t) ∧ (∀ j, j < m → pos j < m ∧ ord (pos j) = j) ∧ hI H 33 24 = nI n ∧ n = fb_ct (fun t => kpB H (ord t)) m ∧ n = fb_ct (kpB H) m ∧
  (∀ t, t < m → kpB H (ord t) = true → hI H 53 (fb_ct (fun t => kpB H (ord t)) t) = nI (ord t)) ∧ (∀ i, i < m → kpB H i = true → hI H 52 (fb_ct (kpB H) i) = nI i) ∧
  (∀ j, j < m → kpB H j = true → hI H 54 j = nI (g j) ∧ g j < ch) ∧ ch ≤ 10 ∧ ∀ c, c < ch → ∃ j, j < m ∧ kpB H j = true ∧ g j = c
section LO
variable {d m n ch : Nat} {fr tt ord pos : Nat → Nat} {w : Nat → Nat → Nat} {g : Nat → Nat} {H : PH} {Q : Option Value → PH → Prop}
/-- EMPTY minutes of a set as a CHAIN, by the reference's cells -/
def mco (H : PH) (fr tt ord : Nat → Nat) (w : Nat → Nat → Nat) (m S : Nat) : Option Nat := chF fr tt ord w (mfolB H fr tt) S m 0 none 0
abbrev Kof (H : PH) (m : Nat) : Nat := mkM (kpB H) m
theorem Kof_lt (h : m ≤ 10) : Kof H m < 1024 := Nat.lt_of_lt_of_le (mkM_lt _ m) (Nat.pow_le_pow_right (n := 2) (by decide) h)
theorem Kof_bit (j : Nat) : (Kof H m).testBit j = (decide (j < m) && kpB H j) := mkM_bit _ _ _
theorem Kof_t {j : Nat} (h : (Kof H m).testBit j = true) : j < m ∧ kpB H j = true := by rw [Kof_bit, Bool.and_eq_true, decide_eq_true_eq] at h; exact h
theorem Kof_i {j : Nat} (h1 : j < m) (h2 : kpB H j = true) : (Kof H m).testBit j = true := by rw [Kof_bit, decide_eq_true h1, h2]; rfl
def lwW (w : Nat → Nat → Nat) (tt : Nat → Nat) : Option Nat → Nat
  | none => 0
  | some p => w (tt p) 0
/-- third loop and the end -/
theorem l_X12_look4 (hF : Fix H) (hL : LK H m n ch fr tt ord pos w g) {H0 : PH} {S : Int32}
    (hq : ∀ H', eqX isLy H0 H' → (∀ j, j < m → kpB H j = true → hI H' 55 j = nI (g j)) → (∀ j, ¬ (j < m ∧ kpB H j = true) → hI H' 55 j = hI H0 55 j) → (∀ a k, a ≠ 55 → hI H' a k = hI H0 a k) → Q none H') (hz : eqX isLy H H0) (h52 : hI H0 52 = hI H 52) (h54 : hI H0 54 = hI H 54) (h24 : hI H0 33 24 = nI n) :
    ∀ (f i : Nat) (H1 : PH), m - i = f → i ≤ m → eqX isLy H0 H1 → (∀ j, j < i → kpB H j = true → hI H1 55 j = nI (g j)) → (∀ j, ¬ (j < i ∧ kpB H j = true) → hI H1 55 j = hI H0 55 j) → (∀ a k, a ≠ 55 → hI H1 a k = hI H0 a k) →
    Wp mX12_look d 0 0 192 [some (.ref 33), some (.int (nI ch)), some (.int S), some (.int (nI (fb_ct (kpB H) i))), none, none] [] H1 Q := by
  obtain ⟨hM, hw, ho, hpo, hn24, hn1, hn2, h53, h52', hg, hch, hall⟩ := hL
  have h10 := hM.2.1
  intro f
  induction f with
  | zero =>
    intro i H1 hf hi he g1 g2 g3
    have hin : i = m := by omega
    subst hin
    have hF1 := Fix_eqX (eqX_trans hz he) hF
    have e24 : hI H1 33 24 = nI (fb_ct (kpB H) i) := by rw [g3 33 24 (by decide), h24, hn2]
    have hle := fb_ct_le (kpB H) i
    refine wp_iload_n dX12_look_192 rfl ?_
    refine wp_aload_n dX12_look_193 rfl ?_
    refine wp_geti dX12_look_194 fl_RX12_185 rfl (fk_33 hF1) ?_
    refine wp_icmp_ge (tgt := 228) dX12_look_197 (by decide) (fun _ => ?_) (fun h197 => absurd h197 (by rw [e24]; exact fun h => h (nI_le (Nat.le_refl _) (by omega))))
    refine wp_return rfl dX12_look_228 ?_
    exact hq H1 he g1 g2 g3
  | succ f ih =>
    intro i H1 hf hi he g1 g2 g3
    have hlt : i < m := by omega
    by_cases hk : kpB H i = true
    · have hF1 := Fix_eqX (eqX_trans hz he) hF
      have e24 : hI H1 33 24 = nI n := by rw [g3 33 24 (by decide), h24]
      have e52 : hI H1 52 (fb_ct (kpB H) i) = nI i := by rw [g3 52 _ (by decide), h52]; exact h52' i hlt hk
      have e54 : hI H1 54 i = nI (g i) := by rw [g3 54 _ (by decide), h54]; exact (hg i hlt hk).1
      have hcl : fb_ct (kpB H) i < n := by
        have := fb_ct_mono (kpB H) (show i + 1 ≤ m by omega)
        rw [fb_ct_succ, hk, if_pos rfl] at this
        omega
      have hn10 : n ≤ 10 := by have := fb_ct_le (kpB H) m; omega
      have hs : fb_ct (kpB H) (i + 1) = fb_ct (kpB H) i + 1 := by rw [fb_ct_succ, hk, if_pos rfl]
      have hi9 := ih (i + 1)
      rw [hs] at hi9
      refine wp_iload_n dX12_look_192 rfl ?_
      refine wp_aload_n dX12_look_193 rfl ?_
      refine wp_geti dX12_look_194 fl_RX12_185 rfl (fk_33 hF1) ?_
      refine wp_icmp_ge (tgt := 228) dX12_look_197 (by decide) (fun h197 => absurd h197 (by rw [e24]; exact nI_ge hcl (by omega))) (fun _ => ?_)
      refine wp_aload_n dX12_look_200 rfl ?_
      refine wp_geta dX12_look_201 fl_RX12_84 rfl (fk_33 hF1) (fr_33_30 hF1) ?_
      refine wp_aload_n dX12_look_204 rfl ?_
      refine wp_geta dX12_look_205 fl_RX12_75 rfl (fk_33 hF1) (fr_33_27 hF1) ?_
      refine wp_iload_n dX12_look_208 rfl ?_
      refine wp_ialoadN dX12_look_209 (fk_52 hF1) (by omega) (by decide) ?_
      rw [e52]
      refine wp_aload_n dX12_look_210 rfl ?_
      refine wp_geta dX12_look_211 fl_RX12_81 rfl (fk_33 hF1) (fr_33_29 hF1) ?_
      refine wp_aload_n dX12_look_214 rfl ?_
      refine wp_geta dX12_look_215 fl_RX12_75 rfl (fk_33 hF1) (fr_33_27 hF1) ?_
      refine wp_iload_n dX12_look_218 rfl ?_
      refine wp_ialoadN dX12_look_219 (fk_52 hF1) (by omega) (by decide) ?_
      rw [e52]
      refine wp_ialoadN dX12_look_220 (fk_54 hF1) (by omega) (by decide) ?_
      rw [e54]
      refine wp_iastoreN dX12_look_221 (fk_55 hF1) (by omega) (by decide) ?_
      refine wp_incN dX12_look_222 rfl (by decide) ?_
      refine wp_goto (tgt := 192) dX12_look_225 (by decide) ?_
      refine hi9 _ (by omega) (by omega) (eqX_sI he (Or.inl (by omega))) (fun j hj hkj => ?_) (fun j hj => ?_) (fun a k ha => ?_)
      · rw [hI_sI']
        by_cases q : j = i
        · subst q; rw [if_pos ⟨rfl, rfl⟩]
        · rw [if_neg (by omega)]; exact g1 j (by omega) hkj
      · rw [hI_sI', if_neg (fun q => hj ⟨by omega, by rw [q.2]; exact hk⟩)]; exact g2 j (fun q => hj ⟨by omega, q.2⟩)
      · rw [hI_sI', if_neg (by omega)]; exact g3 a k ha
    · have hs : fb_ct (kpB H) (i + 1) = fb_ct (kpB H) i := by rw [fb_ct_succ, if_neg hk, Nat.add_zero]
      have h9 := ih (i + 1) H1 (by omega) (by omega) he (fun j hj hkj => g1 j (by
        rcases Nat.lt_succ_iff_lt_or_eq.mp hj with q | q
        · exact q
        · subst q; exact absurd hkj hk) hkj) (fun j hj => g2 j (fun q => hj ⟨by omega, q.2⟩)) g3
      rw [hs] at h9
      exact h9
/-- what a look at labels g does -/
def lkRes (H : PH) (m ch : Nat) (fr tt ord : Nat → Nat) (w : Nat → Nat → Nat) (g : Nat → Nat) (Q : Option Value → PH → Prop) : Prop :=
  ((∃ c, c < 10 ∧ mco H fr tt ord w m (fib (Kof H m) g c) = none) → ∀ H', eqX is57 H H' → Q none H') ∧
  ((∀ c, c < 10 → (mco H fr tt ord w m (fib (Kof H m) g c)).isSome = true) → (0 ≤ hI H 33 25 ∧ hI H 33 25 ≤ nI (fb_sm (cst (mco H fr tt ord w m) (Kof H m) g) 10)) → ∀ H', eqX is57 H H' → Q none H') ∧
  ((∀ c, c < 10 → (mco H fr tt ord w m (fib (Kof H m) g c)).isSome = true) → ¬ (0 ≤ hI H 33 25 ∧ hI H 33 25 ≤ nI (fb_sm (cst (mco H fr tt ord w m) (Kof H m) g) 10)) → ∀ H', eqX isLy H H' → (∀ a k, a ≠ 55 → a ≠ 57 → ¬ (a = 33 ∧ (k = 25 ∨ k = 26)) → hI H' a k = hI H a k) → hI H' 33 25 = nI (fb_sm (cst (mco H fr tt ord w m) (Kof H m) g) 10) → hI H' 33 26 = nI ch → (∀ j, j < m → kpB H j = true → hI H' 55 j = nI (g j)) → (∀ j, ¬ (j < m ∧ kpB H j = true) → hI H' 55 j = hI H 55 j) → Q none H')
theorem l_X12_look3 (hF : Fix H) (hL : LK H m n ch fr tt ord pos w g) (hq : lkRes H m ch fr tt ord w g Q) {sc : Nat → Nat} {la : Nat → Option Nat} {H1 : PH} (he : eqX is57 H H1)
    (hco : ∀ c, c < 10 → mco H fr tt ord w m (fib (Kof H m) g c) = chF fr tt ord w (mfolB H fr tt) (fib (Kof H m) g c) 0 m (la c) (sc c)) (hla : ∀ c, c < ch → hI H1 57 c = lwV (la c)) (hlp : ∀ c p, la c = some p → p < m ∧ g p = c) (hln : ∀ c, c < ch → la c ≠ none) (hlz : ∀ c, c < 10 → la c = none → sc c = 0) (hlc : ∀ c, ch ≤ c → la c = none) :
    ∀ (f c : Nat), ch - c = f → c ≤ ch → Wp mX12_look (d + 1) 0 0 134 [some (.ref 33), some (.int (nI ch)), some (.int (nI (fb_sm sc 10 + fb_sm (fun c => lwW w tt (la c)) c))), some (.int (nI c)), none, none] [] H1 Q := by
  have hL0 := hL
  obtain ⟨hM, hw, ho, hpo, hn24, hn1, hn2, h53, h52', hg, hch, hall⟩ := hL
  have h10 := hM.2.1
  have hF1 := Fix_eqX he hF
  have hly := ly57 he
  have hsome : ∀ c, c < 10 → (mco H fr tt ord w m (fib (Kof H m) g c)).isSome = true := fun c hc => by
    rw [hco c hc]
    cases la c with
    | none => rfl
    | some p => rfl
  have htot : fb_sm sc 10 + fb_sm (fun c => lwW w tt (la c)) ch = fb_sm (cst (mco H fr tt ord w m) (Kof H m) g) 10 := by
    have e1 : fb_sm (fun c => lwW w tt (la c)) 10 = fb_sm (fun c => lwW w tt (la c)) ch := by
      obtain ⟨e, he'⟩ : ∃ e, 10 = ch + e := ⟨10 - ch, by omega⟩
      rw [he', fb_sm_split, sm_0 (n := e) (fun k _ => by
        show lwW w tt (la (ch + k)) = 0
        rw [hlc (ch + k) (by omega)]; rfl), Nat.add_zero]
    rw [← e1, ← fb_sm_add]
    refine fb_sm_cong (fun c hc => ?_)
    show _ = (mco H fr tt ord w m (fib (Kof H m) g c)).getD 0
    rw [hco c hc]
    cases q : la c with
    | none => rfl
    | some p => rfl
  intro f
  induction f with
  | zero =>
    intro c hf hc
    have hin : c = ch := by omega
    subst hin
    rw [htot]
    have e25 : hI H1 33 25 = hI H 33 25 := he.2.2.2.2 33 25 (by unfold is57; decide)
    have e24 : hI H1 33 24 = nI n := (he.2.2.2.2 33 24 (by unfold is57; decide)).trans hn24
    have go : ¬ (0 ≤ hI H 33 25 ∧ hI H 33 25 ≤ nI (fb_sm (cst (mco H fr tt ord w m) (Kof H m) g) 10)) → Wp mX12_look (d + 1) 0 0 180 [some (.ref 33), some (.int (nI c)), some (.int (nI (fb_sm (cst (mco H fr tt ord w m) (Kof H m) g) 10))), some (.int (nI c)), none, none] [] H1 Q := by
      intro hb
      generalize hSS : fb_sm (cst (mco H fr tt ord w m) (Kof H m) g) 10 = SS at *
      let H0 := sI (sI H1 33 25 (nI SS)) 33 26 (nI c)
      have hz0 : eqX isLy H H0 := eqX_sI (eqX_sI hly (Or.inr (by omega))) (Or.inr (by omega))
      refine wp_aload_n dX12_look_180 rfl ?_
      refine wp_iload_n dX12_look_181 rfl ?_
      refine wp_puti dX12_look_182 fl_RX12_191 (mp_12_25 _ _) rfl (fk_33 hF1) ?_
      refine wp_aload_n dX12_look_185 rfl ?_
      refine wp_iload_n dX12_look_186 rfl ?_
      refine wp_puti dX12_look_187 fl_RX12_194 (mp_12_26 _ _) rfl (fk_33 (Fix_sI hF1)) ?_
      refine wp_iconst (v := 0) dX12_look_190 (by decide) ?_
      refine wp_istore_n dX12_look_191 (by decide) ?_
      refine l_X12_look4 (H0 := H0) hF hL0 (fun H' k1 k2 k3 k4 => ?_) hz0 ?_ ?_ ?_ m 0 H0 (by omega) (by omega) eqX_rfl (fun j hj => absurd hj (Nat.not_lt_zero j)) (fun _ _ => rfl) (fun _ _ _ => rfl)
      · refine hq.2.2 hsome (by rw [hSS]; exact hb) H' (eqX_trans hz0 k1) (fun a k h1 h2 h3 => ?_) ?_ ?_ k2 (fun j hj => ?_)
        · rw [k4 a k h1]
          show hI (sI (sI H1 33 25 (nI SS)) 33 26 (nI c)) a k = _
          rw [hI_sI', if_neg (by omega), hI_sI', if_neg (by omega)]
          exact he.2.2.2.2 a k h2
        · rw [k4 33 25 (by decide)]
          show hI (sI (sI H1 33 25 (nI SS)) 33 26 (nI c)) 33 25 = _
          rw [hI_sI', if_neg (by omega), hI_sI', if_pos ⟨rfl, rfl⟩, hSS]
        · rw [k4 33 26 (by decide)]
          show hI (sI (sI H1 33 25 (nI SS)) 33 26 (nI c)) 33 26 = _
          rw [hI_sI', if_pos ⟨rfl, rfl⟩]
        · rw [k3 j hj]
          show hI (sI (sI H1 33 25 (nI SS)) 33 26 (nI c)) 55 j = _
          rw [hI_sI', if_neg (by omega), hI_sI', if_neg (by omega)]
          exact he.2.2.2.2 55 j (by unfold is57; decide)
      · funext k
        show hI (sI (sI H1 33 25 (nI SS)) 33 26 (nI c)) 52 k = _
        rw [hI_sI', if_neg (by omega), hI_sI', if_neg (by omega)]
        exact he.2.2.2.2 52 k (by unfold is57; decide)
      · funext k
        show hI (sI (sI H1 33 25 (nI SS)) 33 26 (nI c)) 54 k = _
        rw [hI_sI', if_neg (by omega), hI_sI', if_neg (by omega)]
        exact he.2.2.2.2 54 k (by unfold is57; decide)
      · show hI (sI (sI H1 33 25 (nI SS)) 33 26 (nI c)) 33 24 = _
        rw [hI_sI', if_neg (by omega), hI_sI', if_neg (by omega)]
        exact e24
    refine wp_iload_n dX12_look_134 rfl ?_
    refine wp_iload_n dX12_look_135 rfl ?_
    refine wp_icmp_ge (tgt := 164) dX12_look_136 (by decide) (fun _ => ?_) (fun h136 => absurd h136 (fun h => h (nI_le (Nat.le_refl _) (by omega))))
    refine wp_aload_n dX12_look_164 rfl ?_
    refine wp_geti dX12_look_165 fl_RX12_191 rfl (fk_33 hF1) ?_
    rw [e25]
    refine wp_if_lt (tgt := 180) dX12_look_168 (by decide) (fun h168 => ?_) (fun h168 => ?_)
    · first
          | exact go (fun q => absurd h168 (Int32.not_lt.mpr q.1))
          | exact go (fun q => absurd h176 (Int32.not_lt.mpr q.2))
    · refine wp_iload_n dX12_look_171 rfl ?_
      refine wp_aload_n dX12_look_172 rfl ?_
      refine wp_geti dX12_look_173 fl_RX12_191 rfl (fk_33 hF1) ?_
      rw [e25]
      refine wp_icmp_lt (tgt := 180) dX12_look_176 (by decide) (fun h176 => ?_) (fun h176 => ?_)
      · first
            | exact go (fun q => absurd h168 (Int32.not_lt.mpr q.1))
            | exact go (fun q => absurd h176 (Int32.not_lt.mpr q.2))
      · refine wp_return rfl dX12_look_179 ?_
        exact hq.2.1 hsome ⟨Int32.not_lt.mp h168, Int32.not_lt.mp h176⟩ H1 he
  | succ f ih =>
    intro c hf hc
    have hlt : c < ch := by omega
    obtain ⟨p, hp⟩ : ∃ p, la c = some p := by
      cases q : la c with
      | none => exact absurd q (hln c hlt)
      | some p => exact ⟨p, rfl⟩
    have hpm := (hlp c p hp).1
    have e57 : hI H1 57 c = nI p := by rw [hla c hlt, hp]; rfl
    have e42 : hI H1 42 p = nI (tt p) := by rw [he.2.2.2.2 42 p (by unfold is57; decide)]; exact (hM.2.2.2 p hpm).1
    have ht8 := (hM.2.2.2 p hpm).2
    have h9 := ih (c + 1) (by omega) (by omega)
    rw [fb_sm_succ (fun c => lwW w tt (la c)) c, hp] at h9
    refine wp_iload_n dX12_look_134 rfl ?_
    refine wp_iload_n dX12_look_135 rfl ?_
    refine wp_icmp_ge (tgt := 164) dX12_look_136 (by decide) (fun h136 => absurd h136 (nI_ge hlt (by omega))) (fun _ => ?_)
    refine wp_iload_n dX12_look_139 rfl ?_
    refine wp_aload_n dX12_look_140 rfl ?_
    refine wp_aload_n dX12_look_141 rfl ?_
    refine wp_geta dX12_look_142 fl_RX12_45 rfl (fk_33 hF1) (fr_33_14 hF1) ?_
    refine wp_aload_n dX12_look_145 rfl ?_
    refine wp_geta dX12_look_146 fl_RX12_90 rfl (fk_33 hF1) (fr_33_32 hF1) ?_
    refine wp_iload_n dX12_look_149 rfl ?_
    refine wp_ialoadN dX12_look_150 (fk_57 hF1) (by omega) (by decide) ?_
    rw [e57]
    refine wp_ialoadN dX12_look_151 (fk_42 hF1) (by omega) (by decide) ?_
    rw [e42]
    refine wp_iconst (v := 0) dX12_look_152 (by decide) ?_
    refine wp_callv2 (ci := 12) dX12_look_153 lk_RX12_172 ok_X12_wayOf im_X12_wayOf se_X12_wayOf rfl rfl (fk_33 hF1) (Nat.le_of_ble_eq_true rfl) (Nat.le_of_ble_eq_true rfl) ?_
    refine c_X12_wayOf (b := 0) hF1 ht8 (by decide) ?_
    rw [mwy_ly hly, (hw _ _ ht8 (by decide)).1]
    refine wp_iadd dX12_look_156 ?_
    rw [nI_add]
    refine wp_istore_n dX12_look_157 (by decide) ?_
    refine wp_incN dX12_look_158 rfl (by decide) ?_
    refine wp_goto (tgt := 134) dX12_look_161 (by decide) ?_
    rw [Nat.add_assoc]; exact h9
/-- second loop: along the order -/
theorem l_X12_look2 (hF : Fix H) (hL : LK H m n ch fr tt ord pos w g) (hq : lkRes H m ch fr tt ord w g Q) :
    ∀ (f t : Nat) (sc : Nat → Nat) (la : Nat → Option Nat) (H1 : PH), m - t = f → t ≤ m → eqX is57 H H1 →
    (∀ c, c < 10 → mco H fr tt ord w m (fib (Kof H m) g c) = chF fr tt ord w (mfolB H fr tt) (fib (Kof H m) g c) (m - t) t (la c) (sc c)) → (∀ c, c < ch → hI H1 57 c = lwV (la c)) → (∀ c p, la c = some p → p < m ∧ g p = c ∧ pos p < t) →
    (∀ j, j < m → kpB H j = true → pos j < t → la (g j) ≠ none) → (∀ c, c < 10 → la c = none → sc c = 0) → (∀ c, ch ≤ c → la c = none) →
    Wp mX12_look (d + 4) 0 0 24 [some (.ref 33), some (.int (nI ch)), some (.int (nI (fb_sm sc 10))), some (.int (nI (fb_ct (fun t => kpB H (ord t)) t))), none, none] [] H1 Q := by
  have hL0 := hL
  obtain ⟨hM, hw, ho, hpo, hn24, hn1, hn2, h53, h52', hg, hch, hall⟩ := hL
  have h10 := hM.2.1
  have hK := Kof_lt (H := H) h10
  intro f
  induction f with
  | zero =>
    intro t sc la H1 hf ht he hco hla hlp hln hlz hlc
    have hin : t = m := by omega
    subst hin
    have hF1 := Fix_eqX he hF
    have e24 : hI H1 33 24 = nI (fb_ct (fun t => kpB H (ord t)) t) := by rw [he.2.2.2.2 33 24 (by unfold is57; decide), hn24, hn1]
    have hle := fb_ct_le (fun t => kpB H (ord t)) t
    have h3 := l_X12_look3 (d := d + 3) hF hL0 hq he (sc := sc) (la := la) (by rw [Nat.sub_self] at hco; exact hco) hla (fun c p h => ⟨(hlp c p h).1, (hlp c p h).2.1⟩) (fun c hc q => by
      obtain ⟨j, j1, j2, j3⟩ := hall c hc
      have := hln j j1 j2 (hpo j j1).1
      rw [j3] at this; exact this q) hlz hlc _ 0 rfl (Nat.zero_le _)
    have e0 : fb_sm (fun c => lwW w tt (la c)) 0 = 0 := rfl
    rw [e0, Nat.add_zero] at h3
    refine wp_iload_n dX12_look_24 rfl ?_
    refine wp_aload_n dX12_look_25 rfl ?_
    refine wp_geti dX12_look_26 fl_RX12_185 rfl (fk_33 hF1) ?_
    refine wp_icmp_ge (tgt := 132) dX12_look_29 (by decide) (fun _ => ?_) (fun h29 => absurd h29 (by rw [e24]; exact fun h => h (nI_le (Nat.le_refl _) (by omega))))
    refine wp_iconst (v := 0) dX12_look_132 (by decide) ?_
    refine wp_istore_n dX12_look_133 (by decide) ?_
    exact h3
  | succ f ih =>
    intro t sc la H1 hf ht he hco hla hlp hln hlz hlc
    have hlt : t < m := by omega
    have hot := (ho t hlt).1
    have hpt := (ho t hlt).2
    have hmt : m - t = f + 1 := by omega
    have hmt1 : m - (t + 1) = f := by omega
    by_cases hk : kpB H (ord t) = true
    · have hF1 := Fix_eqX he hF
      have hly := ly57 he
      have hs : fb_ct (fun t => kpB H (ord t)) (t + 1) = fb_ct (fun t => kpB H (ord t)) t + 1 := by rw [fb_ct_succ, hk, if_pos rfl]
      have hcl : fb_ct (fun t => kpB H (ord t)) t < n := by
        have := fb_ct_mono (fun t => kpB H (ord t)) (show t + 1 ≤ m by omega)
        rw [hs] at this
        omega
      have hn10 : n ≤ 10 := by have := fb_ct_le (kpB H) m; omega
      have e24 : hI H1 33 24 = nI n := (he.2.2.2.2 33 24 (by unfold is57; decide)).trans hn24
      have e53 : hI H1 53 (fb_ct (fun t => kpB H (ord t)) t) = nI (ord t) := by rw [he.2.2.2.2 53 _ (by unfold is57; decide)]; exact h53 t hlt hk
      have hgt := hg (ord t) hot hk
      have e54 : hI H1 54 (ord t) = nI (g (ord t)) := by rw [he.2.2.2.2 54 _ (by unfold is57; decide)]; exact hgt.1
      have e57 := hla (g (ord t)) hgt.2
      have e41 : hI H1 41 (ord t) = nI (fr (ord t)) := by rw [he.2.2.2.2 41 _ (by unfold is57; decide)]; exact (hM.2.2.1 _ hot).1
      have hf8 := (hM.2.2.1 _ hot).2
      have hfb : ∀ c, (fib (Kof H m) g c).testBit (ord t) = decide (g (ord t) = c) := fun c => by rw [fib_bit hK, Kof_i hot hk, Bool.true_and]
      have hM1 := MJ_ly hly hM
      -- the next state
      have next : ∀ (x : Nat), (mco H fr tt ord w m (fib (Kof H m) g (g (ord t))) = chF fr tt ord w (mfolB H fr tt) (fib (Kof H m) g (g (ord t))) f (t + 1) (some (ord t)) (sc (g (ord t)) + x)) →
          Wp mX12_look (d + 4) 0 0 24 [some (.ref 33), some (.int (nI ch)), some (.int (nI (fb_sm sc 10) + nI x)), some (.int (nI (fb_ct (fun t => kpB H (ord t)) t + 1))), none, none] [] (sI H1 57 (g (ord t)) (nI (ord t))) Q := by
        intro x hx
        have h9 := ih (t + 1) (fun c => if c = g (ord t) then sc (g (ord t)) + x else sc c) (fun c => if c = g (ord t) then some (ord t) else la c) (sI H1 57 (g (ord t)) (nI (ord t))) (by omega) (by omega) (eqX_sI he rfl) (fun c hc => ?_) (fun c hc => ?_) (fun c p h => ?_) (fun j j1 j2 j3 => ?_) (fun c hc h => ?_) (fun c hc => ?_)
        · have hu := fb_sm_upd sc (sc (g (ord t)) + x) (show g (ord t) < 10 by omega)
          have : fb_sm (fun c => if c = g (ord t) then sc (g (ord t)) + x else sc c) 10 = fb_sm sc 10 + x := by omega
          rw [this, hs] at h9
          rw [nI_add]
          exact h9
        · rw [hmt1]
          by_cases q : c = g (ord t)
          · subst q; rw [if_pos rfl, if_pos rfl]; exact hx
          · rw [if_neg q, if_neg q, hco c hc, hmt]
            have hb0 : ¬ (fib (Kof H m) g c).testBit (ord t) = true := by rw [hfb, decide_eq_false (fun z => q z.symm)]; decide
            cases r : la c with
            | none => rw [chF, if_neg hb0]
            | some p => rw [chF, if_neg hb0]
        · rw [hI_sI']
          by_cases q : c = g (ord t)
          · subst q; rw [if_pos ⟨rfl, rfl⟩, if_pos rfl]; rfl
          · rw [if_neg (fun z => q z.2), if_neg q]; exact hla c hc
        · by_cases q : c = g (ord t)
          · rw [if_pos q] at h; cases h
            exact ⟨hot, q.symm, by rw [hpt]; omega⟩
          · rw [if_neg q] at h
            have := hlp c p h
            exact ⟨this.1, this.2.1, by omega⟩
        · by_cases q : g j = g (ord t)
          · rw [if_pos q]; exact fun z => by cases z
          · rw [if_neg q]
            refine hln j j1 j2 ?_
            rcases Nat.lt_succ_iff_lt_or_eq.mp j3 with z | z
            · exact z
            · have : j = ord t := by rw [← z]; exact ((hpo j j1).2).symm
              exact absurd (by rw [this]) q
        · by_cases q : c = g (ord t)
          · rw [if_pos q] at h; cases h
          · rw [if_neg q] at h ⊢; exact hlz c hc h
        · rw [if_neg (by omega)]; exact hlc c hc
      cases hl : la (g (ord t)) with
      | none =>
        rw [hl] at e57
        have hc0 := hco (g (ord t)) (by omega)
        rw [hmt, hl, chF, if_pos (by rw [hfb, decide_eq_true rfl])] at hc0
        have hnx := next _ hc0
        refine wp_iload_n dX12_look_24 rfl ?_
        refine wp_aload_n dX12_look_25 rfl ?_
        refine wp_geti dX12_look_26 fl_RX12_185 rfl (fk_33 hF1) ?_
        refine wp_icmp_ge (tgt := 132) dX12_look_29 (by decide) (fun h29 => absurd h29 (by rw [e24]; exact nI_ge hcl (by omega))) (fun _ => ?_)
        refine wp_aload_n dX12_look_32 rfl ?_
        refine wp_geta dX12_look_33 fl_RX12_78 rfl (fk_33 hF1) (fr_33_28 hF1) ?_
        refine wp_iload_n dX12_look_36 rfl ?_
        refine wp_ialoadN dX12_look_37 (fk_53 hF1) (by omega) (by decide) ?_
        rw [e53]
        refine wp_istore dX12_look_38 (by decide) ?_
        refine wp_aload_n dX12_look_40 rfl ?_
        refine wp_geta dX12_look_41 fl_RX12_90 rfl (fk_33 hF1) (fr_33_32 hF1) ?_
        refine wp_aload_n dX12_look_44 rfl ?_
        refine wp_geta dX12_look_45 fl_RX12_81 rfl (fk_33 hF1) (fr_33_29 hF1) ?_
        refine wp_iload dX12_look_48 rfl ?_
        refine wp_ialoadN dX12_look_50 (fk_54 hF1) (by omega) (by decide) ?_
        rw [e54]
        refine wp_ialoadN dX12_look_51 (fk_57 hF1) (by omega) (by decide) ?_
        rw [e57]
        refine wp_istore dX12_look_52 (by decide) ?_
        refine wp_iload dX12_look_54 rfl ?_
        refine wp_if_lt (tgt := 71) dX12_look_56 (by decide) (fun _ => ?_) (fun h56 => absurd h56 (fun q => q (by decide)))
        refine wp_iload_n dX12_look_71 rfl ?_
        refine wp_iload dX12_look_72 rfl ?_
        refine wp_if_ge (tgt := 92) dX12_look_74 (by decide) (fun h74 => absurd h74 (by decide)) (fun _ => ?_)
        refine wp_aload_n dX12_look_77 rfl ?_
        refine wp_iconst (v := 0) dX12_look_78 (by decide) ?_
        refine wp_aload_n dX12_look_79 rfl ?_
        refine wp_geta dX12_look_80 fl_RX12_42 rfl (fk_33 hF1) (fr_33_13 hF1) ?_
        refine wp_iload dX12_look_83 rfl ?_
        refine wp_ialoadN dX12_look_85 (fk_41 hF1) (by omega) (by decide) ?_
        rw [e41]
        refine wp_callv2 (ci := 12) dX12_look_86 lk_RX12_172 ok_X12_wayOf im_X12_wayOf se_X12_wayOf rfl rfl (fk_33 hF1) (Nat.le_of_ble_eq_true rfl) (Nat.le_of_ble_eq_true rfl) ?_
        refine c_X12_wayOf (a := 0) hF1 (by decide) hf8 ?_
        rw [mwy_ly hly, (hw _ _ (by decide) hf8).1]
        refine wp_goto (tgt := 110) dX12_look_89 (by decide) ?_
        refine wp_iadd dX12_look_110 ?_
        refine wp_istore_n dX12_look_111 (by decide) ?_
        refine wp_aload_n dX12_look_112 rfl ?_
        refine wp_geta dX12_look_113 fl_RX12_90 rfl (fk_33 hF1) (fr_33_32 hF1) ?_
        refine wp_aload_n dX12_look_116 rfl ?_
        refine wp_geta dX12_look_117 fl_RX12_81 rfl (fk_33 hF1) (fr_33_29 hF1) ?_
        refine wp_iload dX12_look_120 rfl ?_
        refine wp_ialoadN dX12_look_122 (fk_54 hF1) (by omega) (by decide) ?_
        rw [e54]
        refine wp_iload dX12_look_123 rfl ?_
        refine wp_iastoreN dX12_look_125 (fk_57 hF1) (by omega) (by decide) ?_
        refine wp_incN dX12_look_126 rfl (by decide) ?_
        refine wp_goto (tgt := 24) dX12_look_129 (by decide) ?_
        exact wp_forget 4 (wp_forget 5 hnx)
      | some p =>
        rw [hl] at e57
        have hpp := hlp _ p hl
        have hne : p ≠ ord t := fun z => by
          have := hpp.2.2
          rw [z, hpt] at this
          omega
        have e42 : hI H1 42 p = nI (tt p) := by rw [he.2.2.2.2 42 p (by unfold is57; decide)]; exact (hM.2.2.2 p hpp.1).1
        have ht8 := (hM.2.2.2 p hpp.1).2
        have e57' : hI H1 57 (g (ord t)) = nI p := e57
        have hc0 := hco (g (ord t)) (by omega)
        rw [hmt, hl, chF, if_pos (by rw [hfb, decide_eq_true rfl])] at hc0
        have hfo : mfolB H fr tt p (ord t) = true ↔ mFol H1 fr tt p (ord t) := by
          unfold mfolB
          rw [decide_eq_true_iff]
          exact (mFol_ly hly p (ord t)).symm
        refine wp_iload_n dX12_look_24 rfl ?_
        refine wp_aload_n dX12_look_25 rfl ?_
        refine wp_geti dX12_look_26 fl_RX12_185 rfl (fk_33 hF1) ?_
        refine wp_icmp_ge (tgt := 132) dX12_look_29 (by decide) (fun h29 => absurd h29 (by rw [e24]; exact nI_ge hcl (by omega))) (fun _ => ?_)
        refine wp_aload_n dX12_look_32 rfl ?_
        refine wp_geta dX12_look_33 fl_RX12_78 rfl (fk_33 hF1) (fr_33_28 hF1) ?_
        refine wp_iload_n dX12_look_36 rfl ?_
        refine wp_ialoadN dX12_look_37 (fk_53 hF1) (by omega) (by decide) ?_
        rw [e53]
        refine wp_istore dX12_look_38 (by decide) ?_
        refine wp_aload_n dX12_look_40 rfl ?_
        refine wp_geta dX12_look_41 fl_RX12_90 rfl (fk_33 hF1) (fr_33_32 hF1) ?_
        refine wp_aload_n dX12_look_44 rfl ?_
        refine wp_geta dX12_look_45 fl_RX12_81 rfl (fk_33 hF1) (fr_33_29 hF1) ?_
        refine wp_iload dX12_look_48 rfl ?_
        refine wp_ialoadN dX12_look_50 (fk_54 hF1) (by omega) (by decide) ?_
        rw [e54]
        refine wp_ialoadN dX12_look_51 (fk_57 hF1) (by omega) (by decide) ?_
        rw [e57']
        refine wp_istore dX12_look_52 (by decide) ?_
        refine wp_iload dX12_look_54 rfl ?_
        refine wp_if_lt (tgt := 71) dX12_look_56 (by decide) (fun h56 => absurd h56 (nI_pos (by omega))) (fun _ => ?_)
        refine wp_aload_n dX12_look_59 rfl ?_
        refine wp_iload dX12_look_60 rfl ?_
        refine wp_iload dX12_look_62 rfl ?_
        refine wp_callv2 (ci := 12) dX12_look_64 lk_RX12_181 ok_X12_isBehind im_X12_isBehind se_X12_isBehind rfl rfl (fk_33 hF1) (Nat.le_of_ble_eq_true rfl) (Nat.le_of_ble_eq_true rfl) ?_
        refine c_X12_isBehind (d := d) hF1 hM1 hpp.1 hot ?_
        refine wp_ifb_ne (tgt := 71) dX12_look_67 (by decide) (fun h67 => ?_) (fun h67 => ?_)
        · refine wp_iload_n dX12_look_71 rfl ?_
          refine wp_iload dX12_look_72 rfl ?_
          refine wp_if_ge (tgt := 92) dX12_look_74 (by decide) (fun _ => ?_) (fun h74 => absurd h74 (fun q => q (nI_pos' (by omega))))
          refine wp_aload_n dX12_look_92 rfl ?_
          refine wp_aload_n dX12_look_93 rfl ?_
          refine wp_geta dX12_look_94 fl_RX12_45 rfl (fk_33 hF1) (fr_33_14 hF1) ?_
          refine wp_iload dX12_look_97 rfl ?_
          refine wp_ialoadN dX12_look_99 (fk_42 hF1) (by omega) (by decide) ?_
          rw [e42]
          refine wp_aload_n dX12_look_100 rfl ?_
          refine wp_geta dX12_look_101 fl_RX12_42 rfl (fk_33 hF1) (fr_33_13 hF1) ?_
          refine wp_iload dX12_look_104 rfl ?_
          refine wp_ialoadN dX12_look_106 (fk_41 hF1) (by omega) (by decide) ?_
          rw [e41]
          refine wp_callv2 (ci := 12) dX12_look_107 lk_RX12_172 ok_X12_wayOf im_X12_wayOf se_X12_wayOf rfl rfl (fk_33 hF1) (Nat.le_of_ble_eq_true rfl) (Nat.le_of_ble_eq_true rfl) ?_
          refine c_X12_wayOf hF1 ht8 hf8 ?_
          rw [mwy_ly hly, (hw _ _ ht8 hf8).1]
          refine wp_iadd dX12_look_110 ?_
          refine wp_istore_n dX12_look_111 (by decide) ?_
          refine wp_aload_n dX12_look_112 rfl ?_
          refine wp_geta dX12_look_113 fl_RX12_90 rfl (fk_33 hF1) (fr_33_32 hF1) ?_
          refine wp_aload_n dX12_look_116 rfl ?_
          refine wp_geta dX12_look_117 fl_RX12_81 rfl (fk_33 hF1) (fr_33_29 hF1) ?_
          refine wp_iload dX12_look_120 rfl ?_
          refine wp_ialoadN dX12_look_122 (fk_54 hF1) (by omega) (by decide) ?_
          rw [e54]
          refine wp_iload dX12_look_123 rfl ?_
          refine wp_iastoreN dX12_look_125 (fk_57 hF1) (by omega) (by decide) ?_
          refine wp_incN dX12_look_126 rfl (by decide) ?_
          refine wp_goto (tgt := 24) dX12_look_129 (by decide) ?_
          rw [if_pos (hfo.mpr h67.2)] at hc0
          exact wp_forget 4 (wp_forget 5 (next _ hc0))
        · refine wp_return rfl dX12_look_70 ?_
          rw [if_neg (fun q => h67 ⟨hne, hfo.mp q⟩)] at hc0
          exact hq.1 ⟨g (ord t), by omega, hc0⟩ H1 he
    · have hs : fb_ct (fun t => kpB H (ord t)) (t + 1) = fb_ct (fun t => kpB H (ord t)) t := by rw [fb_ct_succ, if_neg hk, Nat.add_zero]
      have h9 := ih (t + 1) sc la H1 (by omega) (by omega) he (fun c hc => by
        rw [hmt1, hco c hc, hmt]
        have hb0 : ¬ (fib (Kof H m) g c).testBit (ord t) = true := by
          rw [fib_bit hK, Kof_bit, show kpB H (ord t) = false by simpa using hk]
          simp
        cases r : la c with
        | none => rw [chF, if_neg hb0]
        | some p => rw [chF, if_neg hb0]) hla (fun c p h => ⟨(hlp c p h).1, (hlp c p h).2.1, by have := (hlp c p h).2.2; omega⟩) (fun j j1 j2 j3 => hln j j1 j2 (by
          rcases Nat.lt_succ_iff_lt_or_eq.mp j3 with z | z
          · exact z
          · have : j = ord t := by rw [← z]; exact ((hpo j j1).2).symm
            rw [this] at j2; exact absurd j2 hk)) hlz hlc
      rw [hs] at h9
      exact h9
theorem l_X12_look1 (hF : Fix H) (hch : ch ≤ 10) {x2 : Int32} (kont : ∀ H', eqX is57 H H' → (∀ c, c < ch → hI H' 57 c = -1) → Wp mX12_look d 0 0 22 [some (.ref 33), some (.int (nI ch)), some (.int x2), some (.int (nI ch)), none, none] [] H' Q) :
    ∀ (f c : Nat) (H1 : PH), ch - c = f → c ≤ ch → eqX is57 H H1 → (∀ e, e < c → hI H1 57 e = -1) → Wp mX12_look d 0 0 4 [some (.ref 33), some (.int (nI ch)), some (.int x2), some (.int (nI c)), none, none] [] H1 Q := by
  intro f
  induction f with
  | zero =>
    intro c H1 hf hc he h1
    have hin : c = ch := by omega
    subst hin
    have hF1 := Fix_eqX he hF
    refine wp_iload_n dX12_look_4 rfl ?_
    refine wp_iload_n dX12_look_5 rfl ?_
    refine wp_icmp_ge (tgt := 22) dX12_look_6 (by decide) (fun _ => ?_) (fun h6 => absurd h6 (fun h => h (nI_le (Nat.le_refl _) (by omega))))
    exact kont H1 he h1
  | succ f ih =>
    intro c H1 hf hc he h1
    have hF1 := Fix_eqX he hF
    refine wp_iload_n dX12_look_4 rfl ?_
    refine wp_iload_n dX12_look_5 rfl ?_
    refine wp_icmp_ge (tgt := 22) dX12_look_6 (by decide) (fun h6 => absurd h6 (nI_ge (by omega) (by omega))) (fun _ => ?_)
    refine wp_aload_n dX12_look_9 rfl ?_
    refine wp_geta dX12_look_10 fl_RX12_90 rfl (fk_33 hF1) (fr_33_32 hF1) ?_
    refine wp_iload_n dX12_look_13 rfl ?_
    refine wp_iconst (v := -1) dX12_look_14 (by decide) ?_
    refine wp_iastoreN dX12_look_15 (fk_57 hF1) (by omega) (by decide) ?_
    refine wp_incN dX12_look_16 rfl (by decide) ?_
    refine wp_goto (tgt := 4) dX12_look_19 (by decide) ?_
    refine ih (c + 1) _ (by omega) (by omega) (eqX_sI he rfl) (fun e he9 => ?_)
    rw [hI_sI']
    by_cases q : e = c
    · subst q; rw [if_pos ⟨rfl, rfl⟩]
    · rw [if_neg (by omega)]; exact h1 e (by omega)
theorem c_X12_look (hF : Fix H) (hL : LK H m n ch fr tt ord pos w g) (hq : lkRes H m ch fr tt ord w g Q) : Wp mX12_look (d + 4) 0 0 0 [some (.ref 33), some (.int (nI ch)), none, none, none, none] [] H Q := by
  have hch := hL.2.2.2.2.2.2.2.2.2.2.1
  have h10 := hL.1.2.1
  have e0 : fb_sm (fun _ => 0) 10 = 0 := rfl
  have kont : ∀ H', eqX is57 H H' → (∀ c, c < ch → hI H' 57 c = -1) → Wp mX12_look (d + 4) 0 0 22 [some (.ref 33), some (.int (nI ch)), some (.int 0), some (.int (nI ch)), none, none] [] H' Q := by
    intro H' he h1
    refine wp_iconst (v := 0) dX12_look_22 (by decide) ?_
    refine wp_istore_n dX12_look_23 (by decide) ?_
    have h2 := l_X12_look2 (d := d) hF hL hq m 0 (fun _ => 0) (fun _ => none) H' (by omega) (by omega) he (fun c hc => rfl) (fun c hc => h1 c hc) (fun c p h => by cases h) (fun j j1 j2 j3 => absurd j3 (Nat.not_lt_zero _)) (fun _ _ _ => rfl) (fun _ _ => rfl)
    rw [e0] at h2
    exact h2
  refine wp_iconst (v := 0) dX12_look_0 (by decide) ?_
  refine wp_istore_n dX12_look_1 (by decide) ?_
  refine wp_iconst (v := 0) dX12_look_2 (by decide) ?_
  refine wp_istore_n dX12_look_3 (by decide) ?_
  exact l_X12_look1 hF hch kont _ 0 H rfl (Nat.zero_le _) eqX_rfl (fun e he => absurd he (Nat.not_lt_zero e))
end LO
