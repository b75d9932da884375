/-! ===== the reference's prices ===== -/
def isMc (a k : Nat) : Prop := ((a = 48 ∨ a = 49) ∧ 6000 ≤ k) ∨ (a = 50 ∧ 220 ≤ k) ∨ (a = 51 ∧ k = 10)
def isMe (a k : Nat) : Prop := isMl a k ∨ isMc a k ∨ (a = 33 ∧ (k = 40 ∨ k = 44))
/-- the new lines, as the reference keeps them in its row c -/
def RowC (c : Nat) (o : OL) (E : List (Nat × Nat)) (H : PH) : Prop := (∀ i x, o[i]? = some x → hI H 48 (600 * c + i) = nI x.1 ∧ hI H 49 (600 * c + i) = nI x.2) ∧ (∀ i, i ≤ E.length → hI H 50 (22 * c + 2 * i) = nI (stA E i)) ∧ (∀ i, i < E.length → hI H 50 (22 * c + 2 * i + 1) = nI (E.getD i (0, 0)).1) ∧ hI H 51 c = nI E.length
section MPr
variable {d : Nat} {H : PH} {Q : Option Value → PH → Prop} {bf : Nat → Int32} {N s v u : Nat} {o o0 : OL} {W : List Nat} {H1 H2 : PH} {E : List (Nat × Nat)}
theorem l_prC2 {ln : Nat} (hl : ln ≤ 10) : ∀ (j k : Nat) (H2 : PH), j + k = 2 * ln + 1 → Fix H2 → hI H2 33 36 = nI ln → (∀ H', eqM isMc H2 H' → (∀ i, k ≤ i → i ≤ 2 * ln → hI H' 50 (220 + i) = hI H2 60 i) → (∀ i, i < 220 + k → hI H' 50 i = hI H2 50 i) → (∀ a i, a = 48 ∨ a = 49 → hI H' a i = hI H2 a i) → hI H' 51 10 = nI ln → Q (some (.int (nI ln))) H') → Wp mX12_prices d 0 0 269 [some (.ref 33), some (.int (nI k))] [] H2 Q := by
  intro j
  induction j with
  | zero =>
    intro k H2 hk hF h36 hq
    have hF' := hF
    refine wp_iload_n dX12_prices_269 rfl ?_
    refine wp_iconst (v := 2) dX12_prices_270 (by decide) ?_
    refine wp_aload_n dX12_prices_271 rfl ?_
    refine wp_geti dX12_prices_272 fl_RX12_327 rfl (fk_33 hF) ?_
    rw [h36]
    refine wp_imul dX12_prices_275 ?_
    rw [nI_2m]
    refine wp_icmp_gt (tgt := 301) dX12_prices_276 (by decide) (fun _ => ?_) (fun h276 => absurd h276 (fun q => q (nI_lt (a := 2 * ln) (b := k) (by omega) (by omega))))
    refine wp_aload_n dX12_prices_301 rfl ?_
    refine wp_geta dX12_prices_302 fl_RX12_72 rfl (fk_33 hF) (fr_33_23 hF) ?_
    refine wp_bipush (v := 10) dX12_prices_305 (by decide) ?_
    refine wp_aload_n dX12_prices_307 rfl ?_
    refine wp_geti dX12_prices_308 fl_RX12_327 rfl (fk_33 hF) ?_
    rw [h36]
    refine wp_iastoreN dX12_prices_311 (fk_51 hF) (by decide) (by decide) ?_
    refine wp_aload_n dX12_prices_312 rfl ?_
    refine wp_geti dX12_prices_313 fl_RX12_327 rfl (fk_33 (Fix_sI hF)) ?_
    rw [hI_sI', if_neg (by omega), h36]
    refine wp_ireturn rfl dX12_prices_316 ?_
    exact hq _ (eqM_sI eqM_rfl (Or.inr (Or.inr ⟨rfl, rfl⟩))) (fun i a b => by omega) (fun i a => by rw [hI_sI', if_neg (by omega)]) (fun a i z => by rw [hI_sI', if_neg (by omega)]) (by rw [hI_sI', if_pos ⟨rfl, rfl⟩])
  | succ j ih =>
    intro k H2 hk hF h36 hq
    have rec' := ih (k + 1) (sI H2 50 (220 + k) (hI H2 60 k)) (by omega) (Fix_sI hF) (by rw [hI_sI', if_neg (by omega)]; exact h36) (fun H' e1 e2 e3 e4 e5 => by
      refine hq H' (eqM_trans (eqM_sI eqM_rfl (Or.inr (Or.inl ⟨rfl, by omega⟩))) e1) (fun i a b => ?_) (fun i a => ?_) (fun a i z => ?_) e5
      · rcases Nat.lt_or_ge k i with z | z
        · rw [e2 i (by omega) b, hI_sI', if_neg (by omega)]
        · have : i = k := by omega
          subst this
          rw [e3 _ (by omega), hI_sI', if_pos ⟨rfl, rfl⟩]
      · rw [e3 i (by omega), hI_sI', if_neg (by omega)]
      · rw [e4 a i z, hI_sI', if_neg (by omega)])
    refine wp_iload_n dX12_prices_269 rfl ?_
    refine wp_iconst (v := 2) dX12_prices_270 (by decide) ?_
    refine wp_aload_n dX12_prices_271 rfl ?_
    refine wp_geti dX12_prices_272 fl_RX12_327 rfl (fk_33 hF) ?_
    rw [h36]
    refine wp_imul dX12_prices_275 ?_
    rw [nI_2m]
    refine wp_icmp_gt (tgt := 301) dX12_prices_276 (by decide) (fun h276 => absurd h276 (nI_nlt (a := 2 * ln) (b := k) (by omega) (by omega))) (fun _ => ?_)
    refine wp_aload_n dX12_prices_279 rfl ?_
    refine wp_geta dX12_prices_280 fl_RX12_69 rfl (fk_33 hF) (fr_33_22 hF) ?_
    refine wp_sipush (v := 220) dX12_prices_283 (by decide) ?_
    refine wp_iload_n dX12_prices_286 rfl ?_
    refine wp_iadd dX12_prices_287 ?_
    rw [show (220 : Int32) = nI 220 from rfl, nI_add]
    refine wp_aload_n dX12_prices_288 rfl ?_
    refine wp_geta dX12_prices_289 fl_RX12_99 rfl (fk_33 hF) (fr_33_35 hF) ?_
    refine wp_iload_n dX12_prices_292 rfl ?_
    refine wp_ialoadN dX12_prices_293 (fk_60 hF) (by omega) (by decide) ?_
    refine wp_iastoreN dX12_prices_294 (fk_50 hF) (by omega) (by decide) ?_
    refine wp_incN dX12_prices_295 rfl (by decide) ?_
    refine wp_goto (tgt := 269) dX12_prices_298 (by decide) ?_
    exact rec'
theorem l_prC1 {m : Nat} (hm : m ≤ 600) : ∀ (j k : Nat) (H2 : PH), j + k = m → Fix H2 → hI H2 33 37 = nI m → (∀ H', eqM isMc H2 H' → (∀ i, k ≤ i → i < m → hI H' 48 (6000 + i) = hI H2 58 i ∧ hI H' 49 (6000 + i) = hI H2 59 i) → (∀ a i, a = 48 ∨ a = 49 → i < 6000 + k → hI H' a i = hI H2 a i) → Wp mX12_prices d 0 0 267 [some (.ref 33), some (.int (nI m))] [] H' Q) → Wp mX12_prices d 0 0 221 [some (.ref 33), some (.int (nI k))] [] H2 Q := by
  intro j
  induction j with
  | zero =>
    intro k H2 hk hF h37 hq
    have hk' : k = m := by omega
    subst hk'
    have h := hq H2 eqM_rfl (fun i a b => by omega) (fun _ _ _ _ => rfl)
    refine wp_iload_n dX12_prices_221 rfl ?_
    refine wp_aload_n dX12_prices_222 rfl ?_
    refine wp_geti dX12_prices_223 fl_RX12_265 rfl (fk_33 hF) ?_
    rw [h37]
    refine wp_icmp_ge (tgt := 267) dX12_prices_226 (by decide) (fun _ => ?_) (fun h226 => absurd h226 (fun q => q (nI_le (Nat.le_refl _) (by omega))))
    exact h
  | succ j ih =>
    intro k H2 hk hF h37 hq
    have rec' := ih (k + 1) (sI (sI H2 48 (6000 + k) (hI H2 58 k)) 49 (6000 + k) (hI H2 59 k)) (by omega) (Fix_sI (Fix_sI hF)) (by rw [hI_sI', if_neg (by omega), hI_sI', if_neg (by omega)]; exact h37) (fun H' e1 e2 e3 => by
      refine hq H' (eqM_trans (eqM_sI (eqM_sI eqM_rfl (Or.inl ⟨Or.inl rfl, by omega⟩)) (Or.inl ⟨Or.inr rfl, by omega⟩)) e1) (fun i a b => ?_) (fun a i z y => ?_)
      · rcases Nat.lt_or_ge k i with z | z
        · have := e2 i (by omega) b
          rw [hI_sI', if_neg (by omega), hI_sI', if_neg (by omega), hI_sI', if_neg (by omega), hI_sI', if_neg (by omega)] at this
          exact this
        · have : i = k := by omega
          subst this
          rw [e3 48 _ (Or.inl rfl) (by omega), e3 49 _ (Or.inr rfl) (by omega), hI_sI', if_neg (by omega), hI_sI', if_pos ⟨rfl, rfl⟩, hI_sI', if_pos ⟨rfl, rfl⟩]
          exact ⟨rfl, rfl⟩
      · rw [e3 a i z (by omega), hI_sI', if_neg (by omega), hI_sI', if_neg (by omega)])
    refine wp_iload_n dX12_prices_221 rfl ?_
    refine wp_aload_n dX12_prices_222 rfl ?_
    refine wp_geti dX12_prices_223 fl_RX12_265 rfl (fk_33 hF) ?_
    rw [h37]
    refine wp_icmp_ge (tgt := 267) dX12_prices_226 (by decide) (fun h226 => absurd h226 (nI_ge (by omega : k < m) (by omega))) (fun _ => ?_)
    refine wp_aload_n dX12_prices_229 rfl ?_
    refine wp_geta dX12_prices_230 fl_RX12_63 rfl (fk_33 hF) (fr_33_20 hF) ?_
    refine wp_sipush (v := 6000) dX12_prices_233 (by decide) ?_
    refine wp_iload_n dX12_prices_236 rfl ?_
    refine wp_iadd dX12_prices_237 ?_
    rw [show (6000 : Int32) = nI 6000 from rfl, nI_add]
    refine wp_aload_n dX12_prices_238 rfl ?_
    refine wp_geta dX12_prices_239 fl_RX12_93 rfl (fk_33 hF) (fr_33_33 hF) ?_
    refine wp_iload_n dX12_prices_242 rfl ?_
    refine wp_ialoadN dX12_prices_243 (fk_58 hF) (by omega) (by decide) ?_
    refine wp_iastoreN dX12_prices_244 (fk_48 hF) (by omega) (by decide) ?_
    refine wp_aload_n dX12_prices_245 rfl ?_
    refine wp_geta dX12_prices_246 fl_RX12_66 rfl (fk_33 (Fix_sI hF)) (fr_33_21 (Fix_sI hF)) ?_
    refine wp_sipush (v := 6000) dX12_prices_249 (by decide) ?_
    refine wp_iload_n dX12_prices_252 rfl ?_
    refine wp_iadd dX12_prices_253 ?_
    rw [show (6000 : Int32) = nI 6000 from rfl, nI_add]
    refine wp_aload_n dX12_prices_254 rfl ?_
    refine wp_geta dX12_prices_255 fl_RX12_96 rfl (fk_33 (Fix_sI hF)) (fr_33_34 (Fix_sI hF)) ?_
    refine wp_iload_n dX12_prices_258 rfl ?_
    refine wp_ialoadN dX12_prices_259 (fk_59 (Fix_sI hF)) (by omega) (by decide) ?_
    rw [hI_sI', if_neg (by omega)]
    refine wp_iastoreN dX12_prices_260 (fk_49 (Fix_sI hF)) (by omega) (by decide) ?_
    refine wp_incN dX12_prices_261 rfl (by decide) ?_
    refine wp_goto (tgt := 221) dX12_prices_264 (by decide) ?_
    exact rec'
/-- what stands behind PRICES that were read -/
def MF (H : PH) (o : OL) (E : List (Nat × Nat)) (H' : PH) : Prop := eqM isMe H H' ∧ RowC 10 o E H' ∧ hI H' 33 41 = 0 ∧ hI H' 33 42 = -1 ∧ hI H' 33 40 = 0
def isMb (a k : Nat) : Prop := isMl a k ∨ (a = 33 ∧ (k = 40 ∨ k = 44))
def MFB (H : PH) (f : FT) (H' : PH) : Prop := eqM isMb H H' ∧ hI H' 33 41 = nI f.1 ∧ 1 ≤ f.1 ∧ f.1 ≤ 3 ∧ hI H' 33 42 = nI f.2 ∧ hI H' 33 40 = 0
theorem l_prEnd {l1 : Option Value} (hF : Fix H) (hL : ML H bf N s v o E H1) (hos : o.length ≤ s) (hlf : LF o E) (h0 : tkA bf N s = 0) (hq : ∀ H', eqM isMl H H1 → ∀ Hx, eqM isMc Hx H' → eqM isMl H Hx → RowC 10 o E H' → hI H' 33 41 = 0 → hI H' 33 42 = -1 → Q (some (.int (nI E.length))) H') : Wp mX12_prices (d + 5) 0 0 47 [some (.ref 33), l1] [] H1 Q := by
  have hw := ML_w (k := 2 * E.length) (x := nI o.length) (by omega) hL
  obtain ⟨m1, m2, m3, m4, hM⟩ := hL
  have hF1 := Fix_eqM m1 hF
  have hB := hM.2.1.1
  have h45 := hM.2.2.1.1
  have h41 := hM.2.2.2.2.2.2.2.1
  have h37 := hM.2.2.2.2.2.2.1.1
  have hbd := M0_bd hM
  have hs0 := (tk_srt hB (s := s)).2.2.1.mp h0
  obtain ⟨w1, w2, w3, w4, w5⟩ := hw
  have q37 := w5.2.2.2.2.2.2.1.1
  have fin := l_prC1 (d := d + 5) (Q := Q) (m := o.length) (by omega) o.length 0 (sI H1 60 (2 * E.length) (nI o.length)) (by omega) (Fix_sI hF1) q37 (fun H3 e1 e2 e3 => by
    have hF3 := Fix_eqM e1 (Fix_sI (a := 60) (k := 2 * E.length) (v := nI o.length) hF1)
    have n33 : ∀ k, hI H3 33 k = hI (sI H1 60 (2 * E.length) (nI o.length)) 33 k := fun k => e1.2.2.2.1 33 k (by unfold isMc; omega)
    have n60 : ∀ k, hI H3 60 k = hI (sI H1 60 (2 * E.length) (nI o.length)) 60 k := fun k => e1.2.2.2.1 60 k (by unfold isMc; omega)
    have q36 : hI H3 33 36 = nI E.length := by rw [n33]; exact w2
    have l2 := l_prC2 (d := d + 5) (Q := Q) m3 (2 * E.length + 1) 0 H3 (by omega) hF3 q36 (fun H4 f1 f2 f3 f4 f5 => by
      have r33 : ∀ k, hI H4 33 k = hI (sI H1 60 (2 * E.length) (nI o.length)) 33 k := fun k => (f1.2.2.2.1 33 k (by unfold isMc; omega)).trans (n33 k)
      refine hq H4 m1 (sI H1 60 (2 * E.length) (nI o.length)) (eqM_trans e1 f1) w1 ⟨fun i x hi => ?_, fun i hi => ?_, fun i hi => ?_, f5⟩ (by rw [r33]; exact w5.2.2.2.2.2.2.2.1) (by rw [r33]; exact w5.2.2.2.2.2.2.2.2)
      · have hil : i < o.length := (List.getElem?_eq_some_iff.mp hi).1
        have := e2 i (Nat.zero_le _) hil
        rw [f4 48 _ (Or.inl rfl), f4 49 _ (Or.inr rfl), this.1, this.2]
        exact w5.2.2.2.2.2.2.1.2 i x hi
      · rw [show 22 * 10 + 2 * i = 220 + 2 * i from rfl, f2 (2 * i) (Nat.zero_le _) (by omega), n60]
        rcases Nat.lt_or_ge i E.length with z | z
        · exact (w4 i z).1
        · have : i = E.length := by omega
          subst this
          rw [hI_sI', if_pos ⟨rfl, rfl⟩, hlf.2]
      · rw [show 22 * 10 + 2 * i + 1 = 220 + (2 * i + 1) from rfl, f2 (2 * i + 1) (Nat.zero_le _) (by omega), n60]
        exact (w4 i hi).2)
    refine wp_iconst (v := 0) dX12_prices_267 (by decide) ?_
    refine wp_istore_n dX12_prices_268 (by decide) ?_
    exact l2
    )
  refine wp_aload_n dX12_prices_47 rfl ?_
  refine wp_geti dX12_prices_48 fl_RX12_250 rfl (fk_33 hF1) ?_
  rw [h41]
  refine wp_if_ne (tgt := 195) dX12_prices_51 (by decide) (fun h51 => absurd h51 (fun q => q rfl)) (fun _ => ?_)
  refine wp_aload_n dX12_prices_54 rfl ?_
  refine wp_geti dX12_prices_55 fl_RX12_238 rfl (fk_33 hF1) ?_
  rw [h45, hs0]
  refine wp_if_eq (tgt := 195) dX12_prices_58 (by decide) (fun _ => ?_) (fun h58 => absurd h58 (fun q => q rfl))
  refine wp_aload_n dX12_prices_195 rfl ?_
  refine wp_geti dX12_prices_196 fl_RX12_250 rfl (fk_33 hF1) ?_
  rw [h41]
  refine wp_if_le (tgt := 204) dX12_prices_199 (by decide) (fun _ => ?_) (fun h199 => absurd h199 (fun q => q (by decide)))
  refine wp_aload_n dX12_prices_204 rfl ?_
  refine wp_geta dX12_prices_205 fl_RX12_99 rfl (fk_33 hF1) (fr_33_35 hF1) ?_
  refine wp_iconst (v := 2) dX12_prices_208 (by decide) ?_
  refine wp_aload_n dX12_prices_209 rfl ?_
  refine wp_geti dX12_prices_210 fl_RX12_327 rfl (fk_33 hF1) ?_
  rw [m2]
  refine wp_imul dX12_prices_213 ?_
  rw [nI_2m]
  refine wp_aload_n dX12_prices_214 rfl ?_
  refine wp_geti dX12_prices_215 fl_RX12_265 rfl (fk_33 hF1) ?_
  rw [h37]
  refine wp_iastoreN dX12_prices_218 (fk_60 hF1) (by omega) (by decide) ?_
  refine wp_iconst (v := 0) dX12_prices_219 (by decide) ?_
  refine wp_istore_n dX12_prices_220 (by decide) ?_
  exact fin
theorem l_lines {r : FT ⊕ (OL × List (Nat × Nat))} (hF : Fix H) (hqF : ∀ f, r = .inl f → ∀ H', MLB H f H' → Q (some (.int (-1))) H') (hqN : ∀ o E, r = .inr (o, E) → (∃ v, v ≤ 100 ∧ OKo v o) → LF o E → E.length ≤ 10 → o.length ≤ 600 → ∀ Hx H', eqM isMc Hx H' → eqM isMl H Hx → RowC 10 o E H' → hI H' 33 41 = 0 → hI H' 33 42 = -1 → Q (some (.int (nI E.length))) H') : ∀ (n s v : Nat) (o : OL) (E : List (Nat × Nat)) (H1 : PH) (l1 : Option Value), ML H bf N s v o E H1 → o.length ≤ s → OKo v o → LF o E → tkA bf N s ≠ 8 → LnR bf N n E.length s v o E r → Wp mX12_prices (d + 5) 0 0 47 [some (.ref 33), l1] [] H1 Q := by
  intro n
  induction n with
  | zero => intro s v o E H1 l1 hL hos hok hlf h8 hr; exact absurd hr (fun z => z)
  | succ n ih =>
    intro s v o E H1 l1 hL hos hok hlf h8 hr
    have hbd := M0_bd hL.2.2.2.2
    have hv := hL.2.2.2.2.2.2.2.2.2.1
    rcases hr with ⟨h0, e⟩ | ⟨h0, r1, h1, h2⟩
    · exact l_prEnd hF hL hos hlf h0 (fun H' _ Hx a1 a2 a3 a4 a5 => hqN o E e ⟨v, hv, hok⟩ hlf hL.2.2.1 (by omega) Hx H' a1 a2 a3 a4 a5)
    · refine l_line hF hL hos hok hlf h0 h8 h1 (fun f e H' hb => ?_) (fun s' v' o' e l1 er t8 g1 g2 g3 H' g4 => ?_)
      · rcases h2 with ⟨f', e1, e2⟩ | ⟨s', v', o', e', e1, -⟩
        · rw [e] at e1; cases e1; exact hqF f e2 H' hb
        · rw [e] at e1; cases e1
      · rcases h2 with ⟨f', e1, -⟩ | ⟨s2, v2, o2, e', e1, e2⟩
        · rw [er] at e1; cases e1
        · rw [er] at e1
          cases e1
          refine ih s' v' o' (E ++ [e]) H' l1 g4 g1 g2 g3 t8 ?_
          rw [show (E ++ [e]).length = E.length + 1 from List.length_append]
          exact e2
theorem c_X12_prices {r : FT ⊕ (OL × List (Nat × Nat))} (hF : Fix H) (hB : BF bf N) (h40 : hI H 33 40 = nI N) (hbt : ∀ j, j < N → hI H 61 j = bf j) (hr : PRn bf N r) (hqF : ∀ f, r = .inl f → ∀ H', MFB H f H' → Q (some (.int (-1))) H') (hqN : ∀ o E, r = .inr (o, E) → (∃ v, v ≤ 100 ∧ OKo v o) → LF o E → E.length ≤ 10 → o.length ≤ 600 → ∀ H', MF H o E H' → Q (some (.int (nI E.length))) H') : Wp mX12_prices (d + 5) 0 0 0 [some (.ref 33), none] [] H Q := by
  have hF0 : Fix (sI (sI H 33 44 (nI N)) 33 40 0) := Fix_sI (Fix_sI hF)
  have e0 : ∀ H', eqM isMl (sI (sI H 33 44 (nI N)) 33 40 0) H' → eqM isMb H H' ∧ hI H' 33 40 = 0 := fun H' h => ⟨eqM_trans (eqM_sI (eqM_sI eqM_rfl (Or.inr ⟨rfl, Or.inr rfl⟩)) (Or.inr ⟨rfl, Or.inl rfl⟩)) (eqM_mono (fun a k z => Or.inl z) h), by rw [h.2.2.2.1 33 40 (by unfold isMl isMr; omega), hI_sI', if_pos ⟨rfl, rfl⟩]⟩
  have main : ∀ H1, ML (sI (sI H 33 44 (nI N)) 33 40 0) bf N (sk bf N 0) 0 [] [] H1 → Wp mX12_prices (d + 5) 0 0 47 [some (.ref 33), none] [] H1 Q := by
    intro H1 hL
    rcases hr with ⟨h8, e⟩ | ⟨h8, h⟩
    · exact l_prBad hF0 hL.1 hL.2.2.2.2 h8 (fun H' hb => hqF _ e H' ⟨(e0 H' hb.1).1, hb.2.1, hb.2.2.1, hb.2.2.2.1, hb.2.2.2.2, (e0 H' hb.1).2⟩)
    · refine l_lines hF0 (fun f e H' hb => hqF f e H' ⟨(e0 H' hb.1).1, hb.2.1, hb.2.2.1, hb.2.2.2.1, hb.2.2.2.2, (e0 H' hb.1).2⟩) (fun o E e g1 g2 g3 g4 Hx H' a1 a2 a3 a4 a5 => hqN o E e g1 g2 g3 g4 H' ⟨eqM_trans (eqM_mono (fun a k z => z.elim Or.inl (fun y => Or.inr (Or.inr y))) (e0 Hx a2).1) (eqM_mono (fun a k z => Or.inr (Or.inl z)) a1), a3, a4, a5, by rw [a1.2.2.2.1 33 40 (by unfold isMc; omega)]; exact (e0 Hx a2).2⟩) 12 (sk bf N 0) 0 [] [] H1 none hL (Nat.zero_le _) ⟨Nat.zero_le _, fun x hx => absurd hx List.not_mem_nil⟩ ⟨fun i hi => absurd hi (Nat.not_lt_zero i), rfl⟩ h8 h
  have hsk := sk_bd (bf := bf) (Nat.zero_le N)
  have k8 : ∀ k, hI (sI (sI (sI (sI (sI (sI (sI (sI H 33 44 (nI N)) 33 40 0) 33 43 0) 33 41 0) 33 42 (-1)) 33 36 0) 33 37 0) 33 38 0) 33 k = if k = 38 ∨ k = 37 ∨ k = 36 ∨ k = 41 ∨ k = 43 ∨ k = 40 then 0 else if k = 42 then -1 else if k = 44 then nI N else hI H 33 k := fun k => by
    by_cases q1 : k = 38
    · subst q1; rfl
    by_cases q2 : k = 37
    · subst q2; rfl
    by_cases q3 : k = 36
    · subst q3; rfl
    by_cases q4 : k = 42
    · subst q4; rfl
    by_cases q5 : k = 41
    · subst q5; rfl
    by_cases q6 : k = 43
    · subst q6; rfl
    by_cases q7 : k = 40
    · subst q7; rfl
    by_cases q8 : k = 44
    · subst q8; rfl
    rw [hI_sI', if_neg (by omega), hI_sI', if_neg (by omega), hI_sI', if_neg (by omega), hI_sI', if_neg (by omega), hI_sI', if_neg (by omega), hI_sI', if_neg (by omega), hI_sI', if_neg (by omega), hI_sI', if_neg (by omega), if_neg (by omega), if_neg q4, if_neg q8]
  have o8 : ∀ a k, a ≠ 33 → hI (sI (sI (sI (sI (sI (sI (sI (sI H 33 44 (nI N)) 33 40 0) 33 43 0) 33 41 0) 33 42 (-1)) 33 36 0) 33 37 0) 33 38 0) a k = hI H a k := fun a k ha => by rw [hI_sI', if_neg (by omega), hI_sI', if_neg (by omega), hI_sI', if_neg (by omega), hI_sI', if_neg (by omega), hI_sI', if_neg (by omega), hI_sI', if_neg (by omega), hI_sI', if_neg (by omega), hI_sI', if_neg (by omega)]
  have hF8 : Fix (sI (sI (sI (sI (sI (sI (sI (sI H 33 44 (nI N)) 33 40 0) 33 43 0) 33 41 0) 33 42 (-1)) 33 36 0) 33 37 0) 33 38 0) := Fix_sI (Fix_sI (Fix_sI (Fix_sI (Fix_sI (Fix_sI (Fix_sI (Fix_sI hF)))))))
  have x8 : eqM isMl (sI (sI H 33 44 (nI N)) 33 40 0) (sI (sI (sI (sI (sI (sI (sI (sI H 33 44 (nI N)) 33 40 0) 33 43 0) 33 41 0) 33 42 (-1)) 33 36 0) 33 37 0) 33 38 0) := by
    have z : ∀ k, k = 43 ∨ k = 41 ∨ k = 42 ∨ k = 36 ∨ k = 37 ∨ k = 38 → isMl 33 k := fun k hk => by unfold isMl isMr; omega
    exact eqM_sI (eqM_sI (eqM_sI (eqM_sI (eqM_sI (eqM_sI eqM_rfl (z _ (by decide))) (z _ (by decide))) (z _ (by decide))) (z _ (by decide))) (z _ (by decide))) (z _ (by decide))
  have hT : MTp (sI (sI (sI (sI (sI (sI (sI (sI H 33 44 (nI N)) 33 40 0) 33 43 0) 33 41 0) 33 42 (-1)) 33 36 0) 33 37 0) 33 38 0) bf N := ⟨hB, by rw [k8]; rfl, fun j hj => by rw [o8 61 j (by decide)]; exact hbt j hj⟩
  have mk : ∀ H', eqM isNx (sI (sI (sI (sI (sI (sI (sI (sI H 33 44 (nI N)) 33 40 0) 33 43 0) 33 41 0) 33 42 (-1)) 33 36 0) 33 37 0) 33 38 0) H' → mTok bf N (sk bf N 0) H' → ML (sI (sI H 33 44 (nI N)) 33 40 0) bf N (sk bf N 0) 0 [] [] H' := by
    intro H' he ht
    have q : ∀ k, k ≠ 43 → k ≠ 45 → k ≠ 46 → k ≠ 47 → hI H' 33 k = hI (sI (sI (sI (sI (sI (sI (sI (sI H 33 44 (nI N)) 33 40 0) 33 43 0) 33 41 0) 33 42 (-1)) 33 36 0) 33 37 0) 33 38 0) 33 k := fun k a b c e => he.2.2.2.1 33 k (by unfold isNx; omega)
    refine ⟨eqM_trans x8 (eqM_mono (fun a k z => by unfold isNx at z; unfold isMl isMr; omega) he), by rw [q 36 (by decide) (by decide) (by decide) (by decide), k8]; rfl, Nat.zero_le _, fun i hi => absurd hi (Nat.not_lt_zero i), eqM_rfl, MTp_nx he hT, ht, by omega, by rw [q 38 (by decide) (by decide) (by decide) (by decide), k8]; rfl, by decide, ⟨by rw [q 37 (by decide) (by decide) (by decide) (by decide), k8]; rfl, fun i x hi => by simp at hi⟩, by rw [q 41 (by decide) (by decide) (by decide) (by decide), k8]; rfl, by rw [q 42 (by decide) (by decide) (by decide) (by decide), k8]; rfl⟩
  have k43 := k8 43
  rw [if_pos (by decide)] at k43
  refine wp_aload_n dX12_prices_0 rfl ?_
  refine wp_aload_n dX12_prices_1 rfl ?_
  refine wp_geti dX12_prices_2 fl_RX12_213 rfl (fk_33 hF) ?_
  rw [h40]
  refine wp_puti dX12_prices_5 fl_RX12_222 (mp_12_44 _ _) rfl (fk_33 hF) ?_
  refine wp_aload_n dX12_prices_8 rfl ?_
  refine wp_iconst (v := 0) dX12_prices_9 (by decide) ?_
  refine wp_puti dX12_prices_10 fl_RX12_213 (mp_12_40 _ _) rfl (fk_33 (Fix_sI hF)) ?_
  refine wp_aload_n dX12_prices_13 rfl ?_
  refine wp_iconst (v := 0) dX12_prices_14 (by decide) ?_
  refine wp_puti dX12_prices_15 fl_RX12_219 (mp_12_43 _ _) rfl (fk_33 (Fix_sI (Fix_sI hF))) ?_
  refine wp_aload_n dX12_prices_18 rfl ?_
  refine wp_iconst (v := 0) dX12_prices_19 (by decide) ?_
  refine wp_puti dX12_prices_20 fl_RX12_250 (mp_12_41 _ _) rfl (fk_33 (Fix_sI (Fix_sI (Fix_sI hF)))) ?_
  refine wp_aload_n dX12_prices_23 rfl ?_
  refine wp_iconst (v := -1) dX12_prices_24 (by decide) ?_
  refine wp_puti dX12_prices_25 fl_RX12_105 (mp_12_42 _ _) rfl (fk_33 (Fix_sI (Fix_sI (Fix_sI (Fix_sI hF))))) ?_
  refine wp_aload_n dX12_prices_28 rfl ?_
  refine wp_iconst (v := 0) dX12_prices_29 (by decide) ?_
  refine wp_puti dX12_prices_30 fl_RX12_327 (mp_12_36 _ _) rfl (fk_33 (Fix_sI (Fix_sI (Fix_sI (Fix_sI (Fix_sI hF)))))) ?_
  refine wp_aload_n dX12_prices_33 rfl ?_
  refine wp_iconst (v := 0) dX12_prices_34 (by decide) ?_
  refine wp_puti dX12_prices_35 fl_RX12_265 (mp_12_37 _ _) rfl (fk_33 (Fix_sI (Fix_sI (Fix_sI (Fix_sI (Fix_sI (Fix_sI hF))))))) ?_
  refine wp_aload_n dX12_prices_38 rfl ?_
  refine wp_iconst (v := 0) dX12_prices_39 (by decide) ?_
  refine wp_puti dX12_prices_40 fl_RX12_314 (mp_12_38 _ _) rfl (fk_33 (Fix_sI (Fix_sI (Fix_sI (Fix_sI (Fix_sI (Fix_sI (Fix_sI hF)))))))) ?_
  refine wp_aload_n dX12_prices_43 rfl ?_
  refine wp_callv0 (ci := 12) dX12_prices_44 lk_RX12_317 ok_X12_next im_X12_next se_X12_next rfl rfl (fk_33 (Fix_sI (Fix_sI (Fix_sI (Fix_sI (Fix_sI (Fix_sI (Fix_sI (Fix_sI hF))))))))) (Nat.le_of_ble_eq_true rfl) (Nat.le_of_ble_eq_true rfl) ?_
  refine wp_deep (d := 0 + 1) (by omega) (c_X12_next (p := 0) hF8 hT (Nat.zero_le _) k43 (fun H' he ht => ?_))
  exact main H' (mk H' he ht)
end MPr
