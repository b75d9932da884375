/-! ===== the reference's lines ===== -/
theorem nI_2m (a : Nat) : 2 * nI a = nI (2 * a) := by rw [← pk_mul]; rfl
def stA (E : List (Nat × Nat)) (i : Nat) : Nat := match i with
  | 0 => 0
  | i + 1 => (E.getD i (0, 0)).2
theorem getD_app {E : List (Nat × Nat)} {e : Nat × Nat} {i : Nat} : (E ++ [e]).getD i (0, 0) = if i < E.length then E.getD i (0, 0) else if i = E.length then e else (0, 0) := by
  rw [List.getD_eq_getElem?_getD, List.getD_eq_getElem?_getD]
  rcases Nat.lt_trichotomy i E.length with z | z | z
  · rw [if_pos z, List.getElem?_append_left z]
  · rw [if_neg (by omega), if_pos z, List.getElem?_append_right (by omega), z, Nat.sub_self]; rfl
  · rw [if_neg (by omega), if_neg (by omega), List.getElem?_eq_none (by rw [List.length_append]; show E.length + 1 ≤ i; omega)]; rfl
theorem stA_app {E : List (Nat × Nat)} {e : Nat × Nat} {i : Nat} (h : i ≤ E.length) : stA (E ++ [e]) i = stA E i := by
  cases i with
  | zero => rfl
  | succ i => show ((E ++ [e]).getD i (0, 0)).2 = (E.getD i (0, 0)).2; rw [getD_app, if_pos (by omega)]
theorem stA_new {E : List (Nat × Nat)} {e : Nat × Nat} : stA (E ++ [e]) (E.length + 1) = e.2 := by
  show ((E ++ [e]).getD E.length (0, 0)).2 = e.2
  rw [getD_app, if_neg (by omega), if_pos rfl]
def SG (o : OL) (a b : Nat) : Prop := a ≤ b ∧ b ≤ o.length ∧ ht ((o.take b).drop a) 0 = some 1
theorem SG_app {o l : OL} {a b : Nat} (h : SG o a b) : SG (o ++ l) a b := ⟨h.1, by rw [List.length_append]; have := h.2.1; omega, by rw [List.take_append_of_le_length h.2.1]; exact h.2.2⟩
theorem SG_new {o l : OL} (h : ht l 0 = some 1) : SG (o ++ l) o.length (o ++ l).length := ⟨by rw [List.length_append]; omega, Nat.le_refl _, by rw [List.take_length, List.drop_left]; exact h⟩
/-- lines that are well made -/
def LF (o : OL) (E : List (Nat × Nat)) : Prop := (∀ i, i < E.length → (stA E i = (E.getD i (0, 0)).1 ∨ SG o (stA E i) (E.getD i (0, 0)).1) ∧ SG o (E.getD i (0, 0)).1 (E.getD i (0, 0)).2) ∧ stA E E.length = o.length
theorem LF_app {o l1 l2 : OL} {E : List (Nat × Nat)} (h : LF o E) (h1 : l1 = [] ∨ ht l1 0 = some 1) (h2 : ht l2 0 = some 1) : LF (o ++ l1 ++ l2) (E ++ [((o ++ l1).length, (o ++ l1 ++ l2).length)]) := by
  refine ⟨fun i hi => ?_, ?_⟩
  · rw [List.length_append] at hi
    have hi' : i < E.length + 1 := hi
    rw [stA_app (by omega), getD_app]
    by_cases q : i < E.length
    · rw [if_pos q]
      obtain ⟨a, b⟩ := h.1 i q
      exact ⟨a.elim Or.inl (fun z => Or.inr (SG_app (SG_app z))), SG_app (SG_app b)⟩
    · have : i = E.length := by omega
      subst this
      rw [if_neg q, if_pos rfl, h.2]
      refine ⟨?_, SG_new h2⟩
      rcases h1 with z | z
      · left; rw [z, List.append_nil]
      · right; exact SG_app (SG_new z)
  · have k : ∀ e : Nat × Nat, stA (E ++ [e]) (E ++ [e]).length = e.2 := fun e => by rw [List.length_append]; exact stA_new
    exact k _
def Nw (E : List (Nat × Nat)) (H : PH) : Prop := ∀ i, i < E.length → hI H 60 (2 * i) = nI (stA E i) ∧ hI H 60 (2 * i + 1) = nI (E.getD i (0, 0)).1
def isMl (a k : Nat) : Prop := isMr a k ∨ (a = 33 ∧ k = 36) ∨ a = 60
section MLi
variable {d : Nat} {H : PH} {Q : Option Value → PH → Prop} {bf : Nat → Int32} {N s v u : Nat} {o o0 : OL} {W : List Nat} {H1 : PH} {tm : Nat} {z : Int32} {E : List (Nat × Nat)}
/-- the reference reading, whatever waits -/
def M0 (H : PH) (bf : Nat → Int32) (N s v : Nat) (o : OL) (H' : PH) : Prop := eqM isMr H H' ∧ MTp H' bf N ∧ mTok bf N s H' ∧ s ≤ N ∧ hI H' 33 38 = nI v ∧ v ≤ 100 ∧ Ot o H' ∧ hI H' 33 41 = 0 ∧ hI H' 33 42 = -1
theorem M0_of (hM : MR H bf N s v o W H1) : M0 H bf N s v o H1 := by
  obtain ⟨h1, h2, h3, h4, h5, h6, h7, -, h9, h10⟩ := hM
  exact ⟨h1, h2, h3, h4, h5, h6, h7, h9, h10⟩
theorem M0_fix (hF : Fix H) (hM : M0 H bf N s v o H1) : Fix H1 := Fix_eqM hM.1 hF
theorem M0_bd (hM : M0 H bf N s v o H1) : s ≤ N ∧ N ≤ 600 := ⟨hM.2.2.2.1, hM.2.1.1.1⟩
theorem M0_clr (hM : M0 H bf N s v o H1) : MR H bf N s v o [] (sI (sI H1 33 50 0) 33 51 0) := by
  obtain ⟨h1, h2, h3, h4, h5, h6, h7, h9, h10⟩ := hM
  have q33 : ∀ k, k ≠ 50 → k ≠ 51 → hI (sI (sI H1 33 50 0) 33 51 0) 33 k = hI H1 33 k := fun k hk hk2 => by rw [hI_sI', if_neg (by omega), hI_sI', if_neg (by omega)]
  have qo : ∀ a k, a ≠ 33 → hI (sI (sI H1 33 50 0) 33 51 0) a k = hI H1 a k := fun a k h1 => by rw [hI_sI', if_neg (by omega), hI_sI', if_neg (by omega)]
  exact ⟨eqM_sI (eqM_sI h1 (by unfold isMr; omega)) (by unfold isMr; omega), MTp_k h2 (q33 44 (by decide) (by decide)) (fun j => qo 61 j (by decide)), mTok_k h3 (fun k hk => q33 k (by omega) (by omega)) rfl, h4, by rw [q33 38 (by decide) (by decide)]; exact h5, h6, ⟨by rw [q33 37 (by decide) (by decide)]; exact h7.1, fun i y hi => by rw [qo 58 i (by decide), qo 59 i (by decide)]; exact h7.2 i y hi⟩, ⟨by rw [hI_sI', if_neg (by omega), hI_sI', if_pos ⟨rfl, rfl⟩]; rfl, fun i y hi => by simp at hi, by rw [hI_sI', if_pos ⟨rfl, rfl⟩]; rfl⟩, by rw [q33 41 (by decide) (by decide)]; exact h9, by rw [q33 42 (by decide) (by decide)]; exact h10⟩
theorem M0_self (hM : M0 H bf N s v o H1) : M0 H1 bf N s v o H1 := ⟨eqM_rfl, hM.2⟩
theorem M0_w {a k : Nat} {x : Int32} (ha : a = 60 ∨ (a = 33 ∧ k = 36)) (hM : M0 H bf N s v o H1) : M0 (sI H1 a k x) bf N s v o (sI H1 a k x) := by
  obtain ⟨h1, h2, h3, h4, h5, h6, h7, h9, h10⟩ := hM
  have q33 : ∀ k', k' ≠ 36 → hI (sI H1 a k x) 33 k' = hI H1 33 k' := fun k' hk => by rw [hI_sI', if_neg (by omega)]
  have qo : ∀ a' k', a' ≠ 33 → a' ≠ 60 → hI (sI H1 a k x) a' k' = hI H1 a' k' := fun a' k' h1 h2 => by rw [hI_sI', if_neg (by omega)]
  exact ⟨eqM_rfl, MTp_k h2 (q33 44 (by decide)) (fun j => qo 61 j (by decide) (by decide)), mTok_k h3 (fun k hk => q33 k (by omega)) rfl, h4, by rw [q33 38 (by decide)]; exact h5, h6, ⟨by rw [q33 37 (by decide)]; exact h7.1, fun i y hi => by rw [qo 58 i (by decide) (by decide), qo 59 i (by decide) (by decide)]; exact h7.2 i y hi⟩, by rw [q33 41 (by decide)]; exact h9, by rw [q33 42 (by decide)]; exact h10⟩
theorem c_wrong0 {k : Nat} (hk1 : 1 ≤ k) (hk3 : k ≤ 3) (hF : Fix H) (hM : M0 H bf N s v o H1) (hq : ∀ H', MB H (if tkA bf N s = 8 then 1 else k, s) H' → Q none H') : Wp mX12_wrong d 0 0 0 [some (.ref 33), some (.int (nI k))] [] H1 Q := by
  have hF1 := M0_fix hF hM
  have hB := hM.2.1.1
  have h45 := hM.2.2.1.1
  have h46 := hM.2.2.1.2.1
  have h41 := hM.2.2.2.2.2.2.2.1
  have hs := srt_lt hB s
  have hts := (tk_srt hB (s := s)).2.1
  have go : ∀ j : Nat, 1 ≤ j → j ≤ 3 → MB H (j, s) (sI (sI H1 33 41 (nI j)) 33 42 (nI s)) := fun j j1 j3 => ⟨eqM_sI (eqM_sI hM.1 (by unfold isMr; omega)) (by unfold isMr; omega), by rw [hI_sI', if_neg (by omega), hI_sI', if_pos ⟨rfl, rfl⟩], j1, j3, by rw [hI_sI', if_pos ⟨rfl, rfl⟩]⟩
  by_cases h3 : srt bf N s = 3
  · rw [if_pos (hts.mpr h3)] at hq
    refine wp_aload_n dX12_wrong_0 rfl ?_
    refine wp_geti dX12_wrong_1 fl_RX12_250 rfl (fk_33 hF1) ?_
    rw [h41]
    refine wp_if_le (tgt := 8) dX12_wrong_4 (by decide) (fun _ => ?_) (fun h4 => absurd h4 (fun q => q (by decide)))
    refine wp_aload_n dX12_wrong_8 rfl ?_
    refine wp_aload_n dX12_wrong_9 rfl ?_
    refine wp_geti dX12_wrong_10 fl_RX12_238 rfl (fk_33 hF1) ?_
    rw [h45, h3]
    refine wp_iconst (v := 3) dX12_wrong_13 (by decide) ?_
    refine wp_icmp_ne (tgt := 21) dX12_wrong_14 (by decide) (fun h14 => absurd h14 (fun q => q rfl)) (fun _ => ?_)
    refine wp_iconst (v := 1) dX12_wrong_17 (by decide) ?_
    refine wp_goto (tgt := 22) dX12_wrong_18 (by decide) ?_
    refine wp_puti dX12_wrong_22 fl_RX12_250 (mp_12_41 _ _) rfl (fk_33 hF1) ?_
    refine wp_aload_n dX12_wrong_25 rfl ?_
    refine wp_aload_n dX12_wrong_26 rfl ?_
    refine wp_geti dX12_wrong_27 fl_RX12_228 rfl (fk_33 (Fix_sI hF1)) ?_
    rw [hI_sI', if_neg (by omega), h46]
    refine wp_puti dX12_wrong_30 fl_RX12_105 (mp_12_42 _ _) rfl (fk_33 (Fix_sI hF1)) ?_
    refine wp_return rfl dX12_wrong_33 ?_
    exact hq _ (go 1 (by decide) (by decide))
  · rw [if_neg (fun z => h3 (hts.mp z))] at hq
    refine wp_aload_n dX12_wrong_0 rfl ?_
    refine wp_geti dX12_wrong_1 fl_RX12_250 rfl (fk_33 hF1) ?_
    rw [h41]
    refine wp_if_le (tgt := 8) dX12_wrong_4 (by decide) (fun _ => ?_) (fun h4 => absurd h4 (fun q => q (by decide)))
    refine wp_aload_n dX12_wrong_8 rfl ?_
    refine wp_aload_n dX12_wrong_9 rfl ?_
    refine wp_geti dX12_wrong_10 fl_RX12_238 rfl (fk_33 hF1) ?_
    rw [h45]
    refine wp_iconst (v := 3) dX12_wrong_13 (by decide) ?_
    refine wp_icmp_ne (tgt := 21) dX12_wrong_14 (by decide) (fun _ => ?_) (fun h14 => absurd h14 (fun q => h3 ((nI_eq (a := srt bf N s) (b := 3) (by omega) (by decide)).mp q)))
    refine wp_iload_n dX12_wrong_21 rfl ?_
    refine wp_puti dX12_wrong_22 fl_RX12_250 (mp_12_41 _ _) rfl (fk_33 hF1) ?_
    refine wp_aload_n dX12_wrong_25 rfl ?_
    refine wp_aload_n dX12_wrong_26 rfl ?_
    refine wp_geti dX12_wrong_27 fl_RX12_228 rfl (fk_33 (Fix_sI hF1)) ?_
    rw [hI_sI', if_neg (by omega), h46]
    refine wp_puti dX12_wrong_30 fl_RX12_105 (mp_12_42 _ _) rfl (fk_33 (Fix_sI hF1)) ?_
    refine wp_return rfl dX12_wrong_33 ?_
    exact hq _ (go k hk1 hk3)
theorem c_isWord0 {x : Int64} (hF : Fix H) (hM : M0 H bf N s v o H1) (hq : Q (some (.int (bI (srt bf N s = 1 ∧ wvI bf s (le bf N s - s) = x)))) H1) : Wp mX12_isWord d 0 0 0 [some (.ref 33), some (.long x), none] [] H1 Q := by
  have hF1 := M0_fix hF hM
  have hB := hM.2.1.1
  have h45 := hM.2.2.1.1
  have hs := srt_lt hB s
  by_cases h1 : srt bf N s = 1
  · have hw := (hM.2.2.1.2.2.2.1 h1).1
    refine wp_aload_n dX12_isWord_0 rfl ?_
    refine wp_geti dX12_isWord_1 fl_RX12_238 rfl (fk_33 hF1) ?_
    rw [h45, h1]
    refine wp_iconst (v := 1) dX12_isWord_4 (by decide) ?_
    refine wp_icmp_ne (tgt := 21) dX12_isWord_5 (by decide) (fun h5 => absurd h5 (fun q => q rfl)) (fun _ => ?_)
    refine wp_aload_n dX12_isWord_8 rfl ?_
    refine wp_getl dX12_isWord_9 fl_RX12_231 rfl (fk_33 hF1) ?_
    rw [hw]
    refine wp_lload_n dX12_isWord_12 rfl ?_
    refine wp_lcmp dX12_isWord_13 ?_
    refine wp_if_ne (tgt := 21) dX12_isWord_14 (by decide) (fun h14 => ?_) (fun h14 => ?_)
    · refine wp_iconst (v := 0) dX12_isWord_21 (by decide) ?_
      refine wp_zreturn rfl (Or.inl rfl) dX12_isWord_22 ?_
      first | exact bq_t hq ⟨h1, lce h14⟩ | exact bq_f hq (fun q => lcz h14 q.2)
    · refine wp_iconst (v := 1) dX12_isWord_17 (by decide) ?_
      refine wp_goto (tgt := 22) dX12_isWord_18 (by decide) ?_
      refine wp_zreturn rfl (Or.inr rfl) dX12_isWord_22 ?_
      first | exact bq_t hq ⟨h1, lce h14⟩ | exact bq_f hq (fun q => lcz h14 q.2)
  · have h1' := h1
    refine wp_aload_n dX12_isWord_0 rfl ?_
    refine wp_geti dX12_isWord_1 fl_RX12_238 rfl (fk_33 hF1) ?_
    rw [h45]
    refine wp_iconst (v := 1) dX12_isWord_4 (by decide) ?_
    refine wp_icmp_ne (tgt := 21) dX12_isWord_5 (by decide) (fun _ => ?_) (fun h5 => absurd h5 (fun q => h1 ((nI_eq (a := srt bf N s) (b := 1) (by omega) (by decide)).mp q)))
    refine wp_iconst (v := 0) dX12_isWord_21 (by decide) ?_
    refine wp_zreturn rfl (Or.inl rfl) dX12_isWord_22 ?_
    exact bq_f hq (fun q => h1 q.1)
theorem c_next0 (hF : Fix H) (hM : M0 H bf N s v o H1) (h0 : tkA bf N s ≠ 0) (h8 : tkA bf N s ≠ 8) (hq : ∀ H', M0 H bf N (nxtT bf N s) v o H' → Q none H') : Wp mX12_next (d + 1) 0 0 0 [some (.ref 33), none, none] [] H1 Q := by
  have hF1 := M0_fix hF hM
  obtain ⟨h1, h2, h3, h4, h5, h6, h7, h9, h10⟩ := hM
  obtain ⟨n1, n2, n3, n4⟩ := nxt_gt h2.1 h4 h0 h8
  have hs3 : ¬ srt bf N s = 3 := fun z => h8 ((tk_srt h2.1).2.1.mpr z)
  refine c_X12_next hF1 h2 n4 (by have := h3.2.2.1; rw [if_neg hs3] at this; exact this) (fun H' he ht => ?_)
  have q33 : ∀ k, k ≠ 43 → k ≠ 45 → k ≠ 46 → k ≠ 47 → hI H' 33 k = hI H1 33 k := fun k a b c e => he.2.2.2.1 33 k (by unfold isNx; omega)
  have qo : ∀ a k, a ≠ 33 → hI H' a k = hI H1 a k := fun a k ha => he.2.2.2.1 a k (by unfold isNx; omega)
  refine hq H' ⟨eqM_trans h1 (eqM_mono (fun a k z => by unfold isNx at z; unfold isMr; omega) he), MTp_nx he h2, ht, n3, by rw [q33 38 (by decide) (by decide) (by decide) (by decide)]; exact h5, h6, ⟨by rw [q33 37 (by decide) (by decide) (by decide) (by decide)]; exact h7.1, fun i x hi => by rw [qo 58 i (by decide), qo 59 i (by decide)]; exact h7.2 i x hi⟩, by rw [q33 41 (by decide) (by decide) (by decide) (by decide)]; exact h9, by rw [q33 42 (by decide) (by decide) (by decide) (by decide)]; exact h10⟩
/-- an e from s on, up to tm -/
def EQ9 (bf : Nat → Int32) (N tm s v : Nat) (o : OL) (r : FT ⊕ S3) : Prop := (tkA bf N s = 8 ∧ r = .inl (1, s)) ∨ (tkA bf N s ≠ 8 ∧ ((∃ f, RT bf N tm (0, [], s, v, o) (.inl f) ∧ r = .inl f) ∨ ∃ W2 s' v' o2 o', RT bf N tm (0, [], s, v, o) (.inr (2, W2, s', v', o2)) ∧ stp (pS 0) W2 o2 = ([], o') ∧ tkA bf N s' = tm ∧ r = .inr (s', v', o')))
def OKo (v : Nat) (o : OL) : Prop := vls o ≤ v ∧ ∀ x, x ∈ o → okI x
theorem c_X12_readE {r : FT ⊕ S3} (hz : (tm = 2 ∧ z = 1) ∨ (tm = 59 ∧ z = 0)) (hF : Fix H) (hM : M0 H bf N s v o H1) (hl : o.length + 1 ≤ s) (hok : OKo v o) (hr : EQ9 bf N tm s v o r)
    (hq : ∀ s' v' o', r = .inr (s', v', o') → tkA bf N s' = tm → o'.length + 1 ≤ s' → OKo v' o' → (∃ l, o' = o ++ l ∧ ht l 0 = some 1) → ∀ H', MR H bf N s' v' o' [] H' → Q none H') (hb : ∀ f, r = .inl f → ∀ H', MB H f H' → Q none H') : Wp mX12_readE (d + 4) 0 0 0 [some (.ref 33), some (.int z), none] [] H1 Q := by
  have hF1 := M0_fix hF hM
  have hM2 := M0_clr hM
  have hbd := M0_bd hM
  have hci : CI o 0 [] s v o := ⟨by decide, ⟨trivial, by decide, hok.1, hok.2, [], by rw [List.append_nil], rfl⟩, by show o.length + 0 + 1 ≤ s; omega⟩
  have key : Wp mX12_readE (d + 4) 0 0 12 [some (.ref 33), some (.int z), some (.int (nI 0))] [] (sI (sI H1 33 50 0) 33 51 0) Q := by
    rcases hr with ⟨h8, e⟩ | ⟨h8, ⟨f, hr, e⟩ | ⟨W2, s', v', o2, o', hr, hst, ht', e⟩⟩
    · exact l_readEb hz hF hM2 (CI_RB hci (by omega)).1 (by decide) h8 (hb _ e)
    · obtain ⟨n, hn⟩ := hr
      exact l_readE hz hF n 0 [] s v o _ _ hM2 hci h8 hn (Or.inl ⟨f, rfl, hb f e⟩)
    · obtain ⟨n, hn⟩ := hr
      refine l_readE hz hF n 0 [] s v o _ _ hM2 hci h8 hn (Or.inr ⟨W2, s', v', o2, o', rfl, hst, ht', fun hc H' hM' => ?_⟩)
      have hsi := SI_stp (p := pS 0) (by decide) (show SI o 1 v' W2 o2 from hc.2.1)
      have hln := stp_len (pS 0) W2 o2
      rw [hst] at hsi hln
      have hln' : 0 + o'.length = W2.length + o2.length := hln
      have h3 := hc.2.2
      exact hq s' v' o' e ht' (by omega) ⟨hsi.2.2.1, hsi.2.2.2.1⟩ hsi.2.2.2.2 H' hM'
  refine wp_aload_n dX12_readE_0 rfl ?_
  refine wp_iconst (v := 0) dX12_readE_1 (by decide) ?_
  refine wp_puti dX12_readE_2 fl_RX12_268 (mp_12_50 _ _) rfl (fk_33 hF1) ?_
  refine wp_aload_n dX12_readE_5 rfl ?_
  refine wp_iconst (v := 0) dX12_readE_6 (by decide) ?_
  refine wp_puti dX12_readE_7 fl_RX12_271 (mp_12_51 _ _) rfl (fk_33 (Fix_sI hF1)) ?_
  refine wp_iconst (v := 0) dX12_readE_10 (by decide) ?_
  refine wp_istore_n dX12_readE_11 (by decide) ?_
  exact key
def MLB (H : PH) (f : FT) (H' : PH) : Prop := eqM isMl H H' ∧ hI H' 33 41 = nI f.1 ∧ 1 ≤ f.1 ∧ f.1 ≤ 3 ∧ hI H' 33 42 = nI f.2
/-- between lines, and within one -/
def ML (H : PH) (bf : Nat → Int32) (N s v : Nat) (o : OL) (E : List (Nat × Nat)) (H' : PH) : Prop := eqM isMl H H' ∧ hI H' 33 36 = nI E.length ∧ E.length ≤ 10 ∧ Nw E H' ∧ M0 H' bf N s v o H'
theorem ml_mr (a k : Nat) (h : isMr a k) : isMl a k := Or.inl h
theorem MLB_of {f : FT} {H' : PH} (h : eqM isMl H H1) (hb : MB H1 f H') : MLB H f H' := ⟨eqM_trans h (eqM_mono ml_mr hb.1), hb.2⟩
theorem Nw_k {H2 : PH} (h : Nw E H1) (e : ∀ k, hI H2 60 k = hI H1 60 k) : Nw E H2 := fun i hi => by rw [e, e]; exact h i hi
theorem ML_go {s' v' : Nat} {o' : OL} {H' : PH} (h : ML H bf N s v o E H1) (hM : M0 H1 bf N s' v' o' H') : ML H bf N s' v' o' E H' := by
  obtain ⟨h1, h2, h3, h4, -⟩ := h
  refine ⟨eqM_trans h1 (eqM_mono ml_mr hM.1), ?_, h3, Nw_k h4 (fun k => hM.1.2.2.2.1 60 k (by unfold isMr; omega)), M0_self hM⟩
  rw [hM.1.2.2.2.1 33 36 (by unfold isMr; omega)]; exact h2
theorem ML_w {k : Nat} {x : Int32} (hk : 2 * E.length ≤ k) (h : ML H bf N s v o E H1) : ML H bf N s v o E (sI H1 60 k x) := by
  obtain ⟨h1, h2, h3, h4, h5⟩ := h
  refine ⟨eqM_sI h1 (Or.inr (Or.inr rfl)), by rw [hI_sI', if_neg (by omega)]; exact h2, h3, fun i hi => ?_, M0_w (Or.inl rfl) h5⟩
  rw [hI_sI', if_neg (by omega), hI_sI', if_neg (by omega)]
  exact h4 i hi
theorem ML_new {e : Nat × Nat} (h : ML H bf N s v o E H1) (hl : E.length < 10) (h1 : hI H1 60 (2 * E.length) = nI (stA E E.length)) (h2 : hI H1 60 (2 * E.length + 1) = nI e.1) : ML H bf N s v o (E ++ [e]) (sI H1 33 36 (nI (E.length + 1))) := by
  obtain ⟨h3, h4, h5, h6, h7⟩ := h
  refine ⟨eqM_sI h3 (Or.inr (Or.inl ⟨rfl, rfl⟩)), by rw [hI_sI', if_pos ⟨rfl, rfl⟩, List.length_append]; rfl, by rw [List.length_append]; show E.length + 1 ≤ 10; omega, fun i hi => ?_, M0_w (Or.inr ⟨rfl, rfl⟩) h7⟩
  rw [List.length_append] at hi
  have hi' : i < E.length + 1 := hi
  rw [hI_sI', if_neg (by omega), hI_sI', if_neg (by omega), stA_app (by omega), getD_app]
  by_cases q : i < E.length
  · rw [if_pos q]; exact h6 i q
  · have : i = E.length := by omega
    subst this
    rw [if_neg q, if_pos rfl]; exact ⟨h1, h2⟩
/-- wrong, and -1 -/
theorem l_prW {f : FT} {l1 : Option Value} (hF : Fix H) (h : eqM isMl H H1) (hM : M0 H1 bf N s v o H1) (hf : f = (if tkA bf N s = 8 then 1 else 2, s)) (hq : ∀ H', MLB H f H' → Q (some (.int (-1))) H') : Wp mX12_prices (d + 5) 0 0 92 [some (.ref 33), l1] [] H1 Q := by
  have hF1 := Fix_eqM h hF
  have tail : ∀ H', MB H1 f H' → Wp mX12_prices (d + 5) 0 0 97 [some (.ref 33), l1] [] H' Q := by
    intro H' hb'
    have hF2 := Fix_eqM hb'.1 hF1
    have q41 := hb'.2.1
    have q1 := hb'.2.2.1
    have q3 := hb'.2.2.2.1
    refine wp_aload_n dX12_prices_97 rfl ?_
    refine wp_geti dX12_prices_98 fl_RX12_250 rfl (fk_33 hF2) ?_
    rw [q41]
    refine wp_if_le (tgt := 106) dX12_prices_101 (by decide) (fun h101 => absurd h101 (nI_nle (by omega) (by omega))) (fun _ => ?_)
    refine wp_iconst (v := -1) dX12_prices_104 (by decide) ?_
    refine wp_ireturn rfl dX12_prices_105 ?_
    exact hq H' (MLB_of h hb')
  refine wp_aload_n dX12_prices_92 rfl ?_
  refine wp_iconst (v := 2) dX12_prices_93 (by decide) ?_
  refine wp_callv1 (ci := 12) dX12_prices_94 lk_RX12_308 ok_X12_wrong im_X12_wrong se_X12_wrong rfl rfl (fk_33 hF1) (Nat.le_of_ble_eq_true rfl) (Nat.le_of_ble_eq_true rfl) ?_
  refine c_wrong0 (k := 2) (by decide) (by decide) hF1 hM (fun H' hb' => ?_)
  rw [← hf] at hb'
  exact tail H' hb'
/-- a token that can't be, where a line is due -/
theorem l_prBad {l1 : Option Value} (hF : Fix H) (h : eqM isMl H H1) (hM : M0 H1 bf N s v o H1) (h8 : tkA bf N s = 8) (hq : ∀ H', MLB H (1, s) H' → Q (some (.int (-1))) H') : Wp mX12_prices (d + 5) 0 0 47 [some (.ref 33), l1] [] H1 Q := by
  have hF1 := Fix_eqM h hF
  have hB := hM.2.1.1
  have h45 := hM.2.2.1.1
  have h41 := hM.2.2.2.2.2.2.2.1
  have hs3 := (tk_srt hB (s := s)).2.1.mp h8
  obtain ⟨w1, w2, -⟩ := wd_is (s := s) hB
  have go := fun l1 => l_prW (l1 := l1) (f := (1, s)) (d := d) hF h hM (by rw [if_pos h8]) hq
  refine wp_aload_n dX12_prices_47 rfl ?_
  refine wp_geti dX12_prices_48 fl_RX12_250 rfl (fk_33 hF1) ?_
  rw [h41]
  refine wp_if_ne (tgt := 195) dX12_prices_51 (by decide) (fun h51 => absurd h51 (fun q => q rfl)) (fun _ => ?_)
  refine wp_aload_n dX12_prices_54 rfl ?_
  refine wp_geti dX12_prices_55 fl_RX12_238 rfl (fk_33 hF1) ?_
  rw [h45, hs3]
  refine wp_if_eq (tgt := 195) dX12_prices_58 (by decide) (fun h58 => absurd h58 (by decide)) (fun _ => ?_)
  refine wp_aload_n dX12_prices_61 rfl ?_
  refine wp_ldc2_w dX12_prices_62 co_RX12_300 ?_
  refine wp_callv1 (ci := 12) dX12_prices_65 lk_RX12_286 ok_X12_isWord im_X12_isWord se_X12_isWord rfl rfl (fk_33 hF1) (Nat.le_of_ble_eq_true rfl) (Nat.le_of_ble_eq_true rfl) ?_
  refine c_isWord0 hF1 hM ?_
  refine wp_istore_n dX12_prices_68 (by decide) ?_
  refine wp_iload_n dX12_prices_69 rfl ?_
  refine wp_ifb_ne (tgt := 83) dX12_prices_70 (by decide) (fun h70 => absurd h70 (fun q => by have := w1.mp q; omega)) (fun _ => ?_)
  refine wp_aload_n dX12_prices_73 rfl ?_
  refine wp_ldc2_w dX12_prices_74 co_RX12_284 ?_
  refine wp_callv1 (ci := 12) dX12_prices_77 lk_RX12_286 ok_X12_isWord im_X12_isWord se_X12_isWord rfl rfl (fk_33 hF1) (Nat.le_of_ble_eq_true rfl) (Nat.le_of_ble_eq_true rfl) ?_
  refine c_isWord0 hF1 hM ?_
  refine wp_ifb_eq (tgt := 92) dX12_prices_80 (by decide) (fun _ => ?_) (fun h80 => absurd h80 (fun q => by have := w2.mp q; omega))
  exact go _
end MLi
