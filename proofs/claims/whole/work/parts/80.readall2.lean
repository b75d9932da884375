/-! ===== CarriageHire$PriceReader: readAll ===== -/
/-- n cells more, the old ones as they were -/
def gro (H H' : PH) (n : Nat) : Prop := hN H' = hN H + n ∧ ∀ a, a ≤ hN H → hK H' a = hK H a ∧ hI H' a = hI H a ∧ hL H' a = hL H a ∧ hR H' a = hR H a
theorem gro_nC {H : PH} {k n : Nat} : gro H (nC H k n) 1 := ⟨rfl, fun a ha => ⟨hK_nC' ha, by rw [hI_nC, u1_ne (by omega)], by rw [hL_nC, u1_ne (by omega)], by rw [hR_nC, u1_ne (by omega)]⟩⟩
theorem gro_row {H H1 : PH} {n a : Nat} {f : Nat → Int32} (h : gro H H1 n) (ha : hN H < a) : gro H (sRow H1 a f) n := ⟨h.1, fun a' ha' => ⟨(h.2 a' ha').1, by rw [hI_sRow, u1_ne (by omega)]; exact (h.2 a' ha').2.1, (h.2 a' ha').2.2.1, (h.2 a' ha').2.2.2⟩⟩
theorem gro_trans {H H1 H2 : PH} {n k : Nat} (h : gro H H1 n) (h' : gro H1 H2 k) : gro H H2 (n + k) := ⟨by rw [h'.1, h.1]; omega, fun a ha => by
  have h1 := h.2 a ha
  have h2 := h'.2 a (by rw [h.1]; omega)
  exact ⟨h2.1.trans h1.1, h2.2.1.trans h1.2.1, h2.2.2.1.trans h1.2.2.1, h2.2.2.2.trans h1.2.2.2⟩⟩
theorem gro_sR {H H1 : PH} {n a k : Nat} {v : Option Nat} (h : gro H H1 n) (ha : hN H < a) : gro H (sR H1 a k v) n := ⟨h.1, fun a' ha' => ⟨(h.2 a' ha').1, (h.2 a' ha').2.1, (h.2 a' ha').2.2.1, by rw [hR_sR, u2_row (by omega)]; exact (h.2 a' ha').2.2.2⟩⟩
theorem Fix_gro {H H' : PH} {n : Nat} (h : gro H H' n) (hF : Fix H) : Fix H' := by
  have h69 := hF.2.2
  refine ⟨fun e he => ?_, fun e he => ?_, by rw [h.1]; omega⟩
  · have := fixK_lt e he
    rw [(h.2 e.1 (by omega)).1]; exact hF.1 e he
  · have := fixR_lt e he
    rw [(h.2 e.1.1 (by omega)).2.2.2]; exact hF.2.1 e he
def PRn (bf : Nat → Int32) (N : Nat) (r : FT ⊕ (OL × List (Nat × Nat))) : Prop := (tkA bf N (sk bf N 0) = 8 ∧ r = .inl (1, sk bf N 0)) ∨ (tkA bf N (sk bf N 0) ≠ 8 ∧ LnR bf N 12 0 (sk bf N 0) 0 [] [] r)
section RA
variable {d : Nat} {bf : Nat → Int32} {N : Nat} {H : PH} {Q : Option Value → PH → Prop}
/-- the new list of PRICES -/
def newPL (H1 : PH) (o : OL) (E : List (Nat × Nat)) (H' : PH) : Prop := gro H1 H' 4 ∧ PL H' (hN H1 + 1) (hN H1 + 2) (hN H1 + 3) (hN H1 + 4) o.length E.length ∧ (∀ i x, o[i]? = some x → hI H' (hN H1 + 2) i = encC x) ∧ ∀ i x, E[i]? = some x → hI H' (hN H1 + 3) i = nI x.1 ∧ hI H' (hN H1 + 4) i = nI x.2
theorem l_X6_readAll3 {ln s v : Nat} {o : OL} {E : List (Nat × Nat)} {H1 : PH} {i : Int32} (hF : Fix H) (hL : CL H bf N ln s v o E H1) (hq : ∀ H', newPL H1 o E H' → Q (some (.ref (hN H1 + 1))) H') : Wp mX6_readAll (d + 60) 4 623 68 [some (.ref 16), some (.int i)] [] H1 Q := by
  obtain ⟨hx, h5, hlE, hl10, hE, hC, hol⟩ := hL
  have hF1 : Fix H1 := Fix_eqX hx hF
  have hbd := CR_bd hC
  have hf0 := hC.2.2.1.2.2.2.2
  have hcc := hC.2.2.2.2.2.2.2.1
  have h69 : 69 ≤ hN H1 := hF1.2.2
  -- behind the third row
  have fin : ∀ (Hd : PH), gro H1 Hd 4 → hK Hd (hN H1 + 1) = (6, 3) → hK Hd (hN H1 + 2) = (20, o.length) → hK Hd (hN H1 + 3) = (20, ln) → hK Hd (hN H1 + 4) = (20, ln) → (∀ j, j < o.length → hI Hd (hN H1 + 2) j = hI H1 17 j) → (∀ j, j < ln → hI Hd (hN H1 + 3) j = hI H1 18 j) → (∀ j, j < ln → hI Hd (hN H1 + 4) j = hI H1 19 j) → Wp mX6_readAll (d + 60) 0 0 114 [some (.ref 16), some (.int i)] [.ref (hN H1 + 4), .ref (hN H1 + 3), .ref (hN H1 + 2), .ref (hN H1 + 1), .ref (hN H1 + 1)] Hd Q := by
    intro Hd g k1 k2 k3 k4 e1 e2 e3
    refine wp_calli3 dX6_readAll_114 lk_RX6_61 ok_X5_init rfl im_X5_init rfl (Nat.le_of_ble_eq_true rfl) (Nat.le_of_ble_eq_true rfl) ?_
    refine c_X5_init (d := d + 58) k1 ?_
    refine wp_areturn (r := some _) rfl (by simp) dX6_readAll_117 ?_
    refine hq _ ⟨gro_sR (gro_sR (gro_sR g (by omega)) (by omega)) (by omega), ⟨k1, ?_, ?_, ?_, k2, by rw [← hlE]; exact k3, by rw [← hlE]; exact k4⟩, fun j x hj => ?_, fun j x hj => ?_⟩
    · rw [hR_sR, u2_ne2 (by omega), hR_sR, u2_ne2 (by omega), hR_sR, u2_eq]
    · rw [hR_sR, u2_ne2 (by omega), hR_sR, u2_eq]
    · rw [hR_sR, u2_eq]
    · have hjl : j < o.length := (List.getElem?_eq_some_iff.mp hj).1
      show hI Hd (hN H1 + 2) j = _
      rw [e1 j hjl]; exact hC.2.2.2.2.2.2.2.2.1 j x hj
    · have hjl : j < E.length := (List.getElem?_eq_some_iff.mp hj).1
      show hI Hd (hN H1 + 3) j = _ ∧ hI Hd (hN H1 + 4) j = _
      rw [e2 j (by omega), e3 j (by omega)]; exact hE j x hj
  have third : ∀ (Hc : PH), gro H1 Hc 3 → hK Hc (hN H1 + 1) = (6, 3) → hK Hc (hN H1 + 2) = (20, o.length) → hK Hc (hN H1 + 3) = (20, ln) → (∀ j, j < o.length → hI Hc (hN H1 + 2) j = hI H1 17 j) → (∀ j, j < ln → hI Hc (hN H1 + 3) j = hI H1 18 j) → Wp mX6_readAll (d + 60) 1 ln 103 [some (.ref 16), some (.int i)] [.ref (hN H1 + 3), .ref (hN H1 + 2), .ref (hN H1 + 1), .ref (hN H1 + 1)] Hc Q := by
    intro Hc g k1 k2 k3 e1 e2
    have hFc := Fix_gro g hF1
    refine wp_aload_n dX6_readAll_103 rfl ?_
    refine wp_geta dX6_readAll_104 fl_RX6_18 rfl (fk_16 hFc) (fr_16_3 hFc) ?_
    refine wp_aload_n dX6_readAll_107 rfl ?_
    refine wp_geti dX6_readAll_108 fl_RX6_32 rfl (fk_16 hFc) ?_
    rw [show hI Hc 16 5 = nI ln from (by rw [(g.2 16 (by omega)).2.1]; exact h5)]
    have h := wp_calls2n (y := mX6_readAll) (d := d + 59) (kc := 0) (ks := 0) (mc := 1) (ms := ln) (lo := [some (.ref 16), some (.int i)]) (st := [.ref (hN H1 + 3), .ref (hN H1 + 2), .ref (hN H1 + 1), .ref (hN H1 + 1)]) (H := Hc) (Q := Q) (v1 := .ref 19) (v2 := .int (nI ln)) dX6_readAll_111 lk_RX6_55 ok_J7_copyOf_59c91 st_J7_copyOf_59c91 (Nat.le_of_ble_eq_true rfl) (Nat.le_of_ble_eq_true rfl) (c_copyOf (d := d + 58) (N := 10) (fk_19 hFc) (by rw [g.1]; omega) (by omega) (by decide) (fun f hf => by
      have gg : gro Hc (sRow (nC Hc 20 ln) (hN Hc + 1) f) 1 := gro_row gro_nC (by omega)
      have hN4 : hN Hc + 1 = hN H1 + 4 := by rw [g.1]
      have q : ∀ a, a ≤ hN H1 + 3 → hK (sRow (nC Hc 20 ln) (hN Hc + 1) f) a = hK Hc a ∧ hI (sRow (nC Hc 20 ln) (hN Hc + 1) f) a = hI Hc a := fun a ha => ⟨(gg.2 a (by rw [g.1]; exact ha)).1, (gg.2 a (by rw [g.1]; exact ha)).2.1⟩
      show Wp mX6_readAll (d + 60) 0 0 114 [some (.ref 16), some (.int i)] [.ref (hN Hc + 1), .ref (hN H1 + 3), .ref (hN H1 + 2), .ref (hN H1 + 1), .ref (hN H1 + 1)] _ Q
      have h9 := fin _ (gro_trans g gg) (by rw [(q _ (by omega)).1]; exact k1) (by rw [(q _ (by omega)).1]; exact k2) (by rw [(q _ (by omega)).1]; exact k3) (by rw [← hN4, hK_sRow, hK_nC, u1_eq]) (fun j hj => by rw [(q _ (by omega)).2]; exact e1 j hj) (fun j hj => by rw [(q _ (by omega)).2]; exact e2 j hj) (fun j hj => by rw [← hN4, hI_sRow, u1_eq, hf j hj, (g.2 19 (by omega)).2.1])
      rw [hN4] at h9 ⊢
      exact h9))
    rw [Nat.zero_add, Nat.zero_add] at h
    exact h
  have secnd : ∀ (Hb : PH), gro H1 Hb 2 → hK Hb (hN H1 + 1) = (6, 3) → hK Hb (hN H1 + 2) = (20, o.length) → (∀ j, j < o.length → hI Hb (hN H1 + 2) j = hI H1 17 j) → Wp mX6_readAll (d + 60) 2 (ln + ln) 92 [some (.ref 16), some (.int i)] [.ref (hN H1 + 2), .ref (hN H1 + 1), .ref (hN H1 + 1)] Hb Q := by
    intro Hb g k1 k2 e1
    have hFc := Fix_gro g hF1
    refine wp_aload_n dX6_readAll_92 rfl ?_
    refine wp_geta dX6_readAll_93 fl_RX6_15 rfl (fk_16 hFc) (fr_16_2 hFc) ?_
    refine wp_aload_n dX6_readAll_96 rfl ?_
    refine wp_geti dX6_readAll_97 fl_RX6_32 rfl (fk_16 hFc) ?_
    rw [show hI Hb 16 5 = nI ln from (by rw [(g.2 16 (by omega)).2.1]; exact h5)]
    exact wp_calls2n (y := mX6_readAll) (d := d + 59) (kc := 1) (ks := ln) (mc := 1) (ms := ln) (lo := [some (.ref 16), some (.int i)]) (st := [.ref (hN H1 + 2), .ref (hN H1 + 1), .ref (hN H1 + 1)]) (H := Hb) (Q := Q) (v1 := .ref 18) (v2 := .int (nI ln)) dX6_readAll_100 lk_RX6_55 ok_J7_copyOf_59c91 st_J7_copyOf_59c91 (Nat.le_of_ble_eq_true rfl) (Nat.le_of_ble_eq_true rfl) (c_copyOf (d := d + 58) (N := 10) (fk_18 hFc) (by rw [g.1]; omega) (by omega) (by decide) (fun f hf => by
      have gg : gro Hb (sRow (nC Hb 20 ln) (hN Hb + 1) f) 1 := gro_row gro_nC (by omega)
      have hN4 : hN Hb + 1 = hN H1 + 3 := by rw [g.1]
      have q : ∀ a, a ≤ hN H1 + 2 → hK (sRow (nC Hb 20 ln) (hN Hb + 1) f) a = hK Hb a ∧ hI (sRow (nC Hb 20 ln) (hN Hb + 1) f) a = hI Hb a := fun a ha => ⟨(gg.2 a (by rw [g.1]; exact ha)).1, (gg.2 a (by rw [g.1]; exact ha)).2.1⟩
      show Wp mX6_readAll (d + 60) 1 ln 103 [some (.ref 16), some (.int i)] [.ref (hN Hb + 1), .ref (hN H1 + 2), .ref (hN H1 + 1), .ref (hN H1 + 1)] _ Q
      have h9 := third _ (gro_trans g gg) (by rw [(q _ (by omega)).1]; exact k1) (by rw [(q _ (by omega)).1]; exact k2) (by rw [← hN4, hK_sRow, hK_nC, u1_eq]) (fun j hj => by rw [(q _ (by omega)).2]; exact e1 j hj) (fun j hj => by rw [← hN4, hI_sRow, u1_eq, hf j hj, (g.2 18 (by omega)).2.1])
      rw [hN4] at h9 ⊢
      exact h9))
  have first' : Wp mX6_readAll (d + 60) 3 (ln + ln + o.length) 80 [some (.ref 16), some (.int i)] [.ref (hN H1 + 1)] (nC H1 6 3) Q := by
    have g1 : gro H1 (nC H1 6 3) 1 := gro_nC
    have hFa := Fix_gro g1 hF1
    refine wp_dup dX6_readAll_80 rfl ?_
    refine wp_aload_n dX6_readAll_81 rfl ?_
    refine wp_geta dX6_readAll_82 fl_RX6_9 rfl (fk_16 hFa) (fr_16_1 hFa) ?_
    refine wp_aload_n dX6_readAll_85 rfl ?_
    refine wp_geti dX6_readAll_86 fl_RX6_29 rfl (fk_16 hFa) ?_
    rw [show hI (nC H1 6 3) 16 4 = nI o.length from (by rw [(g1.2 16 (by omega)).2.1]; exact hcc)]
    exact wp_calls2n (y := mX6_readAll) (d := d + 59) (kc := 2) (ks := ln + ln) (mc := 1) (ms := o.length) (lo := [some (.ref 16), some (.int i)]) (st := [.ref (hN H1 + 1), .ref (hN H1 + 1)]) (H := nC H1 6 3) (Q := Q) (v1 := .ref 17) (v2 := .int (nI o.length)) dX6_readAll_89 lk_RX6_55 ok_J7_copyOf_59c91 st_J7_copyOf_59c91 (Nat.le_of_ble_eq_true rfl) (Nat.le_of_ble_eq_true rfl) (c_copyOf (d := d + 58) (N := 600) (fk_17 hFa) (by rw [g1.1]; omega) (by omega) (by decide) (fun f hf => by
      have gg : gro (nC H1 6 3) (sRow (nC (nC H1 6 3) 20 o.length) (hN (nC H1 6 3) + 1) f) 1 := gro_row gro_nC (by omega)
      have hN4 : hN (nC H1 6 3) + 1 = hN H1 + 2 := rfl
      have q : ∀ a, a ≤ hN H1 + 1 → hK (sRow (nC (nC H1 6 3) 20 o.length) (hN (nC H1 6 3) + 1) f) a = hK (nC H1 6 3) a := fun a ha => (gg.2 a (by rw [g1.1]; exact ha)).1
      show Wp mX6_readAll (d + 60) 2 (ln + ln) 92 [some (.ref 16), some (.int i)] [.ref (hN (nC H1 6 3) + 1), .ref (hN H1 + 1), .ref (hN H1 + 1)] _ Q
      exact secnd _ (gro_trans g1 gg) (by rw [q _ (by omega), hK_nC, u1_eq]) (by rw [← hN4, hK_sRow, hK_nC, u1_eq]) (fun j hj => by rw [← hN4, hI_sRow, u1_eq, hf j hj, (g1.2 17 (by omega)).2.1])))
  refine wp_room (kc := 3 + 1) (ks := ln + ln + o.length + 3) (by omega) (by omega) ?_
  refine wp_aload_n dX6_readAll_68 rfl ?_
  refine wp_geti dX6_readAll_69 fl_RX6_41 rfl (fk_16 hF1) ?_
  rw [hf0]
  refine wp_if_eq (tgt := 77) dX6_readAll_72 (by decide) (fun _ => ?_) (fun q => absurd rfl q)
  refine wp_new (kc := 3) (ks := ln + ln + o.length) (ci := 5) (q := (RX5, TX5, 3)) dX6_readAll_77 rfl cl_RX6_53 ?_
  exact first'
theorem l_X6_readAllB {f : FT} {H1 : PH} {i : Nat} (hF : Fix H) (hb : CLB H f H1) (hq : ∀ H', CLB H f H' → Q (some .null) H') : Wp mX6_readAll (d + 60) 4 623 36 [some (.ref 16), some (.int (nI i))] [] H1 Q := by
  have hF1 : Fix H1 := Fix_eqX hb.1 hF
  have t8 := hb.2.2.2.2.2
  have hk : hI H1 16 11 = nI f.1 := hb.2.1
  have h1 := hb.2.2.1
  have h3 := hb.2.2.2.1
  have fin : Wp mX6_readAll (d + 60) 4 623 68 [some (.ref 16), some (.int (nI i))] [] H1 Q := by
    refine wp_aload_n dX6_readAll_68 rfl ?_
    refine wp_geti dX6_readAll_69 fl_RX6_41 rfl (fk_16 hF1) ?_
    rw [hk]
    refine wp_if_eq (tgt := 77) dX6_readAll_72 (by decide) (fun h72 => absurd h72 (nI_ne0 (by omega) (by omega))) (fun _ => ?_)
    refine wp_aconst_null dX6_readAll_75 ?_
    refine wp_areturn (r := none) rfl (by simp) dX6_readAll_76 ?_
    exact hq H1 hb
  refine wp_iload_n dX6_readAll_36 rfl ?_
  refine wp_bipush (v := 10) dX6_readAll_37 (by decide) ?_
  refine wp_icmp_gt (tgt := 68) dX6_readAll_39 (by decide) (fun h39 => ?_) (fun h39 => ?_)
  · exact fin
  · refine wp_aload_n dX6_readAll_42 rfl ?_
    refine wp_geti dX6_readAll_43 fl_RX6_47 rfl (fk_16 hF1) ?_
    rw [t8]
    refine wp_if_eq (tgt := 68) dX6_readAll_46 (by decide) (fun h46 => ?_) (fun h46 => ?_)
    · exact fin
    · refine wp_aload_n dX6_readAll_49 rfl ?_
      refine wp_geti dX6_readAll_50 fl_RX6_47 rfl (fk_16 hF1) ?_
      rw [t8]
      refine wp_bipush (v := 8) dX6_readAll_53 (by decide) ?_
      refine wp_icmp_eq (tgt := 68) dX6_readAll_55 (by decide) (fun _ => ?_) (fun h55 => absurd h55 (fun q => q rfl))
      exact fin
theorem l_X6_readAll2 (hF : Fix H) (hq1 : ∀ f H', PRn bf N (.inl f) → CLB H f H' → Q (some .null) H') (hq2 : ∀ ln s v o E H1 H', PRn bf N (.inr (o, E)) → CL H bf N ln s v o E H1 → newPL H1 o E H' → Q (some (.ref (hN H1 + 1))) H') :
    ∀ (f ln s v : Nat) (o : OL) (E : List (Nat × Nat)) (H1 : PH), 11 - ln = f → CL H bf N ln s v o E H1 → (∀ r, LnR bf N (f + 1) ln s v o E r → PRn bf N r) → Wp mX6_readAll (d + 60) 4 623 36 [some (.ref 16), some (.int (nI ln))] [] H1 Q := by
  intro f
  induction f with
  | zero => intro ln s v o E H1 hf hL; have := hL.2.2.2.1; omega
  | succ f ih =>
    intro ln s v o E H1 hf hL hk
    have hF1 : Fix H1 := Fix_eqX hL.1 hF
    have hC := hL.2.2.2.2.2.1
    have tk := hC.2.2.1.2.1
    have hB := hC.2.1.1
    have hl10 := hL.2.2.2.1
    by_cases h0 : tkA bf N s = 0
    · have fin := l_X6_readAll3 (d := d) (i := nI ln) (Q := Q) hF hL (fun H' hn => hq2 ln s v o E H1 H' (hk _ (Or.inl ⟨h0, rfl⟩)) hL hn)
      refine wp_iload_n dX6_readAll_36 rfl ?_
      refine wp_bipush (v := 10) dX6_readAll_37 (by decide) ?_
      refine wp_icmp_gt (tgt := 68) dX6_readAll_39 (by decide) (fun h39 => absurd h39 (nI_nlt (a := 10) (b := ln) hl10 (by decide))) (fun _ => ?_)
      refine wp_aload_n dX6_readAll_42 rfl ?_
      refine wp_geti dX6_readAll_43 fl_RX6_47 rfl (fk_16 hF1) ?_
      rw [tk, h0]
      refine wp_if_eq (tgt := 68) dX6_readAll_46 (by decide) (fun _ => ?_) (fun h46 => absurd h46 (fun q => q rfl))
      exact fin
    · have go : ∀ H', Fix H' → Wp mX6_readAll (d + 60) 4 623 36 [some (.ref 16), some (.int (nI (ln + 1)))] [] H' Q → Wp mX6_readAll (d + 60) 4 623 62 [some (.ref 16), some (.int (nI ln))] [] H' Q := by
        intro H' hF2 h9
        refine wp_incN dX6_readAll_62 rfl (by decide) ?_
        refine wp_goto (tgt := 36) dX6_readAll_65 (by decide) ?_
        exact h9
      have hrl := c_X6_readLine (d := d + 1) (ln := ln) (Q := fun _ H' => Wp mX6_readAll (d + 60) 4 623 62 [some (.ref 16), some (.int (nI ln))] [] H' Q) hF hL h0 (fun s' v' o' e H' hs hL' => go H' (Fix_eqX hL'.1 hF) (ih (ln + 1) s' v' o' (E ++ [e]) H' (by omega) hL' (fun r hr => hk r (Or.inr ⟨h0, _, hs, Or.inr ⟨s', v', o', e, rfl, hr⟩⟩)))) (fun f' H' hs hb => go H' (Fix_eqX hb.1 hF) (l_X6_readAllB (d := d) (i := ln + 1) hF hb (fun H'' hb'' => hq1 f' H'' (hk _ (Or.inr ⟨h0, _, hs, Or.inl ⟨f', rfl, rfl⟩⟩)) hb'')))
      refine wp_iload_n dX6_readAll_36 rfl ?_
      refine wp_bipush (v := 10) dX6_readAll_37 (by decide) ?_
      refine wp_icmp_gt (tgt := 68) dX6_readAll_39 (by decide) (fun h39 => absurd h39 (nI_nlt (a := 10) (b := ln) hl10 (by decide))) (fun _ => ?_)
      refine wp_aload_n dX6_readAll_42 rfl ?_
      refine wp_geti dX6_readAll_43 fl_RX6_47 rfl (fk_16 hF1) ?_
      rw [tk]
      refine wp_if_eq (tgt := 68) dX6_readAll_46 (by decide) (fun h46 => absurd h46 (fun q => h0 ((tkI hB (k := 0) (by decide)).mp q))) (fun _ => ?_)
      refine wp_aload_n dX6_readAll_49 rfl ?_
      refine wp_geti dX6_readAll_50 fl_RX6_47 rfl (fk_16 hF1) ?_
      rw [tk]
      refine wp_bipush (v := 8) dX6_readAll_53 (by decide) ?_
      refine wp_icmp_eq (tgt := 68) dX6_readAll_55 (by decide) (fun h55 => absurd h55 (fun q => hC.2.2.2.2.1 ((tkI hB (k := 8) (by decide)).mp q))) (fun _ => ?_)
      refine wp_aload_n dX6_readAll_58 rfl ?_
      refine wp_callv0 (ci := 6) dX6_readAll_59 lk_RX6_50 ok_X6_readLine im_X6_readLine se_X6_readLine rfl rfl (fk_16 hF1) (Nat.le_of_ble_eq_true rfl) (Nat.le_of_ble_eq_true rfl) ?_
      refine wp_post (fun v H' h => ?_) (wp_typed hrl)
      obtain ⟨h, i, hi⟩ := h
      have hvn : v = none := by
        rcases hi with ⟨-, g, -⟩ | ⟨x, g, -⟩ | ⟨x, g, -⟩ | ⟨x, g, -⟩ | ⟨r, t, g, -⟩
        · exact g
        · cases g
        · cases g
        · cases g
        · cases g
      subst hvn
      exact h
theorem c_X6_readAll (hF : Fix H) (hT : CTp H bf N) (hq1 : ∀ f H', PRn bf N (.inl f) → CLB H f H' → Q (some .null) H') (hq2 : ∀ ln s v o E H1 H', PRn bf N (.inr (o, E)) → CL H bf N ln s v o E H1 → newPL H1 o E H' → Q (some (.ref (hN H1 + 1))) H') : Wp mX6_readAll (d + 60) 4 623 0 [some (.ref 16), none] [] H Q := by
  let Hs := sI (sI (sI (sI (sI (sI H 16 4 0) 16 5 0) 16 6 0) 16 7 0) 16 11 0) 16 12 (-1)
  have hs : eqX isRl H Hs := eqX_sI (eqX_sI (eqX_sI (eqX_sI (eqX_sI (eqX_sI eqX_rfl (Or.inl rfl)) (Or.inl rfl)) (Or.inl rfl)) (Or.inl rfl)) (Or.inl rfl)) (Or.inl rfl)
  have hFs : Fix Hs := Fix_eqX hs hF
  have q16 : ∀ a k, a ≠ 16 → hI Hs a k = hI H a k := fun a k ha => by
    show hI (sI (sI (sI (sI (sI (sI H 16 4 0) 16 5 0) 16 6 0) 16 7 0) 16 11 0) 16 12 (-1)) a k = _
    simp only [hI_sI', ha, false_and, ↓reduceIte]
  have hTs : CTp Hs bf N := ⟨hT.1, by rw [q16 14 1 (by decide)]; exact hT.2.1, fun j hj => by rw [q16 15 j (by decide)]; exact hT.2.2 j hj⟩
  have okk : tkA bf N (sk bf N 0) ≠ 8 → ∀ H2, eqX is16 Hs H2 → cTok bf N (sk bf N 0) H2 → hI H2 16 12 = hI Hs 16 12 → Wp mX6_readAll (d + 60) 4 623 36 [some (.ref 16), some (.int (nI 0))] [] H2 Q := by
    intro h8 H2 he ht h12
    have k2 : ∀ k, k < 7 → hI H2 16 k = hI Hs 16 k := fun k hk => he.2.2.2.2 16 k (by unfold is16; omega)
    have hL : CL H bf N 0 (sk bf N 0) 0 [] [] H2 := ⟨eqX_trans hs (eqX_mono (fun a k q => Or.inl q.1) he), by rw [k2 5 (by decide)]; rfl, rfl, by decide, fun i x hi => by simp at hi, ⟨eqX_rfl, CTp_16 he hTs, ht, (sk_bd (Nat.zero_le _)).2, h8, by rw [k2 6 (by decide)]; rfl, by decide, by rw [k2 4 (by decide)]; rfl, fun i x hi => by simp at hi, by rw [h12]; rfl⟩, Nat.zero_le _⟩
    exact l_X6_readAll2 hF hq1 hq2 11 0 _ 0 [] [] H2 rfl hL (fun r hr => Or.inr ⟨h8, hr⟩)
  have bad : tkA bf N (sk bf N 0) = 8 → ∀ H2, badT Hs (sk bf N 0) 1 H2 → Wp mX6_readAll (d + 60) 4 623 36 [some (.ref 16), some (.int (nI 0))] [] H2 Q := by
    intro h8 H2 hb
    exact l_X6_readAllB hF (f := (1, sk bf N 0)) ⟨eqX_trans hs (eqX_mono (fun a k q => Or.inl q.1) hb.1), hb.2.1, Nat.le_refl 1, (show 1 ≤ 3 by decide), hb.2.2.1, hb.2.2.2⟩ (fun H' hb' => hq1 _ H' (Or.inl ⟨h8, rfl⟩) hb')
  have rest : Wp mX6_readAll (d + 60) 4 623 30 [some (.ref 16), none] [] Hs Q := by
    refine wp_aload_n dX6_readAll_30 rfl ?_
    refine wp_callv0 (ci := 6) dX6_readAll_31 lk_RX6_44 ok_X6_advance im_X6_advance se_X6_advance rfl rfl (fk_16 hFs) (Nat.le_of_ble_eq_true rfl) (Nat.le_of_ble_eq_true rfl) ?_
    refine wp_deep (d := 0 + 2) (by omega) (c_X6_advance (p := 0) hFs hTs (Nat.zero_le _) rfl rfl (fun h8 H2 he ht h12 => ?_) (fun h8 H2 hb => ?_))
    · refine wp_iconst (v := 0) dX6_readAll_34 (by decide) ?_
      refine wp_istore_n dX6_readAll_35 (by decide) ?_
      first
          | exact okk h8 H2 he ht h12
          | exact bad h8 H2 hb
    · refine wp_iconst (v := 0) dX6_readAll_34 (by decide) ?_
      refine wp_istore_n dX6_readAll_35 (by decide) ?_
      first
          | exact okk h8 H2 he ht h12
          | exact bad h8 H2 hb
  refine wp_aload_n dX6_readAll_0 rfl ?_
  refine wp_iconst (v := 0) dX6_readAll_1 (by decide) ?_
  refine wp_puti dX6_readAll_2 fl_RX6_29 (mp_6_4 _ _) rfl (fk_16 hF) ?_
  refine wp_aload_n dX6_readAll_5 rfl ?_
  refine wp_iconst (v := 0) dX6_readAll_6 (by decide) ?_
  refine wp_puti dX6_readAll_7 fl_RX6_32 (mp_6_5 _ _) rfl (fk_16 (Fix_sI hF)) ?_
  refine wp_aload_n dX6_readAll_10 rfl ?_
  refine wp_iconst (v := 0) dX6_readAll_11 (by decide) ?_
  refine wp_puti dX6_readAll_12 fl_RX6_35 (mp_6_6 _ _) rfl (fk_16 (Fix_sI (Fix_sI hF))) ?_
  refine wp_aload_n dX6_readAll_15 rfl ?_
  refine wp_iconst (v := 0) dX6_readAll_16 (by decide) ?_
  refine wp_puti dX6_readAll_17 fl_RX6_38 (mp_6_7 _ _) rfl (fk_16 (Fix_sI (Fix_sI (Fix_sI hF)))) ?_
  refine wp_aload_n dX6_readAll_20 rfl ?_
  refine wp_iconst (v := 0) dX6_readAll_21 (by decide) ?_
  refine wp_puti dX6_readAll_22 fl_RX6_41 (mp_6_11 _ _) rfl (fk_16 (Fix_sI (Fix_sI (Fix_sI (Fix_sI hF))))) ?_
  refine wp_aload_n dX6_readAll_25 rfl ?_
  refine wp_iconst (v := -1) dX6_readAll_26 (by decide) ?_
  refine wp_puti dX6_readAll_27 fl_RX6_21 (mp_6_12 _ _) rfl (fk_16 (Fix_sI (Fix_sI (Fix_sI (Fix_sI (Fix_sI hF)))))) ?_
  exact rest
end RA
