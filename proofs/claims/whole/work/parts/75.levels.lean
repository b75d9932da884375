/-! ===== CarriageHire$PriceReader: levels of an e ===== -/
/-- a level of the grammar reads as the machine goes -/
def SpG (H : PH) (bf : Nat → Int32) (N tm : Nat) (y : MD) (k : Nat) (nl : List (Option Value)) (p : Nat → Bool) (hp : List Nat → Prop) (cu : Nat → Nat → Prop) (C : Nat → List Nat → OL → Prop) (t : Nat) : Prop :=
  ∀ (W : List Nat) (u s v : Nat) (o : OL) (H1 : PH) (Q : Option Value → PH → Prop), deepW W + t = 8 → u ≠ 2 → cu u s → hp W → CR H bf N s v o H1 → o.length + W.length ≤ s →
  (∀ (s' v' : Nat) (o' : OL) (W2 : List Nat) (o2 : OL) (H' : PH), CR H bf N s' v' o' H' → o'.length + W.length ≤ s' → s ≤ s' → RT bf N tm (u, W, s, v, o) (.inr (2, W2, s', v', o2)) → stp p W2 o2 = stp p W o' → C s' W2 o2 → Q none H') →
  (∀ f H', RT bf N tm (u, W, s, v, o) (.inl f) → CB H f H' → Q none H') →
  Wp y (6 * t + k) 0 0 0 (some (.ref 16) :: some (.int (nI (deepW W))) :: nl) [] H1 Q
def cu1 (bf : Nat → Int32) (N u s : Nat) : Prop := u = 1 ∨ (u = 0 ∧ tkA bf N s ≠ 5)
def cu0 (u _ : Nat) : Prop := u = 0
def C0 (_ : Nat) (_ : List Nat) (_ : OL) : Prop := True
def CM (bf : Nat → Int32) (N s : Nat) (_ : List Nat) (_ : OL) : Prop := isMul (tkA bf N s) = false
def CP (bf : Nat → Int32) (N s : Nat) (_ : List Nat) (_ : OL) : Prop := isMul (tkA bf N s) = false ∧ isSum (tkA bf N s) = false
def C1 (bf : Nat → Int32) (N s : Nat) (W : List Nat) (o : OL) : Prop := isMul (tkA bf N s) = false ∧ isSum (tkA bf N s) = false ∧ (isCmp (tkA bf N s) = true → cmpT (stp (pS 46) W o).1 = true)
def CA (bf : Nat → Int32) (N s : Nat) (W : List Nat) (o : OL) : Prop := C1 bf N s W o ∧ tkA bf N s ≠ 4
def CE (bf : Nat → Int32) (N s : Nat) (W : List Nat) (o : OL) : Prop := CA bf N s W o ∧ tkA bf N s ≠ 3
abbrev SpU (H : PH) (bf : Nat → Int32) (N tm t : Nat) : Prop := SpG H bf N tm mX6_readUnit 4 [] (pS 50) (fun _ => True) (cu1 bf N) C0 t
abbrev SpT (H : PH) (bf : Nat → Int32) (N tm t : Nat) : Prop := SpG H bf N tm mX6_readTerm 5 [none, none] (pS 48) (tpN (pS 48)) (cu1 bf N) (CM bf N) t
abbrev SpP (H : PH) (bf : Nat → Int32) (N tm t : Nat) : Prop := SpG H bf N tm mX6_readSum 6 [none, none] (pS 46) (tpN (pS 46)) (cu1 bf N) (CP bf N) t
abbrev SpO (H : PH) (bf : Nat → Int32) (N tm t : Nat) : Prop := SpG H bf N tm mX6_readOne 7 [none] p1 (tpN (pS 43)) cu0 (C1 bf N) t
abbrev SpA (H : PH) (bf : Nat → Int32) (N tm t : Nat) : Prop := SpG H bf N tm mX6_readBoth 8 [none] pA (tpN pA) cu0 (CA bf N) t
abbrev SpE (H : PH) (bf : Nat → Int32) (N tm t : Nat) : Prop := SpG H bf N tm mX6_readEither 9 [none] (pS 0) (tpN (pS 0)) cu0 (CE bf N) t
section LV
variable {bf : Nat → Int32} {N tm t : Nat} {H : PH}
theorem go_ok {now : Nat} {W : List Nat} {s v : Nat} {o : OL} (h : tkA bf N (nxtT bf N s) ≠ 8) : goN (tkA bf N) (nxtT bf N) now W s v o = .inr (now, W, nxtT bf N s, v, o) := if_neg h
theorem go_bad {now : Nat} {W : List Nat} {s v : Nat} {o : OL} (h : tkA bf N (nxtT bf N s) = 8) : goN (tkA bf N) (nxtT bf N) now W s v o = .inl (1, nxtT bf N s) := if_pos h
theorem CR_bd {s v : Nat} {o : OL} {H1 : PH} (hC : CR H bf N s v o H1) : s ≤ N ∧ N ≤ 600 := ⟨hC.2.2.2.1, hC.2.1.1.1⟩
theorem bfN (b : Bool) : b = false ↔ ¬ b = true := by cases b <;> simp
theorem lr_term (hF : Fix H) (hU : SpU H bf N tm t) {W : List Nat} {u0 s0 v0 : Nat} {o0 : OL} {Q : Option Value → PH → Prop} (hTM : ∀ s, tkA bf N s = tm → isMul (tkA bf N s) = false ∧ isSum (tkA bf N s) = false ∧ isCmp (tkA bf N s) = false ∧ tkA bf N s ≠ 3 ∧ tkA bf N s ≠ 4) (hd : deepW W + t = 8) (hW : tpN (pS 48) W)
    (hq : ∀ (s' v' : Nat) (o' : OL) (W2 : List Nat) (o2 : OL) (H' : PH), CR H bf N s' v' o' H' → o'.length + W.length ≤ s' → s0 ≤ s' → RT bf N tm (u0, W, s0, v0, o0) (.inr (2, W2, s', v', o2)) → stp (pS 48) W2 o2 = stp (pS 48) W o' → CM bf N s' W2 o2 → Q none H') (hb : ∀ f H', RT bf N tm (u0, W, s0, v0, o0) (.inl f) → CB H f H' → Q none H') :
    ∀ (n s v mo : Nat) (o : OL) (W2 : List Nat) (o2 : OL) (H1 : PH), N - s ≤ n → mo ≤ s → CR H bf N s v o H1 → o.length + W.length ≤ s → s0 ≤ s → RT bf N tm (u0, W, s0, v0, o0) (.inr (2, W2, s, v, o2)) → stp (pS 48) W2 o2 = (W, o) →
    Wp mX6_readTerm (6 * t + 5) 0 0 7 [some (.ref 16), some (.int (nI (deepW W))), some (.int (nI mo)), none] [] H1 Q := by
  intro n
  induction n with
  | zero =>
    intro s v mo o W2 o2 H1 hn hmo hC hl hs hr hst
    have hF1 := CR_fix hF hC
    have tk := hC.2.2.1.2.1
    have hB := hC.2.1.1
    have hbd := CR_bd hC
    have hend : tkA bf N s = 0 := (tk_end hB (by omega)).2.1
    refine wp_iload_n dX6_readTerm_7 rfl ?_
    refine wp_sipush (v := 600) dX6_readTerm_8 (by decide) ?_
    refine wp_icmp_ge (tgt := 58) dX6_readTerm_11 (by decide) (fun h11 => ?_) (fun h11 => ?_)
    · refine wp_return rfl dX6_readTerm_58 ?_
      refine hq s v o W2 o2 H1 hC hl hs hr (by rw [hst, stp_N hW]) ?_
      unfold CM; rw [hend]; rfl
    · refine wp_aload_n dX6_readTerm_14 rfl ?_
      refine wp_geti dX6_readTerm_15 fl_RX6_47 rfl (fk_16 hF1) ?_
      rw [tk, hend]
      refine wp_bipush (v := 42) dX6_readTerm_18 (by decide) ?_
      refine wp_icmp_eq (tgt := 32) dX6_readTerm_20 (by decide) (fun h20 => absurd h20 (by decide)) (fun _ => ?_)
      refine wp_aload_n dX6_readTerm_23 rfl ?_
      refine wp_geti dX6_readTerm_24 fl_RX6_47 rfl (fk_16 hF1) ?_
      rw [tk, hend]
      refine wp_bipush (v := 47) dX6_readTerm_27 (by decide) ?_
      refine wp_icmp_ne (tgt := 58) dX6_readTerm_29 (by decide) (fun _ => ?_) (fun h29 => absurd h29 (by decide))
      refine wp_return rfl dX6_readTerm_58 ?_
      refine hq s v o W2 o2 H1 hC hl hs hr (by rw [hst, stp_N hW]) ?_
      unfold CM; rw [hend]; rfl
  | succ n ih =>
    intro s v mo o W2 o2 H1 hn hmo hC hl hs hr hst
    have hF1 := CR_fix hF hC
    have tk := hC.2.2.1.2.1
    have hB := hC.2.1.1
    have hbd := CR_bd hC
    by_cases hx : isMul (tkA bf N s) = true
    · have hx2 : tkA bf N s = 42 ∨ tkA bf N s = 47 := of_decide_eq_true hx
      obtain ⟨n1, n2, n3, n4⟩ := nxt_gt hB hbd.1 (by omega) (by omega)
      have hop : opc (tkA bf N s) = 48 ∨ opc (tkA bf N s) = 49 := by rcases hx2 with q | q <;> rw [q] <;> decide
      have hopp : pS 48 (opc (tkA bf N s)) = true := by rcases hop with q | q <;> rw [q] <;> decide
      have hopi : pS 50 (opc (tkA bf N s)) = false := by rcases hop with q | q <;> rw [q] <;> decide
      have hopN : isN (opc (tkA bf N s)) = false := by rcases hop with q | q <;> rw [q] <;> decide
      have hdW : deepW (opc (tkA bf N s) :: W) = deepW W := by show deepW W + (if isN (opc (tkA bf N s)) = true then 1 else 0) = _; rw [hopN]; rfl
      have hnt : ¬ trm (tkA bf N) tm (2, W2, s, v, o2) ∨ tkA bf N s = tm := by
        by_cases q : tkA bf N s = tm
        · exact Or.inr q
        · exact Or.inl (nt_tok q)
      have hstep : st1 (tkA bf N) (nxtT bf N) (itmT bf N) (unkT bf N) (2, W2, s, v, o2) = goN (tkA bf N) (nxtT bf N) 1 (opc (tkA bf N s) :: W) s v o := by
        rw [st1_B, stB]
        rw [if_neg (by rcases hx2 with q | q <;> rw [q] <;> decide), if_pos hx, hst]
      have hok : tkA bf N (nxtT bf N s) ≠ 8 → RT bf N tm (u0, W, s0, v0, o0) (.inr (1, opc (tkA bf N s) :: W, nxtT bf N s, v, o)) := fun h8 => RchE_trans hr (RchE_one (hnt.resolve_right (fun z => by rw [(hTM s z).1] at hx; cases hx)) (by rw [hstep]; exact go_ok h8))
      have hba : tkA bf N (nxtT bf N s) = 8 → RT bf N tm (u0, W, s0, v0, o0) (.inl (1, nxtT bf N s)) := fun h8 => RchE_trans hr (RchE_bad (hnt.resolve_right (fun z => by rw [(hTM s z).1] at hx; cases hx)) (by rw [hstep]; exact go_bad h8))
      have hen : encC (opc (tkA bf N s), 0) = -(nI (tkA bf N s)) := encC_op (Or.inr (Or.inl hx))
      have hlast : tkA bf N (nxtT bf N s) ≠ 8 → ∀ (s' v' : Nat) (o' : OL) (W3 : List Nat) (o3 : OL) (H3 : PH), CR H bf N s' v' o' H3 → o'.length + (opc (tkA bf N s) :: W).length ≤ s' → nxtT bf N s ≤ s' → RT bf N tm (1, opc (tkA bf N s) :: W, nxtT bf N s, v, o) (.inr (2, W3, s', v', o3)) → stp (pS 50) W3 o3 = stp (pS 50) (opc (tkA bf N s) :: W) o' → C0 s' W3 o3 → Wp mX6_readTerm (6 * t + 5) 0 0 46 [some (.ref 16), some (.int (nI (deepW W))), some (.int (nI mo)), some (.int (nI (tkA bf N s)))] [] H3 Q := by
        intro h8 s' v' o' W3 o3 H3 hC3 hl3 hs3 hr3 hst3 hcl3
        have hF3 := CR_fix hF hC3
        have hbd3 := CR_bd hC3
        have hl3' : o'.length + (W.length + 1) ≤ s' := hl3
        refine wp_aload_n dX6_readTerm_46 rfl ?_
        refine wp_iload_n dX6_readTerm_47 rfl ?_
        refine wp_ineg dX6_readTerm_48 ?_
        refine wp_callv1 (ci := 6) dX6_readTerm_49 lk_RX6_81 ok_X6_emit im_X6_emit se_X6_emit rfl rfl (fk_16 hF3) (Nat.le_of_ble_eq_true rfl) (Nat.le_of_ble_eq_true rfl) ?_
        refine c_emitO hen hF hC3 (by omega) (fun H4 hC4 => ?_)
        refine wp_incN dX6_readTerm_52 rfl (by decide) ?_
        refine wp_goto (tgt := 7) dX6_readTerm_55 (by decide) ?_
        refine wp_forget 3 (ih s' v' (mo + 1) (o' ++ [(opc (tkA bf N s), 0)]) W3 o3 H4 (by omega) (by omega) hC4 (by rw [List.length_append]; show o'.length + 1 + W.length ≤ s'; omega) (by omega) (RchE_trans (hok h8) hr3) ?_)
        rw [stp_f hopi] at hst3
        rw [stp_up (p := pS 50) (p' := pS 48) (pS_pS (by decide)) hst3, stp_t hopp, stp_N hW]
      have hmid : tkA bf N (nxtT bf N s) ≠ 8 → ∀ H2, CR H bf N (nxtT bf N s) v o H2 → Wp mX6_readTerm (6 * t + 5) 0 0 41 [some (.ref 16), some (.int (nI (deepW W))), some (.int (nI mo)), some (.int (nI (tkA bf N s)))] [] H2 Q := by
        intro h8 H2 hC2
        have hF2 := CR_fix hF hC2
        have hcal := hU (opc (tkA bf N s) :: W) 1 (nxtT bf N s) v o H2
        rw [hdW] at hcal
        refine wp_aload_n dX6_readTerm_41 rfl ?_
        refine wp_iload_n dX6_readTerm_42 rfl ?_
        refine wp_callv1 (ci := 6) dX6_readTerm_43 lk_RX6_93 ok_X6_readUnit im_X6_readUnit se_X6_readUnit rfl rfl (fk_16 hF2) (Nat.le_of_ble_eq_true rfl) (Nat.le_of_ble_eq_true rfl) ?_
        refine hcal _ hd (by decide) (Or.inl rfl) (trivial) hC2 (by show o.length + (W.length + 1) ≤ _; omega) (fun s' v' o' W3 o3 H3 hC3 hl3 hs3 hr3 hst3 hcl3 => ?_) (fun f H3 hr3 hb3 => ?_)
        · first
              | exact c_termB46 (d := 6 * t + 4) hF hb3 (fun H' hb' => hb _ H' (RchE_trans (hok h8) hr3) hb')
              | exact hlast h8 s' v' o' W3 o3 H3 hC3 hl3 hs3 hr3 hst3 hcl3
        · first
              | exact c_termB46 (d := 6 * t + 4) hF hb3 (fun H' hb' => hb _ H' (RchE_trans (hok h8) hr3) hb')
              | exact hlast h8 s' v' o' W3 o3 H3 hC3 hl3 hs3 hr3 hst3 hcl3
      have hgo : Wp mX6_readTerm (6 * t + 5) 0 0 32 [some (.ref 16), some (.int (nI (deepW W))), some (.int (nI mo)), none] [] H1 Q := by
        refine wp_aload_n dX6_readTerm_32 rfl ?_
        refine wp_geti dX6_readTerm_33 fl_RX6_47 rfl (fk_16 hF1) ?_
        rw [tk]
        refine wp_istore_n dX6_readTerm_36 (by decide) ?_
        refine wp_aload_n dX6_readTerm_37 rfl ?_
        refine wp_callv0 (ci := 6) dX6_readTerm_38 lk_RX6_44 ok_X6_advance im_X6_advance se_X6_advance rfl rfl (fk_16 hF1) (Nat.le_of_ble_eq_true rfl) (Nat.le_of_ble_eq_true rfl) ?_
        refine c_advO (d := 6 * t + 2) hF hC (by omega) (by omega) (fun h8 H2 hC2 => ?_) (fun h8 H2 hb2 => ?_)
        · first
              | exact c_termB41 (d := 6 * t + 2) hF hb2 (fun H' hb' => hb _ H' (hba h8) hb')
              | exact hmid h8 H2 hC2
        · first
              | exact c_termB41 (d := 6 * t + 2) hF hb2 (fun H' hb' => hb _ H' (hba h8) hb')
              | exact hmid h8 H2 hC2
      refine wp_iload_n dX6_readTerm_7 rfl ?_
      refine wp_sipush (v := 600) dX6_readTerm_8 (by decide) ?_
      refine wp_icmp_ge (tgt := 58) dX6_readTerm_11 (by decide) (fun h11 => absurd h11 (nI_ge (a := mo) (b := 600) (by omega) (by decide))) (fun _ => ?_)
      refine wp_aload_n dX6_readTerm_14 rfl ?_
      refine wp_geti dX6_readTerm_15 fl_RX6_47 rfl (fk_16 hF1) ?_
      rw [tk]
      refine wp_bipush (v := 42) dX6_readTerm_18 (by decide) ?_
      refine wp_icmp_eq (tgt := 32) dX6_readTerm_20 (by decide) (fun h20 => ?_) (fun h20 => ?_)
      · exact hgo
      · refine wp_aload_n dX6_readTerm_23 rfl ?_
        refine wp_geti dX6_readTerm_24 fl_RX6_47 rfl (fk_16 hF1) ?_
        rw [tk]
        refine wp_bipush (v := 47) dX6_readTerm_27 (by decide) ?_
        refine wp_icmp_ne (tgt := 58) dX6_readTerm_29 (by decide) (fun h29 => ?_) (fun h29 => ?_)
        · refine wp_return rfl dX6_readTerm_58 ?_
          exact absurd hx2 (fun q => q.elim (fun z => h20 (by rw [z]; rfl)) (fun z => h29 (by rw [z]; rfl)))
        · exact hgo
    · have hx2 : ¬ (tkA bf N s = 42 ∨ tkA bf N s = 47) := fun q => hx (decide_eq_true q)
      refine wp_iload_n dX6_readTerm_7 rfl ?_
      refine wp_sipush (v := 600) dX6_readTerm_8 (by decide) ?_
      refine wp_icmp_ge (tgt := 58) dX6_readTerm_11 (by decide) (fun h11 => ?_) (fun h11 => ?_)
      · refine wp_return rfl dX6_readTerm_58 ?_
        exact hq s v o W2 o2 H1 hC hl hs hr (by rw [hst, stp_N hW]) ((bfN _).mpr hx)
      · refine wp_aload_n dX6_readTerm_14 rfl ?_
        refine wp_geti dX6_readTerm_15 fl_RX6_47 rfl (fk_16 hF1) ?_
        rw [tk]
        refine wp_bipush (v := 42) dX6_readTerm_18 (by decide) ?_
        refine wp_icmp_eq (tgt := 32) dX6_readTerm_20 (by decide) (fun h20 => absurd h20 (fun q => hx2 (Or.inl ((tkI hB (k := 42) (by decide)).mp q)))) (fun _ => ?_)
        refine wp_aload_n dX6_readTerm_23 rfl ?_
        refine wp_geti dX6_readTerm_24 fl_RX6_47 rfl (fk_16 hF1) ?_
        rw [tk]
        refine wp_bipush (v := 47) dX6_readTerm_27 (by decide) ?_
        refine wp_icmp_ne (tgt := 58) dX6_readTerm_29 (by decide) (fun _ => ?_) (fun h29 => absurd h29 (fun q => hx2 (Or.inr ((tkI hB (k := 47) (by decide)).mp q))))
        refine wp_return rfl dX6_readTerm_58 ?_
        exact hq s v o W2 o2 H1 hC hl hs hr (by rw [hst, stp_N hW]) ((bfN _).mpr hx)
theorem term_of (hF : Fix H) (hTM : ∀ s, tkA bf N s = tm → isMul (tkA bf N s) = false ∧ isSum (tkA bf N s) = false ∧ isCmp (tkA bf N s) = false ∧ tkA bf N s ≠ 3 ∧ tkA bf N s ≠ 4) (hU : SpU H bf N tm t) : SpT H bf N tm t := by
  intro W u s v o H1 Q hd hu hcu hW hC hl hq hb
  have hF1 := CR_fix hF hC
  have hbd := CR_bd hC
  show Wp mX6_readTerm (6 * t + 5) 0 0 0 [some (.ref 16), some (.int (nI (deepW W))), none, none] [] H1 Q
  refine wp_aload_n dX6_readTerm_0 rfl ?_
  refine wp_iload_n dX6_readTerm_1 rfl ?_
  refine wp_callv1 (ci := 6) dX6_readTerm_2 lk_RX6_93 ok_X6_readUnit im_X6_readUnit se_X6_readUnit rfl rfl (fk_16 hF1) (Nat.le_of_ble_eq_true rfl) (Nat.le_of_ble_eq_true rfl) ?_
  refine hU W u s v o H1 _ hd hu hcu trivial hC hl (fun s' v' o' W2 o2 H' hC' hl' hs' hr hst _ => ?_) (fun f H' hr hb' => ?_)
  · refine wp_iconst (v := 0) dX6_readTerm_5 (by decide) ?_
    refine wp_istore_n dX6_readTerm_6 (by decide) ?_
    first
        | exact c_termB7 hF hb' (fun H'' hb'' => hb _ H'' hr hb'')
        | exact lr_term hF hU hTM hd hW hq hb (N - s') s' v' 0 o' W2 o2 H' (Nat.le_refl _) (Nat.zero_le _) hC' hl' hs' hr (by rw [stp_up (p := pS 50) (p' := pS 48) (pS_pS (by decide)) (show stp (pS 50) W2 o2 = ((stp (pS 50) W o').1, (stp (pS 50) W o').2) from hst), stp_stp (pS_pS (by decide)), stp_N hW])
  · refine wp_iconst (v := 0) dX6_readTerm_5 (by decide) ?_
    refine wp_istore_n dX6_readTerm_6 (by decide) ?_
    first
        | exact c_termB7 hF hb' (fun H'' hb'' => hb _ H'' hr hb'')
        | exact lr_term hF hU hTM hd hW hq hb (N - s') s' v' 0 o' W2 o2 H' (Nat.le_refl _) (Nat.zero_le _) hC' hl' hs' hr (by rw [stp_up (p := pS 50) (p' := pS 48) (pS_pS (by decide)) (show stp (pS 50) W2 o2 = ((stp (pS 50) W o').1, (stp (pS 50) W o').2) from hst), stp_stp (pS_pS (by decide)), stp_N hW])
theorem lr_sum (hF : Fix H) (hU : SpT H bf N tm t) {W : List Nat} {u0 s0 v0 : Nat} {o0 : OL} {Q : Option Value → PH → Prop} (hTM : ∀ s, tkA bf N s = tm → isMul (tkA bf N s) = false ∧ isSum (tkA bf N s) = false ∧ isCmp (tkA bf N s) = false ∧ tkA bf N s ≠ 3 ∧ tkA bf N s ≠ 4) (hd : deepW W + t = 8) (hW : tpN (pS 46) W)
    (hq : ∀ (s' v' : Nat) (o' : OL) (W2 : List Nat) (o2 : OL) (H' : PH), CR H bf N s' v' o' H' → o'.length + W.length ≤ s' → s0 ≤ s' → RT bf N tm (u0, W, s0, v0, o0) (.inr (2, W2, s', v', o2)) → stp (pS 46) W2 o2 = stp (pS 46) W o' → CP bf N s' W2 o2 → Q none H') (hb : ∀ f H', RT bf N tm (u0, W, s0, v0, o0) (.inl f) → CB H f H' → Q none H') :
    ∀ (n s v mo : Nat) (o : OL) (W2 : List Nat) (o2 : OL) (H1 : PH), N - s ≤ n → mo ≤ s → CR H bf N s v o H1 → o.length + W.length ≤ s → s0 ≤ s → RT bf N tm (u0, W, s0, v0, o0) (.inr (2, W2, s, v, o2)) → stp (pS 46) W2 o2 = (W, o) → isMul (tkA bf N s) = false →
    Wp mX6_readSum (6 * t + 6) 0 0 7 [some (.ref 16), some (.int (nI (deepW W))), some (.int (nI mo)), none] [] H1 Q := by
  intro n
  induction n with
  | zero =>
    intro s v mo o W2 o2 H1 hn hmo hC hl hs hr hst hcm
    have hF1 := CR_fix hF hC
    have tk := hC.2.2.1.2.1
    have hB := hC.2.1.1
    have hbd := CR_bd hC
    have hend : tkA bf N s = 0 := (tk_end hB (by omega)).2.1
    refine wp_iload_n dX6_readSum_7 rfl ?_
    refine wp_sipush (v := 600) dX6_readSum_8 (by decide) ?_
    refine wp_icmp_ge (tgt := 58) dX6_readSum_11 (by decide) (fun h11 => ?_) (fun h11 => ?_)
    · refine wp_return rfl dX6_readSum_58 ?_
      refine hq s v o W2 o2 H1 hC hl hs hr (by rw [hst, stp_N hW]) ?_
      unfold CP; rw [hend]; exact ⟨rfl, rfl⟩
    · refine wp_aload_n dX6_readSum_14 rfl ?_
      refine wp_geti dX6_readSum_15 fl_RX6_47 rfl (fk_16 hF1) ?_
      rw [tk, hend]
      refine wp_bipush (v := 43) dX6_readSum_18 (by decide) ?_
      refine wp_icmp_eq (tgt := 32) dX6_readSum_20 (by decide) (fun h20 => absurd h20 (by decide)) (fun _ => ?_)
      refine wp_aload_n dX6_readSum_23 rfl ?_
      refine wp_geti dX6_readSum_24 fl_RX6_47 rfl (fk_16 hF1) ?_
      rw [tk, hend]
      refine wp_bipush (v := 45) dX6_readSum_27 (by decide) ?_
      refine wp_icmp_ne (tgt := 58) dX6_readSum_29 (by decide) (fun _ => ?_) (fun h29 => absurd h29 (by decide))
      refine wp_return rfl dX6_readSum_58 ?_
      refine hq s v o W2 o2 H1 hC hl hs hr (by rw [hst, stp_N hW]) ?_
      unfold CP; rw [hend]; exact ⟨rfl, rfl⟩
  | succ n ih =>
    intro s v mo o W2 o2 H1 hn hmo hC hl hs hr hst hcm
    have hF1 := CR_fix hF hC
    have tk := hC.2.2.1.2.1
    have hB := hC.2.1.1
    have hbd := CR_bd hC
    by_cases hx : isSum (tkA bf N s) = true
    · have hx2 : tkA bf N s = 43 ∨ tkA bf N s = 45 := of_decide_eq_true hx
      obtain ⟨n1, n2, n3, n4⟩ := nxt_gt hB hbd.1 (by omega) (by omega)
      have hop : opc (tkA bf N s) = 46 ∨ opc (tkA bf N s) = 47 := by rcases hx2 with q | q <;> rw [q] <;> decide
      have hopp : pS 46 (opc (tkA bf N s)) = true := by rcases hop with q | q <;> rw [q] <;> decide
      have hopi : pS 48 (opc (tkA bf N s)) = false := by rcases hop with q | q <;> rw [q] <;> decide
      have hopN : isN (opc (tkA bf N s)) = false := by rcases hop with q | q <;> rw [q] <;> decide
      have hdW : deepW (opc (tkA bf N s) :: W) = deepW W := by show deepW W + (if isN (opc (tkA bf N s)) = true then 1 else 0) = _; rw [hopN]; rfl
      have hnt : ¬ trm (tkA bf N) tm (2, W2, s, v, o2) ∨ tkA bf N s = tm := by
        by_cases q : tkA bf N s = tm
        · exact Or.inr q
        · exact Or.inl (nt_tok q)
      have hstep : st1 (tkA bf N) (nxtT bf N) (itmT bf N) (unkT bf N) (2, W2, s, v, o2) = goN (tkA bf N) (nxtT bf N) 1 (opc (tkA bf N s) :: W) s v o := by
        rw [st1_B, stB]
        rw [if_pos hx, hst]
      have hok : tkA bf N (nxtT bf N s) ≠ 8 → RT bf N tm (u0, W, s0, v0, o0) (.inr (1, opc (tkA bf N s) :: W, nxtT bf N s, v, o)) := fun h8 => RchE_trans hr (RchE_one (hnt.resolve_right (fun z => by rw [(hTM s z).2.1] at hx; cases hx)) (by rw [hstep]; exact go_ok h8))
      have hba : tkA bf N (nxtT bf N s) = 8 → RT bf N tm (u0, W, s0, v0, o0) (.inl (1, nxtT bf N s)) := fun h8 => RchE_trans hr (RchE_bad (hnt.resolve_right (fun z => by rw [(hTM s z).2.1] at hx; cases hx)) (by rw [hstep]; exact go_bad h8))
      have hen : encC (opc (tkA bf N s), 0) = -(nI (tkA bf N s)) := encC_op (Or.inl hx)
      have hlast : tkA bf N (nxtT bf N s) ≠ 8 → ∀ (s' v' : Nat) (o' : OL) (W3 : List Nat) (o3 : OL) (H3 : PH), CR H bf N s' v' o' H3 → o'.length + (opc (tkA bf N s) :: W).length ≤ s' → nxtT bf N s ≤ s' → RT bf N tm (1, opc (tkA bf N s) :: W, nxtT bf N s, v, o) (.inr (2, W3, s', v', o3)) → stp (pS 48) W3 o3 = stp (pS 48) (opc (tkA bf N s) :: W) o' → CM bf N s' W3 o3 → Wp mX6_readSum (6 * t + 6) 0 0 46 [some (.ref 16), some (.int (nI (deepW W))), some (.int (nI mo)), some (.int (nI (tkA bf N s)))] [] H3 Q := by
        intro h8 s' v' o' W3 o3 H3 hC3 hl3 hs3 hr3 hst3 hcl3
        have hF3 := CR_fix hF hC3
        have hbd3 := CR_bd hC3
        have hl3' : o'.length + (W.length + 1) ≤ s' := hl3
        refine wp_aload_n dX6_readSum_46 rfl ?_
        refine wp_iload_n dX6_readSum_47 rfl ?_
        refine wp_ineg dX6_readSum_48 ?_
        refine wp_callv1 (ci := 6) dX6_readSum_49 lk_RX6_81 ok_X6_emit im_X6_emit se_X6_emit rfl rfl (fk_16 hF3) (Nat.le_of_ble_eq_true rfl) (Nat.le_of_ble_eq_true rfl) ?_
        refine c_emitO hen hF hC3 (by omega) (fun H4 hC4 => ?_)
        refine wp_incN dX6_readSum_52 rfl (by decide) ?_
        refine wp_goto (tgt := 7) dX6_readSum_55 (by decide) ?_
        refine wp_forget 3 (ih s' v' (mo + 1) (o' ++ [(opc (tkA bf N s), 0)]) W3 o3 H4 (by omega) (by omega) hC4 (by rw [List.length_append]; show o'.length + 1 + W.length ≤ s'; omega) (by omega) (RchE_trans (hok h8) hr3) ?_ hcl3)
        rw [stp_f hopi] at hst3
        rw [stp_up (p := pS 48) (p' := pS 46) (pS_pS (by decide)) hst3, stp_t hopp, stp_N hW]
      have hmid : tkA bf N (nxtT bf N s) ≠ 8 → ∀ H2, CR H bf N (nxtT bf N s) v o H2 → Wp mX6_readSum (6 * t + 6) 0 0 41 [some (.ref 16), some (.int (nI (deepW W))), some (.int (nI mo)), some (.int (nI (tkA bf N s)))] [] H2 Q := by
        intro h8 H2 hC2
        have hF2 := CR_fix hF hC2
        have hcal := hU (opc (tkA bf N s) :: W) 1 (nxtT bf N s) v o H2
        rw [hdW] at hcal
        refine wp_aload_n dX6_readSum_41 rfl ?_
        refine wp_iload_n dX6_readSum_42 rfl ?_
        refine wp_callv1 (ci := 6) dX6_readSum_43 lk_RX6_90 ok_X6_readTerm im_X6_readTerm se_X6_readTerm rfl rfl (fk_16 hF2) (Nat.le_of_ble_eq_true rfl) (Nat.le_of_ble_eq_true rfl) ?_
        refine hcal _ hd (by decide) (Or.inl rfl) (fun x hx => by cases hx; exact hopi) hC2 (by show o.length + (W.length + 1) ≤ _; omega) (fun s' v' o' W3 o3 H3 hC3 hl3 hs3 hr3 hst3 hcl3 => ?_) (fun f H3 hr3 hb3 => ?_)
        · first
              | exact c_sumB46 (d := 6 * t + 5) hF hb3 (fun H' hb' => hb _ H' (RchE_trans (hok h8) hr3) hb')
              | exact hlast h8 s' v' o' W3 o3 H3 hC3 hl3 hs3 hr3 hst3 hcl3
        · first
              | exact c_sumB46 (d := 6 * t + 5) hF hb3 (fun H' hb' => hb _ H' (RchE_trans (hok h8) hr3) hb')
              | exact hlast h8 s' v' o' W3 o3 H3 hC3 hl3 hs3 hr3 hst3 hcl3
      have hgo : Wp mX6_readSum (6 * t + 6) 0 0 32 [some (.ref 16), some (.int (nI (deepW W))), some (.int (nI mo)), none] [] H1 Q := by
        refine wp_aload_n dX6_readSum_32 rfl ?_
        refine wp_geti dX6_readSum_33 fl_RX6_47 rfl (fk_16 hF1) ?_
        rw [tk]
        refine wp_istore_n dX6_readSum_36 (by decide) ?_
        refine wp_aload_n dX6_readSum_37 rfl ?_
        refine wp_callv0 (ci := 6) dX6_readSum_38 lk_RX6_44 ok_X6_advance im_X6_advance se_X6_advance rfl rfl (fk_16 hF1) (Nat.le_of_ble_eq_true rfl) (Nat.le_of_ble_eq_true rfl) ?_
        refine c_advO (d := 6 * t + 3) hF hC (by omega) (by omega) (fun h8 H2 hC2 => ?_) (fun h8 H2 hb2 => ?_)
        · first
              | exact c_sumB41 (d := 6 * t + 2) hF hb2 (fun H' hb' => hb _ H' (hba h8) hb')
              | exact hmid h8 H2 hC2
        · first
              | exact c_sumB41 (d := 6 * t + 2) hF hb2 (fun H' hb' => hb _ H' (hba h8) hb')
              | exact hmid h8 H2 hC2
      refine wp_iload_n dX6_readSum_7 rfl ?_
      refine wp_sipush (v := 600) dX6_readSum_8 (by decide) ?_
      refine wp_icmp_ge (tgt := 58) dX6_readSum_11 (by decide) (fun h11 => absurd h11 (nI_ge (a := mo) (b := 600) (by omega) (by decide))) (fun _ => ?_)
      refine wp_aload_n dX6_readSum_14 rfl ?_
      refine wp_geti dX6_readSum_15 fl_RX6_47 rfl (fk_16 hF1) ?_
      rw [tk]
      refine wp_bipush (v := 43) dX6_readSum_18 (by decide) ?_
      refine wp_icmp_eq (tgt := 32) dX6_readSum_20 (by decide) (fun h20 => ?_) (fun h20 => ?_)
      · exact hgo
      · refine wp_aload_n dX6_readSum_23 rfl ?_
        refine wp_geti dX6_readSum_24 fl_RX6_47 rfl (fk_16 hF1) ?_
        rw [tk]
        refine wp_bipush (v := 45) dX6_readSum_27 (by decide) ?_
        refine wp_icmp_ne (tgt := 58) dX6_readSum_29 (by decide) (fun h29 => ?_) (fun h29 => ?_)
        · refine wp_return rfl dX6_readSum_58 ?_
          exact absurd hx2 (fun q => q.elim (fun z => h20 (by rw [z]; rfl)) (fun z => h29 (by rw [z]; rfl)))
        · exact hgo
    · have hx2 : ¬ (tkA bf N s = 43 ∨ tkA bf N s = 45) := fun q => hx (decide_eq_true q)
      refine wp_iload_n dX6_readSum_7 rfl ?_
      refine wp_sipush (v := 600) dX6_readSum_8 (by decide) ?_
      refine wp_icmp_ge (tgt := 58) dX6_readSum_11 (by decide) (fun h11 => ?_) (fun h11 => ?_)
      · refine wp_return rfl dX6_readSum_58 ?_
        exact hq s v o W2 o2 H1 hC hl hs hr (by rw [hst, stp_N hW]) (⟨hcm, (bfN _).mpr hx⟩)
      · refine wp_aload_n dX6_readSum_14 rfl ?_
        refine wp_geti dX6_readSum_15 fl_RX6_47 rfl (fk_16 hF1) ?_
        rw [tk]
        refine wp_bipush (v := 43) dX6_readSum_18 (by decide) ?_
        refine wp_icmp_eq (tgt := 32) dX6_readSum_20 (by decide) (fun h20 => absurd h20 (fun q => hx2 (Or.inl ((tkI hB (k := 43) (by decide)).mp q)))) (fun _ => ?_)
        refine wp_aload_n dX6_readSum_23 rfl ?_
        refine wp_geti dX6_readSum_24 fl_RX6_47 rfl (fk_16 hF1) ?_
        rw [tk]
        refine wp_bipush (v := 45) dX6_readSum_27 (by decide) ?_
        refine wp_icmp_ne (tgt := 58) dX6_readSum_29 (by decide) (fun _ => ?_) (fun h29 => absurd h29 (fun q => hx2 (Or.inr ((tkI hB (k := 45) (by decide)).mp q))))
        refine wp_return rfl dX6_readSum_58 ?_
        exact hq s v o W2 o2 H1 hC hl hs hr (by rw [hst, stp_N hW]) (⟨hcm, (bfN _).mpr hx⟩)
theorem sum_of (hF : Fix H) (hTM : ∀ s, tkA bf N s = tm → isMul (tkA bf N s) = false ∧ isSum (tkA bf N s) = false ∧ isCmp (tkA bf N s) = false ∧ tkA bf N s ≠ 3 ∧ tkA bf N s ≠ 4) (hU : SpT H bf N tm t) : SpP H bf N tm t := by
  intro W u s v o H1 Q hd hu hcu hW hC hl hq hb
  have hF1 := CR_fix hF hC
  have hbd := CR_bd hC
  have hW48 : tpN (pS 48) W := fun x hx => by
    have := hW x hx
    unfold pS at *
    rw [decide_eq_false_iff_not] at *
    omega
  show Wp mX6_readSum (6 * t + 6) 0 0 0 [some (.ref 16), some (.int (nI (deepW W))), none, none] [] H1 Q
  refine wp_aload_n dX6_readSum_0 rfl ?_
  refine wp_iload_n dX6_readSum_1 rfl ?_
  refine wp_callv1 (ci := 6) dX6_readSum_2 lk_RX6_90 ok_X6_readTerm im_X6_readTerm se_X6_readTerm rfl rfl (fk_16 hF1) (Nat.le_of_ble_eq_true rfl) (Nat.le_of_ble_eq_true rfl) ?_
  refine hU W u s v o H1 _ hd hu hcu hW48 hC hl (fun s' v' o' W2 o2 H' hC' hl' hs' hr hst hcl => ?_) (fun f H' hr hb' => ?_)
  · refine wp_iconst (v := 0) dX6_readSum_5 (by decide) ?_
    refine wp_istore_n dX6_readSum_6 (by decide) ?_
    first
        | exact c_sumB7 hF hb' (fun H'' hb'' => hb _ H'' hr hb'')
        | exact lr_sum hF hU hTM hd hW hq hb (N - s') s' v' 0 o' W2 o2 H' (Nat.le_refl _) (Nat.zero_le _) hC' hl' hs' hr (by rw [stp_N hW48] at hst; rw [stp_up (p := pS 48) (p' := pS 46) (pS_pS (by decide)) hst, stp_N hW]) hcl
  · refine wp_iconst (v := 0) dX6_readSum_5 (by decide) ?_
    refine wp_istore_n dX6_readSum_6 (by decide) ?_
    first
        | exact c_sumB7 hF hb' (fun H'' hb'' => hb _ H'' hr hb'')
        | exact lr_sum hF hU hTM hd hW hq hb (N - s') s' v' 0 o' W2 o2 H' (Nat.le_refl _) (Nat.zero_le _) hC' hl' hs' hr (by rw [stp_N hW48] at hst; rw [stp_up (p := pS 48) (p' := pS 46) (pS_pS (by decide)) hst, stp_N hW]) hcl
end LV
