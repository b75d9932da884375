/-! ===== clone, copyOf; readAll ===== -/
theorem Wd.newR {b o L : Nat} {xs : Nat → Int32} {dC : Nat → ClassId} {dI : Nat → Nat → Nat} {aC : Nat → ClassId} {H : PH} {Hm H1 : Heap} {n : Nat} {f : Nat → Int32} (h : Wd b o L xs dC dI aC H Hm) (hat : va_at (dC, dI) vwCl (o + (hN H + 1), cellE aC b o (sRow (nC H 20 n) (hN H + 1) f) (hN H + 1)) H1) (hz : H1.size = Hm.size + 1) (ho : ∀ q, q < Hm.size → H1[q]? = Hm[q]?) : Wd b o L xs dC dI aC (sRow (nC H 20 n) (hN H + 1) f) H1 := by
  obtain ⟨z0, z, z1, z2, z3⟩ := h
  have hk : ∀ (k : Nat) (x : Nat × va_E), (hw aC b o H)[k]? = some x → H1[x.1]? = Hm[x.1]? := fun k x hx => ho x.1 ((z0 k x hx).lt)
  refine ⟨?_, by rw [hz, z, hN_sRow, hN_nC]; omega, ?_, fun a ha => ?_, fun j hj => ?_⟩
  · rw [← hw_push (H := H) (H' := sRow (nC H 20 n) (hN H + 1) f) (e := cellE aC b o (sRow (nC H 20 n) (hN H + 1) f) (hN H + 1)) rfl rfl (fun a' ha => cellE_eq (by rw [hK_sRow, hK_nC, u1_ne ha]) (by rw [hI_sRow, u1_ne ha, hI_nC, u1_ne ha]) (by rw [hL_sRow, hL_nC, u1_ne ha]) (by rw [hR_sRow, hR_nC, u1_ne ha]))]
    refine (z0.kept hk).app (fun k x hx => ?_)
    have hz : k < 1 := (List.getElem?_eq_some_iff.mp hx).1
    rw [show k = 0 by omega] at hx
    cases hx
    exact hat
  · rw [hK_sRow, hK_nC, u1_ne (by omega)]; exact z1
  · rw [hK_sRow, hK_nC, u1_ne (by rw [hN_sRow, hN_nC] at ha; omega)]; exact z2 a (by rw [hN_sRow, hN_nC] at ha; omega)
  · rw [hI_sRow, u1_ne (by omega), hI_nC, u1_ne (by omega)]; exact z3 j hj
section CloneR
variable {y : MD} {d kc ks pc : Nat} {lo : List (Option Value)} {st : List Value} {H : PH} {Q : Option Value → PH → Prop}
theorem wp_clone {idx a n : Nat} (hd : decode y.2.1 pc = .ok (.invokevirtual idx, 3)) (hlk : Cond.methodLink y.1.cls idx ⟨"[I", "clone", "()Ljava/lang/Object;"⟩ ∈ gw) (hsame : Cond.sameMethod "[I" "java/lang/Object" "clone" "()Ljava/lang/Object;" ∈ gw) (hnat : Cond.native ⟨"java/lang/Object", "clone", "()Ljava/lang/Object;"⟩ ∈ gw) (hinst : Cond.instanceMethod ⟨"java/lang/Object", "clone", "()Ljava/lang/Object;"⟩ ∈ gw) (hsel : Cond.selects "[I" ⟨"[I", "clone", "()Ljava/lang/Object;"⟩ ⟨"java/lang/Object", "clone", "()Ljava/lang/Object;"⟩ ∈ gw) (hcl : Cond.castable "[I" "java/lang/Cloneable" ∈ nw) (hk : hK H a = (20, n)) (hst : (st.map fun v => v.category).sum ≤ 8)
    (kk : Wp y (d + 1) kc ks (pc + 3) lo (.ref (hN H + 1) :: st) (sRow (nC H 20 n) (hN H + 1) (hI H a)) Q) : Wp y (d + 1) (kc + 1) (ks + n) pc lo (.ref a :: st) H Q := by
  intro b o L xs dC dI aC p l e R s m args below meth c Hm locs cells slots Qm ls hC hW hS hl h1 h2 h3 h4 hr
  obtain ⟨p0, p1⟩ := hW.pos hk (by omega) (by omega)
  have hg := hw_get (aC := aC) (b := b) (o := o) p0 p1
  rw [cellE_i hk (by simp [isIA])] at hg
  have hz0 := hW.2.1
  have hc0 : Hm[shA b o a]? = some (vp_cell (aC 20) (n, .inl (hI H a))) := hW.1 (a - 1) _ hg
  have hKt := hC.2.2.2.2.2.2.1.2 0 _ rfl
  have hnm : s.vm.findClass "[I" = some (aC 20) := va_nm_int hKt.2
  have hsz : (vp_cell (aC 20) (n, .inl (hI H a))).slots.size = n := arrV_size _ _ _
  have hfit : ∀ (i : Nat) (v : Value), (vp_cell (aC 20) (n, .inl (hI H a))).slots[i]? = some v → fits .int v = true := fun i v hv => va_fit (ty := .int) (F := fun j => .int (hI H a j)) (fun _ _ => rfl) i v hv
  obtain ⟨c0, t0', f1, f2, f3⟩ := Cond.castable_spec (va_Nw.use (A := args) rfl (hC.2.2.2.2.2.2.2.1 _ hcl))
  cases hnm.symm.trans f1
  intro T hT X
  have hcellT : T.heap[shA b o a]? = some (vp_cell (aC 20) (n, .inl (hI H a))) := by rw [hT]; exact hc0
  obtain ⟨-, kA, hkA, comp, hkind⟩ := State.isArrayOf_alike X.warmed.alike (hKt.1 0 (fun _ => .null))
  obtain ⟨-, kS, hkS, compS, hkindS⟩ := hKt.1 0 (fun _ => .null)
  obtain ⟨vm', X', stp'⟩ := X.cloneArray hC.1 hC.2.2.2.1 (hC.2.2.2.2.2.1 _ hlk) (hC.2.2.2.2.2.1 _ hsame) (hC.2.2.2.2.2.1 _ hnat) (hC.2.2.2.2.2.1 _ hinst) (hC.2.2.2.2.2.1 _ hsel) (a := shA b o a) (cell := vp_cell (aC 20) (n, .inl (hI H a))) hcellT (fun k h => by cases h) (fun h => by cases h) hnm f2 f3
    (fun i v hv => by
      have hk' : T.vm.classes[aC 20]? = some kA := hkA
      have hcl0 : (vp_cell (aC 20) (n, .inl (hI H a))).cls = aC 20 := rfl
      rw [hcl0]
      simpa [State.fitsSlot, State.slotType?, hk', hkind] using hfit i v hv)
    (g := F0 m pc ls (.ref (shA b o a) :: st.map (shV b o))) rfl (hl.1.trans hC.2.2.1.symm) rfl (by rw [hC.2.1]; exact hd) (by omega) (by
      have e9 : ((st.map (shV b o)).map fun v => v.category).sum ≤ 8 := by rw [List.map_map, show (fun v => v.category) ∘ shV b o = (fun v : Value => v.category) from funext (shV_cat b o)]; exact hst
      show 2 * 0 + _ + 14 ≤ _; omega) (by omega) (by rw [hsz]; omega) (hloader := Vm.clonesLoader_of_array hkS hkindS)
  have hcellE : ({ cls := (vp_cell (aC 20) (n, .inl (hI H a))).cls, slots := (vp_cell (aC 20) (n, .inl (hI H a))).slots } : Cell) = vp_cell (aC 20) (n, .inl (hI H a)) := rfl
  rw [hcellE, hsz] at X'
  generalize hH1 : Hm.push (vp_cell (aC 20) (n, .inl (hI H a))) = H1
  have z1 : H1.size = Hm.size + 1 := by rw [← hH1, Array.size_push]
  have e1 : H1[Hm.size]? = some (vp_cell (aC 20) (n, .inl (hI H a))) := by rw [← hH1, Array.getElem?_push_size]
  have o1 : ∀ q : Nat, q < Hm.size → H1[q]? = Hm[q]? := fun q hq => by rw [← hH1, Array.getElem?_push, if_neg (Nat.ne_of_lt hq)]
  have hW1 : Wd b o L xs dC dI aC (sRow (nC H 20 n) (hN H + 1) (hI H a)) H1 := hW.newR (by
    rw [cellE_i (H := sRow (nC H 20 n) (hN H + 1) (hI H a)) (k := 20) (n := n) (by rw [hK_sRow, hK_nC, u1_eq]) (by simp [isIA]), hI_sRow, u1_eq]
    show H1[o + (hN H + 1)]? = _
    rw [← hz0]; exact e1) z1 o1
  have hfin := kk b o L xs dC dI aC p l e R s m args below meth c H1 locs (cells + 1) (slots + n) Qm ls hC hW1 (S_new hS z1 o1) hl h1 h2 (by omega) (by omega) (by
    rw [show cells + 1 + kc = cells + (kc + 1) by omega, show slots + n + ks = slots + (ks + n) by omega]; exact hr)
  rw [List.map_cons, shV, shA_pos (by omega), ← hz0] at hfin
  obtain ⟨t, b1, b2⟩ := hfin ((T.setVm vm').pushCell (vp_cell (aC 20) (n, .inl (hI H a)))) (by rw [← hH1, ← hT]; rfl) X'
  refine ⟨t, stp' t ?_, b2⟩
  rw [hcellE, hT]
  exact b1
theorem wp_castI {idx a n : Nat} (hd : decode y.2.1 pc = .ok (.checkcast idx, 3)) (hlk : Cond.classLink y.1.cls idx "[I" ∈ gw) (hk : hK H a = (20, n)) (kk : Wp y d kc ks (pc + 3) lo (.ref a :: st) H Q) : Wp y d kc ks pc lo (.ref a :: st) H Q := by
  intro b o L xs dC dI aC p l e R s m args below meth c Hm locs cells slots Qm ls hC hW hS hl h1 h2 h3 h4 hr
  obtain ⟨p0, p1⟩ := hW.pos hk (by omega) (by omega)
  have hg := hw_get (aC := aC) (b := b) (o := o) p0 p1
  rw [cellE_i hk (by simp [isIA])] at hg
  exact va_castA hC.1 hC.2.1 hC.2.2.2.1 (hC.2.2.2.2.2.1 _ hlk) hW.1 (a - 1) hg (va_nm_int (hC.2.2.2.2.2.2.1.2 0 _ rfl).2) hd (kk b o L xs dC dI aC p l e R s m args below meth c Hm locs cells slots Qm ls hC hW hS hl h1 h2 h3 h4 hr)
end CloneR
set_option maxRecDepth 100000 in
theorem cw_same : Cond.sameMethod "[I" "java/lang/Object" "clone" "()Ljava/lang/Object;" ∈ gw := in_gw (by decide +kernel)
set_option maxRecDepth 100000 in
theorem cw_nat : Cond.native ⟨"java/lang/Object", "clone", "()Ljava/lang/Object;"⟩ ∈ gw := in_gw (by decide +kernel)
set_option maxRecDepth 100000 in
theorem cw_inst : Cond.instanceMethod ⟨"java/lang/Object", "clone", "()Ljava/lang/Object;"⟩ ∈ gw := in_gw (by decide +kernel)
set_option maxRecDepth 100000 in
theorem cw_sel : Cond.selects "[I" ⟨"[I", "clone", "()Ljava/lang/Object;"⟩ ⟨"java/lang/Object", "clone", "()Ljava/lang/Object;"⟩ ∈ gw := in_gw (by decide +kernel)
set_option maxRecDepth 100000 in
theorem cw_cast : Cond.castable "[I" "java/lang/Cloneable" ∈ nw := in_nw (by decide +kernel)
set_option maxRecDepth 100000 in
theorem cw_lk : Cond.methodLink RJ7 316 ⟨"[I", "clone", "()Ljava/lang/Object;"⟩ ∈ gw := in_gw (by decide +kernel)
set_option maxRecDepth 100000 in
theorem cw_cl : Cond.classLink RJ7 317 "[I" ∈ gw := in_gw (by decide +kernel)
set_option maxRecDepth 100000 in
theorem ac_lk : Cond.methodLink RJ7 150 arraycopyName ∈ gw := in_gw (by decide +kernel)
theorem min_nI {a b : Nat} (h : b ≤ a) (ha : a < 2 ^ 31) : minI (nI a) (nI b) = nI b := by
  unfold minI
  by_cases q : nI b < nI a
  · rw [if_pos q]
  · have : ¬ b < a := fun z => q (nI_lt z ha)
    rw [if_neg q, show a = b by omega]
theorem c_copyOf {d a N n : Nat} {H : PH} {Q : Option Value → PH → Prop} (hk : hK H a = (20, N)) (haN : a ≤ hN H) (hn : n ≤ N) (hN' : N ≤ 60000) (hq : ∀ f, (∀ j, j < n → f j = hI H a j) → Q (some (.ref (hN H + 1))) (sRow (nC H 20 n) (hN H + 1) f)) : Wp mJ7_copyOf_59c91 (d + 1) 1 n 0 [some (.ref a), some (.int (nI n)), none] [] H Q := by
  refine wp_iload_n dJ7_copyOf_59c91_0 rfl ?_
  refine wp_aload_n dJ7_copyOf_59c91_1 rfl ?_
  refine wp_alen dJ7_copyOf_59c91_2 hk (by simp) ?_
  by_cases e : n = N
  · subst e
    refine wp_icmp_ne (tgt := 14) dJ7_copyOf_59c91_3 (by decide) (fun q => absurd rfl q) (fun _ => ?_)
    refine wp_aload_n dJ7_copyOf_59c91_6 rfl ?_
    have h9 : ∀ ks, Wp mJ7_copyOf_59c91 (d + 1) 0 ks 10 [some (.ref a), some (.int (nI n)), none] [.ref (hN H + 1)] (sRow (nC H 20 n) (hN H + 1) (hI H a)) Q := fun ks => by
      refine wp_castI (n := n) dJ7_copyOf_59c91_10 cw_cl (by rw [hK_sRow, hK_nC, u1_eq]) ?_
      refine wp_areturn (r := some _) rfl (by simp) dJ7_copyOf_59c91_13 ?_
      exact hq _ (fun _ _ => rfl)
    have h8 := wp_clone (y := mJ7_copyOf_59c91) (d := d) (kc := 0) (ks := 0) (st := []) (Q := Q) dJ7_copyOf_59c91_7 cw_lk cw_same cw_nat cw_inst cw_sel cw_cast hk (by decide) (h9 0)
    rw [Nat.zero_add, Nat.zero_add] at h8
    exact h8
  · refine wp_icmp_ne (tgt := 14) dJ7_copyOf_59c91_3 (by decide) (fun _ => ?_) (fun q => absurd ((nI_eq (by omega) (by omega)).mp q) e)
    refine wp_iload_n dJ7_copyOf_59c91_14 rfl ?_
    have hcl : (nI n).toNatClampNeg = n := nI_clamp (by omega)
    have hk1 : hK (nC H 20 n) a = (20, N) := by rw [hK_nC' haN]; exact hk
    have h7 : Wp mJ7_copyOf_59c91 (d + 1) 0 0 17 [some (.ref a), some (.int (nI n)), none] [.ref (hN H + 1)] (nC H 20 n) Q := by
      refine wp_astore_n dJ7_copyOf_59c91_17 (by decide) ?_
      refine wp_aload_n dJ7_copyOf_59c91_18 rfl ?_
      refine wp_iconst (v := 0) dJ7_copyOf_59c91_19 (by decide) ?_
      refine wp_aload_n dJ7_copyOf_59c91_20 rfl ?_
      refine wp_iconst (v := 0) dJ7_copyOf_59c91_21 (by decide) ?_
      refine wp_aload_n dJ7_copyOf_59c91_22 rfl ?_
      refine wp_alen dJ7_copyOf_59c91_23 hk1 (by simp) ?_
      refine wp_iload_n dJ7_copyOf_59c91_24 rfl ?_
      refine wp_calls2 dJ7_copyOf_59c91_25 lk_RJ7_304 ok_J9_min_7cf53 st_J9_min_7cf53 (Nat.le_of_ble_eq_true rfl) (Nat.le_of_ble_eq_true rfl) ?_
      refine c_J9_min_7cf53 ?_
      rw [show minI (Int32.ofNat N) (nI n) = nI n from min_nI hn (by omega)]
      refine wp_copy (n0 := N) (n1 := n) dJ7_copyOf_59c91_28 ac_lk ac_nat ac_sta ac_ini hk1 (by rw [hK_nC, u1_eq]) (nI_pos (by omega)) (by rw [hcl]; exact hn) (by rw [hcl]; exact Nat.le_refl _) (by decide) ?_
      refine wp_aload_n dJ7_copyOf_59c91_31 rfl ?_
      refine wp_areturn (r := some _) rfl (by simp) dJ7_copyOf_59c91_32 ?_
      refine hq _ (fun j hj => ?_)
      rw [hcl, if_pos hj, hI_nC' haN]
    have h8 := wp_newarray (y := mJ7_copyOf_59c91) (d := d + 1) (kc := 0) (ks := 0) (k := 20) (n := nI n) (Q := Q) (st := []) dJ7_copyOf_59c91_15 (Or.inl ⟨rfl, rfl⟩) ac_I (nI_pos (by omega)) (by rw [hcl]; omega) (by rw [hcl]; exact h7)
    rw [hcl, Nat.zero_add, Nat.zero_add] at h8
    exact h8
