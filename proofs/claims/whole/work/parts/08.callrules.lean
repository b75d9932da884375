/-! ===== the rules of calls ===== -/
theorem Env0.at {b o L : Nat} {xs : Nat → Int32} {dC : Nat → ClassId} {dI : Nat → Nat → Nat} {aC : Nat → ClassId} {s U : State} {H : PH} {Hm : Heap} {locs : List Loc} (h : Env0 b o L xs dC dI aC s) (hW : Wd b o L xs dC dI aC H Hm) (hS : va_S (fun q => o + 1 ≤ q) s.heap Hm locs) (hU : U.heap = Hm) (hw : s.WarmedH U.vm) : Env0 b o L xs dC dI aC U := by
  obtain ⟨g1, g2, g3, g4, g5, g6, g7⟩ := h
  refine ⟨g1.moved hw.alike, fun w hw' => ?_, ?_, g4, by rw [hU, hW.2.1]; omega, g6.moved hw.alike, g7.moved hw.alike⟩
  · have hn := (List.mem_filter.mp hw').2
    cases w <;> simp [isNest] at hn <;> first | exact va_Nw.warmM hw (g2 _ hw') | exact va_Nw.warmF hw (g2 _ hw') | exact va_Nw.warmC hw (g2 _ hw')
  · rw [hU]
    exact (g3.kept (hS.2.1 b (by omega) (show ¬ o + 1 ≤ b by omega))).moved hw.alike
theorem gw_good {y : MD} {n : Nat} (hm : MOk y n) : GoodIn gw (Cond.code y.1 y.2.1 y.2.2.1 y.2.2.2 :: gw) := by
  intro w hw
  have hin : w ∈ gw := by
    rcases List.mem_cons.mp hw with rfl | h
    · exact hm.1
    · exact h
  exact ⟨hin, good_of_word (List.mem_filter.mp hin).2⟩
section CallRules
variable {y : MD} {d kc ks pc : Nat} {lo : List (Option Value)} {st : List Value} {H : PH} {Q : Option Value → PH → Prop}
/-- behind a call -/
theorem call_go {b o L : Nat} {xs : Nat → Int32} {dC : Nat → ClassId} {dI : Nat → Nat → Nat} {aC : Nat → ClassId} {p : Program} {l : Launch} {e : Env} {R : Room} {s : State} {m : MethodId} {args : Array Value} {below : List Frame} {meth : Method} {c : Code} {Hm : Heap} {locs : List Loc} {cells slots mc ms : Nat} {Qm : State → Prop} {ls : Array Slot} {st0 : List Value} {av : Array Value}
    (hC : Ctx y b o L xs dC dI aC p s m args meth c) (hS : va_S (fun q => o + 1 ≤ q) s.heap Hm locs) (hl : lo_ok b o ls y.2.2.1 lo) (h1 : d ≤ R.frames) (h2 : 64 * d ≤ R.locals) (h3 : cells + (kc + mc) ≤ R.cells) (h4 : slots + (ks + ms) ≤ R.slots)
    (hr : ∀ (v : Option Value) (H' : PH) (Hm' : Heap) (locs' : List Loc) (pc' : Nat) (ls' : Array Slot) (i : Instr), Q v H' → Wd b o L xs dC dI aC H' Hm' → va_S (fun q => o + 1 ≤ q) s.heap Hm' locs' → retI y v i → decode y.2.1 pc' = .ok (i, 1) →
      W p l e R s m args below meth c Hm' locs' (cells + (kc + mc)) (slots + (ks + ms)) Qm (F0 m pc' ls' (v.toList.map (shV b o))))
    (hrun : va_Run p l e R s m args below meth c Hm locs cells slots mc ms (F0 m pc ls st0) (st.map (shV b o)) (QcU b o L xs dC dI aC (fun v H' => Wp y d kc ks (pc + 3) lo (v.toList ++ st) H' Q) av) (fun q => o + 1 ≤ q)) :
    W p l e R s m args below meth c Hm locs cells slots Qm (F0 m pc ls st0) := by
  intro T hT X
  obtain ⟨v0, st₀, t, T', Lc, e0, X', hL, e1, e2, ⟨v, H', hv, hk, hW', hF⟩, hgo⟩ := hrun T hT X
  cases hv
  have hS' : va_S (fun q => o + 1 ≤ q) s.heap T'.heap (locs ++ Lc) := by
    refine ⟨?_, fun q g1 g2 => ?_, fun q hq => ?_⟩
    · rw [e1]; exact Nat.le_trans hS.1 (by rw [← e0]; exact hF.1)
    · rw [e1, hF.2 q (by rw [e0]; exact Nat.lt_of_lt_of_le g1 hS.1) g2, e0]; exact hS.2.1 q g1 g2
    · rcases List.mem_append.mp hq with h | h
      · exact hS.2.2 q h
      · exact hL q h
  have hfin := hk b o L xs dC dI aC p l e R s m args below meth c T'.heap (locs ++ Lc) (cells + mc) (slots + ms) Qm ls hC (by rw [e1]; exact hW') hS' hl h1 h2 (by omega) (by omega) (by
    rw [show cells + mc + kc = cells + (kc + mc) by omega, show slots + ms + ks = slots + (ks + ms) by omega]; exact hr)
  rw [List.map_append] at hfin
  have e5 : (v.map (shV b o)).toList = v.toList.map (shV b o) := by cases v <;> rfl
  rw [← e5] at hfin
  obtain ⟨t2, a1, b1⟩ := hfin T' rfl X'
  exact ⟨t2, hgo t2 a1, b1⟩
theorem wp_callv {idx ci a n mc ms : Nat} {y' : MD} {av : List Value} {q : vw_C} {st0 : List Value} (hd : decode y.2.1 pc = .ok (.invokevirtual idx, 3)) (hlk : Link y.1.cls idx y'.1) (hm : MOk y' av.length) (hi : Cond.instanceMethod y'.1 ∈ gw) (hs : Cond.selects y'.1.cls y'.1 y'.1 ∈ gw) (hq : vwCl[ci]? = some q) (hqc : q.1 = y'.1.cls) (hk : hK H a = (ci + 1, n)) (hfit : (lg_sl (.ref a :: av)).length ≤ y'.2.2.1) (hst : (st.map fun v => v.category).sum ≤ 8) (hst0 : st0 = av.reverse ++ .ref a :: st)
    (kk : Wp y' d mc ms 0 (lent (.ref a :: av) y'.2.2.1) [] H (fun v H' => Wp y (d + 1) kc ks (pc + 3) lo (v.toList ++ st) H' Q)) : Wp y (d + 1) (kc + mc) (ks + ms) pc lo st0 H Q := by
  intro b o L xs dC dI aC p l e R s m args below meth c Hm locs cells slots Qm ls hC hW hS hl h1 h2 h3 h4 hr
  subst hst0
  have hci : ci < 13 := (List.getElem?_eq_some_iff.mp hq).1
  obtain ⟨p0, p1⟩ := hW.pos hk (by omega) (by omega)
  have hg := hw_get (aC := aC) (b := b) (o := o) p0 p1
  rw [cellE_obj hk hci] at hg
  have hM := met_of hm hfit kk l b o L xs dC dI aC
  have hrecv : ∃ cell : Cell, Hm[shA b o a]? = some cell ∧ cell.vm.isStatics = false ∧ s.vm.findClass y'.1.cls = some cell.cls := by
    rw [← hqc]; exact va_recv hC.2.2.2.2.2.2.1 hW.1 hq hg
  have hpre : PreV s Hm y'.1.cls (shA b o a) (PcU b o L xs dC dI aC H (.ref a :: av)) (av.map (shV b o)) := ⟨PcU.blind, hrecv, fun U hU hw => ⟨rfl, hC.2.2.2.2.2.2.at hW hS hU hw, by rw [hU]; exact hW⟩⟩
  have hR : (({ frames := d, cells := mc, slots := ms, locals := 64 * d } : Room)).frames + 1 ≤ R.frames ∧ 8 + (y'.2.2.1 + 11) + (({ frames := d, cells := mc, slots := ms, locals := 64 * d } : Room)).locals ≤ R.locals := ⟨h1, by have := hm.2.2.2.2; show 8 + (y'.2.2.1 + 11) + 64 * d ≤ R.locals; omega⟩
  have hst' : 2 * (F0 m pc ls ((av.reverse ++ .ref a :: st).map (shV b o))).monitorRoom + ((st.map (shV b o)).map fun v => v.category).sum ≤ 8 := lv_room (by rw [List.map_map, show (fun v => v.category) ∘ shV b o = (fun v : Value => v.category) from funext (shV_cat b o)]; exact hst)
  have hstk : (F0 m pc ls ((av.reverse ++ .ref a :: st).map (shV b o))).stack = (av.map (shV b o)).reverse ++ .ref (shA b o a) :: st.map (shV b o) := by
    show (av.reverse ++ .ref a :: st).map (shV b o) = _
    rw [List.map_append, List.map_reverse]; rfl
  refine call_go (st := st) (av := (Value.ref (shA b o a) :: av.map (shV b o)).toArray) hC hS hl h1 h2 h3 h4 hr ?_
  rcases hlk with hlk | ⟨host, hlk⟩
  · exact va_runV (Ts := gw) ⟨hC.1, hC.2.1, hC.2.2.1, hC.2.2.2.1, hC.2.2.2.2.2.1⟩ hM ⟨callB_of av.length hC.2.2.2.2.2.1 (gw_good hm) rfl rfl rfl (hC.2.2.2.2.2.1 _ hm.2.1) (hC.2.2.2.2.2.1 _ hlk) hm.2.2.1 hR, hC.2.2.2.2.2.1 _ hi, hC.2.2.2.2.2.1 _ hs⟩ hpre rfl (by simp) hl.1 hstk hst' hd ⟨by omega, by omega⟩
  · exact va_runVN (Ts := gw) ⟨hC.1, hC.2.1, hC.2.2.1, hC.2.2.2.1, hC.2.2.2.2.2.1⟩ hM ⟨va_cnB av.length hC.2.2.2.2.2.1 (gw_good hm) rfl rfl rfl (hC.2.2.2.2.2.2.2.1 _ hlk) (hC.2.2.2.2.2.1 _ hm.2.1) hm.2.2.1 hR, hC.2.2.2.2.2.1 _ hi, hC.2.2.2.2.2.1 _ hs⟩ hpre rfl (by simp) hl.1 hstk hst' hd ⟨by omega, by omega⟩
theorem wp_calls {idx mc ms : Nat} {y' : MD} {av : List Value} {st0 : List Value} (hd : decode y.2.1 pc = .ok (.invokestatic idx, 3)) (hlk : Link y.1.cls idx y'.1) (hm : MOk y' av.length) (hs : Cond.static y'.1 ∈ gw) (hfit : (lg_sl av).length ≤ y'.2.2.1) (hst : (st.map fun v => v.category).sum ≤ 8) (hst0 : st0 = av.reverse ++ st)
    (kk : Wp y' d mc ms 0 (lent av y'.2.2.1) [] H (fun v H' => Wp y (d + 1) kc ks (pc + 3) lo (v.toList ++ st) H' Q)) : Wp y (d + 1) (kc + mc) (ks + ms) pc lo st0 H Q := by
  intro b o L xs dC dI aC p l e R s m args below meth c Hm locs cells slots Qm ls hC hW hS hl h1 h2 h3 h4 hr
  subst hst0
  have hM := met_of hm hfit kk l b o L xs dC dI aC
  have hpre : PreS s Hm (PcU b o L xs dC dI aC H av) (av.map (shV b o)) := ⟨PcU.blind, fun U hU hw => ⟨rfl, hC.2.2.2.2.2.2.at hW hS hU hw, by rw [hU]; exact hW⟩⟩
  have hR : (({ frames := d, cells := mc, slots := ms, locals := 64 * d } : Room)).frames + 1 ≤ R.frames ∧ 8 + (y'.2.2.1 + 11) + (({ frames := d, cells := mc, slots := ms, locals := 64 * d } : Room)).locals ≤ R.locals := ⟨h1, by have := hm.2.2.2.2; show 8 + (y'.2.2.1 + 11) + 64 * d ≤ R.locals; omega⟩
  have hst' : 2 * (F0 m pc ls ((av.reverse ++ st).map (shV b o))).monitorRoom + ((st.map (shV b o)).map fun v => v.category).sum ≤ 8 := lv_room (by rw [List.map_map, show (fun v => v.category) ∘ shV b o = (fun v : Value => v.category) from funext (shV_cat b o)]; exact hst)
  have hstk : (F0 m pc ls ((av.reverse ++ st).map (shV b o))).stack = (av.map (shV b o)).reverse ++ st.map (shV b o) := by
    show (av.reverse ++ st).map (shV b o) = _
    rw [List.map_append, List.map_reverse]
  refine call_go (st := st) (av := (av.map (shV b o)).toArray) hC hS hl h1 h2 h3 h4 hr ?_
  rcases hlk with hlk | ⟨host, hlk⟩
  · exact va_runS (Ts := gw) ⟨hC.1, hC.2.1, hC.2.2.1, hC.2.2.2.1, hC.2.2.2.2.2.1⟩ hM ⟨callB_of av.length hC.2.2.2.2.2.1 (gw_good hm) rfl rfl rfl (hC.2.2.2.2.2.1 _ hm.2.1) (hC.2.2.2.2.2.1 _ hlk) hm.2.2.1 hR, hC.2.2.2.2.2.1 _ hs⟩ hpre rfl (by simp) hl.1 hstk hst' hd ⟨by omega, by omega⟩
  · exact va_runSN (Ts := gw) ⟨hC.1, hC.2.1, hC.2.2.1, hC.2.2.2.1, hC.2.2.2.2.2.1⟩ hM ⟨va_cnB av.length hC.2.2.2.2.2.1 (gw_good hm) rfl rfl rfl (hC.2.2.2.2.2.2.2.1 _ hlk) (hC.2.2.2.2.2.1 _ hm.2.1) hm.2.2.1 hR, hC.2.2.2.2.2.1 _ hs, trivial⟩ hpre rfl (by simp) hl.1 hstk hst' hd ⟨by omega, by omega⟩
theorem wp_calli {idx a mc ms : Nat} {y' : MD} {av : List Value} {st0 : List Value} (hd : decode y.2.1 pc = .ok (.invokespecial idx, 3)) (hlk : Link y.1.cls idx y'.1) (hm : MOk y' av.length) (hret : y'.2.2.2 = none) (hi : Cond.instanceMethod y'.1 ∈ gw) (hin : y'.1.name = "<init>") (hfit : (lg_sl (.ref a :: av)).length ≤ y'.2.2.1) (hst : (st.map fun v => v.category).sum ≤ 8) (hst0 : st0 = av.reverse ++ .ref a :: st)
    (kk : Wp y' d mc ms 0 (lent (.ref a :: av) y'.2.2.1) [] H (fun v H' => Wp y (d + 1) kc ks (pc + 3) lo (v.toList ++ st) H' Q)) : Wp y (d + 1) (kc + mc) (ks + ms) pc lo st0 H Q := by
  intro b o L xs dC dI aC p l e R s m args below meth c Hm locs cells slots Qm ls hC hW hS hl h1 h2 h3 h4 hr
  subst hst0
  have hM := met_of hm hfit kk l b o L xs dC dI aC
  rw [hret] at hM
  have hpre : PreS s Hm (PcU b o L xs dC dI aC H (.ref a :: av)) (.ref (shA b o a) :: av.map (shV b o)) := ⟨PcU.blind, fun U hU hw => ⟨rfl, hC.2.2.2.2.2.2.at hW hS hU hw, by rw [hU]; exact hW⟩⟩
  have hR : (({ frames := d, cells := mc, slots := ms, locals := 64 * d } : Room)).frames + 1 ≤ R.frames ∧ 8 + (y'.2.2.1 + 11) + (({ frames := d, cells := mc, slots := ms, locals := 64 * d } : Room)).locals ≤ R.locals := ⟨h1, by have := hm.2.2.2.2; show 8 + (y'.2.2.1 + 11) + 64 * d ≤ R.locals; omega⟩
  have hst' : 2 * (F0 m pc ls ((av.reverse ++ .ref a :: st).map (shV b o))).monitorRoom + ((st.map (shV b o)).map fun v => v.category).sum ≤ 8 := lv_room (by rw [List.map_map, show (fun v => v.category) ∘ shV b o = (fun v : Value => v.category) from funext (shV_cat b o)]; exact hst)
  have hstk : (F0 m pc ls ((av.reverse ++ .ref a :: st).map (shV b o))).stack = (av.map (shV b o)).reverse ++ .ref (shA b o a) :: st.map (shV b o) := by
    show (av.reverse ++ .ref a :: st).map (shV b o) = _
    rw [List.map_append, List.map_reverse]; rfl
  have hgd := gw_good hm
  rw [hret] at hgd
  refine call_go (st := st) (av := (Value.ref (shA b o a) :: av.map (shV b o)).toArray) hC hS hl h1 h2 h3 h4 hr ?_
  rcases hlk with hlk | ⟨host, hlk⟩
  · exact va_runI (Ts := gw) ⟨hC.1, hC.2.1, hC.2.2.1, hC.2.2.2.1, hC.2.2.2.2.2.1⟩ hM ⟨callB_of av.length hC.2.2.2.2.2.1 hgd rfl rfl rfl (hC.2.2.2.2.2.1 _ hm.2.1) (hC.2.2.2.2.2.1 _ hlk) hm.2.2.1 hR, hin, hC.2.2.2.2.2.1 _ hi⟩ hpre rfl (by simp) hl.1 hstk hst' hd ⟨by omega, by omega⟩
  · exact va_runIN (Ts := gw) ⟨hC.1, hC.2.1, hC.2.2.1, hC.2.2.2.1, hC.2.2.2.2.2.1⟩ hM ⟨va_cnB av.length hC.2.2.2.2.2.1 hgd rfl rfl rfl (hC.2.2.2.2.2.2.2.1 _ hlk) (hC.2.2.2.2.2.1 _ hm.2.1) hm.2.2.1 hR, hin, hC.2.2.2.2.2.1 _ hi⟩ hpre rfl (by simp) hl.1 hstk hst' hd ⟨by omega, by omega⟩
/-- Object's constructor -/
theorem wp_super {idx a : Nat} (hd : decode y.2.1 pc = .ok (.invokespecial idx, 3)) (hlk : Cond.methodLink y.1.cls idx objectInit ∈ gw) (hi : Cond.instanceMethod objectInit ∈ gw) (hc : Cond.code objectInit ⟨#[0xb1]⟩ 1 none ∈ gw) (hst : (st.map fun v => v.category).sum ≤ 8) (kk : Wp y (d + 1) kc ks (pc + 3) lo st H Q) : Wp y (d + 1) kc ks pc lo (.ref a :: st) H Q := by
  intro b o L xs dC dI aC p l e R s m args below meth c Hm locs cells slots Qm ls hC hW hS hl h1 h2 h3 h4 hr
  have hst' : 2 * (F0 m pc ls ((Value.ref a :: st).map (shV b o))).monitorRoom + ((st.map (shV b o)).map fun v => v.category).sum ≤ 8 := lv_room (by rw [List.map_map, show (fun v => v.category) ∘ shV b o = (fun v : Value => v.category) from funext (shV_cat b o)]; exact hst)
  exact W.objInit hC.1 hC.2.1 hC.2.2.2.1 (hC.2.2.2.2.2.1 _ hlk) (hC.2.2.2.2.2.1 _ hi) (hC.2.2.2.2.2.1 _ hc) rfl (hl.1.trans hC.2.2.1.symm) rfl hd (by omega) (by omega) (kk b o L xs dC dI aC p l e R s m args below meth c Hm locs cells slots Qm ls hC hW hS hl h1 h2 h3 h4 hr)
theorem wp_callv0 {idx ci a n : Nat} {y' : MD} {q : vw_C} (hd : decode y.2.1 pc = .ok (.invokevirtual idx, 3)) (hlk : Link y.1.cls idx y'.1) (hm : MOk y' 0) (hi : Cond.instanceMethod y'.1 ∈ gw) (hs : Cond.selects y'.1.cls y'.1 y'.1 ∈ gw) (hq : vwCl[ci]? = some q) (hqc : q.1 = y'.1.cls) (hk : hK H a = (ci + 1, n)) (hfit : (lg_sl (.ref a :: [])).length ≤ y'.2.2.1) (hst : (st.map fun v => v.category).sum ≤ 8) (kk : Wp y' d 0 0 0 (lent (.ref a :: []) y'.2.2.1) [] H (fun v H' => Wp y (d + 1) kc ks (pc + 3) lo (v.toList ++ st) H' Q)) : Wp y (d + 1) kc ks pc lo (.ref a :: st) H Q :=
  wp_callv (av := []) (mc := 0) (ms := 0) hd hlk hm hi hs hq hqc hk hfit hst rfl kk
theorem wp_callv0n {mc ms : Nat} {idx ci a n : Nat} {y' : MD} {q : vw_C} (hd : decode y.2.1 pc = .ok (.invokevirtual idx, 3)) (hlk : Link y.1.cls idx y'.1) (hm : MOk y' 0) (hi : Cond.instanceMethod y'.1 ∈ gw) (hs : Cond.selects y'.1.cls y'.1 y'.1 ∈ gw) (hq : vwCl[ci]? = some q) (hqc : q.1 = y'.1.cls) (hk : hK H a = (ci + 1, n)) (hfit : (lg_sl (.ref a :: [])).length ≤ y'.2.2.1) (hst : (st.map fun v => v.category).sum ≤ 8) (kk : Wp y' d mc ms 0 (lent (.ref a :: []) y'.2.2.1) [] H (fun v H' => Wp y (d + 1) kc ks (pc + 3) lo (v.toList ++ st) H' Q)) : Wp y (d + 1) (kc + mc) (ks + ms) pc lo (.ref a :: st) H Q :=
  wp_callv (av := []) (mc := mc) (ms := ms) hd hlk hm hi hs hq hqc hk hfit hst rfl kk
theorem wp_calli0 {idx a : Nat} {y' : MD} (hd : decode y.2.1 pc = .ok (.invokespecial idx, 3)) (hlk : Link y.1.cls idx y'.1) (hm : MOk y' 0) (hret : y'.2.2.2 = none) (hi : Cond.instanceMethod y'.1 ∈ gw) (hin : y'.1.name = "<init>") (hfit : (lg_sl (.ref a :: [])).length ≤ y'.2.2.1) (hst : (st.map fun v => v.category).sum ≤ 8) (kk : Wp y' d 0 0 0 (lent (.ref a :: []) y'.2.2.1) [] H (fun v H' => Wp y (d + 1) kc ks (pc + 3) lo (v.toList ++ st) H' Q)) : Wp y (d + 1) kc ks pc lo (.ref a :: st) H Q :=
  wp_calli (av := []) (mc := 0) (ms := 0) hd hlk hm hret hi hin hfit hst rfl kk
theorem wp_calli0n {mc ms : Nat} {idx a : Nat} {y' : MD} (hd : decode y.2.1 pc = .ok (.invokespecial idx, 3)) (hlk : Link y.1.cls idx y'.1) (hm : MOk y' 0) (hret : y'.2.2.2 = none) (hi : Cond.instanceMethod y'.1 ∈ gw) (hin : y'.1.name = "<init>") (hfit : (lg_sl (.ref a :: [])).length ≤ y'.2.2.1) (hst : (st.map fun v => v.category).sum ≤ 8) (kk : Wp y' d mc ms 0 (lent (.ref a :: []) y'.2.2.1) [] H (fun v H' => Wp y (d + 1) kc ks (pc + 3) lo (v.toList ++ st) H' Q)) : Wp y (d + 1) (kc + mc) (ks + ms) pc lo (.ref a :: st) H Q :=
  wp_calli (av := []) (mc := mc) (ms := ms) hd hlk hm hret hi hin hfit hst rfl kk
theorem wp_callv1 {idx ci a n : Nat} {y' : MD} {q : vw_C} {v1 : Value} (hd : decode y.2.1 pc = .ok (.invokevirtual idx, 3)) (hlk : Link y.1.cls idx y'.1) (hm : MOk y' 1) (hi : Cond.instanceMethod y'.1 ∈ gw) (hs : Cond.selects y'.1.cls y'.1 y'.1 ∈ gw) (hq : vwCl[ci]? = some q) (hqc : q.1 = y'.1.cls) (hk : hK H a = (ci + 1, n)) (hfit : (lg_sl (.ref a :: [v1])).length ≤ y'.2.2.1) (hst : (st.map fun v => v.category).sum ≤ 8) (kk : Wp y' d 0 0 0 (lent (.ref a :: [v1]) y'.2.2.1) [] H (fun v H' => Wp y (d + 1) kc ks (pc + 3) lo (v.toList ++ st) H' Q)) : Wp y (d + 1) kc ks pc lo (v1 :: .ref a :: st) H Q :=
  wp_callv (av := [v1]) (mc := 0) (ms := 0) hd hlk hm hi hs hq hqc hk hfit hst rfl kk
theorem wp_callv1n {mc ms : Nat} {idx ci a n : Nat} {y' : MD} {q : vw_C} {v1 : Value} (hd : decode y.2.1 pc = .ok (.invokevirtual idx, 3)) (hlk : Link y.1.cls idx y'.1) (hm : MOk y' 1) (hi : Cond.instanceMethod y'.1 ∈ gw) (hs : Cond.selects y'.1.cls y'.1 y'.1 ∈ gw) (hq : vwCl[ci]? = some q) (hqc : q.1 = y'.1.cls) (hk : hK H a = (ci + 1, n)) (hfit : (lg_sl (.ref a :: [v1])).length ≤ y'.2.2.1) (hst : (st.map fun v => v.category).sum ≤ 8) (kk : Wp y' d mc ms 0 (lent (.ref a :: [v1]) y'.2.2.1) [] H (fun v H' => Wp y (d + 1) kc ks (pc + 3) lo (v.toList ++ st) H' Q)) : Wp y (d + 1) (kc + mc) (ks + ms) pc lo (v1 :: .ref a :: st) H Q :=
  wp_callv (av := [v1]) (mc := mc) (ms := ms) hd hlk hm hi hs hq hqc hk hfit hst rfl kk
theorem wp_calli1 {idx a : Nat} {y' : MD} {v1 : Value} (hd : decode y.2.1 pc = .ok (.invokespecial idx, 3)) (hlk : Link y.1.cls idx y'.1) (hm : MOk y' 1) (hret : y'.2.2.2 = none) (hi : Cond.instanceMethod y'.1 ∈ gw) (hin : y'.1.name = "<init>") (hfit : (lg_sl (.ref a :: [v1])).length ≤ y'.2.2.1) (hst : (st.map fun v => v.category).sum ≤ 8) (kk : Wp y' d 0 0 0 (lent (.ref a :: [v1]) y'.2.2.1) [] H (fun v H' => Wp y (d + 1) kc ks (pc + 3) lo (v.toList ++ st) H' Q)) : Wp y (d + 1) kc ks pc lo (v1 :: .ref a :: st) H Q :=
  wp_calli (av := [v1]) (mc := 0) (ms := 0) hd hlk hm hret hi hin hfit hst rfl kk
theorem wp_calli1n {mc ms : Nat} {idx a : Nat} {y' : MD} {v1 : Value} (hd : decode y.2.1 pc = .ok (.invokespecial idx, 3)) (hlk : Link y.1.cls idx y'.1) (hm : MOk y' 1) (hret : y'.2.2.2 = none) (hi : Cond.instanceMethod y'.1 ∈ gw) (hin : y'.1.name = "<init>") (hfit : (lg_sl (.ref a :: [v1])).length ≤ y'.2.2.1) (hst : (st.map fun v => v.category).sum ≤ 8) (kk : Wp y' d mc ms 0 (lent (.ref a :: [v1]) y'.2.2.1) [] H (fun v H' => Wp y (d + 1) kc ks (pc + 3) lo (v.toList ++ st) H' Q)) : Wp y (d + 1) (kc + mc) (ks + ms) pc lo (v1 :: .ref a :: st) H Q :=
  wp_calli (av := [v1]) (mc := mc) (ms := ms) hd hlk hm hret hi hin hfit hst rfl kk
theorem wp_calls1 {idx : Nat} {y' : MD} {v1 : Value} (hd : decode y.2.1 pc = .ok (.invokestatic idx, 3)) (hlk : Link y.1.cls idx y'.1) (hm : MOk y' 1) (hs : Cond.static y'.1 ∈ gw) (hfit : (lg_sl [v1]).length ≤ y'.2.2.1) (hst : (st.map fun v => v.category).sum ≤ 8) (kk : Wp y' d 0 0 0 (lent [v1] y'.2.2.1) [] H (fun v H' => Wp y (d + 1) kc ks (pc + 3) lo (v.toList ++ st) H' Q)) : Wp y (d + 1) kc ks pc lo (v1 :: st) H Q :=
  wp_calls (av := [v1]) (mc := 0) (ms := 0) hd hlk hm hs hfit hst rfl kk
theorem wp_calls1n {mc ms : Nat} {idx : Nat} {y' : MD} {v1 : Value} (hd : decode y.2.1 pc = .ok (.invokestatic idx, 3)) (hlk : Link y.1.cls idx y'.1) (hm : MOk y' 1) (hs : Cond.static y'.1 ∈ gw) (hfit : (lg_sl [v1]).length ≤ y'.2.2.1) (hst : (st.map fun v => v.category).sum ≤ 8) (kk : Wp y' d mc ms 0 (lent [v1] y'.2.2.1) [] H (fun v H' => Wp y (d + 1) kc ks (pc + 3) lo (v.toList ++ st) H' Q)) : Wp y (d + 1) (kc + mc) (ks + ms) pc lo (v1 :: st) H Q :=
  wp_calls (av := [v1]) (mc := mc) (ms := ms) hd hlk hm hs hfit hst rfl kk
theorem wp_callv2 {idx ci a n : Nat} {y' : MD} {q : vw_C} {v1 v2 : Value} (hd : decode y.2.1 pc = .ok (.invokevirtual idx, 3)) (hlk : Link y.1.cls idx y'.1) (hm : MOk y' 2) (hi : Cond.instanceMethod y'.1 ∈ gw) (hs : Cond.selects y'.1.cls y'.1 y'.1 ∈ gw) (hq : vwCl[ci]? = some q) (hqc : q.1 = y'.1.cls) (hk : hK H a = (ci + 1, n)) (hfit : (lg_sl (.ref a :: [v1, v2])).length ≤ y'.2.2.1) (hst : (st.map fun v => v.category).sum ≤ 8) (kk : Wp y' d 0 0 0 (lent (.ref a :: [v1, v2]) y'.2.2.1) [] H (fun v H' => Wp y (d + 1) kc ks (pc + 3) lo (v.toList ++ st) H' Q)) : Wp y (d + 1) kc ks pc lo (v2 :: v1 :: .ref a :: st) H Q :=
  wp_callv (av := [v1, v2]) (mc := 0) (ms := 0) hd hlk hm hi hs hq hqc hk hfit hst rfl kk
theorem wp_callv2n {mc ms : Nat} {idx ci a n : Nat} {y' : MD} {q : vw_C} {v1 v2 : Value} (hd : decode y.2.1 pc = .ok (.invokevirtual idx, 3)) (hlk : Link y.1.cls idx y'.1) (hm : MOk y' 2) (hi : Cond.instanceMethod y'.1 ∈ gw) (hs : Cond.selects y'.1.cls y'.1 y'.1 ∈ gw) (hq : vwCl[ci]? = some q) (hqc : q.1 = y'.1.cls) (hk : hK H a = (ci + 1, n)) (hfit : (lg_sl (.ref a :: [v1, v2])).length ≤ y'.2.2.1) (hst : (st.map fun v => v.category).sum ≤ 8) (kk : Wp y' d mc ms 0 (lent (.ref a :: [v1, v2]) y'.2.2.1) [] H (fun v H' => Wp y (d + 1) kc ks (pc + 3) lo (v.toList ++ st) H' Q)) : Wp y (d + 1) (kc + mc) (ks + ms) pc lo (v2 :: v1 :: .ref a :: st) H Q :=
  wp_callv (av := [v1, v2]) (mc := mc) (ms := ms) hd hlk hm hi hs hq hqc hk hfit hst rfl kk
theorem wp_calli2 {idx a : Nat} {y' : MD} {v1 v2 : Value} (hd : decode y.2.1 pc = .ok (.invokespecial idx, 3)) (hlk : Link y.1.cls idx y'.1) (hm : MOk y' 2) (hret : y'.2.2.2 = none) (hi : Cond.instanceMethod y'.1 ∈ gw) (hin : y'.1.name = "<init>") (hfit : (lg_sl (.ref a :: [v1, v2])).length ≤ y'.2.2.1) (hst : (st.map fun v => v.category).sum ≤ 8) (kk : Wp y' d 0 0 0 (lent (.ref a :: [v1, v2]) y'.2.2.1) [] H (fun v H' => Wp y (d + 1) kc ks (pc + 3) lo (v.toList ++ st) H' Q)) : Wp y (d + 1) kc ks pc lo (v2 :: v1 :: .ref a :: st) H Q :=
  wp_calli (av := [v1, v2]) (mc := 0) (ms := 0) hd hlk hm hret hi hin hfit hst rfl kk
theorem wp_calli2n {mc ms : Nat} {idx a : Nat} {y' : MD} {v1 v2 : Value} (hd : decode y.2.1 pc = .ok (.invokespecial idx, 3)) (hlk : Link y.1.cls idx y'.1) (hm : MOk y' 2) (hret : y'.2.2.2 = none) (hi : Cond.instanceMethod y'.1 ∈ gw) (hin : y'.1.name = "<init>") (hfit : (lg_sl (.ref a :: [v1, v2])).length ≤ y'.2.2.1) (hst : (st.map fun v => v.category).sum ≤ 8) (kk : Wp y' d mc ms 0 (lent (.ref a :: [v1, v2]) y'.2.2.1) [] H (fun v H' => Wp y (d + 1) kc ks (pc + 3) lo (v.toList ++ st) H' Q)) : Wp y (d + 1) (kc + mc) (ks + ms) pc lo (v2 :: v1 :: .ref a :: st) H Q :=
  wp_calli (av := [v1, v2]) (mc := mc) (ms := ms) hd hlk hm hret hi hin hfit hst rfl kk
theorem wp_calls2 {idx : Nat} {y' : MD} {v1 v2 : Value} (hd : decode y.2.1 pc = .ok (.invokestatic idx, 3)) (hlk : Link y.1.cls idx y'.1) (hm : MOk y' 2) (hs : Cond.static y'.1 ∈ gw) (hfit : (lg_sl [v1, v2]).length ≤ y'.2.2.1) (hst : (st.map fun v => v.category).sum ≤ 8) (kk : Wp y' d 0 0 0 (lent [v1, v2] y'.2.2.1) [] H (fun v H' => Wp y (d + 1) kc ks (pc + 3) lo (v.toList ++ st) H' Q)) : Wp y (d + 1) kc ks pc lo (v2 :: v1 :: st) H Q :=
  wp_calls (av := [v1, v2]) (mc := 0) (ms := 0) hd hlk hm hs hfit hst rfl kk
theorem wp_calls2n {mc ms : Nat} {idx : Nat} {y' : MD} {v1 v2 : Value} (hd : decode y.2.1 pc = .ok (.invokestatic idx, 3)) (hlk : Link y.1.cls idx y'.1) (hm : MOk y' 2) (hs : Cond.static y'.1 ∈ gw) (hfit : (lg_sl [v1, v2]).length ≤ y'.2.2.1) (hst : (st.map fun v => v.category).sum ≤ 8) (kk : Wp y' d mc ms 0 (lent [v1, v2] y'.2.2.1) [] H (fun v H' => Wp y (d + 1) kc ks (pc + 3) lo (v.toList ++ st) H' Q)) : Wp y (d + 1) (kc + mc) (ks + ms) pc lo (v2 :: v1 :: st) H Q :=
  wp_calls (av := [v1, v2]) (mc := mc) (ms := ms) hd hlk hm hs hfit hst rfl kk
theorem wp_callv3 {idx ci a n : Nat} {y' : MD} {q : vw_C} {v1 v2 v3 : Value} (hd : decode y.2.1 pc = .ok (.invokevirtual idx, 3)) (hlk : Link y.1.cls idx y'.1) (hm : MOk y' 3) (hi : Cond.instanceMethod y'.1 ∈ gw) (hs : Cond.selects y'.1.cls y'.1 y'.1 ∈ gw) (hq : vwCl[ci]? = some q) (hqc : q.1 = y'.1.cls) (hk : hK H a = (ci + 1, n)) (hfit : (lg_sl (.ref a :: [v1, v2, v3])).length ≤ y'.2.2.1) (hst : (st.map fun v => v.category).sum ≤ 8) (kk : Wp y' d 0 0 0 (lent (.ref a :: [v1, v2, v3]) y'.2.2.1) [] H (fun v H' => Wp y (d + 1) kc ks (pc + 3) lo (v.toList ++ st) H' Q)) : Wp y (d + 1) kc ks pc lo (v3 :: v2 :: v1 :: .ref a :: st) H Q :=
  wp_callv (av := [v1, v2, v3]) (mc := 0) (ms := 0) hd hlk hm hi hs hq hqc hk hfit hst rfl kk
theorem wp_callv3n {mc ms : Nat} {idx ci a n : Nat} {y' : MD} {q : vw_C} {v1 v2 v3 : Value} (hd : decode y.2.1 pc = .ok (.invokevirtual idx, 3)) (hlk : Link y.1.cls idx y'.1) (hm : MOk y' 3) (hi : Cond.instanceMethod y'.1 ∈ gw) (hs : Cond.selects y'.1.cls y'.1 y'.1 ∈ gw) (hq : vwCl[ci]? = some q) (hqc : q.1 = y'.1.cls) (hk : hK H a = (ci + 1, n)) (hfit : (lg_sl (.ref a :: [v1, v2, v3])).length ≤ y'.2.2.1) (hst : (st.map fun v => v.category).sum ≤ 8) (kk : Wp y' d mc ms 0 (lent (.ref a :: [v1, v2, v3]) y'.2.2.1) [] H (fun v H' => Wp y (d + 1) kc ks (pc + 3) lo (v.toList ++ st) H' Q)) : Wp y (d + 1) (kc + mc) (ks + ms) pc lo (v3 :: v2 :: v1 :: .ref a :: st) H Q :=
  wp_callv (av := [v1, v2, v3]) (mc := mc) (ms := ms) hd hlk hm hi hs hq hqc hk hfit hst rfl kk
theorem wp_calli3 {idx a : Nat} {y' : MD} {v1 v2 v3 : Value} (hd : decode y.2.1 pc = .ok (.invokespecial idx, 3)) (hlk : Link y.1.cls idx y'.1) (hm : MOk y' 3) (hret : y'.2.2.2 = none) (hi : Cond.instanceMethod y'.1 ∈ gw) (hin : y'.1.name = "<init>") (hfit : (lg_sl (.ref a :: [v1, v2, v3])).length ≤ y'.2.2.1) (hst : (st.map fun v => v.category).sum ≤ 8) (kk : Wp y' d 0 0 0 (lent (.ref a :: [v1, v2, v3]) y'.2.2.1) [] H (fun v H' => Wp y (d + 1) kc ks (pc + 3) lo (v.toList ++ st) H' Q)) : Wp y (d + 1) kc ks pc lo (v3 :: v2 :: v1 :: .ref a :: st) H Q :=
  wp_calli (av := [v1, v2, v3]) (mc := 0) (ms := 0) hd hlk hm hret hi hin hfit hst rfl kk
theorem wp_calli3n {mc ms : Nat} {idx a : Nat} {y' : MD} {v1 v2 v3 : Value} (hd : decode y.2.1 pc = .ok (.invokespecial idx, 3)) (hlk : Link y.1.cls idx y'.1) (hm : MOk y' 3) (hret : y'.2.2.2 = none) (hi : Cond.instanceMethod y'.1 ∈ gw) (hin : y'.1.name = "<init>") (hfit : (lg_sl (.ref a :: [v1, v2, v3])).length ≤ y'.2.2.1) (hst : (st.map fun v => v.category).sum ≤ 8) (kk : Wp y' d mc ms 0 (lent (.ref a :: [v1, v2, v3]) y'.2.2.1) [] H (fun v H' => Wp y (d + 1) kc ks (pc + 3) lo (v.toList ++ st) H' Q)) : Wp y (d + 1) (kc + mc) (ks + ms) pc lo (v3 :: v2 :: v1 :: .ref a :: st) H Q :=
  wp_calli (av := [v1, v2, v3]) (mc := mc) (ms := ms) hd hlk hm hret hi hin hfit hst rfl kk
theorem wp_calls3 {idx : Nat} {y' : MD} {v1 v2 v3 : Value} (hd : decode y.2.1 pc = .ok (.invokestatic idx, 3)) (hlk : Link y.1.cls idx y'.1) (hm : MOk y' 3) (hs : Cond.static y'.1 ∈ gw) (hfit : (lg_sl [v1, v2, v3]).length ≤ y'.2.2.1) (hst : (st.map fun v => v.category).sum ≤ 8) (kk : Wp y' d 0 0 0 (lent [v1, v2, v3] y'.2.2.1) [] H (fun v H' => Wp y (d + 1) kc ks (pc + 3) lo (v.toList ++ st) H' Q)) : Wp y (d + 1) kc ks pc lo (v3 :: v2 :: v1 :: st) H Q :=
  wp_calls (av := [v1, v2, v3]) (mc := 0) (ms := 0) hd hlk hm hs hfit hst rfl kk
theorem wp_calls3n {mc ms : Nat} {idx : Nat} {y' : MD} {v1 v2 v3 : Value} (hd : decode y.2.1 pc = .ok (.invokestatic idx, 3)) (hlk : Link y.1.cls idx y'.1) (hm : MOk y' 3) (hs : Cond.static y'.1 ∈ gw) (hfit : (lg_sl [v1, v2, v3]).length ≤ y'.2.2.1) (hst : (st.map fun v => v.category).sum ≤ 8) (kk : Wp y' d mc ms 0 (lent [v1, v2, v3] y'.2.2.1) [] H (fun v H' => Wp y (d + 1) kc ks (pc + 3) lo (v.toList ++ st) H' Q)) : Wp y (d + 1) (kc + mc) (ks + ms) pc lo (v3 :: v2 :: v1 :: st) H Q :=
  wp_calls (av := [v1, v2, v3]) (mc := mc) (ms := ms) hd hlk hm hs hfit hst rfl kk
theorem wp_callv4 {idx ci a n : Nat} {y' : MD} {q : vw_C} {v1 v2 v3 v4 : Value} (hd : decode y.2.1 pc = .ok (.invokevirtual idx, 3)) (hlk : Link y.1.cls idx y'.1) (hm : MOk y' 4) (hi : Cond.instanceMethod y'.1 ∈ gw) (hs : Cond.selects y'.1.cls y'.1 y'.1 ∈ gw) (hq : vwCl[ci]? = some q) (hqc : q.1 = y'.1.cls) (hk : hK H a = (ci + 1, n)) (hfit : (lg_sl (.ref a :: [v1, v2, v3, v4])).length ≤ y'.2.2.1) (hst : (st.map fun v => v.category).sum ≤ 8) (kk : Wp y' d 0 0 0 (lent (.ref a :: [v1, v2, v3, v4]) y'.2.2.1) [] H (fun v H' => Wp y (d + 1) kc ks (pc + 3) lo (v.toList ++ st) H' Q)) : Wp y (d + 1) kc ks pc lo (v4 :: v3 :: v2 :: v1 :: .ref a :: st) H Q :=
  wp_callv (av := [v1, v2, v3, v4]) (mc := 0) (ms := 0) hd hlk hm hi hs hq hqc hk hfit hst rfl kk
theorem wp_callv4n {mc ms : Nat} {idx ci a n : Nat} {y' : MD} {q : vw_C} {v1 v2 v3 v4 : Value} (hd : decode y.2.1 pc = .ok (.invokevirtual idx, 3)) (hlk : Link y.1.cls idx y'.1) (hm : MOk y' 4) (hi : Cond.instanceMethod y'.1 ∈ gw) (hs : Cond.selects y'.1.cls y'.1 y'.1 ∈ gw) (hq : vwCl[ci]? = some q) (hqc : q.1 = y'.1.cls) (hk : hK H a = (ci + 1, n)) (hfit : (lg_sl (.ref a :: [v1, v2, v3, v4])).length ≤ y'.2.2.1) (hst : (st.map fun v => v.category).sum ≤ 8) (kk : Wp y' d mc ms 0 (lent (.ref a :: [v1, v2, v3, v4]) y'.2.2.1) [] H (fun v H' => Wp y (d + 1) kc ks (pc + 3) lo (v.toList ++ st) H' Q)) : Wp y (d + 1) (kc + mc) (ks + ms) pc lo (v4 :: v3 :: v2 :: v1 :: .ref a :: st) H Q :=
  wp_callv (av := [v1, v2, v3, v4]) (mc := mc) (ms := ms) hd hlk hm hi hs hq hqc hk hfit hst rfl kk
theorem wp_calli4 {idx a : Nat} {y' : MD} {v1 v2 v3 v4 : Value} (hd : decode y.2.1 pc = .ok (.invokespecial idx, 3)) (hlk : Link y.1.cls idx y'.1) (hm : MOk y' 4) (hret : y'.2.2.2 = none) (hi : Cond.instanceMethod y'.1 ∈ gw) (hin : y'.1.name = "<init>") (hfit : (lg_sl (.ref a :: [v1, v2, v3, v4])).length ≤ y'.2.2.1) (hst : (st.map fun v => v.category).sum ≤ 8) (kk : Wp y' d 0 0 0 (lent (.ref a :: [v1, v2, v3, v4]) y'.2.2.1) [] H (fun v H' => Wp y (d + 1) kc ks (pc + 3) lo (v.toList ++ st) H' Q)) : Wp y (d + 1) kc ks pc lo (v4 :: v3 :: v2 :: v1 :: .ref a :: st) H Q :=
  wp_calli (av := [v1, v2, v3, v4]) (mc := 0) (ms := 0) hd hlk hm hret hi hin hfit hst rfl kk
theorem wp_calli4n {mc ms : Nat} {idx a : Nat} {y' : MD} {v1 v2 v3 v4 : Value} (hd : decode y.2.1 pc = .ok (.invokespecial idx, 3)) (hlk : Link y.1.cls idx y'.1) (hm : MOk y' 4) (hret : y'.2.2.2 = none) (hi : Cond.instanceMethod y'.1 ∈ gw) (hin : y'.1.name = "<init>") (hfit : (lg_sl (.ref a :: [v1, v2, v3, v4])).length ≤ y'.2.2.1) (hst : (st.map fun v => v.category).sum ≤ 8) (kk : Wp y' d mc ms 0 (lent (.ref a :: [v1, v2, v3, v4]) y'.2.2.1) [] H (fun v H' => Wp y (d + 1) kc ks (pc + 3) lo (v.toList ++ st) H' Q)) : Wp y (d + 1) (kc + mc) (ks + ms) pc lo (v4 :: v3 :: v2 :: v1 :: .ref a :: st) H Q :=
  wp_calli (av := [v1, v2, v3, v4]) (mc := mc) (ms := ms) hd hlk hm hret hi hin hfit hst rfl kk
theorem wp_calls4 {idx : Nat} {y' : MD} {v1 v2 v3 v4 : Value} (hd : decode y.2.1 pc = .ok (.invokestatic idx, 3)) (hlk : Link y.1.cls idx y'.1) (hm : MOk y' 4) (hs : Cond.static y'.1 ∈ gw) (hfit : (lg_sl [v1, v2, v3, v4]).length ≤ y'.2.2.1) (hst : (st.map fun v => v.category).sum ≤ 8) (kk : Wp y' d 0 0 0 (lent [v1, v2, v3, v4] y'.2.2.1) [] H (fun v H' => Wp y (d + 1) kc ks (pc + 3) lo (v.toList ++ st) H' Q)) : Wp y (d + 1) kc ks pc lo (v4 :: v3 :: v2 :: v1 :: st) H Q :=
  wp_calls (av := [v1, v2, v3, v4]) (mc := 0) (ms := 0) hd hlk hm hs hfit hst rfl kk
theorem wp_calls4n {mc ms : Nat} {idx : Nat} {y' : MD} {v1 v2 v3 v4 : Value} (hd : decode y.2.1 pc = .ok (.invokestatic idx, 3)) (hlk : Link y.1.cls idx y'.1) (hm : MOk y' 4) (hs : Cond.static y'.1 ∈ gw) (hfit : (lg_sl [v1, v2, v3, v4]).length ≤ y'.2.2.1) (hst : (st.map fun v => v.category).sum ≤ 8) (kk : Wp y' d mc ms 0 (lent [v1, v2, v3, v4] y'.2.2.1) [] H (fun v H' => Wp y (d + 1) kc ks (pc + 3) lo (v.toList ++ st) H' Q)) : Wp y (d + 1) (kc + mc) (ks + ms) pc lo (v4 :: v3 :: v2 :: v1 :: st) H Q :=
  wp_calls (av := [v1, v2, v3, v4]) (mc := mc) (ms := ms) hd hlk hm hs hfit hst rfl kk
theorem wp_callv5 {idx ci a n : Nat} {y' : MD} {q : vw_C} {v1 v2 v3 v4 v5 : Value} (hd : decode y.2.1 pc = .ok (.invokevirtual idx, 3)) (hlk : Link y.1.cls idx y'.1) (hm : MOk y' 5) (hi : Cond.instanceMethod y'.1 ∈ gw) (hs : Cond.selects y'.1.cls y'.1 y'.1 ∈ gw) (hq : vwCl[ci]? = some q) (hqc : q.1 = y'.1.cls) (hk : hK H a = (ci + 1, n)) (hfit : (lg_sl (.ref a :: [v1, v2, v3, v4, v5])).length ≤ y'.2.2.1) (hst : (st.map fun v => v.category).sum ≤ 8) (kk : Wp y' d 0 0 0 (lent (.ref a :: [v1, v2, v3, v4, v5]) y'.2.2.1) [] H (fun v H' => Wp y (d + 1) kc ks (pc + 3) lo (v.toList ++ st) H' Q)) : Wp y (d + 1) kc ks pc lo (v5 :: v4 :: v3 :: v2 :: v1 :: .ref a :: st) H Q :=
  wp_callv (av := [v1, v2, v3, v4, v5]) (mc := 0) (ms := 0) hd hlk hm hi hs hq hqc hk hfit hst rfl kk
theorem wp_callv5n {mc ms : Nat} {idx ci a n : Nat} {y' : MD} {q : vw_C} {v1 v2 v3 v4 v5 : Value} (hd : decode y.2.1 pc = .ok (.invokevirtual idx, 3)) (hlk : Link y.1.cls idx y'.1) (hm : MOk y' 5) (hi : Cond.instanceMethod y'.1 ∈ gw) (hs : Cond.selects y'.1.cls y'.1 y'.1 ∈ gw) (hq : vwCl[ci]? = some q) (hqc : q.1 = y'.1.cls) (hk : hK H a = (ci + 1, n)) (hfit : (lg_sl (.ref a :: [v1, v2, v3, v4, v5])).length ≤ y'.2.2.1) (hst : (st.map fun v => v.category).sum ≤ 8) (kk : Wp y' d mc ms 0 (lent (.ref a :: [v1, v2, v3, v4, v5]) y'.2.2.1) [] H (fun v H' => Wp y (d + 1) kc ks (pc + 3) lo (v.toList ++ st) H' Q)) : Wp y (d + 1) (kc + mc) (ks + ms) pc lo (v5 :: v4 :: v3 :: v2 :: v1 :: .ref a :: st) H Q :=
  wp_callv (av := [v1, v2, v3, v4, v5]) (mc := mc) (ms := ms) hd hlk hm hi hs hq hqc hk hfit hst rfl kk
theorem wp_calli5 {idx a : Nat} {y' : MD} {v1 v2 v3 v4 v5 : Value} (hd : decode y.2.1 pc = .ok (.invokespecial idx, 3)) (hlk : Link y.1.cls idx y'.1) (hm : MOk y' 5) (hret : y'.2.2.2 = none) (hi : Cond.instanceMethod y'.1 ∈ gw) (hin : y'.1.name = "<init>") (hfit : (lg_sl (.ref a :: [v1, v2, v3, v4, v5])).length ≤ y'.2.2.1) (hst : (st.map fun v => v.category).sum ≤ 8) (kk : Wp y' d 0 0 0 (lent (.ref a :: [v1, v2, v3, v4, v5]) y'.2.2.1) [] H (fun v H' => Wp y (d + 1) kc ks (pc + 3) lo (v.toList ++ st) H' Q)) : Wp y (d + 1) kc ks pc lo (v5 :: v4 :: v3 :: v2 :: v1 :: .ref a :: st) H Q :=
  wp_calli (av := [v1, v2, v3, v4, v5]) (mc := 0) (ms := 0) hd hlk hm hret hi hin hfit hst rfl kk
theorem wp_calli5n {mc ms : Nat} {idx a : Nat} {y' : MD} {v1 v2 v3 v4 v5 : Value} (hd : decode y.2.1 pc = .ok (.invokespecial idx, 3)) (hlk : Link y.1.cls idx y'.1) (hm : MOk y' 5) (hret : y'.2.2.2 = none) (hi : Cond.instanceMethod y'.1 ∈ gw) (hin : y'.1.name = "<init>") (hfit : (lg_sl (.ref a :: [v1, v2, v3, v4, v5])).length ≤ y'.2.2.1) (hst : (st.map fun v => v.category).sum ≤ 8) (kk : Wp y' d mc ms 0 (lent (.ref a :: [v1, v2, v3, v4, v5]) y'.2.2.1) [] H (fun v H' => Wp y (d + 1) kc ks (pc + 3) lo (v.toList ++ st) H' Q)) : Wp y (d + 1) (kc + mc) (ks + ms) pc lo (v5 :: v4 :: v3 :: v2 :: v1 :: .ref a :: st) H Q :=
  wp_calli (av := [v1, v2, v3, v4, v5]) (mc := mc) (ms := ms) hd hlk hm hret hi hin hfit hst rfl kk
theorem wp_callv6 {idx ci a n : Nat} {y' : MD} {q : vw_C} {v1 v2 v3 v4 v5 v6 : Value} (hd : decode y.2.1 pc = .ok (.invokevirtual idx, 3)) (hlk : Link y.1.cls idx y'.1) (hm : MOk y' 6) (hi : Cond.instanceMethod y'.1 ∈ gw) (hs : Cond.selects y'.1.cls y'.1 y'.1 ∈ gw) (hq : vwCl[ci]? = some q) (hqc : q.1 = y'.1.cls) (hk : hK H a = (ci + 1, n)) (hfit : (lg_sl (.ref a :: [v1, v2, v3, v4, v5, v6])).length ≤ y'.2.2.1) (hst : (st.map fun v => v.category).sum ≤ 8) (kk : Wp y' d 0 0 0 (lent (.ref a :: [v1, v2, v3, v4, v5, v6]) y'.2.2.1) [] H (fun v H' => Wp y (d + 1) kc ks (pc + 3) lo (v.toList ++ st) H' Q)) : Wp y (d + 1) kc ks pc lo (v6 :: v5 :: v4 :: v3 :: v2 :: v1 :: .ref a :: st) H Q :=
  wp_callv (av := [v1, v2, v3, v4, v5, v6]) (mc := 0) (ms := 0) hd hlk hm hi hs hq hqc hk hfit hst rfl kk
theorem wp_callv6n {mc ms : Nat} {idx ci a n : Nat} {y' : MD} {q : vw_C} {v1 v2 v3 v4 v5 v6 : Value} (hd : decode y.2.1 pc = .ok (.invokevirtual idx, 3)) (hlk : Link y.1.cls idx y'.1) (hm : MOk y' 6) (hi : Cond.instanceMethod y'.1 ∈ gw) (hs : Cond.selects y'.1.cls y'.1 y'.1 ∈ gw) (hq : vwCl[ci]? = some q) (hqc : q.1 = y'.1.cls) (hk : hK H a = (ci + 1, n)) (hfit : (lg_sl (.ref a :: [v1, v2, v3, v4, v5, v6])).length ≤ y'.2.2.1) (hst : (st.map fun v => v.category).sum ≤ 8) (kk : Wp y' d mc ms 0 (lent (.ref a :: [v1, v2, v3, v4, v5, v6]) y'.2.2.1) [] H (fun v H' => Wp y (d + 1) kc ks (pc + 3) lo (v.toList ++ st) H' Q)) : Wp y (d + 1) (kc + mc) (ks + ms) pc lo (v6 :: v5 :: v4 :: v3 :: v2 :: v1 :: .ref a :: st) H Q :=
  wp_callv (av := [v1, v2, v3, v4, v5, v6]) (mc := mc) (ms := ms) hd hlk hm hi hs hq hqc hk hfit hst rfl kk
theorem wp_calli6 {idx a : Nat} {y' : MD} {v1 v2 v3 v4 v5 v6 : Value} (hd : decode y.2.1 pc = .ok (.invokespecial idx, 3)) (hlk : Link y.1.cls idx y'.1) (hm : MOk y' 6) (hret : y'.2.2.2 = none) (hi : Cond.instanceMethod y'.1 ∈ gw) (hin : y'.1.name = "<init>") (hfit : (lg_sl (.ref a :: [v1, v2, v3, v4, v5, v6])).length ≤ y'.2.2.1) (hst : (st.map fun v => v.category).sum ≤ 8) (kk : Wp y' d 0 0 0 (lent (.ref a :: [v1, v2, v3, v4, v5, v6]) y'.2.2.1) [] H (fun v H' => Wp y (d + 1) kc ks (pc + 3) lo (v.toList ++ st) H' Q)) : Wp y (d + 1) kc ks pc lo (v6 :: v5 :: v4 :: v3 :: v2 :: v1 :: .ref a :: st) H Q :=
  wp_calli (av := [v1, v2, v3, v4, v5, v6]) (mc := 0) (ms := 0) hd hlk hm hret hi hin hfit hst rfl kk
theorem wp_calli6n {mc ms : Nat} {idx a : Nat} {y' : MD} {v1 v2 v3 v4 v5 v6 : Value} (hd : decode y.2.1 pc = .ok (.invokespecial idx, 3)) (hlk : Link y.1.cls idx y'.1) (hm : MOk y' 6) (hret : y'.2.2.2 = none) (hi : Cond.instanceMethod y'.1 ∈ gw) (hin : y'.1.name = "<init>") (hfit : (lg_sl (.ref a :: [v1, v2, v3, v4, v5, v6])).length ≤ y'.2.2.1) (hst : (st.map fun v => v.category).sum ≤ 8) (kk : Wp y' d mc ms 0 (lent (.ref a :: [v1, v2, v3, v4, v5, v6]) y'.2.2.1) [] H (fun v H' => Wp y (d + 1) kc ks (pc + 3) lo (v.toList ++ st) H' Q)) : Wp y (d + 1) (kc + mc) (ks + ms) pc lo (v6 :: v5 :: v4 :: v3 :: v2 :: v1 :: .ref a :: st) H Q :=
  wp_calli (av := [v1, v2, v3, v4, v5, v6]) (mc := mc) (ms := ms) hd hlk hm hret hi hin hfit hst rfl kk
theorem wp_callv7 {idx ci a n : Nat} {y' : MD} {q : vw_C} {v1 v2 v3 v4 v5 v6 v7 : Value} (hd : decode y.2.1 pc = .ok (.invokevirtual idx, 3)) (hlk : Link y.1.cls idx y'.1) (hm : MOk y' 7) (hi : Cond.instanceMethod y'.1 ∈ gw) (hs : Cond.selects y'.1.cls y'.1 y'.1 ∈ gw) (hq : vwCl[ci]? = some q) (hqc : q.1 = y'.1.cls) (hk : hK H a = (ci + 1, n)) (hfit : (lg_sl (.ref a :: [v1, v2, v3, v4, v5, v6, v7])).length ≤ y'.2.2.1) (hst : (st.map fun v => v.category).sum ≤ 8) (kk : Wp y' d 0 0 0 (lent (.ref a :: [v1, v2, v3, v4, v5, v6, v7]) y'.2.2.1) [] H (fun v H' => Wp y (d + 1) kc ks (pc + 3) lo (v.toList ++ st) H' Q)) : Wp y (d + 1) kc ks pc lo (v7 :: v6 :: v5 :: v4 :: v3 :: v2 :: v1 :: .ref a :: st) H Q :=
  wp_callv (av := [v1, v2, v3, v4, v5, v6, v7]) (mc := 0) (ms := 0) hd hlk hm hi hs hq hqc hk hfit hst rfl kk
theorem wp_callv7n {mc ms : Nat} {idx ci a n : Nat} {y' : MD} {q : vw_C} {v1 v2 v3 v4 v5 v6 v7 : Value} (hd : decode y.2.1 pc = .ok (.invokevirtual idx, 3)) (hlk : Link y.1.cls idx y'.1) (hm : MOk y' 7) (hi : Cond.instanceMethod y'.1 ∈ gw) (hs : Cond.selects y'.1.cls y'.1 y'.1 ∈ gw) (hq : vwCl[ci]? = some q) (hqc : q.1 = y'.1.cls) (hk : hK H a = (ci + 1, n)) (hfit : (lg_sl (.ref a :: [v1, v2, v3, v4, v5, v6, v7])).length ≤ y'.2.2.1) (hst : (st.map fun v => v.category).sum ≤ 8) (kk : Wp y' d mc ms 0 (lent (.ref a :: [v1, v2, v3, v4, v5, v6, v7]) y'.2.2.1) [] H (fun v H' => Wp y (d + 1) kc ks (pc + 3) lo (v.toList ++ st) H' Q)) : Wp y (d + 1) (kc + mc) (ks + ms) pc lo (v7 :: v6 :: v5 :: v4 :: v3 :: v2 :: v1 :: .ref a :: st) H Q :=
  wp_callv (av := [v1, v2, v3, v4, v5, v6, v7]) (mc := mc) (ms := ms) hd hlk hm hi hs hq hqc hk hfit hst rfl kk
theorem wp_calli7 {idx a : Nat} {y' : MD} {v1 v2 v3 v4 v5 v6 v7 : Value} (hd : decode y.2.1 pc = .ok (.invokespecial idx, 3)) (hlk : Link y.1.cls idx y'.1) (hm : MOk y' 7) (hret : y'.2.2.2 = none) (hi : Cond.instanceMethod y'.1 ∈ gw) (hin : y'.1.name = "<init>") (hfit : (lg_sl (.ref a :: [v1, v2, v3, v4, v5, v6, v7])).length ≤ y'.2.2.1) (hst : (st.map fun v => v.category).sum ≤ 8) (kk : Wp y' d 0 0 0 (lent (.ref a :: [v1, v2, v3, v4, v5, v6, v7]) y'.2.2.1) [] H (fun v H' => Wp y (d + 1) kc ks (pc + 3) lo (v.toList ++ st) H' Q)) : Wp y (d + 1) kc ks pc lo (v7 :: v6 :: v5 :: v4 :: v3 :: v2 :: v1 :: .ref a :: st) H Q :=
  wp_calli (av := [v1, v2, v3, v4, v5, v6, v7]) (mc := 0) (ms := 0) hd hlk hm hret hi hin hfit hst rfl kk
theorem wp_calli7n {mc ms : Nat} {idx a : Nat} {y' : MD} {v1 v2 v3 v4 v5 v6 v7 : Value} (hd : decode y.2.1 pc = .ok (.invokespecial idx, 3)) (hlk : Link y.1.cls idx y'.1) (hm : MOk y' 7) (hret : y'.2.2.2 = none) (hi : Cond.instanceMethod y'.1 ∈ gw) (hin : y'.1.name = "<init>") (hfit : (lg_sl (.ref a :: [v1, v2, v3, v4, v5, v6, v7])).length ≤ y'.2.2.1) (hst : (st.map fun v => v.category).sum ≤ 8) (kk : Wp y' d mc ms 0 (lent (.ref a :: [v1, v2, v3, v4, v5, v6, v7]) y'.2.2.1) [] H (fun v H' => Wp y (d + 1) kc ks (pc + 3) lo (v.toList ++ st) H' Q)) : Wp y (d + 1) (kc + mc) (ks + ms) pc lo (v7 :: v6 :: v5 :: v4 :: v3 :: v2 :: v1 :: .ref a :: st) H Q :=
  wp_calli (av := [v1, v2, v3, v4, v5, v6, v7]) (mc := mc) (ms := ms) hd hlk hm hret hi hin hfit hst rfl kk
/-- System.arraycopy of ints, from the beginning of a row to the beginning of another -/
theorem wp_copy {idx a0 a n0 n1 : Nat} {n : Int32} (hd : decode y.2.1 pc = .ok (.invokestatic idx, 3)) (hlk : Cond.methodLink y.1.cls idx arraycopyName ∈ gw) (hnat : Cond.native arraycopyName ∈ gw) (hsta : Cond.static arraycopyName ∈ gw) (hini : Cond.initialized "java/lang/System" ∈ gw) (hk0 : hK H a0 = (20, n0)) (hk1 : hK H a = (20, n1)) (hn : ¬ n < 0) (hn0 : n.toNatClampNeg ≤ n0) (hn1 : n.toNatClampNeg ≤ n1) (hst : (st.map fun v => v.category).sum ≤ 8)
    (kk : Wp y (d + 1) kc ks (pc + 3) lo st (sRow H a (fun j => if j < n.toNatClampNeg then hI H a0 j else hI H a j)) Q) : Wp y (d + 1) kc ks pc lo (.int n :: .int 0 :: .ref a :: .int 0 :: .ref a0 :: st) H Q := by
  intro b o L xs dC dI aC p l e R s m args below meth c Hm locs cells slots Qm ls hC hW hS hl h1 h2 h3 h4 hr
  obtain ⟨p0, p1⟩ := hW.pos hk1 (by omega) (by omega)
  obtain ⟨r0, r1⟩ := hW.pos hk0 (by omega) (by omega)
  have hg1 := hw_get (aC := aC) (b := b) (o := o) p0 p1
  rw [cellE_i hk1 (by simp [isIA])] at hg1
  have hg0 := hw_get (aC := aC) (b := b) (o := o) r0 r1
  rw [cellE_i hk0 (by simp [isIA])] at hg0
  have nn : ∀ z : Int32, ¬ z < 0 → z.toInt = (z.toNatClampNeg : Int) := by
    intro z hz
    have hz0 : (0 : Int) ≤ z.toInt := by
      have := Int32.not_lt.mp hz
      simpa using Int32.le_iff_toInt_le.mp this
    show z.toInt = ((z.toInt.toNat : Nat) : Int)
    omega
  intro T hT X
  have hc0 : Hm[shA b o a0]? = some (vp_cell (aC 20) (n0, .inl (hI H a0))) := hW.1 (a0 - 1) _ hg0
  have hc1 : Hm[shA b o a]? = some (vp_cell (aC 20) (n1, .inl (hI H a))) := hW.1 (a - 1) _ hg1
  obtain ⟨-, k0, hk0', cm0, hkk0⟩ := (hC.2.2.2.2.2.2.1.2 0 _ rfl).1 n0 (fun j => .int (hI H a0 j))
  obtain ⟨vm', X', step⟩ := X.arraycopy hC.1 hC.2.2.2.1 (hC.2.2.2.2.2.1 _ hlk) (hC.2.2.2.2.2.1 _ hnat) (hC.2.2.2.2.2.1 _ hsta) (hC.2.2.2.2.2.1 _ hini) (src := shA b o a0) (dst := shA b o a) (cs := vp_cell (aC 20) (n0, .inl (hI H a0))) (cd := vp_cell (aC 20) (n1, .inl (hI H a))) (srcPos := 0) (destPos := 0) (n := n) (by rw [hT]; exact hc0) (by rw [hT]; exact hc1)
    (fun _ h => by cases h) (fun _ h => by cases h) (fun h => by cases h) (fun h => by cases h) hk0' hk0' hkk0 hkk0 (by simp [show refKind .int = false from rfl]) (by decide) (by decide) hn
    (by rw [nn n hn]; show ¬ (0 : Int32).toInt + _ > ((arrV (aC 20) n0 (fun j => .int (hI H a0 j))).slots.size : Int); rw [arrV_size, show (0 : Int32).toInt = 0 from rfl]; omega)
    (by rw [nn n hn]; show ¬ (0 : Int32).toInt + _ > ((arrV (aC 20) n1 (fun j => .int (hI H a j))).slots.size : Int); rw [arrV_size, show (0 : Int32).toInt = 0 from rfl]; omega)
    (fun vm₁ _ i hi => by
      have e : (vp_cell (aC 20) (n0, .inl (hI H a0))).slots.getD ((0 : Int32).toNatClampNeg + i) .null = .int (hI H a0 i) := by
        show (arrV (aC 20) n0 (fun j => .int (hI H a0 j))).slots.getD _ _ = _
        rw [Array.getD_eq_getD_getElem?, show (0 : Int32).toNatClampNeg = 0 from rfl, Nat.zero_add, arrV_read _ _ (by omega)]
        rfl
      refine ⟨?_, ?_⟩
      · rw [e]; rfl
      · rw [e]; exact trivial)
    (g := F0 m pc ls (.int n :: .int 0 :: .ref (shA b o a) :: .int 0 :: .ref (shA b o a0) :: st.map (shV b o))) rfl (hl.1.trans hC.2.2.1.symm) (rest := st.map (shV b o)) rfl (by rw [hC.2.1]; exact hd) (by omega) (by
      have e9 : ((st.map (shV b o)).map fun v => v.category).sum ≤ 8 := by rw [List.map_map, show (fun v => v.category) ∘ shV b o = (fun v : Value => v.category) from funext (shV_cat b o)]; exact hst
      have e8 : nativeFrameWords "java/lang/System" "arraycopy" 5 ≤ 30 := by decide
      show 2 * 0 + _ + _ ≤ _
      omega)
  have e1 : copied (vp_cell (aC 20) (n0, .inl (hI H a0))) (vp_cell (aC 20) (n1, .inl (hI H a))) 0 0 n = vp_cell (aC 20) (n1, .inl (va_cpy (hI H a0) (hI H a) 0 0 n.toNatClampNeg)) := va_copied (fun z => .int z) (aC 20) (aC 20) (hI H a0) (hI H a) (by rw [show (0 : Int32).toNatClampNeg = 0 from rfl]; omega)
  rw [e1] at X' step
  have hlt : shA b o a < Hm.size := (Array.getElem?_eq_some_iff.mp hc1).1
  have hcpy : va_cpy (hI H a0) (hI H a) 0 0 n.toNatClampNeg = fun j => if j < n.toNatClampNeg then hI H a0 j else hI H a j := by
    funext j; simp [va_cpy]
  rw [hcpy] at X' step
  generalize hf : (fun j => if j < n.toNatClampNeg then hI H a0 j else hI H a j) = f at X' step kk
  have hheap : ((T.setVm vm').setCell (shA b o a) (vp_cell (aC 20) (n1, .inl f))).heap = Hm.setIfInBounds (shA b o a) (vp_cell (aC 20) (n1, .inl f)) := by rw [← hT]; rfl
  have oq : ∀ q : Nat, q ≠ shA b o a → (Hm.setIfInBounds (shA b o a) (vp_cell (aC 20) (n1, .inl f)))[q]? = Hm[q]? := fun q hq => by simp [Array.getElem?_setIfInBounds, Ne.symm hq]
  have hP1 := hW.1.set (hw_D aC b o H) hg1 (e := .inl (aC 20, n1, .inl f)) (H1 := Hm.setIfInBounds (shA b o a) (vp_cell (aC 20) (n1, .inl f))) (show (Hm.setIfInBounds (shA b o a) _)[shA b o a]? = some _ by simp [Array.getElem?_setIfInBounds, hlt]) oq
  have hW1 : Wd b o L xs dC dI aC (sRow H a f) (Hm.setIfInBounds (shA b o a) (vp_cell (aC 20) (n1, .inl f))) := hW.put p0 rfl rfl (by rw [hI_sRow, u1_ne (Ne.symm p0)]) (by rw [cellE_i (H := sRow H a f) (k := 20) (n := n1) hk1 (by simp [isIA]), hI_sRow, u1_eq]) (fun a' ha => cellE_eq rfl (by rw [hI_sRow, u1_ne ha]) rfl rfl) hP1 (by simp)
  obtain ⟨t, a1, b1⟩ := kk b o L xs dC dI aC p l e R s m args below meth c _ _ cells slots Qm ls hC hW1 ⟨by simp; exact hS.1, fun q g1 g2 => by
      rw [oq q (fun e => g2 (by rw [e, shA_pos p0]; show o + 1 ≤ o + a; omega))]
      exact hS.2.1 q g1 g2, fun q hq => by
      rcases List.mem_append.mp hq with h | h
      · exact hS.2.2 q h
      · obtain ⟨z, -, hz⟩ := List.mem_map.mp h
        rw [← hz]
        show o + 1 ≤ shA b o a
        rw [shA_pos p0]; omega⟩ hl h1 h2 h3 h4 hr _ hheap X'
  exact ⟨t, step t a1, b1⟩
end CallRules
