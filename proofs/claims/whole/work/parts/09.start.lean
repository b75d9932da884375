/-! THE CLAIM OUT OF ONE WALK OF THE LAW'S BODY. Your part is whole_start (and what it stands on); all else here is the same for every law, but numbers. -/
def R_law : String := "CarriageHireLaw"
def lw_P (b : Addr) (xs : List Int32) (args : Array Value) (s : State) : Prop := args = #[.ref b] ∧ s.IntsAt b xs ∧ xs.length ≤ 3584 ∧ (Jvm.Cond.and given_1 narrow_1).before args s = true
def lw_Q (_ : Array Value) (s : State) (o : Outcome) (t : State) : Prop := o = .returned (some (.int 1)) ∧ Framed s o t [] 600000 7302250
def lw_Z (below : List Frame) (a : Array Value) (s : State) : State → Prop := fun t => ∃ o, t.status = .running ∧ Ended t below o ∧ lw_Q a s o t
/-- the law's own end, with 1 on the stack, nothing written that was there before, its room as the claim has it -/
theorem lw_ret {p : Program} {l : Launch} {e : Env} {s : State} {m : MethodId} {below : List Frame} {meth : Method} {c : Code} {b : Nat} (hx : p.tables.exec = Jvm.exec) (hb : c.code = code) (hr : meth.sig.returnType = ret) (hlocks : meth.locks = false) {pc : Nat} {H : Heap} {ls : Array Slot} (hdg : decode code pc = .ok (.ireturn, 1)) : W p l e room_1 s m #[Value.ref b] below meth c H [] 600000 7302250 (lw_Z below #[Value.ref b] s) (F0 m pc ls [.int 1]) := by
  intro T hT X
  obtain ⟨fs, hret, hrun, hended, hW, hframe⟩ := X.leave (v := some (.int 1)) (hlocks := hlocks) (fun h => by rw [hr] at h; cases h)
  have hmeth' : T.vm.method? m = some meth := X.method'
  refine ⟨T.setFrames fs, ?_, .returned (some (.int 1)), hrun, hended, rfl, ⟨_, rfl⟩, hW, hframe⟩
  jvm_step X.here [X.here.top, hx, hb, hdg, hmeth', hr, ret, narrow_b1]
  (try refine ⟨rfl, ?_⟩); (try refine ⟨rfl, ?_⟩)
  first | (intro acts; rw [hret _ acts rfl rfl rfl]) | rw [hret _ _ rfl rfl rfl]
  exact Steps.refl _
/-- what holds at the law's entry: the machine, the code, the tables' words (any of lw_tbl by 'hts w (by decide +kernel)'), the script of L ints xs at the cell b, what the Statement gives of the start (any of its parts by flat_of_before) -/
def lw_At (p : Program) (s : State) (m : MethodId) (meth : Method) (c : Code) (b L : Nat) (xs : Nat → Int32) : Prop :=
  p.tables.exec = Jvm.exec ∧ c.code = code ∧ meth.sig.returnType = ret ∧ c.maxLocals = 4 ∧ s.vm.findClass R_law = some m.cls ∧ (∀ w ∈ lw_tbl, w.before #[Value.ref b] s = true) ∧ va_X b L xs s s.heap ∧ b < s.heap.size ∧ meth.locks = false ∧ (Jvm.Cond.and given_1 narrow_1).before #[Value.ref b] s = true
/-! ===== the law's walk out of the pure one ===== -/
/-- the heap at the law's entry: the script alone -/
def H0 (L : Nat) (xs : Nat → Int32) : PH := (0, fun a => if a = 0 then (99, L) else (0, 0), fun _ => xs, fun _ _ => 0, fun _ _ => none)
def mL : MD := (yL_law, cL_law, 4, some .boolean)
set_option maxRecDepth 100000 in
theorem ov_H : Cond.arrayOver (.object "CarriageHire$Horse") ∈ lw_tbl := by
  have h : lw_tbl.contains (Cond.arrayOver (.object "CarriageHire$Horse")) = true := by decide +kernel
  simpa using h
set_option maxRecDepth 100000 in
theorem ov_J : Cond.arrayOver (.object "CarriageHire$Job") ∈ lw_tbl := by
  have h : lw_tbl.contains (Cond.arrayOver (.object "CarriageHire$Job")) = true := by decide +kernel
  simpa using h
set_option maxRecDepth 100000 in
theorem ac_I : Cond.arrayClass .int ∈ gw := in_gw (by decide +kernel)
set_option maxRecDepth 100000 in
theorem ac_B : Cond.arrayClass .byte ∈ gw := in_gw (by decide +kernel)
set_option maxRecDepth 100000 in
theorem ac_Z : Cond.arrayClass .boolean ∈ gw := in_gw (by decide +kernel)
set_option maxRecDepth 100000 in
theorem ac_J : Cond.arrayClass .long ∈ gw := in_gw (by decide +kernel)
theorem arr_known {args : Array Value} {s : State} {t : FieldType} (h : (Cond.arrayClass t).before args s = true) (ho : ∀ C, t ≠ .object C) : ∃ cA, ArrOfT s cA t ∧ va_RA s cA t := by
  obtain ⟨c, k, comp, h1, h2, h3⟩ := Cond.arrayClass_spec h
  refine ⟨c, fun n z => ⟨(fun k h => by cases h), k, h2, comp, h3⟩, ?_⟩
  cases t <;> first | exact h1 | exact absurd rfl (ho _)
theorem arr_knownO {args : Array Value} {s : State} {C : String} (h : (Cond.arrayOver (.object C)).before args s = true) : ∃ cA, ArrOfT s cA (.object C) ∧ va_RA s cA (.object C) := by
  obtain ⟨comp, c, k, h1, -, h3, h4, h5⟩ := Cond.arrayOver_spec h
  exact ⟨c, fun n z => ⟨(fun k h => by cases h), k, h3, comp, h4⟩, k, comp, h3, h4, h1, h5⟩
theorem start_of {p : Program} {e : Env} {s : State} {m : MethodId} {below : List Frame} {meth : Method} {c : Code} (l : Launch) {b L : Nat} {xs : Nat → Int32} (hlaw : Wp mL 1300 600000 7302250 0 [some (.ref 0), none, none, none] [] (H0 L xs) (fun v _ => v = some (.int 1))) (C0 : lw_At p s m meth c b L xs) : W p l e room_1 s m #[Value.ref b] below meth c s.heap [] 0 0 (lw_Z below #[Value.ref b] s) (entryFrame m ([Value.ref b] : List Value).toArray 4) := by
  obtain ⟨hx, hb, hr, hml, hown, hts, hX, hbl, hlocks, hgv⟩ := id C0
  have hgw : ∀ w ∈ gw, w.before #[Value.ref b] s = true := fun w hw => hts w (List.mem_filter.mp hw).1
  have hk1 : ∀ k : Nat, ∃ (cC : ClassId) (iS : Nat → Nat), ∀ q : vw_C, vwCl[k]? = some q → u_Kn s q.1 q.2.1 q.2.2 cC iS := by
    intro k
    rcases hq : vwCl[k]? with _ | q
    · exact ⟨0, fun _ => 0, fun q h => by cases h⟩
    · obtain ⟨k1, k2, k3, k4, k5, k6⟩ := clOk k q hq
      obtain ⟨cC, iS, h⟩ := u_known (C := q.1) (T := q.2.1) (N := q.2.2) (n := q.2.2) hgw k1 (hgw _ k4)
      exact ⟨cC, iS, fun q' h' => by cases h'; exact h⟩
  obtain ⟨dC, hk2⟩ := Classical.skolem.mp hk1
  obtain ⟨dI, hk3⟩ := Classical.skolem.mp hk2
  obtain ⟨c20, a20⟩ := arr_known (hgw _ ac_I) (fun C h => by cases h)
  obtain ⟨c21, a21⟩ := arr_known (hgw _ ac_B) (fun C h => by cases h)
  obtain ⟨c22, a22⟩ := arr_known (hgw _ ac_Z) (fun C h => by cases h)
  obtain ⟨c23, a23⟩ := arr_known (hgw _ ac_J) (fun C h => by cases h)
  obtain ⟨c24, a24⟩ := arr_knownO (hts _ ov_H)
  obtain ⟨c25, a25⟩ := arr_knownO (hts _ ov_J)
  obtain ⟨aC, e20, e21, e22, e23, e24, e25⟩ : ∃ aC : Nat → ClassId, aC 20 = c20 ∧ aC 21 = c21 ∧ aC 22 = c22 ∧ aC 23 = c23 ∧ aC 24 = c24 ∧ aC 25 = c25 := ⟨fun k => if k = 20 then c20 else if k = 21 then c21 else if k = 22 then c22 else if k = 23 then c23 else if k = 24 then c24 else c25, rfl, rfl, rfl, rfl, rfl, rfl⟩
  obtain ⟨o, ho⟩ : ∃ o, s.heap.size = o + 1 := ⟨s.heap.size - 1, by omega⟩
  have hK : va_K (dC, dI) vwCl (tys aC) s := by
    refine ⟨hk3, fun k q h => ?_⟩
    match k, h with
    | 0, h => cases h; rw [e20]; exact a20
    | 1, h => cases h; rw [e21]; exact a21
    | 2, h => cases h; rw [e22]; exact a22
    | 3, h => cases h; rw [e23]; exact a23
    | 4, h => cases h; rw [e24]; exact a24
    | 5, h => cases h; rw [e25]; exact a25
    | k + 6, h => simp [tys] at h
  have hE : Env0 b o L xs dC dI aC s := ⟨hK, fun w hw => by
    have hn := (List.mem_filter.mp hw)
    have hb9 := hts w hn.1
    cases w <;> simp [isNest] at hn <;> exact va_Nw.of rfl hb9, hX, by omega, by omega, va_AO.of (hts _ ov_H), va_AO.of (hts _ ov_J)⟩
  have hW : Wd b o L xs dC dI aC (H0 L xs) s.heap := ⟨fun k q h => by simp [hw, H0, hN] at h, by rw [ho]; rfl, rfl, fun a ha => by
    have : a ≠ 0 := by have : 0 < a := ha; omega
    show (if a = 0 then ((99, L) : Nat × Nat) else (0, 0)) = (0, 0)
    rw [if_neg this], fun j _ => rfl⟩
  rw [lg_entry_eq]
  refine hlaw b o L xs dC dI aC p l e room_1 s m _ below meth c s.heap [] 0 0 _ _ ⟨hx, hb, hml, hown, fun h => absurd h (by decide), hgw, hE⟩ hW va_S.rf ?_ (by decide) (by decide) (by decide) (by decide) ?_
  · exact entry_ok (b := b) (o := o) (n := 4) [.ref 0] (by decide)
  · intro v H' Hm' locs' pc' ls' i hq hW' hS' hri hdec
    subst hq
    have hi : i = .ireturn := by
      rcases hri with ⟨g1, g2, g3⟩ | ⟨x, g1, g2, g3⟩ | ⟨x, g1, g0, g2, g3⟩ | ⟨x, g1, g2, g3⟩ | ⟨r, t, g1, g2, g4, g3⟩
      · cases g2
      · exact g3
      · exact g3
      · cases g2
      · cases r <;> cases g4
    subst hi
    refine va_forget (fun q hq => ?_) (W.widen (k := 600000) (n := 7302250) (by decide) (by decide) (lw_ret hx hb hr hlocks hdec))
    rw [ho]; exact hS'.2.2 q hq
