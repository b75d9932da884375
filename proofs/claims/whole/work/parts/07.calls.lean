/-! ===== calls ===== -/
def lent : List Value → Nat → List (Option Value)
  | [], n => List.replicate n none
  | .long x :: vs, n + 2 => some (.long x) :: none :: lent vs n
  | .double x :: vs, n + 2 => some (.double x) :: none :: lent vs n
  | .int x :: vs, n + 1 => some (.int x) :: lent vs n
  | .float x :: vs, n + 1 => some (.float x) :: lent vs n
  | .null :: vs, n + 1 => some .null :: lent vs n
  | .ref x :: vs, n + 1 => some (.ref x) :: lent vs n
  | .retAddr x :: vs, n + 1 => some (.retAddr x) :: lent vs n
  | _ :: _, _ => []
theorem lv_args_sh (b o : Nat) : ∀ (vs : List Value) (k i : Nat) (w : Value), (i, w) ∈ lv_args k vs → (i, shV b o w) ∈ lv_args k (vs.map (shV b o))
  | [], k, i, w, h => by simp [lv_args] at h
  | v :: vs, k, i, w, h => by
    simp only [lv_args, List.mem_cons] at h
    simp only [List.map_cons, lv_args, List.mem_cons, shV_cat]
    rcases h with h | h
    · cases h; exact Or.inl rfl
    · exact Or.inr (lv_args_sh b o vs _ i w h)
theorem lent_ok : ∀ (vs : List Value) (n k i : Nat) (w : Value), (lent vs n)[i]? = some (some w) → (k + i, w) ∈ lv_args k vs
  | [], n, k, i, w, h => by
    simp only [lent] at h
    rw [List.getElem?_replicate] at h
    split at h <;> simp at h
  | v :: vs, n, k, i, w, h => by
    have two : ∀ (m : Nat), v.category = 2 → (some v :: none :: lent vs m)[i]? = some (some w) → (k + i, w) ∈ lv_args k (v :: vs) := by
      intro m hc h
      match i with
      | 0 => simp at h; subst h; simp [lv_args]
      | 1 => simp at h
      | i + 2 =>
        simp at h
        have := lent_ok vs m (k + 2) i w h
        rw [lv_args, if_pos hc]
        exact List.mem_cons_of_mem _ (by rw [show k + (i + 2) = k + 2 + i by omega]; exact this)
    have one : ∀ (m : Nat), ¬ v.category = 2 → (some v :: lent vs m)[i]? = some (some w) → (k + i, w) ∈ lv_args k (v :: vs) := by
      intro m hc h
      match i with
      | 0 => simp at h; subst h; simp [lv_args]
      | i + 1 =>
        simp at h
        have := lent_ok vs m (k + 1) i w h
        rw [lv_args, if_neg hc]
        exact List.mem_cons_of_mem _ (by rw [show k + (i + 1) = k + 1 + i by omega]; exact this)
    cases v with
    | long x => rcases n with _ | _ | n <;> simp only [lent] at h <;> first | (simp at h; done) | exact two _ rfl h
    | double x => rcases n with _ | _ | n <;> simp only [lent] at h <;> first | (simp at h; done) | exact two _ rfl h
    | int x => rcases n with _ | n <;> simp only [lent] at h <;> first | (simp at h; done) | exact one _ (by simp [Value.category]) h
    | float x => rcases n with _ | n <;> simp only [lent] at h <;> first | (simp at h; done) | exact one _ (by simp [Value.category]) h
    | null => rcases n with _ | n <;> simp only [lent] at h <;> first | (simp at h; done) | exact one _ (by simp [Value.category]) h
    | ref x => rcases n with _ | n <;> simp only [lent] at h <;> first | (simp at h; done) | exact one _ (by simp [Value.category]) h
    | retAddr x => rcases n with _ | n <;> simp only [lent] at h <;> first | (simp at h; done) | exact one _ (by simp [Value.category]) h
theorem lg_sl_sh (b o : Nat) (vs : List Value) : (lg_sl (vs.map (shV b o))).length = (lg_sl vs).length := by
  induction vs with
  | nil => rfl
  | cons v vs ih =>
    simp only [lg_sl, List.map_cons, List.flatMap_cons, List.length_append] at ih ⊢
    rw [ih, shV_cat]
    by_cases h : v.category = 2 <;> simp [h]
theorem entry_ok {b o n : Nat} (vs : List Value) (h : (lg_sl vs).length ≤ n) : lo_ok b o ((lg_sl (vs.map (shV b o)) ++ List.replicate (n - (lg_sl (vs.map (shV b o))).length) Slot.unset).toArray) n (lent vs n) := by
  have hl := lv_entry (vs.map (shV b o)) (n := n) (by rw [lg_sl_sh]; exact h)
  refine ⟨hl.1, hl.2.1, fun i v hi => ?_⟩
  have := lent_ok vs n 0 i v hi
  rw [Nat.zero_add] at this
  exact hl.2.2 _ (lv_args_sh b o vs 0 i v this)
def PcU (b o L : Nat) (xs : Nat → Int32) (dC : Nat → ClassId) (dI : Nat → Nat → Nat) (aC : Nat → ClassId) (H : PH) (av : List Value) : Array Value → State → Prop := fun v U => v = (av.map (shV b o)).toArray ∧ Env0 b o L xs dC dI aC U ∧ Wd b o L xs dC dI aC H U.heap
def QcU (b o L : Nat) (xs : Nat → Int32) (dC : Nat → ClassId) (dI : Nat → Nat → Nat) (aC : Nat → ClassId) (Q : Option Value → PH → Prop) : Array Value → State → Outcome → State → Prop := fun _ st oc t => ∃ v H', oc = .returned (v.map (shV b o)) ∧ Q v H' ∧ Wd b o L xs dC dI aC H' t.heap ∧ va_F (fun q => o + 1 ≤ q) st t
theorem Env0.moved {b o L : Nat} {xs : Nat → Int32} {dC : Nat → ClassId} {dI : Nat → Nat → Nat} {aC : Nat → ClassId} {U U' : State} (h : Env0 b o L xs dC dI aC U) (hvm : U'.vm = U.vm) (hh : U'.heap = U.heap) : Env0 b o L xs dC dI aC U' := by
  obtain ⟨h1, h2, h3, h4, h5, h6, h7⟩ := h
  have ha : U.vm.Alike U'.vm := by rw [hvm]; exact Vm.Alike.refl U.vm
  refine ⟨h1.moved ha, fun w hw => ?_, by rw [hh]; exact h3.moved ha, h4, by rw [hh]; exact h5, h6.moved ha, h7.moved ha⟩
  have hn := (List.mem_filter.mp hw).2
  cases w <;> simp [isNest] at hn <;> exact va_tabs rfl hvm.symm (h2 _ hw)
theorem PcU.blind {b o L : Nat} {xs : Nat → Int32} {dC : Nat → ClassId} {dI : Nat → Nat → Nat} {aC : Nat → ClassId} {H : PH} {av : List Value} : FrameBlind (PcU b o L xs dC dI aC H av) := fun a U g mk h => ⟨h.1, h.2.1.moved rfl rfl, h.2.2⟩
/-- the tables know this method; n arguments beside the receiver -/
def MOk (y : MD) (n : Nat) : Prop := Cond.code y.1 y.2.1 y.2.2.1 y.2.2.2 ∈ gw ∧ Cond.initialized y.1.cls ∈ gw ∧ (y.1.cls ≠ "java/lang/invoke/MethodHandle" ∧ y.1.cls ≠ "java/lang/invoke/VarHandle" ∧ (parseMethodDescriptor y.1.desc).map (fun d => d.parameters.length) = some n) ∧ plainFor y.1 = true ∧ y.2.2.1 ≤ 40
def Link (own : String) (idx : Nat) (y : MethodName) : Prop := Cond.methodLink own idx y ∈ gw ∨ ∃ host, Cond.methodLinkNest own idx y host ∈ nw
theorem met_of {y : MD} {n d mc ms : Nat} {av : List Value} {H : PH} {Q : Option Value → PH → Prop} (hm : MOk y n) (hfit : (lg_sl av).length ≤ y.2.2.1) (kk : Wp y d mc ms 0 (lent av y.2.2.1) [] H Q) (l : Launch) (b o L : Nat) (xs : Nat → Int32) (dC : Nat → ClassId) (dI : Nat → Nat → Nat) (aC : Nat → ClassId) :
    Met l y.1 (Cond.code y.1 y.2.1 y.2.2.1 y.2.2.2 :: gw) { frames := d, cells := mc, slots := ms, locals := 64 * d } (PcU b o L xs dC dI aC H av) (QcU b o L xs dC dI aC Q) mc ms (fun q => o + 1 ≤ q) := by
  refine va_MetF (cc := y.2.1) (maxL := y.2.2.1) (ret := y.2.2.2) hm.2.2.2.1 rfl ?_
  intro p e s m args below meth c s₁ B hml hv
  obtain ⟨rfl, hE, hW⟩ := hv
  have hts := atoms_spec (ws := Cond.code y.1 y.2.1 y.2.2.1 y.2.2.2 :: gw) B.pre
  have hlocks := B.notSynchronized
  have hr := B.returns
  rw [lg_entry_eq]
  refine kk b o L xs dC dI aC p l e _ s m _ below meth c s.heap [] 0 0 _ _ ⟨B.exec, B.bytes, hml, findClass_of_methodNamed B.named, fun h => (name_of_methodNamed B.named B.method).1.trans h, fun w hw => hts w (List.mem_cons_of_mem _ hw), hE⟩ hW va_S.rf (entry_ok av hfit) (Nat.le_refl _) (Nat.le_refl _) (by show 0 + mc ≤ mc; omega) (by show 0 + ms ≤ ms; omega) ?_
  intro v H' Hm' locs' pc' ls' i hq hW' hS' hri hdec
  rw [Nat.zero_add, Nat.zero_add]
  have hqc : ∀ t : State, t.heap = Hm' → s.WarmedH t.vm → QcU b o L xs dC dI aC Q (av.map (shV b o)).toArray s (.returned (v.map (shV b o))) t := fun t ht _ => ⟨v, H', rfl, hq, by rw [ht]; exact hW', hS'.F ht⟩
  rcases hri with ⟨g1, rfl, rfl⟩ | ⟨x, g1, rfl, rfl⟩ | ⟨x, g1, hx, rfl, rfl⟩ | ⟨x, g1, rfl, rfl⟩ | ⟨r, t, g1, g2, rfl, rfl⟩
  · exact W.vret B.exec B.bytes (hr.trans g1) hqc hS'.2.2 hdec
  · exact W.iret B.exec B.bytes (hr.trans g1) hqc hS'.2.2 hdec
  · exact W.zret B.exec B.bytes (hr.trans g1) (by rcases hx with rfl | rfl <;> rfl) hqc hS'.2.2 hdec
  · exact W.lret B.exec B.bytes (hr.trans g1) hqc hS'.2.2 hdec
  · refine W.aret B.exec B.bytes (hr.trans g1) g2 ?_ hqc hS'.2.2 hdec
    rw [shV_rf]
    exact va_rf_or _
