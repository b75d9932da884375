/-! locals: a new value at a place -/
def lset : List (Option Value) → Nat → Value → List (Option Value)
  | [], _, _ => []
  | _ :: t, 0, v => some v :: t
  | some (.long _) :: t, 1, v => none :: lset t 0 v
  | some (.double _) :: t, 1, v => none :: lset t 0 v
  | x :: t, 1, v => x :: lset t 0 v
  | x :: t, i + 2, v => x :: lset t (i + 1) v
def lset2 : List (Option Value) → Nat → Value → List (Option Value)
  | [], _, _ => []
  | [_], 0, _ => []
  | _ :: _ :: t, 0, v => some v :: none :: t
  | some (.long _) :: t, 1, v => none :: lset2 t 0 v
  | some (.double _) :: t, 1, v => none :: lset2 t 0 v
  | x :: t, 1, v => x :: lset2 t 0 v
  | x :: t, i + 2, v => x :: lset2 t (i + 1) v
theorem lset_get (v w : Value) : ∀ (lo : List (Option Value)) (i j : Nat), (lset lo i v)[j]? = some (some w) → (j = i ∧ w = v) ∨ (j ≠ i ∧ lo[j]? = some (some w) ∧ ¬ (j + 1 = i ∧ w.category = 2))
  | [], i, j, h => by cases i <;> simp [lset] at h
  | x :: t, 0, j, h => by
    cases j with
    | zero => simp [lset] at h; exact Or.inl ⟨rfl, h.symm⟩
    | succ j => simp [lset] at h; exact Or.inr ⟨by omega, by simpa using h, by omega⟩
  | x :: t, 1, j, h => by
    cases j with
    | zero =>
      right
      refine ⟨by omega, ?_, ?_⟩
      · rcases x with _ | (x | x | x | x | _ | x | x) <;> simp [lset] at h <;> simp [h]
      · rcases x with _ | (x | x | x | x | _ | x | x) <;> simp [lset] at h <;> rw [← h] <;> simp [Value.category]
    | succ j =>
      have h' : (lset t 0 v)[j]? = some (some w) := by rcases x with _ | (x | x | x | x | _ | x | x) <;> simpa [lset] using h
      rcases lset_get v w t 0 j h' with ⟨a, b⟩ | ⟨a, b, c⟩
      · exact Or.inl ⟨by omega, b⟩
      · exact Or.inr ⟨by omega, by simpa using b, by omega⟩
  | x :: t, i + 2, j, h => by
    cases j with
    | zero => 
      have h' : some (some w) = some x := by rcases x with _ | (x | x | x | x | _ | x | x) <;> simp [lset] at h <;> simp [h]
      exact Or.inr ⟨by omega, by simpa using h'.symm, by omega⟩
    | succ j =>
      have h' : (lset t (i + 1) v)[j]? = some (some w) := by rcases x with _ | (x | x | x | x | _ | x | x) <;> simpa [lset] using h
      rcases lset_get v w t (i + 1) j h' with ⟨a, b⟩ | ⟨a, b, c⟩
      · exact Or.inl ⟨by omega, b⟩
      · exact Or.inr ⟨by omega, by simpa using b, fun q => c ⟨by omega, q.2⟩⟩
theorem lset2_get (v w : Value) : ∀ (lo : List (Option Value)) (i j : Nat), (lset2 lo i v)[j]? = some (some w) → (j = i ∧ w = v) ∨ (j ≠ i ∧ j ≠ i + 1 ∧ lo[j]? = some (some w) ∧ ¬ (j + 1 = i ∧ w.category = 2))
  | [], i, j, h => by cases i <;> simp [lset2] at h
  | [x], 0, j, h => by simp [lset2] at h
  | x :: x2 :: t, 0, j, h => by
    match j with
    | 0 => simp [lset2] at h; exact Or.inl ⟨rfl, h.symm⟩
    | 1 => simp [lset2] at h
    | j + 2 => simp [lset2] at h; exact Or.inr ⟨by omega, by omega, by simpa using h, by omega⟩
  | x :: t, 1, j, h => by
    cases j with
    | zero =>
      right
      refine ⟨by omega, by omega, ?_, ?_⟩
      · rcases x with _ | (x | x | x | x | _ | x | x) <;> simp [lset2] at h <;> simp [h]
      · rcases x with _ | (x | x | x | x | _ | x | x) <;> simp [lset2] at h <;> rw [← h] <;> simp [Value.category]
    | succ j =>
      have h' : (lset2 t 0 v)[j]? = some (some w) := by rcases x with _ | (x | x | x | x | _ | x | x) <;> simpa [lset2] using h
      rcases lset2_get v w t 0 j h' with ⟨a, b⟩ | ⟨a, a2, b, c⟩
      · exact Or.inl ⟨by omega, b⟩
      · exact Or.inr ⟨by omega, by omega, by simpa using b, by omega⟩
  | x :: t, i + 2, j, h => by
    cases j with
    | zero => 
      have h' : some (some w) = some x := by rcases x with _ | (x | x | x | x | _ | x | x) <;> simp [lset2] at h <;> simp [h]
      exact Or.inr ⟨by omega, by omega, by simpa using h'.symm, by omega⟩
    | succ j =>
      have h' : (lset2 t (i + 1) v)[j]? = some (some w) := by rcases x with _ | (x | x | x | x | _ | x | x) <;> simpa [lset2] using h
      rcases lset2_get v w t (i + 1) j h' with ⟨a, b⟩ | ⟨a, a2, b, c⟩
      · exact Or.inl ⟨by omega, b⟩
      · exact Or.inr ⟨by omega, by omega, by simpa using b, fun q => c ⟨by omega, q.2⟩⟩
/-- the known locals as a list of pairs -/
def lpairs (b o : Nat) (lo : List (Option Value)) : List (Nat × Value) := (List.range lo.length).filterMap (fun i => (lo.getD i none).map (fun v => (i, shV b o v)))
theorem lo_mem {b o : Nat} {lo : List (Option Value)} {i : Nat} {v : Value} (h : lo[i]? = some (some v)) : (i, shV b o v) ∈ lpairs b o lo := by
  have hl := (List.getElem?_eq_some_iff.mp h).1
  refine List.mem_filterMap.mpr ⟨i, List.mem_range.mpr hl, ?_⟩
  rw [List.getD_eq_getElem?_getD, h]
  rfl
theorem lo_has {b o nL : Nat} {ls : Array Slot} {lo : List (Option Value)} (h : lo_ok b o ls nL lo) : lv_has ls nL (lpairs b o lo) := by
  refine ⟨h.1, h.2.1, fun q hq => ?_⟩
  obtain ⟨i, -, hi⟩ := List.mem_filterMap.mp hq
  rw [List.getD_eq_getElem?_getD] at hi
  rcases hx : lo[i]? with _ | (_ | v)
  · rw [hx] at hi; simp at hi
  · rw [hx] at hi; simp at hi
  · rw [hx] at hi
    simp at hi
    rw [← hi]
    exact h.2.2 i v hx
theorem lo_store1 {b o nL i : Nat} {ls' : Array Slot} {lo : List (Option Value)} {v : Value} (h : lv_has ls' nL ((i, shV b o v) :: (lpairs b o lo).filter (fun q => !(q.1 == i) && !(q.1 + 1 == i && q.2.category == 2)))) : lo_ok b o ls' nL (lset lo i v) := by
  refine ⟨h.1, h.2.1, fun j w hj => ?_⟩
  rcases lset_get v w lo i j hj with ⟨a, e⟩ | ⟨a, e, n⟩
  · subst a; subst e
    exact h.2.2 _ List.mem_cons_self
  · refine h.2.2 (j, shV b o w) (List.mem_cons_of_mem _ (List.mem_filter.mpr ⟨lo_mem e, ?_⟩))
    simp [shV_cat, a]
    exact Decidable.not_and_iff_or_not.mp n
theorem lo_store2 {b o nL i : Nat} {ls' : Array Slot} {lo : List (Option Value)} {v : Value} (h : lv_has ls' nL ((i, shV b o v) :: (lpairs b o lo).filter (fun q => !(q.1 == i) && (!(q.1 == i + 1) && !(q.1 + 1 == i && q.2.category == 2))))) : lo_ok b o ls' nL (lset2 lo i v) := by
  refine ⟨h.1, h.2.1, fun j w hj => ?_⟩
  rcases lset2_get v w lo i j hj with ⟨a, e⟩ | ⟨a, a2, e, n⟩
  · subst a; subst e
    exact h.2.2 _ List.mem_cons_self
  · refine h.2.2 (j, shV b o w) (List.mem_cons_of_mem _ (List.mem_filter.mpr ⟨lo_mem e, ?_⟩))
    simp [shV_cat, a, a2]
    exact Decidable.not_and_iff_or_not.mp n
section Rules
variable {y : MD} {d kc ks pc : Nat} {lo : List (Option Value)} {st : List Value} {H : PH} {Q : Option Value → PH → Prop}

theorem wp_iadd {x : Int32} {z : Int32} (hd : decode y.2.1 pc = .ok (.iadd, 1)) (k : Wp y d kc ks (pc + 1) lo (.int (x + z) :: st) H Q) : Wp y d kc ks pc lo (.int z :: .int x :: st) H Q := by
  intro b o L xs dC dI aC p l e R s m args below meth c Hm locs cells slots Qm ls hC hW hS hl h1 h2 h3 h4 hr
  exact lv_iadd hC.1 hC.2.1 hd (k b o L xs dC dI aC p l e R s m args below meth c Hm locs cells slots Qm ls hC hW hS hl h1 h2 h3 h4 hr)
theorem wp_isub {x : Int32} {z : Int32} (hd : decode y.2.1 pc = .ok (.isub, 1)) (k : Wp y d kc ks (pc + 1) lo (.int (x - z) :: st) H Q) : Wp y d kc ks pc lo (.int z :: .int x :: st) H Q := by
  intro b o L xs dC dI aC p l e R s m args below meth c Hm locs cells slots Qm ls hC hW hS hl h1 h2 h3 h4 hr
  exact lv_isub hC.1 hC.2.1 hd (k b o L xs dC dI aC p l e R s m args below meth c Hm locs cells slots Qm ls hC hW hS hl h1 h2 h3 h4 hr)
theorem wp_imul {x : Int32} {z : Int32} (hd : decode y.2.1 pc = .ok (.imul, 1)) (k : Wp y d kc ks (pc + 1) lo (.int (x * z) :: st) H Q) : Wp y d kc ks pc lo (.int z :: .int x :: st) H Q := by
  intro b o L xs dC dI aC p l e R s m args below meth c Hm locs cells slots Qm ls hC hW hS hl h1 h2 h3 h4 hr
  exact lv_imul hC.1 hC.2.1 hd (k b o L xs dC dI aC p l e R s m args below meth c Hm locs cells slots Qm ls hC hW hS hl h1 h2 h3 h4 hr)
theorem wp_iand {x : Int32} {z : Int32} (hd : decode y.2.1 pc = .ok (.iand, 1)) (k : Wp y d kc ks (pc + 1) lo (.int (x &&& z) :: st) H Q) : Wp y d kc ks pc lo (.int z :: .int x :: st) H Q := by
  intro b o L xs dC dI aC p l e R s m args below meth c Hm locs cells slots Qm ls hC hW hS hl h1 h2 h3 h4 hr
  exact lv_iand hC.1 hC.2.1 hd (k b o L xs dC dI aC p l e R s m args below meth c Hm locs cells slots Qm ls hC hW hS hl h1 h2 h3 h4 hr)
theorem wp_ior {x : Int32} {z : Int32} (hd : decode y.2.1 pc = .ok (.ior, 1)) (k : Wp y d kc ks (pc + 1) lo (.int (x ||| z) :: st) H Q) : Wp y d kc ks pc lo (.int z :: .int x :: st) H Q := by
  intro b o L xs dC dI aC p l e R s m args below meth c Hm locs cells slots Qm ls hC hW hS hl h1 h2 h3 h4 hr
  exact lv_ior hC.1 hC.2.1 hd (k b o L xs dC dI aC p l e R s m args below meth c Hm locs cells slots Qm ls hC hW hS hl h1 h2 h3 h4 hr)
theorem wp_ixor {x : Int32} {z : Int32} (hd : decode y.2.1 pc = .ok (.ixor, 1)) (k : Wp y d kc ks (pc + 1) lo (.int (x ^^^ z) :: st) H Q) : Wp y d kc ks pc lo (.int z :: .int x :: st) H Q := by
  intro b o L xs dC dI aC p l e R s m args below meth c Hm locs cells slots Qm ls hC hW hS hl h1 h2 h3 h4 hr
  exact lv_ixor hC.1 hC.2.1 hd (k b o L xs dC dI aC p l e R s m args below meth c Hm locs cells slots Qm ls hC hW hS hl h1 h2 h3 h4 hr)
theorem wp_ishl {x : Int32} {z : Int32} (hd : decode y.2.1 pc = .ok (.ishl, 1)) (k : Wp y d kc ks (pc + 1) lo (.int (x <<< (z &&& 31)) :: st) H Q) : Wp y d kc ks pc lo (.int z :: .int x :: st) H Q := by
  intro b o L xs dC dI aC p l e R s m args below meth c Hm locs cells slots Qm ls hC hW hS hl h1 h2 h3 h4 hr
  exact lv_ishl hC.1 hC.2.1 hd (k b o L xs dC dI aC p l e R s m args below meth c Hm locs cells slots Qm ls hC hW hS hl h1 h2 h3 h4 hr)
theorem wp_ishr {x : Int32} {z : Int32} (hd : decode y.2.1 pc = .ok (.ishr, 1)) (k : Wp y d kc ks (pc + 1) lo (.int (x >>> (z &&& 31)) :: st) H Q) : Wp y d kc ks pc lo (.int z :: .int x :: st) H Q := by
  intro b o L xs dC dI aC p l e R s m args below meth c Hm locs cells slots Qm ls hC hW hS hl h1 h2 h3 h4 hr
  exact lv_ishr hC.1 hC.2.1 hd (k b o L xs dC dI aC p l e R s m args below meth c Hm locs cells slots Qm ls hC hW hS hl h1 h2 h3 h4 hr)
theorem wp_iushr {x : Int32} {z : Int32} (hd : decode y.2.1 pc = .ok (.iushr, 1)) (k : Wp y d kc ks (pc + 1) lo (.int ((x.toUInt32 >>> (z.toUInt32 &&& Int32.toUInt32 31)).toInt32) :: st) H Q) : Wp y d kc ks pc lo (.int z :: .int x :: st) H Q := by
  intro b o L xs dC dI aC p l e R s m args below meth c Hm locs cells slots Qm ls hC hW hS hl h1 h2 h3 h4 hr
  exact lv_iushr hC.1 hC.2.1 hd rfl (k b o L xs dC dI aC p l e R s m args below meth c Hm locs cells slots Qm ls hC hW hS hl h1 h2 h3 h4 hr)
theorem wp_ladd {x : Int64} {z : Int64} (hd : decode y.2.1 pc = .ok (.ladd, 1)) (k : Wp y d kc ks (pc + 1) lo (.long (x + z) :: st) H Q) : Wp y d kc ks pc lo (.long z :: .long x :: st) H Q := by
  intro b o L xs dC dI aC p l e R s m args below meth c Hm locs cells slots Qm ls hC hW hS hl h1 h2 h3 h4 hr
  exact lv_ladd hC.1 hC.2.1 hd (k b o L xs dC dI aC p l e R s m args below meth c Hm locs cells slots Qm ls hC hW hS hl h1 h2 h3 h4 hr)
theorem wp_lor {x : Int64} {z : Int64} (hd : decode y.2.1 pc = .ok (.lor, 1)) (k : Wp y d kc ks (pc + 1) lo (.long (x ||| z) :: st) H Q) : Wp y d kc ks pc lo (.long z :: .long x :: st) H Q := by
  intro b o L xs dC dI aC p l e R s m args below meth c Hm locs cells slots Qm ls hC hW hS hl h1 h2 h3 h4 hr
  exact lv_lor hC.1 hC.2.1 hd (k b o L xs dC dI aC p l e R s m args below meth c Hm locs cells slots Qm ls hC hW hS hl h1 h2 h3 h4 hr)
theorem wp_lshl {x : Int64} {z : Int32} (hd : decode y.2.1 pc = .ok (.lshl, 1)) (k : Wp y d kc ks (pc + 1) lo (.long (x <<< (z.toInt64 &&& 63)) :: st) H Q) : Wp y d kc ks pc lo (.int z :: .long x :: st) H Q := by
  intro b o L xs dC dI aC p l e R s m args below meth c Hm locs cells slots Qm ls hC hW hS hl h1 h2 h3 h4 hr
  exact lv_lshl hC.1 hC.2.1 hd rfl (k b o L xs dC dI aC p l e R s m args below meth c Hm locs cells slots Qm ls hC hW hS hl h1 h2 h3 h4 hr)
theorem wp_lushr {x : Int64} {z : Int32} (hd : decode y.2.1 pc = .ok (.lushr, 1)) (k : Wp y d kc ks (pc + 1) lo (.long ((x.toUInt64 >>> (z.toInt64.toUInt64 &&& Int64.toUInt64 63)).toInt64) :: st) H Q) : Wp y d kc ks pc lo (.int z :: .long x :: st) H Q := by
  intro b o L xs dC dI aC p l e R s m args below meth c Hm locs cells slots Qm ls hC hW hS hl h1 h2 h3 h4 hr
  exact lv_lushr hC.1 hC.2.1 hd rfl (k b o L xs dC dI aC p l e R s m args below meth c Hm locs cells slots Qm ls hC hW hS hl h1 h2 h3 h4 hr)
theorem wp_ineg {x : Int32} (hd : decode y.2.1 pc = .ok (.ineg, 1)) (k : Wp y d kc ks (pc + 1) lo (.int (-x) :: st) H Q) : Wp y d kc ks pc lo (.int x :: st) H Q := by
  intro b o L xs dC dI aC p l e R s m args below meth c Hm locs cells slots Qm ls hC hW hS hl h1 h2 h3 h4 hr
  exact lv_ineg hC.1 hC.2.1 hd (k b o L xs dC dI aC p l e R s m args below meth c Hm locs cells slots Qm ls hC hW hS hl h1 h2 h3 h4 hr)
theorem wp_i2l {x : Int32} (hd : decode y.2.1 pc = .ok (.i2l, 1)) (k : Wp y d kc ks (pc + 1) lo (.long (x.toInt64) :: st) H Q) : Wp y d kc ks pc lo (.int x :: st) H Q := by
  intro b o L xs dC dI aC p l e R s m args below meth c Hm locs cells slots Qm ls hC hW hS hl h1 h2 h3 h4 hr
  exact lv_i2l hC.1 hC.2.1 hd rfl (k b o L xs dC dI aC p l e R s m args below meth c Hm locs cells slots Qm ls hC hW hS hl h1 h2 h3 h4 hr)
theorem wp_l2i {x : Int64} (hd : decode y.2.1 pc = .ok (.l2i, 1)) (k : Wp y d kc ks (pc + 1) lo (.int (x.toInt32) :: st) H Q) : Wp y d kc ks pc lo (.long x :: st) H Q := by
  intro b o L xs dC dI aC p l e R s m args below meth c Hm locs cells slots Qm ls hC hW hS hl h1 h2 h3 h4 hr
  exact lv_l2i hC.1 hC.2.1 hd rfl (k b o L xs dC dI aC p l e R s m args below meth c Hm locs cells slots Qm ls hC hW hS hl h1 h2 h3 h4 hr)
theorem wp_i2b {x : Int32} (hd : decode y.2.1 pc = .ok (.i2b, 1)) (k : Wp y d kc ks (pc + 1) lo (.int (x.toInt8.toInt32) :: st) H Q) : Wp y d kc ks pc lo (.int x :: st) H Q := by
  intro b o L xs dC dI aC p l e R s m args below meth c Hm locs cells slots Qm ls hC hW hS hl h1 h2 h3 h4 hr
  exact lv_i2b hC.1 hC.2.1 hd rfl (k b o L xs dC dI aC p l e R s m args below meth c Hm locs cells slots Qm ls hC hW hS hl h1 h2 h3 h4 hr)
theorem wp_idiv {x z : Int32} (hd : decode y.2.1 pc = .ok (.idiv, 1)) (hz : ¬ z = 0) (k : Wp y d kc ks (pc + 1) lo (.int (x / z) :: st) H Q) : Wp y d kc ks pc lo (.int z :: .int x :: st) H Q := by
  intro b o L xs dC dI aC p l e R s m args below meth c Hm locs cells slots Qm ls hC hW hS hl h1 h2 h3 h4 hr
  exact lv_idiv hC.1 hC.2.1 hd hz (k b o L xs dC dI aC p l e R s m args below meth c Hm locs cells slots Qm ls hC hW hS hl h1 h2 h3 h4 hr)
theorem wp_lcmp {x z : Int64} (hd : decode y.2.1 pc = .ok (.lcmp, 1)) (k : Wp y d kc ks (pc + 1) lo (.int (lg_cmp x z) :: st) H Q) : Wp y d kc ks pc lo (.long z :: .long x :: st) H Q := by
  intro b o L xs dC dI aC p l e R s m args below meth c Hm locs cells slots Qm ls hC hW hS hl h1 h2 h3 h4 hr
  exact W.lcmp hC.1 hC.2.1 hd (k b o L xs dC dI aC p l e R s m args below meth c Hm locs cells slots Qm ls hC hW hS hl h1 h2 h3 h4 hr)
theorem wp_iconst {n : Int} {v : Int32} (hd : decode y.2.1 pc = .ok (.iconst n, 1)) (hv : Int32.ofInt n = v) (k : Wp y d kc ks (pc + 1) lo (.int v :: st) H Q) : Wp y d kc ks pc lo st H Q := by
  intro b o L xs dC dI aC p l e R s m args below meth c Hm locs cells slots Qm ls hC hW hS hl h1 h2 h3 h4 hr
  exact lv_iconst hC.1 hC.2.1 hd hv (k b o L xs dC dI aC p l e R s m args below meth c Hm locs cells slots Qm ls hC hW hS hl h1 h2 h3 h4 hr)
theorem wp_bipush {n : Int} {v : Int32} (hd : decode y.2.1 pc = .ok (.bipush n, 2)) (hv : (Int8.ofInt n).toInt32 = v) (k : Wp y d kc ks (pc + 2) lo (.int v :: st) H Q) : Wp y d kc ks pc lo st H Q := by
  intro b o L xs dC dI aC p l e R s m args below meth c Hm locs cells slots Qm ls hC hW hS hl h1 h2 h3 h4 hr
  exact lv_bipush hC.1 hC.2.1 hd hv (k b o L xs dC dI aC p l e R s m args below meth c Hm locs cells slots Qm ls hC hW hS hl h1 h2 h3 h4 hr)
theorem wp_sipush {n : Int} {v : Int32} (hd : decode y.2.1 pc = .ok (.sipush n, 3)) (hv : (Int16.ofInt n).toInt32 = v) (k : Wp y d kc ks (pc + 3) lo (.int v :: st) H Q) : Wp y d kc ks pc lo st H Q := by
  intro b o L xs dC dI aC p l e R s m args below meth c Hm locs cells slots Qm ls hC hW hS hl h1 h2 h3 h4 hr
  exact lv_sipush hC.1 hC.2.1 hd hv (k b o L xs dC dI aC p l e R s m args below meth c Hm locs cells slots Qm ls hC hW hS hl h1 h2 h3 h4 hr)
theorem wp_lconst {n : Fin 2} {v : Int64} (hd : decode y.2.1 pc = .ok (.lconst n, 1)) (hv : Int64.ofNat (n : Nat) = v) (k : Wp y d kc ks (pc + 1) lo (.long v :: st) H Q) : Wp y d kc ks pc lo st H Q := by
  intro b o L xs dC dI aC p l e R s m args below meth c Hm locs cells slots Qm ls hC hW hS hl h1 h2 h3 h4 hr
  exact lv_lconst hC.1 hC.2.1 hd hv (k b o L xs dC dI aC p l e R s m args below meth c Hm locs cells slots Qm ls hC hW hS hl h1 h2 h3 h4 hr)
theorem wp_aconst_null  (hd : decode y.2.1 pc = .ok (.aconst_null, 1)) (k : Wp y d kc ks (pc + 1) lo (.null :: st) H Q) : Wp y d kc ks pc lo st H Q := by
  intro b o L xs dC dI aC p l e R s m args below meth c Hm locs cells slots Qm ls hC hW hS hl h1 h2 h3 h4 hr
  exact lv_null hC.1 hC.2.1 hd (k b o L xs dC dI aC p l e R s m args below meth c Hm locs cells slots Qm ls hC hW hS hl h1 h2 h3 h4 hr)
theorem wp_ldc2_w {ix : Nat} {v : Int64} (hd : decode y.2.1 pc = .ok (.ldc2_w ix, 3)) (hw : Cond.constantLong y.1.cls ix v ∈ gw) (k : Wp y d kc ks (pc + 3) lo (.long v :: st) H Q) : Wp y d kc ks pc lo st H Q := by
  intro b o L xs dC dI aC p l e R s m args below meth c Hm locs cells slots Qm ls hC hW hS hl h1 h2 h3 h4 hr
  exact lv_ldc2 hC.1 hC.2.1 hC.2.2.2.1 (hC.2.2.2.2.2.1 _ hw) hd (k b o L xs dC dI aC p l e R s m args below meth c Hm locs cells slots Qm ls hC hW hS hl h1 h2 h3 h4 hr)
theorem wp_ldc_w {ix : Nat} {v : Int32} (hd : decode y.2.1 pc = .ok (.ldc_w ix, 3)) (hw : Cond.constant y.1.cls ix v ∈ gw) (k : Wp y d kc ks (pc + 3) lo (.int v :: st) H Q) : Wp y d kc ks pc lo st H Q := by
  intro b o L xs dC dI aC p l e R s m args below meth c Hm locs cells slots Qm ls hC hW hS hl h1 h2 h3 h4 hr
  exact lv_ldcw hC.1 hC.2.1 hC.2.2.2.1 (hC.2.2.2.2.2.1 _ hw) hd (k b o L xs dC dI aC p l e R s m args below meth c Hm locs cells slots Qm ls hC hW hS hl h1 h2 h3 h4 hr)
theorem wp_ldc {ix : Nat} {v : Int32} (hd : decode y.2.1 pc = .ok (.ldc ix, 2)) (hw : Cond.constant y.1.cls ix v ∈ gw) (k : Wp y d kc ks (pc + 2) lo (.int v :: st) H Q) : Wp y d kc ks pc lo st H Q := by
  intro b o L xs dC dI aC p l e R s m args below meth c Hm locs cells slots Qm ls hC hW hS hl h1 h2 h3 h4 hr
  exact lv_ldc hC.1 hC.2.1 hC.2.2.2.1 (hC.2.2.2.2.2.1 _ hw) hd (k b o L xs dC dI aC p l e R s m args below meth c Hm locs cells slots Qm ls hC hW hS hl h1 h2 h3 h4 hr)
theorem wp_iload_n {i : Fin 4} {x : Int32} (hd : decode y.2.1 pc = .ok (.iload_n i, 1)) (hl0 : lo[(i : Nat)]? = some (some (.int x))) (k : Wp y d kc ks (pc + 1) lo (.int x :: st) H Q) : Wp y d kc ks pc lo st H Q := by
  intro b o L xs dC dI aC p l e R s m args below meth c Hm locs cells slots Qm ls hC hW hS hl h1 h2 h3 h4 hr
  exact lv_iload_n hC.1 hC.2.1 hd rfl (hl.2.2 _ _ hl0) (k b o L xs dC dI aC p l e R s m args below meth c Hm locs cells slots Qm ls hC hW hS hl h1 h2 h3 h4 hr)
theorem wp_iload {i : Nat} {x : Int32} (hd : decode y.2.1 pc = .ok (.iload i, 2)) (hl0 : lo[i]? = some (some (.int x))) (k : Wp y d kc ks (pc + 2) lo (.int x :: st) H Q) : Wp y d kc ks pc lo st H Q := by
  intro b o L xs dC dI aC p l e R s m args below meth c Hm locs cells slots Qm ls hC hW hS hl h1 h2 h3 h4 hr
  exact lv_iload hC.1 hC.2.1 hd (hl.2.2 _ _ hl0) (k b o L xs dC dI aC p l e R s m args below meth c Hm locs cells slots Qm ls hC hW hS hl h1 h2 h3 h4 hr)
theorem wp_lload_n {i : Fin 4} {x : Int64} (hd : decode y.2.1 pc = .ok (.lload_n i, 1)) (hl0 : lo[(i : Nat)]? = some (some (.long x))) (k : Wp y d kc ks (pc + 1) lo (.long x :: st) H Q) : Wp y d kc ks pc lo st H Q := by
  intro b o L xs dC dI aC p l e R s m args below meth c Hm locs cells slots Qm ls hC hW hS hl h1 h2 h3 h4 hr
  exact lv_lload_n hC.1 hC.2.1 hd rfl (hl.2.2 _ _ hl0) (k b o L xs dC dI aC p l e R s m args below meth c Hm locs cells slots Qm ls hC hW hS hl h1 h2 h3 h4 hr)
theorem wp_lload {i : Nat} {x : Int64} (hd : decode y.2.1 pc = .ok (.lload i, 2)) (hl0 : lo[i]? = some (some (.long x))) (k : Wp y d kc ks (pc + 2) lo (.long x :: st) H Q) : Wp y d kc ks pc lo st H Q := by
  intro b o L xs dC dI aC p l e R s m args below meth c Hm locs cells slots Qm ls hC hW hS hl h1 h2 h3 h4 hr
  exact lv_lload hC.1 hC.2.1 hd (hl.2.2 _ _ hl0) (k b o L xs dC dI aC p l e R s m args below meth c Hm locs cells slots Qm ls hC hW hS hl h1 h2 h3 h4 hr)
theorem wp_aload_n {i : Fin 4} {a : Nat} (hd : decode y.2.1 pc = .ok (.aload_n i, 1)) (hl0 : lo[(i : Nat)]? = some (some (.ref a))) (k : Wp y d kc ks (pc + 1) lo (.ref a :: st) H Q) : Wp y d kc ks pc lo st H Q := by
  intro b o L xs dC dI aC p l e R s m args below meth c Hm locs cells slots Qm ls hC hW hS hl h1 h2 h3 h4 hr
  exact lv_aload_n hC.1 hC.2.1 hd rfl (hl.2.2 _ _ hl0) (k b o L xs dC dI aC p l e R s m args below meth c Hm locs cells slots Qm ls hC hW hS hl h1 h2 h3 h4 hr)
theorem wp_aload_nN {i : Fin 4} (hd : decode y.2.1 pc = .ok (.aload_n i, 1)) (hl0 : lo[(i : Nat)]? = some (some .null)) (k : Wp y d kc ks (pc + 1) lo (.null :: st) H Q) : Wp y d kc ks pc lo st H Q := by
  intro b o L xs dC dI aC p l e R s m args below meth c Hm locs cells slots Qm ls hC hW hS hl h1 h2 h3 h4 hr
  exact lv_aload_nN hC.1 hC.2.1 hd rfl (hl.2.2 _ _ hl0) (k b o L xs dC dI aC p l e R s m args below meth c Hm locs cells slots Qm ls hC hW hS hl h1 h2 h3 h4 hr)
theorem wp_aload_nQ {i : Fin 4} {r : Option Nat} (hd : decode y.2.1 pc = .ok (.aload_n i, 1)) (hl0 : lo[(i : Nat)]? = some (some (va_rf r))) (k : Wp y d kc ks (pc + 1) lo (va_rf r :: st) H Q) : Wp y d kc ks pc lo st H Q := by
  cases r with
  | none => exact wp_aload_nN hd hl0 k
  | some a => exact wp_aload_n hd hl0 k
theorem wp_aload {i : Nat} {a : Nat} (hd : decode y.2.1 pc = .ok (.aload i, 2)) (hl0 : lo[i]? = some (some (.ref a))) (k : Wp y d kc ks (pc + 2) lo (.ref a :: st) H Q) : Wp y d kc ks pc lo st H Q := by
  intro b o L xs dC dI aC p l e R s m args below meth c Hm locs cells slots Qm ls hC hW hS hl h1 h2 h3 h4 hr
  exact lv_aload hC.1 hC.2.1 hd (hl.2.2 _ _ hl0) (k b o L xs dC dI aC p l e R s m args below meth c Hm locs cells slots Qm ls hC hW hS hl h1 h2 h3 h4 hr)
theorem wp_aloadN {i : Nat} (hd : decode y.2.1 pc = .ok (.aload i, 2)) (hl0 : lo[i]? = some (some .null)) (k : Wp y d kc ks (pc + 2) lo (.null :: st) H Q) : Wp y d kc ks pc lo st H Q := by
  intro b o L xs dC dI aC p l e R s m args below meth c Hm locs cells slots Qm ls hC hW hS hl h1 h2 h3 h4 hr
  exact lv_aloadN hC.1 hC.2.1 hd (hl.2.2 _ _ hl0) (k b o L xs dC dI aC p l e R s m args below meth c Hm locs cells slots Qm ls hC hW hS hl h1 h2 h3 h4 hr)
theorem wp_aloadQ {i : Nat} {r : Option Nat} (hd : decode y.2.1 pc = .ok (.aload i, 2)) (hl0 : lo[i]? = some (some (va_rf r))) (k : Wp y d kc ks (pc + 2) lo (va_rf r :: st) H Q) : Wp y d kc ks pc lo st H Q := by
  cases r with
  | none => exact wp_aloadN hd hl0 k
  | some a => exact wp_aload hd hl0 k
theorem wp_istore_n {i : Fin 4} {x : Int32} (hd : decode y.2.1 pc = .ok (.istore_n i, 1)) (hn : (i : Nat) < y.2.2.1) (k : Wp y d kc ks (pc + 1) (lset lo (i : Nat) (.int x)) st H Q) : Wp y d kc ks pc lo (.int x :: st) H Q := by
  intro b o L xs dC dI aC p l e R s m args below meth c Hm locs cells slots Qm ls hC hW hS hl h1 h2 h3 h4 hr
  refine lv_istore_n hC.1 hC.2.1 hd rfl (lo_has hl) hn rfl (fun ls' hl' => ?_)
  exact k b o L xs dC dI aC p l e R s m args below meth c Hm locs cells slots Qm ls' hC hW hS (lo_store1 hl') h1 h2 h3 h4 hr
theorem wp_astore_n {i : Fin 4} {a : Nat} (hd : decode y.2.1 pc = .ok (.astore_n i, 1)) (hn : (i : Nat) < y.2.2.1) (k : Wp y d kc ks (pc + 1) (lset lo (i : Nat) (.ref a)) st H Q) : Wp y d kc ks pc lo (.ref a :: st) H Q := by
  intro b o L xs dC dI aC p l e R s m args below meth c Hm locs cells slots Qm ls hC hW hS hl h1 h2 h3 h4 hr
  refine lv_astore_n hC.1 hC.2.1 hd rfl (lo_has hl) hn rfl (fun ls' hl' => ?_)
  exact k b o L xs dC dI aC p l e R s m args below meth c Hm locs cells slots Qm ls' hC hW hS (lo_store1 hl') h1 h2 h3 h4 hr
theorem wp_astore_nN {i : Fin 4}  (hd : decode y.2.1 pc = .ok (.astore_n i, 1)) (hn : (i : Nat) < y.2.2.1) (k : Wp y d kc ks (pc + 1) (lset lo (i : Nat) .null) st H Q) : Wp y d kc ks pc lo (.null :: st) H Q := by
  intro b o L xs dC dI aC p l e R s m args below meth c Hm locs cells slots Qm ls hC hW hS hl h1 h2 h3 h4 hr
  refine lv_astore_nN hC.1 hC.2.1 hd rfl (lo_has hl) hn rfl (fun ls' hl' => ?_)
  exact k b o L xs dC dI aC p l e R s m args below meth c Hm locs cells slots Qm ls' hC hW hS (lo_store1 hl') h1 h2 h3 h4 hr
theorem wp_astore_nQ {i : Fin 4} {r : Option Nat} (hd : decode y.2.1 pc = .ok (.astore_n i, 1)) (hn : (i : Nat) < y.2.2.1) (k : Wp y d kc ks (pc + 1) (lset lo (i : Nat) (va_rf r)) st H Q) : Wp y d kc ks pc lo (va_rf r :: st) H Q := by
  cases r with
  | none => exact wp_astore_nN hd hn k
  | some a => exact wp_astore_n hd hn k
theorem wp_lstore_n {i : Fin 4} {x : Int64} (hd : decode y.2.1 pc = .ok (.lstore_n i, 1)) (hn : (i : Nat) + 1 < y.2.2.1) (k : Wp y d kc ks (pc + 1) (lset2 lo (i : Nat) (.long x)) st H Q) : Wp y d kc ks pc lo (.long x :: st) H Q := by
  intro b o L xs dC dI aC p l e R s m args below meth c Hm locs cells slots Qm ls hC hW hS hl h1 h2 h3 h4 hr
  refine lv_lstore_n hC.1 hC.2.1 hd rfl (lo_has hl) hn rfl (fun ls' hl' => ?_)
  exact k b o L xs dC dI aC p l e R s m args below meth c Hm locs cells slots Qm ls' hC hW hS (lo_store2 hl') h1 h2 h3 h4 hr
theorem wp_istore {i : Nat} {x : Int32} (hd : decode y.2.1 pc = .ok (.istore i, 2)) (hn : i < y.2.2.1) (k : Wp y d kc ks (pc + 2) (lset lo i (.int x)) st H Q) : Wp y d kc ks pc lo (.int x :: st) H Q := by
  intro b o L xs dC dI aC p l e R s m args below meth c Hm locs cells slots Qm ls hC hW hS hl h1 h2 h3 h4 hr
  refine lv_istore hC.1 hC.2.1 hd (lo_has hl) hn rfl (fun ls' hl' => ?_)
  exact k b o L xs dC dI aC p l e R s m args below meth c Hm locs cells slots Qm ls' hC hW hS (lo_store1 hl') h1 h2 h3 h4 hr
theorem wp_astore {i : Nat} {a : Nat} (hd : decode y.2.1 pc = .ok (.astore i, 2)) (hn : i < y.2.2.1) (k : Wp y d kc ks (pc + 2) (lset lo i (.ref a)) st H Q) : Wp y d kc ks pc lo (.ref a :: st) H Q := by
  intro b o L xs dC dI aC p l e R s m args below meth c Hm locs cells slots Qm ls hC hW hS hl h1 h2 h3 h4 hr
  refine lv_astore hC.1 hC.2.1 hd (lo_has hl) hn rfl (fun ls' hl' => ?_)
  exact k b o L xs dC dI aC p l e R s m args below meth c Hm locs cells slots Qm ls' hC hW hS (lo_store1 hl') h1 h2 h3 h4 hr
theorem wp_astoreN {i : Nat}  (hd : decode y.2.1 pc = .ok (.astore i, 2)) (hn : i < y.2.2.1) (k : Wp y d kc ks (pc + 2) (lset lo i .null) st H Q) : Wp y d kc ks pc lo (.null :: st) H Q := by
  intro b o L xs dC dI aC p l e R s m args below meth c Hm locs cells slots Qm ls hC hW hS hl h1 h2 h3 h4 hr
  refine lv_astoreN hC.1 hC.2.1 hd (lo_has hl) hn rfl (fun ls' hl' => ?_)
  exact k b o L xs dC dI aC p l e R s m args below meth c Hm locs cells slots Qm ls' hC hW hS (lo_store1 hl') h1 h2 h3 h4 hr
theorem wp_astoreQ {i : Nat} {r : Option Nat} (hd : decode y.2.1 pc = .ok (.astore i, 2)) (hn : i < y.2.2.1) (k : Wp y d kc ks (pc + 2) (lset lo i (va_rf r)) st H Q) : Wp y d kc ks pc lo (va_rf r :: st) H Q := by
  cases r with
  | none => exact wp_astoreN hd hn k
  | some a => exact wp_astore hd hn k
theorem wp_lstore {i : Nat} {x : Int64} (hd : decode y.2.1 pc = .ok (.lstore i, 2)) (hn : i + 1 < y.2.2.1) (k : Wp y d kc ks (pc + 2) (lset2 lo i (.long x)) st H Q) : Wp y d kc ks pc lo (.long x :: st) H Q := by
  intro b o L xs dC dI aC p l e R s m args below meth c Hm locs cells slots Qm ls hC hW hS hl h1 h2 h3 h4 hr
  refine lv_lstore hC.1 hC.2.1 hd (lo_has hl) hn rfl (fun ls' hl' => ?_)
  exact k b o L xs dC dI aC p l e R s m args below meth c Hm locs cells slots Qm ls' hC hW hS (lo_store2 hl') h1 h2 h3 h4 hr
theorem wp_iinc {i : Nat} {n : Int} {x v : Int32} (hd : decode y.2.1 pc = .ok (.iinc i n, 3)) (hl0 : lo[i]? = some (some (.int x))) (hv : x + Int32.ofInt n = v) (hn : i < y.2.2.1) (k : Wp y d kc ks (pc + 3) (lset lo i (.int v)) st H Q) : Wp y d kc ks pc lo st H Q := by
  intro b o L xs dC dI aC p l e R s m args below meth c Hm locs cells slots Qm ls hC hW hS hl h1 h2 h3 h4 hr
  obtain ⟨kk, hkk⟩ := List.mem_iff_getElem?.mp (lo_mem (b := b) (o := o) hl0)
  refine lv_iinc hC.1 hC.2.1 hd (lo_has hl) (k := kk) hkk hv hn rfl (fun ls' hl' => ?_)
  exact k b o L xs dC dI aC p l e R s m args below meth c Hm locs cells slots Qm ls' hC hW hS (lo_store1 hl') h1 h2 h3 h4 hr
theorem wp_dup {v : Value} (hd : decode y.2.1 pc = .ok (.dup, 1)) (hv : v.category = 1) (k : Wp y d kc ks (pc + 1) lo (v :: v :: st) H Q) : Wp y d kc ks pc lo (v :: st) H Q := by
  intro b o L xs dC dI aC p l e R s m args below meth c Hm locs cells slots Qm ls hC hW hS hl h1 h2 h3 h4 hr
  exact lv_dup hC.1 hC.2.1 hd ((shV_cat _ _ _).trans hv) (k b o L xs dC dI aC p l e R s m args below meth c Hm locs cells slots Qm ls hC hW hS hl h1 h2 h3 h4 hr)
theorem wp_dup2 {v w : Value} (hd : decode y.2.1 pc = .ok (.dup2, 1)) (hv : v.category = 1) (hw : w.category = 1) (k : Wp y d kc ks (pc + 1) lo (v :: w :: v :: w :: st) H Q) : Wp y d kc ks pc lo (v :: w :: st) H Q := by
  intro b o L xs dC dI aC p l e R s m args below meth c Hm locs cells slots Qm ls hC hW hS hl h1 h2 h3 h4 hr
  exact lv_dup2_11 hC.1 hC.2.1 hd ((shV_cat _ _ _).trans hv) ((shV_cat _ _ _).trans hw) (k b o L xs dC dI aC p l e R s m args below meth c Hm locs cells slots Qm ls hC hW hS hl h1 h2 h3 h4 hr)
theorem wp_pop {v : Value} (hd : decode y.2.1 pc = .ok (.pop, 1)) (hv : v.category = 1) (k : Wp y d kc ks (pc + 1) lo st H Q) : Wp y d kc ks pc lo (v :: st) H Q := by
  intro b o L xs dC dI aC p l e R s m args below meth c Hm locs cells slots Qm ls hC hW hS hl h1 h2 h3 h4 hr
  exact lv_pop hC.1 hC.2.1 hd ((shV_cat _ _ _).trans hv) (k b o L xs dC dI aC p l e R s m args below meth c Hm locs cells slots Qm ls hC hW hS hl h1 h2 h3 h4 hr)
theorem wp_if_eq {x : Int32} {off : Int} {tgt : Nat} (hd : decode y.2.1 pc = .ok (.ifCond .eq off, 3)) (ht : (pc : Int) + off = (tgt : Int)) (kt : x = 0 → Wp y d kc ks tgt lo st H Q) (kf : ¬ x = 0 → Wp y d kc ks (pc + 3) lo st H Q) : Wp y d kc ks pc lo (.int x :: st) H Q := by
  intro b o L xs dC dI aC p l e R s m args below meth c Hm locs cells slots Qm ls hC hW hS hl h1 h2 h3 h4 hr
  exact lv_if_eq hC.1 hC.2.1 hd ht (fun q => kt q b o L xs dC dI aC p l e R s m args below meth c Hm locs cells slots Qm ls hC hW hS hl h1 h2 h3 h4 hr) (fun q => kf q b o L xs dC dI aC p l e R s m args below meth c Hm locs cells slots Qm ls hC hW hS hl h1 h2 h3 h4 hr)
theorem wp_icmp_eq {x z : Int32} {off : Int} {tgt : Nat} (hd : decode y.2.1 pc = .ok (.if_icmp .eq off, 3)) (ht : (pc : Int) + off = (tgt : Int)) (kt : x = z → Wp y d kc ks tgt lo st H Q) (kf : ¬ x = z → Wp y d kc ks (pc + 3) lo st H Q) : Wp y d kc ks pc lo (.int z :: .int x :: st) H Q := by
  intro b o L xs dC dI aC p l e R s m args below meth c Hm locs cells slots Qm ls hC hW hS hl h1 h2 h3 h4 hr
  exact lv_icmp_eq hC.1 hC.2.1 hd ht (fun q => kt q b o L xs dC dI aC p l e R s m args below meth c Hm locs cells slots Qm ls hC hW hS hl h1 h2 h3 h4 hr) (fun q => kf q b o L xs dC dI aC p l e R s m args below meth c Hm locs cells slots Qm ls hC hW hS hl h1 h2 h3 h4 hr)
theorem wp_if_ne {x : Int32} {off : Int} {tgt : Nat} (hd : decode y.2.1 pc = .ok (.ifCond .ne off, 3)) (ht : (pc : Int) + off = (tgt : Int)) (kt : ¬ x = 0 → Wp y d kc ks tgt lo st H Q) (kf : x = 0 → Wp y d kc ks (pc + 3) lo st H Q) : Wp y d kc ks pc lo (.int x :: st) H Q := by
  intro b o L xs dC dI aC p l e R s m args below meth c Hm locs cells slots Qm ls hC hW hS hl h1 h2 h3 h4 hr
  exact lv_if_ne hC.1 hC.2.1 hd ht (fun q => kt q b o L xs dC dI aC p l e R s m args below meth c Hm locs cells slots Qm ls hC hW hS hl h1 h2 h3 h4 hr) (fun q => kf q b o L xs dC dI aC p l e R s m args below meth c Hm locs cells slots Qm ls hC hW hS hl h1 h2 h3 h4 hr)
theorem wp_icmp_ne {x z : Int32} {off : Int} {tgt : Nat} (hd : decode y.2.1 pc = .ok (.if_icmp .ne off, 3)) (ht : (pc : Int) + off = (tgt : Int)) (kt : ¬ x = z → Wp y d kc ks tgt lo st H Q) (kf : x = z → Wp y d kc ks (pc + 3) lo st H Q) : Wp y d kc ks pc lo (.int z :: .int x :: st) H Q := by
  intro b o L xs dC dI aC p l e R s m args below meth c Hm locs cells slots Qm ls hC hW hS hl h1 h2 h3 h4 hr
  exact lv_icmp_ne hC.1 hC.2.1 hd ht (fun q => kt q b o L xs dC dI aC p l e R s m args below meth c Hm locs cells slots Qm ls hC hW hS hl h1 h2 h3 h4 hr) (fun q => kf q b o L xs dC dI aC p l e R s m args below meth c Hm locs cells slots Qm ls hC hW hS hl h1 h2 h3 h4 hr)
theorem wp_if_lt {x : Int32} {off : Int} {tgt : Nat} (hd : decode y.2.1 pc = .ok (.ifCond .lt off, 3)) (ht : (pc : Int) + off = (tgt : Int)) (kt : x < 0 → Wp y d kc ks tgt lo st H Q) (kf : ¬ x < 0 → Wp y d kc ks (pc + 3) lo st H Q) : Wp y d kc ks pc lo (.int x :: st) H Q := by
  intro b o L xs dC dI aC p l e R s m args below meth c Hm locs cells slots Qm ls hC hW hS hl h1 h2 h3 h4 hr
  exact lv_if_lt hC.1 hC.2.1 hd ht (fun q => kt q b o L xs dC dI aC p l e R s m args below meth c Hm locs cells slots Qm ls hC hW hS hl h1 h2 h3 h4 hr) (fun q => kf q b o L xs dC dI aC p l e R s m args below meth c Hm locs cells slots Qm ls hC hW hS hl h1 h2 h3 h4 hr)
theorem wp_icmp_lt {x z : Int32} {off : Int} {tgt : Nat} (hd : decode y.2.1 pc = .ok (.if_icmp .lt off, 3)) (ht : (pc : Int) + off = (tgt : Int)) (kt : x < z → Wp y d kc ks tgt lo st H Q) (kf : ¬ x < z → Wp y d kc ks (pc + 3) lo st H Q) : Wp y d kc ks pc lo (.int z :: .int x :: st) H Q := by
  intro b o L xs dC dI aC p l e R s m args below meth c Hm locs cells slots Qm ls hC hW hS hl h1 h2 h3 h4 hr
  exact lv_icmp_lt hC.1 hC.2.1 hd ht (fun q => kt q b o L xs dC dI aC p l e R s m args below meth c Hm locs cells slots Qm ls hC hW hS hl h1 h2 h3 h4 hr) (fun q => kf q b o L xs dC dI aC p l e R s m args below meth c Hm locs cells slots Qm ls hC hW hS hl h1 h2 h3 h4 hr)
theorem wp_if_ge {x : Int32} {off : Int} {tgt : Nat} (hd : decode y.2.1 pc = .ok (.ifCond .ge off, 3)) (ht : (pc : Int) + off = (tgt : Int)) (kt : 0 ≤ x → Wp y d kc ks tgt lo st H Q) (kf : ¬ 0 ≤ x → Wp y d kc ks (pc + 3) lo st H Q) : Wp y d kc ks pc lo (.int x :: st) H Q := by
  intro b o L xs dC dI aC p l e R s m args below meth c Hm locs cells slots Qm ls hC hW hS hl h1 h2 h3 h4 hr
  exact lv_if_ge hC.1 hC.2.1 hd ht (fun q => kt q b o L xs dC dI aC p l e R s m args below meth c Hm locs cells slots Qm ls hC hW hS hl h1 h2 h3 h4 hr) (fun q => kf q b o L xs dC dI aC p l e R s m args below meth c Hm locs cells slots Qm ls hC hW hS hl h1 h2 h3 h4 hr)
theorem wp_icmp_ge {x z : Int32} {off : Int} {tgt : Nat} (hd : decode y.2.1 pc = .ok (.if_icmp .ge off, 3)) (ht : (pc : Int) + off = (tgt : Int)) (kt : z ≤ x → Wp y d kc ks tgt lo st H Q) (kf : ¬ z ≤ x → Wp y d kc ks (pc + 3) lo st H Q) : Wp y d kc ks pc lo (.int z :: .int x :: st) H Q := by
  intro b o L xs dC dI aC p l e R s m args below meth c Hm locs cells slots Qm ls hC hW hS hl h1 h2 h3 h4 hr
  exact lv_icmp_ge hC.1 hC.2.1 hd ht (fun q => kt q b o L xs dC dI aC p l e R s m args below meth c Hm locs cells slots Qm ls hC hW hS hl h1 h2 h3 h4 hr) (fun q => kf q b o L xs dC dI aC p l e R s m args below meth c Hm locs cells slots Qm ls hC hW hS hl h1 h2 h3 h4 hr)
theorem wp_if_gt {x : Int32} {off : Int} {tgt : Nat} (hd : decode y.2.1 pc = .ok (.ifCond .gt off, 3)) (ht : (pc : Int) + off = (tgt : Int)) (kt : 0 < x → Wp y d kc ks tgt lo st H Q) (kf : ¬ 0 < x → Wp y d kc ks (pc + 3) lo st H Q) : Wp y d kc ks pc lo (.int x :: st) H Q := by
  intro b o L xs dC dI aC p l e R s m args below meth c Hm locs cells slots Qm ls hC hW hS hl h1 h2 h3 h4 hr
  exact lv_if_gt hC.1 hC.2.1 hd ht (fun q => kt q b o L xs dC dI aC p l e R s m args below meth c Hm locs cells slots Qm ls hC hW hS hl h1 h2 h3 h4 hr) (fun q => kf q b o L xs dC dI aC p l e R s m args below meth c Hm locs cells slots Qm ls hC hW hS hl h1 h2 h3 h4 hr)
theorem wp_icmp_gt {x z : Int32} {off : Int} {tgt : Nat} (hd : decode y.2.1 pc = .ok (.if_icmp .gt off, 3)) (ht : (pc : Int) + off = (tgt : Int)) (kt : z < x → Wp y d kc ks tgt lo st H Q) (kf : ¬ z < x → Wp y d kc ks (pc + 3) lo st H Q) : Wp y d kc ks pc lo (.int z :: .int x :: st) H Q := by
  intro b o L xs dC dI aC p l e R s m args below meth c Hm locs cells slots Qm ls hC hW hS hl h1 h2 h3 h4 hr
  exact lv_icmp_gt hC.1 hC.2.1 hd ht (fun q => kt q b o L xs dC dI aC p l e R s m args below meth c Hm locs cells slots Qm ls hC hW hS hl h1 h2 h3 h4 hr) (fun q => kf q b o L xs dC dI aC p l e R s m args below meth c Hm locs cells slots Qm ls hC hW hS hl h1 h2 h3 h4 hr)
theorem wp_if_le {x : Int32} {off : Int} {tgt : Nat} (hd : decode y.2.1 pc = .ok (.ifCond .le off, 3)) (ht : (pc : Int) + off = (tgt : Int)) (kt : x ≤ 0 → Wp y d kc ks tgt lo st H Q) (kf : ¬ x ≤ 0 → Wp y d kc ks (pc + 3) lo st H Q) : Wp y d kc ks pc lo (.int x :: st) H Q := by
  intro b o L xs dC dI aC p l e R s m args below meth c Hm locs cells slots Qm ls hC hW hS hl h1 h2 h3 h4 hr
  exact lv_if_le hC.1 hC.2.1 hd ht (fun q => kt q b o L xs dC dI aC p l e R s m args below meth c Hm locs cells slots Qm ls hC hW hS hl h1 h2 h3 h4 hr) (fun q => kf q b o L xs dC dI aC p l e R s m args below meth c Hm locs cells slots Qm ls hC hW hS hl h1 h2 h3 h4 hr)
theorem wp_icmp_le {x z : Int32} {off : Int} {tgt : Nat} (hd : decode y.2.1 pc = .ok (.if_icmp .le off, 3)) (ht : (pc : Int) + off = (tgt : Int)) (kt : x ≤ z → Wp y d kc ks tgt lo st H Q) (kf : ¬ x ≤ z → Wp y d kc ks (pc + 3) lo st H Q) : Wp y d kc ks pc lo (.int z :: .int x :: st) H Q := by
  intro b o L xs dC dI aC p l e R s m args below meth c Hm locs cells slots Qm ls hC hW hS hl h1 h2 h3 h4 hr
  exact lv_icmp_le hC.1 hC.2.1 hd ht (fun q => kt q b o L xs dC dI aC p l e R s m args below meth c Hm locs cells slots Qm ls hC hW hS hl h1 h2 h3 h4 hr) (fun q => kf q b o L xs dC dI aC p l e R s m args below meth c Hm locs cells slots Qm ls hC hW hS hl h1 h2 h3 h4 hr)
theorem wp_goto {off : Int} {tgt : Nat} (hd : decode y.2.1 pc = .ok (.goto off, 3)) (ht : (pc : Int) + off = (tgt : Int)) (k : Wp y d kc ks tgt lo st H Q) : Wp y d kc ks pc lo st H Q := by
  intro b o L xs dC dI aC p l e R s m args below meth c Hm locs cells slots Qm ls hC hW hS hl h1 h2 h3 h4 hr
  exact lv_goto hC.1 hC.2.1 hd ht (k b o L xs dC dI aC p l e R s m args below meth c Hm locs cells slots Qm ls hC hW hS hl h1 h2 h3 h4 hr)
theorem wp_ifnull {r : Option Nat} {off : Int} {tgt : Nat} (hd : decode y.2.1 pc = .ok (.ifnull off, 3)) (ht : (pc : Int) + off = (tgt : Int)) (kn : r = none → Wp y d kc ks tgt lo st H Q) (ks' : ∀ a, r = some a → Wp y d kc ks (pc + 3) lo st H Q) : Wp y d kc ks pc lo (va_rf r :: st) H Q := by
  cases r with
  | none =>
    intro b o L xs dC dI aC p l e R s m args below meth c Hm locs cells slots Qm ls hC hW hS hl h1 h2 h3 h4 hr
    exact lv_ifnullN hC.1 hC.2.1 hd ht (kn rfl b o L xs dC dI aC p l e R s m args below meth c Hm locs cells slots Qm ls hC hW hS hl h1 h2 h3 h4 hr)
  | some a =>
    intro b o L xs dC dI aC p l e R s m args below meth c Hm locs cells slots Qm ls hC hW hS hl h1 h2 h3 h4 hr
    exact lv_ifnull hC.1 hC.2.1 hd (ks' a rfl b o L xs dC dI aC p l e R s m args below meth c Hm locs cells slots Qm ls hC hW hS hl h1 h2 h3 h4 hr)
theorem wp_ifnonnull {r : Option Nat} {off : Int} {tgt : Nat} (hd : decode y.2.1 pc = .ok (.ifnonnull off, 3)) (ht : (pc : Int) + off = (tgt : Int)) (kn : r = none → Wp y d kc ks (pc + 3) lo st H Q) (ks' : ∀ a, r = some a → Wp y d kc ks tgt lo st H Q) : Wp y d kc ks pc lo (va_rf r :: st) H Q := by
  cases r with
  | none =>
    intro b o L xs dC dI aC p l e R s m args below meth c Hm locs cells slots Qm ls hC hW hS hl h1 h2 h3 h4 hr
    exact lv_ifnonnullN hC.1 hC.2.1 hd (kn rfl b o L xs dC dI aC p l e R s m args below meth c Hm locs cells slots Qm ls hC hW hS hl h1 h2 h3 h4 hr)
  | some a =>
    intro b o L xs dC dI aC p l e R s m args below meth c Hm locs cells slots Qm ls hC hW hS hl h1 h2 h3 h4 hr
    exact lv_ifnonnull hC.1 hC.2.1 hd ht (ks' a rfl b o L xs dC dI aC p l e R s m args below meth c Hm locs cells slots Qm ls hC hW hS hl h1 h2 h3 h4 hr)
theorem wp_tableIn {dflt lo' hi : Int} {offs : Array Int} {len : Nat} {x : Int32} {off : Int} {tgt : Nat} (hd : decode y.2.1 pc = .ok (.tableswitch dflt lo' hi offs, len)) (q1 : ¬ x.toInt < lo') (q2 : ¬ hi < x.toInt) (ho : offs[(x.toInt - lo').toNat]? = some off) (ht : (pc : Int) + off = (tgt : Int)) (k : Wp y d kc ks tgt lo st H Q) : Wp y d kc ks pc lo (.int x :: st) H Q := by
  intro b o L xs dC dI aC p l e R s m args below meth c Hm locs cells slots Qm ls hC hW hS hl h1 h2 h3 h4 hr
  exact lv_tableIn hC.1 hC.2.1 hd q1 q2 ho ht (k b o L xs dC dI aC p l e R s m args below meth c Hm locs cells slots Qm ls hC hW hS hl h1 h2 h3 h4 hr)
theorem wp_tableOut {dflt lo' hi : Int} {offs : Array Int} {len : Nat} {x : Int32} {tgt : Nat} (hd : decode y.2.1 pc = .ok (.tableswitch dflt lo' hi offs, len)) (q1 : x.toInt < lo' ∨ hi < x.toInt) (ht : (pc : Int) + dflt = (tgt : Int)) (k : Wp y d kc ks tgt lo st H Q) : Wp y d kc ks pc lo (.int x :: st) H Q := by
  intro b o L xs dC dI aC p l e R s m args below meth c Hm locs cells slots Qm ls hC hW hS hl h1 h2 h3 h4 hr
  exact lv_tableOut hC.1 hC.2.1 hd q1 ht (k b o L xs dC dI aC p l e R s m args below meth c Hm locs cells slots Qm ls hC hW hS hl h1 h2 h3 h4 hr)
theorem wp_lookup {dflt : Int} {ps : Array (Int × Int)} {len : Nat} {x : Int32} {off : Int} {tgt : Nat} (hd : decode y.2.1 pc = .ok (.lookupswitch dflt ps, len)) (hp : (ps.toList.zip (ps.toList.drop 1)).all (fun (a, next) => a.1 < next.1) = true) (ho : Op.lookupswitch.offset ps.toList dflt x.toInt = off) (ht : (pc : Int) + off = (tgt : Int)) (k : Wp y d kc ks tgt lo st H Q) : Wp y d kc ks pc lo (.int x :: st) H Q := by
  intro b o L xs dC dI aC p l e R s m args below meth c Hm locs cells slots Qm ls hC hW hS hl h1 h2 h3 h4 hr
  exact lv_lookup hC.1 hC.2.1 hd hp ho ht (k b o L xs dC dI aC p l e R s m args below meth c Hm locs cells slots Qm ls hC hW hS hl h1 h2 h3 h4 hr)
theorem wp_return  (hy : y.2.2.2 = none) (hd : decode y.2.1 pc = .ok (.return_, 1)) (k : Q none H) : Wp y d kc ks pc lo [] H Q := by
  intro b o L xs dC dI aC p l e R s m args below meth c Hm locs cells slots Qm ls hC hW hS hl h1 h2 h3 h4 hr
  exact W.widen (k := cells + kc) (n := slots + ks) (Nat.le_add_right _ _) (Nat.le_add_right _ _) (hr _ _ _ _ _ _ _ k hW hS (Or.inl ⟨hy, rfl, rfl⟩) hd)
theorem wp_ireturn {x : Int32} (hy : y.2.2.2 = some .int) (hd : decode y.2.1 pc = .ok (.ireturn, 1)) (k : Q (some (.int x)) H) : Wp y d kc ks pc lo [.int x] H Q := by
  intro b o L xs dC dI aC p l e R s m args below meth c Hm locs cells slots Qm ls hC hW hS hl h1 h2 h3 h4 hr
  exact W.widen (k := cells + kc) (n := slots + ks) (Nat.le_add_right _ _) (Nat.le_add_right _ _) (hr _ _ _ _ _ _ _ k hW hS (Or.inr (Or.inl ⟨_, hy, rfl, rfl⟩)) hd)
theorem wp_zreturn {x : Int32} (hy : y.2.2.2 = some .boolean) (hb : x = 0 ∨ x = 1) (hd : decode y.2.1 pc = .ok (.ireturn, 1)) (k : Q (some (.int x)) H) : Wp y d kc ks pc lo [.int x] H Q := by
  intro b o L xs dC dI aC p l e R s m args below meth c Hm locs cells slots Qm ls hC hW hS hl h1 h2 h3 h4 hr
  exact W.widen (k := cells + kc) (n := slots + ks) (Nat.le_add_right _ _) (Nat.le_add_right _ _) (hr _ _ _ _ _ _ _ k hW hS (Or.inr (Or.inr (Or.inl ⟨_, hy, hb, rfl, rfl⟩))) hd)
theorem wp_lreturn {x : Int64} (hy : y.2.2.2 = some .long) (hd : decode y.2.1 pc = .ok (.lreturn, 1)) (k : Q (some (.long x)) H) : Wp y d kc ks pc lo [.long x] H Q := by
  intro b o L xs dC dI aC p l e R s m args below meth c Hm locs cells slots Qm ls hC hW hS hl h1 h2 h3 h4 hr
  exact W.widen (k := cells + kc) (n := slots + ks) (Nat.le_add_right _ _) (Nat.le_add_right _ _) (hr _ _ _ _ _ _ _ k hW hS (Or.inr (Or.inr (Or.inr (Or.inl ⟨_, hy, rfl, rfl⟩)))) hd)
theorem wp_areturn {r : Option Nat} {t : FieldType} (hy : y.2.2.2 = some t) (ht : (∃ n, t = .object n) ∨ ∃ u, t = .array u) (hd : decode y.2.1 pc = .ok (.areturn, 1)) (k : Q (some (va_rf r)) H) : Wp y d kc ks pc lo [va_rf r] H Q := by
  intro b o L xs dC dI aC p l e R s m args below meth c Hm locs cells slots Qm ls hC hW hS hl h1 h2 h3 h4 hr
  exact W.widen (k := cells + kc) (n := slots + ks) (Nat.le_add_right _ _) (Nat.le_add_right _ _) (hr _ _ _ _ _ _ _ k hW hS (Or.inr (Or.inr (Or.inr (Or.inr ⟨_, _, hy, ht, rfl, rfl⟩)))) hd)
theorem wp_post {Q' : Option Value → PH → Prop} (hq : ∀ v H', Q v H' → Q' v H') (k : Wp y d kc ks pc lo st H Q) : Wp y d kc ks pc lo st H Q' := by
  intro b o L xs dC dI aC p l e R s m args below meth c Hm locs cells slots Qm ls hC hW hS hl h1 h2 h3 h4 hr
  exact k b o L xs dC dI aC p l e R s m args below meth c Hm locs cells slots Qm ls hC hW hS hl h1 h2 h3 h4 (fun v H' Hm' locs' pc' ls' i q => hr v H' Hm' locs' pc' ls' i (hq v H' q))
theorem wp_deep {d' : Nat} (hd : d ≤ d') (k : Wp y d kc ks pc lo st H Q) : Wp y d' kc ks pc lo st H Q := by
  intro b o L xs dC dI aC p l e R s m args below meth c Hm locs cells slots Qm ls hC hW hS hl h1 h2 h3 h4 hr
  exact k b o L xs dC dI aC p l e R s m args below meth c Hm locs cells slots Qm ls hC hW hS hl (Nat.le_trans hd h1) (Nat.le_trans (Nat.mul_le_mul_left 64 hd) h2) h3 h4 hr
theorem wp_room {kc' ks' : Nat} (hc : kc ≤ kc') (hs : ks ≤ ks') (k : Wp y d kc ks pc lo st H Q) : Wp y d kc' ks' pc lo st H Q := by
  intro b o L xs dC dI aC p l e R s m args below meth c Hm locs cells slots Qm ls hC hW hS hl h1 h2 h3 h4 hr
  exact k b o L xs dC dI aC p l e R s m args below meth c Hm locs cells slots Qm ls hC hW hS hl h1 h2 (by omega) (by omega) (fun v H' Hm' locs' pc' ls' i q w1 w2 w3 w4 => W.widen (k := cells + kc') (n := slots + ks') (by omega) (by omega) (hr v H' Hm' locs' pc' ls' i q w1 w2 w3 w4))
theorem wp_locals {lo' : List (Option Value)} (h : ∀ (i : Nat) (v : Value), lo'[i]? = some (some v) → lo[i]? = some (some v)) (k : Wp y d kc ks pc lo' st H Q) : Wp y d kc ks pc lo st H Q := by
  intro b o L xs dC dI aC p l e R s m args below meth c Hm locs cells slots Qm ls hC hW hS hl h1 h2 h3 h4 hr
  exact k b o L xs dC dI aC p l e R s m args below meth c Hm locs cells slots Qm ls hC hW hS ⟨hl.1, hl.2.1, fun i v q => hl.2.2 i v (h i v q)⟩ h1 h2 h3 h4 hr
end Rules
