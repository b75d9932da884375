/-! ===== the pure heap: cells are numbered 1, 2, .. in the order in which they were made; 0 is the script ===== -/
/-- how many cells; kind and length of each; ints; longs; references -/
abbrev PH : Type := Nat × (Nat → Nat × Nat) × (Nat → Nat → Int32) × (Nat → Nat → Int64) × (Nat → Nat → Option Nat)
def hN (H : PH) : Nat := H.1
def hK (H : PH) : Nat → Nat × Nat := H.2.1
def hI (H : PH) : Nat → Nat → Int32 := H.2.2.1
def hL (H : PH) : Nat → Nat → Int64 := H.2.2.2.1
def hR (H : PH) : Nat → Nat → Option Nat := H.2.2.2.2
def u2 {α : Type} (f : Nat → Nat → α) (a k : Nat) (v : α) : Nat → Nat → α := fun a' k' => if a' = a ∧ k' = k then v else f a' k'
def u1 {α : Type} (f : Nat → α) (a : Nat) (v : α) : Nat → α := fun a' => if a' = a then v else f a'
def sI (H : PH) (a k : Nat) (v : Int32) : PH := (H.1, H.2.1, u2 H.2.2.1 a k v, H.2.2.2.1, H.2.2.2.2)
def sL (H : PH) (a k : Nat) (v : Int64) : PH := (H.1, H.2.1, H.2.2.1, u2 H.2.2.2.1 a k v, H.2.2.2.2)
def sR (H : PH) (a k : Nat) (v : Option Nat) : PH := (H.1, H.2.1, H.2.2.1, H.2.2.2.1, u2 H.2.2.2.2 a k v)
/-- a new cell of a kind and a length, all of it 0 -/
def nC (H : PH) (k n : Nat) : PH := (H.1 + 1, u1 H.2.1 (H.1 + 1) (k, n), u1 H.2.2.1 (H.1 + 1) (fun _ => 0), u1 H.2.2.2.1 (H.1 + 1) (fun _ => 0), u1 H.2.2.2.2 (H.1 + 1) (fun _ => none))
/-- a row of ints as a whole -/
def sRow (H : PH) (a : Nat) (f : Nat → Int32) : PH := (H.1, H.2.1, u1 H.2.2.1 a f, H.2.2.2.1, H.2.2.2.2)
theorem hN_sI (H : PH) (a k : Nat) (v : Int32) : hN (sI H a k v) = hN H := rfl
theorem hK_sI (H : PH) (a k : Nat) (v : Int32) : hK (sI H a k v) = hK H := rfl
theorem hI_sI (H : PH) (a k : Nat) (v : Int32) : hI (sI H a k v) = u2 (hI H) a k v := rfl
theorem hL_sI (H : PH) (a k : Nat) (v : Int32) : hL (sI H a k v) = hL H := rfl
theorem hR_sI (H : PH) (a k : Nat) (v : Int32) : hR (sI H a k v) = hR H := rfl
theorem hN_sL (H : PH) (a k : Nat) (v : Int64) : hN (sL H a k v) = hN H := rfl
theorem hK_sL (H : PH) (a k : Nat) (v : Int64) : hK (sL H a k v) = hK H := rfl
theorem hI_sL (H : PH) (a k : Nat) (v : Int64) : hI (sL H a k v) = hI H := rfl
theorem hL_sL (H : PH) (a k : Nat) (v : Int64) : hL (sL H a k v) = u2 (hL H) a k v := rfl
theorem hR_sL (H : PH) (a k : Nat) (v : Int64) : hR (sL H a k v) = hR H := rfl
theorem hN_sR (H : PH) (a k : Nat) (v : Option Nat) : hN (sR H a k v) = hN H := rfl
theorem hK_sR (H : PH) (a k : Nat) (v : Option Nat) : hK (sR H a k v) = hK H := rfl
theorem hI_sR (H : PH) (a k : Nat) (v : Option Nat) : hI (sR H a k v) = hI H := rfl
theorem hL_sR (H : PH) (a k : Nat) (v : Option Nat) : hL (sR H a k v) = hL H := rfl
theorem hR_sR (H : PH) (a k : Nat) (v : Option Nat) : hR (sR H a k v) = u2 (hR H) a k v := rfl
theorem hN_nC (H : PH) (k n : Nat) : hN (nC H k n) = hN H + 1 := rfl
theorem hK_nC (H : PH) (k n : Nat) : hK (nC H k n) = u1 (hK H) (hN H + 1) (k, n) := rfl
theorem hI_nC (H : PH) (k n : Nat) : hI (nC H k n) = u1 (hI H) (hN H + 1) (fun _ => 0) := rfl
theorem hL_nC (H : PH) (k n : Nat) : hL (nC H k n) = u1 (hL H) (hN H + 1) (fun _ => 0) := rfl
theorem hR_nC (H : PH) (k n : Nat) : hR (nC H k n) = u1 (hR H) (hN H + 1) (fun _ => none) := rfl
theorem hN_sRow (H : PH) (a : Nat) (f : Nat → Int32) : hN (sRow H a f) = hN H := rfl
theorem hK_sRow (H : PH) (a : Nat) (f : Nat → Int32) : hK (sRow H a f) = hK H := rfl
theorem hI_sRow (H : PH) (a : Nat) (f : Nat → Int32) : hI (sRow H a f) = u1 (hI H) a f := rfl
theorem hL_sRow (H : PH) (a : Nat) (f : Nat → Int32) : hL (sRow H a f) = hL H := rfl
theorem hR_sRow (H : PH) (a : Nat) (f : Nat → Int32) : hR (sRow H a f) = hR H := rfl
theorem u2_eq {α : Type} (f : Nat → Nat → α) (a k : Nat) (v : α) : u2 f a k v a k = v := by simp [u2]
theorem u2_ne1 {α : Type} {f : Nat → Nat → α} {a k a' k' : Nat} {v : α} (h : a' ≠ a) : u2 f a k v a' k' = f a' k' := by simp [u2, h]
theorem u2_ne2 {α : Type} {f : Nat → Nat → α} {a k a' k' : Nat} {v : α} (h : k' ≠ k) : u2 f a k v a' k' = f a' k' := by simp [u2, h]
theorem u2_row {α : Type} {f : Nat → Nat → α} {a k a' : Nat} {v : α} (h : a' ≠ a) : u2 f a k v a' = f a' := by funext k'; simp [u2, h]
theorem u1_eq {α : Type} (f : Nat → α) (a : Nat) (v : α) : u1 f a v a = v := by simp [u1]
theorem u1_ne {α : Type} {f : Nat → α} {a a' : Nat} {v : α} (h : a' ≠ a) : u1 f a v a' = f a' := by simp [u1, h]
/-! ===== the machine's heap that a pure heap stands for ===== -/
def shA (b o a : Nat) : Nat := if a = 0 then b else o + a
def shV (b o : Nat) : Value → Value
  | .ref a => .ref (shA b o a)
  | v => v
theorem shA_pos {b o a : Nat} (h : a ≠ 0) : shA b o a = o + a := by simp [shA, h]
theorem shV_cat (b o : Nat) (v : Value) : (shV b o v).category = v.category := by cases v <;> rfl
theorem shV_rf (b o : Nat) (r : Option Nat) : shV b o (va_rf r) = va_rf (r.map (shA b o)) := by cases r <;> rfl
def tyOf (ci : Nat) : Nat → FieldType := match ci with
  | 0 => tyX0 | 1 => tyX1 | 2 => tyX2 | 3 => tyX3 | 4 => tyX4 | 5 => tyX5 | 6 => tyX6 | 7 => tyX7 | 8 => tyX8 | 9 => tyX9 | 10 => tyX10 | 11 => tyX11 | _ => tyX12
/-- 0: an int, 1: a long, 2: a reference -/
def fso (t : FieldType) : Nat := match t with
  | .long => 1 | .object _ => 2 | .array _ => 2 | _ => 0
def fval (b o : Nat) (H : PH) (a ci k : Nat) : Value := if fso (tyOf ci k) = 1 then .long (hL H a k) else if fso (tyOf ci k) = 2 then va_rf ((hR H a k).map (shA b o)) else .int (hI H a k)
def cellE (aC : Nat → ClassId) (b o : Nat) (H : PH) (a : Nat) : va_E :=
  if (hK H a).1 = 20 then .inl (aC 20, (hK H a).2, .inl (hI H a))
  else if (hK H a).1 = 21 then .inl (aC 21, (hK H a).2, .inl (hI H a))
  else if (hK H a).1 = 22 then .inl (aC 22, (hK H a).2, .inl (hI H a))
  else if (hK H a).1 = 23 then .inl (aC 23, (hK H a).2, .inr (.inl (hL H a)))
  else if (hK H a).1 = 24 then .inl (aC 24, (hK H a).2, .inr (.inr (.inr (.inr (fun j => (hR H a j).map (shA b o))))))
  else if (hK H a).1 = 25 then .inl (aC 25, (hK H a).2, .inr (.inr (.inr (.inr (fun j => (hR H a j).map (shA b o))))))
  else .inr ((hK H a).1 - 1, (List.range 60).map (fval b o H a ((hK H a).1 - 1)))
def hw (aC : Nat → ClassId) (b o : Nat) (H : PH) : va_W := (List.range (hN H)).map (fun i => (o + (i + 1), cellE aC b o H (i + 1)))
theorem hw_len (aC : Nat → ClassId) (b o : Nat) (H : PH) : (hw aC b o H).length = hN H := by simp [hw]
theorem hw_get {aC : Nat → ClassId} {b o : Nat} {H : PH} {a : Nat} (h0 : a ≠ 0) (h : a ≤ hN H) : (hw aC b o H)[a - 1]? = some (shA b o a, cellE aC b o H a) := by
  have e : a - 1 + 1 = a := by omega
  rw [hw, List.getElem?_map, List.getElem?_range (by omega)]
  simp [shA, h0, e]
theorem hw_D (aC : Nat → ClassId) (b o : Nat) (H : PH) : va_D (fun q => o + 1 ≤ q) (hw aC b o H) := by
  refine ⟨fun i j p q hi hj e => ?_, fun k q hk => ?_⟩
  · have li := (List.getElem?_eq_some_iff.mp hi).1
    have lj := (List.getElem?_eq_some_iff.mp hj).1
    rw [hw_len] at li lj
    rw [hw, List.getElem?_map, List.getElem?_range li] at hi
    rw [hw, List.getElem?_map, List.getElem?_range lj] at hj
    simp at hi hj
    rw [← hi, ← hj] at e
    simp at e
    omega
  · have lk := (List.getElem?_eq_some_iff.mp hk).1
    rw [hw_len] at lk
    rw [hw, List.getElem?_map, List.getElem?_range lk] at hk
    simp at hk
    rw [← hk]
    simp
theorem hw_set {aC : Nat → ClassId} {b o : Nat} {H H' : PH} {a : Nat} {e : va_E} (h0 : a ≠ 0) (hn : hN H' = hN H) (he : cellE aC b o H' a = e) (ho : ∀ a', a' ≠ a → cellE aC b o H' a' = cellE aC b o H a') : (hw aC b o H).set (a - 1) (shA b o a, e) = hw aC b o H' := by
  apply List.ext_getElem?
  intro i
  by_cases hi : i = a - 1
  · subst hi
    by_cases hl : a - 1 < hN H
    · rw [List.getElem?_set_self (by rw [hw_len]; exact hl), hw_get h0 (by omega), he]
    · rw [List.getElem?_eq_none (by rw [List.length_set, hw_len]; omega), List.getElem?_eq_none (by rw [hw_len]; omega)]
  · rw [List.getElem?_set_ne (by omega)]
    by_cases hl : i < hN H
    · have g1 := hw_get (aC := aC) (b := b) (o := o) (H := H) (a := i + 1) (by omega) (by omega)
      have g2 := hw_get (aC := aC) (b := b) (o := o) (H := H') (a := i + 1) (by omega) (by omega)
      rw [Nat.add_sub_cancel] at g1 g2
      rw [g1, g2, ho (i + 1) (by omega)]
    · rw [List.getElem?_eq_none (by rw [hw_len]; omega), List.getElem?_eq_none (by rw [hw_len]; omega)]
theorem hw_push {aC : Nat → ClassId} {b o : Nat} {H H' : PH} {e : va_E} (hn : hN H' = hN H + 1) (he : cellE aC b o H' (hN H + 1) = e) (ho : ∀ a', a' ≠ hN H + 1 → cellE aC b o H' a' = cellE aC b o H a') : hw aC b o H ++ [(o + (hN H + 1), e)] = hw aC b o H' := by
  rw [hw, hw, hn, List.range_succ, List.map_append]
  congr 1
  · apply List.map_congr_left
    intro i hi
    rw [ho (i + 1) (by have := List.mem_range.mp hi; omega)]
  · simp [he]
/-- what a cell is depends on its own rows alone -/
theorem cellE_eq {aC : Nat → ClassId} {b o : Nat} {H H' : PH} {a : Nat} (h1 : hK H' a = hK H a) (h2 : hI H' a = hI H a) (h3 : hL H' a = hL H a) (h4 : hR H' a = hR H a) : cellE aC b o H' a = cellE aC b o H a := by
  have hf : ∀ ci, fval b o H' a ci = fval b o H a ci := fun ci => by funext k; simp only [fval, h2, h3, h4]
  simp only [cellE, h1, h2, h3, h4, hf]
/-! ===== a method; what stands around its frame ===== -/
abbrev MD : Type := MethodName × ByteArray × Nat × Option FieldType
/-- the words that go from state to state -/
def gw : List Cond := lw_tbl.filter goodWord
def isNest : Cond → Bool
  | .methodLinkNest _ _ _ _ => true
  | .fieldLinkNest _ _ _ _ _ _ => true
  | .castable _ _ => true
  | _ => false
def nw : List Cond := lw_tbl.filter isNest
def tys (aC : Nat → ClassId) : List (ClassId × FieldType) := [(aC 20, .int), (aC 21, .byte), (aC 22, .boolean), (aC 23, .long), (aC 24, .object "CarriageHire$Horse"), (aC 25, .object "CarriageHire$Job")]
/-- of a state: the tables, the script -/
def Env0 (b o L : Nat) (xs : Nat → Int32) (dC : Nat → ClassId) (dI : Nat → Nat → Nat) (aC : Nat → ClassId) (U : State) : Prop :=
  va_K (dC, dI) vwCl (tys aC) U ∧ (∀ w ∈ nw, va_Nw w U) ∧ va_X b L xs U U.heap ∧ b ≤ o ∧ o + 1 ≤ U.heap.size ∧ va_AO "CarriageHire$Horse" U ∧ va_AO "CarriageHire$Job" U
/-- the pure heap H is the heap Hm -/
def Wd (b o L : Nat) (xs : Nat → Int32) (dC : Nat → ClassId) (dI : Nat → Nat → Nat) (aC : Nat → ClassId) (H : PH) (Hm : Heap) : Prop :=
  va_P (dC, dI) vwCl (hw aC b o H) Hm ∧ Hm.size = o + (hN H + 1) ∧ hK H 0 = (99, L) ∧ (∀ a, hN H < a → hK H a = (0, 0)) ∧ ∀ j, j < L → hI H 0 j = xs j
def Ctx (y : MD) (b o L : Nat) (xs : Nat → Int32) (dC : Nat → ClassId) (dI : Nat → Nat → Nat) (aC : Nat → ClassId) (p : Program) (s : State) (m : MethodId) (args : Array Value) (meth : Method) (c : Code) : Prop :=
  p.tables.exec = Jvm.exec ∧ c.code = y.2.1 ∧ c.maxLocals = y.2.2.1 ∧ s.vm.findClass y.1.cls = some m.cls ∧ (y.1.name = "<init>" → meth.name = "<init>") ∧ (∀ w ∈ gw, w.before args s = true) ∧ Env0 b o L xs dC dI aC s
/-- the locals: what is known of each, by its number -/
def lo_ok (b o : Nat) (ls : Array Slot) (nL : Nat) (lo : List (Option Value)) : Prop := ls.size = nL ∧ lv_wf ls ∧ ∀ (i : Nat) (v : Value), lo[i]? = some (some v) → ls[i]? = some (.val (shV b o v))
/-- the instruction that gives this answer back -/
def retI (y : MD) (v : Option Value) (i : Instr) : Prop :=
  (y.2.2.2 = none ∧ v = none ∧ i = .return_) ∨ (∃ x, y.2.2.2 = some .int ∧ v = some (.int x) ∧ i = .ireturn) ∨ (∃ x, y.2.2.2 = some .boolean ∧ (x = 0 ∨ x = 1) ∧ v = some (.int x) ∧ i = .ireturn) ∨ (∃ x, y.2.2.2 = some .long ∧ v = some (.long x) ∧ i = .lreturn) ∨ (∃ r t, y.2.2.2 = some t ∧ ((∃ n, t = .object n) ∨ ∃ u, t = .array u) ∧ v = some (va_rf r) ∧ i = .areturn)
/-- from the frame at pc, with these locals, this stack, this heap: method y comes to its end with an answer and a heap of which Q holds; d calls deep at most, kc cells of ks slots new at most -/
def Wp (y : MD) (d kc ks pc : Nat) (lo : List (Option Value)) (st : List Value) (H : PH) (Q : Option Value → PH → Prop) : Prop :=
  ∀ (b o L : Nat) (xs : Nat → Int32) (dC : Nat → ClassId) (dI : Nat → Nat → Nat) (aC : Nat → ClassId) (p : Program) (l : Launch) (e : Env) (R : Room) (s : State) (m : MethodId) (args : Array Value) (below : List Frame) (meth : Method) (c : Code) (Hm : Heap) (locs : List Loc) (cells slots : Nat) (Qm : State → Prop) (ls : Array Slot),
    Ctx y b o L xs dC dI aC p s m args meth c → Wd b o L xs dC dI aC H Hm → va_S (fun q => o + 1 ≤ q) s.heap Hm locs → lo_ok b o ls y.2.2.1 lo → d ≤ R.frames → 64 * d ≤ R.locals → cells + kc ≤ R.cells → slots + ks ≤ R.slots →
    (∀ (v : Option Value) (H' : PH) (Hm' : Heap) (locs' : List Loc) (pc' : Nat) (ls' : Array Slot) (i : Instr), Q v H' → Wd b o L xs dC dI aC H' Hm' → va_S (fun q => o + 1 ≤ q) s.heap Hm' locs' → retI y v i → decode y.2.1 pc' = .ok (i, 1) →
      W p l e R s m args below meth c Hm' locs' (cells + kc) (slots + ks) Qm (F0 m pc' ls' (v.toList.map (shV b o)))) →
    W p l e R s m args below meth c Hm locs cells slots Qm (F0 m pc ls (st.map (shV b o)))
