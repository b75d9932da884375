/-! ===== arrays, new cells ===== -/
def isIA (k : Nat) : Prop := k = 20 ∨ k = 21 ∨ k = 22
theorem cellE_i {aC : Nat → ClassId} {b o : Nat} {H : PH} {a k n : Nat} (hk : hK H a = (k, n)) (h : isIA k) : cellE aC b o H a = .inl (aC k, n, .inl (hI H a)) := by
  unfold cellE
  rw [hk]
  rcases h with rfl | rfl | rfl <;> simp
theorem cellE_l {aC : Nat → ClassId} {b o : Nat} {H : PH} {a n : Nat} (hk : hK H a = (23, n)) : cellE aC b o H a = .inl (aC 23, n, .inr (.inl (hL H a))) := by
  unfold cellE
  rw [hk]
  simp
theorem cellE_q {aC : Nat → ClassId} {b o : Nat} {H : PH} {a k n : Nat} (hk : hK H a = (k, n)) (h : k = 24 ∨ k = 25) : cellE aC b o H a = .inl (aC k, n, .inr (.inr (.inr (.inr (fun j => (hR H a j).map (shA b o)))))) := by
  unfold cellE
  rw [hk]
  rcases h with rfl | rfl <;> simp
def nofl (t : FieldType) : Bool := match t with | .float => false | .double => false | _ => true
theorem ty_nf : ∀ ci, ci < 13 → ∀ j, j < 60 → nofl (tyOf ci j) = true := by decide +kernel
section ArrRules
variable {y : MD} {d kc ks pc : Nat} {lo : List (Option Value)} {st : List Value} {H : PH} {Q : Option Value → PH → Prop}
theorem wp_iaload {a n : Nat} {i : Int32} (hd : decode y.2.1 pc = .ok (.iaload, 1)) (hk : hK H a = (20, n)) (hi : vp_in i n) (kk : Wp y d kc ks (pc + 1) lo (.int (hI H a i.toNatClampNeg) :: st) H Q) : Wp y d kc ks pc lo (.int i :: .ref a :: st) H Q := by
  intro b o L xs dC dI aC p l e R s m args below meth c Hm locs cells slots Qm ls hC hW hS hl h1 h2 h3 h4 hr
  obtain ⟨p0, p1⟩ := hW.pos hk (by omega) (by omega)
  have hg := hw_get (aC := aC) (b := b) (o := o) p0 p1
  rw [cellE_i hk (by simp [isIA])] at hg
  exact va_iald hC.1 hC.2.1 hC.2.2.2.2.2.2.1 hW.1 (a - 1) 0 hg rfl hi hd (kk b o L xs dC dI aC p l e R s m args below meth c Hm locs cells slots Qm ls hC hW hS hl h1 h2 h3 h4 hr)
theorem wp_baload {a n k : Nat} {i : Int32} (hd : decode y.2.1 pc = .ok (.baload, 1)) (hk : hK H a = (k, n)) (hkk : k = 21 ∨ k = 22) (hi : vp_in i n) (kk : Wp y d kc ks (pc + 1) lo (.int (hI H a i.toNatClampNeg) :: st) H Q) : Wp y d kc ks pc lo (.int i :: .ref a :: st) H Q := by
  intro b o L xs dC dI aC p l e R s m args below meth c Hm locs cells slots Qm ls hC hW hS hl h1 h2 h3 h4 hr
  obtain ⟨p0, p1⟩ := hW.pos hk (by omega) (by omega)
  have hg := hw_get (aC := aC) (b := b) (o := o) p0 p1
  rw [cellE_i hk (Or.inr hkk)] at hg
  rcases hkk with rfl | rfl
  · exact va_bald hC.1 hC.2.1 hC.2.2.2.2.2.2.1 hW.1 (a - 1) 1 hg rfl hi hd (kk b o L xs dC dI aC p l e R s m args below meth c Hm locs cells slots Qm ls hC hW hS hl h1 h2 h3 h4 hr)
  · exact va_zald hC.1 hC.2.1 hC.2.2.2.2.2.2.1 hW.1 (a - 1) 2 hg rfl hi hd (kk b o L xs dC dI aC p l e R s m args below meth c Hm locs cells slots Qm ls hC hW hS hl h1 h2 h3 h4 hr)
theorem wp_laload {a n : Nat} {i : Int32} (hd : decode y.2.1 pc = .ok (.laload, 1)) (hk : hK H a = (23, n)) (hi : vp_in i n) (kk : Wp y d kc ks (pc + 1) lo (.long (hL H a i.toNatClampNeg) :: st) H Q) : Wp y d kc ks pc lo (.int i :: .ref a :: st) H Q := by
  intro b o L xs dC dI aC p l e R s m args below meth c Hm locs cells slots Qm ls hC hW hS hl h1 h2 h3 h4 hr
  obtain ⟨p0, p1⟩ := hW.pos hk (by omega) (by omega)
  have hg := hw_get (aC := aC) (b := b) (o := o) p0 p1
  rw [cellE_l hk] at hg
  exact va_lald hC.1 hC.2.1 hC.2.2.2.2.2.2.1 hW.1 (a - 1) 3 hg rfl hi hd (kk b o L xs dC dI aC p l e R s m args below meth c Hm locs cells slots Qm ls hC hW hS hl h1 h2 h3 h4 hr)
theorem wp_aaload {a n k : Nat} {i : Int32} (hd : decode y.2.1 pc = .ok (.aaload, 1)) (hk : hK H a = (k, n)) (hkk : k = 24 ∨ k = 25) (hi : vp_in i n) (kk : Wp y d kc ks (pc + 1) lo (va_rf (hR H a i.toNatClampNeg) :: st) H Q) : Wp y d kc ks pc lo (.int i :: .ref a :: st) H Q := by
  intro b o L xs dC dI aC p l e R s m args below meth c Hm locs cells slots Qm ls hC hW hS hl h1 h2 h3 h4 hr
  obtain ⟨p0, p1⟩ := hW.pos hk (by omega) (by omega)
  have hg := hw_get (aC := aC) (b := b) (o := o) p0 p1
  rw [cellE_q hk hkk] at hg
  have hfin := kk b o L xs dC dI aC p l e R s m args below meth c Hm locs cells slots Qm ls hC hW hS hl h1 h2 h3 h4 hr
  rw [List.map_cons, shV_rf] at hfin
  rcases hkk with rfl | rfl
  · exact va_aldq hC.1 hC.2.1 hC.2.2.2.2.2.2.1 hW.1 (a - 1) 4 hg rfl hi hd hfin
  · exact va_aldq hC.1 hC.2.1 hC.2.2.2.2.2.2.1 hW.1 (a - 1) 5 hg rfl hi hd hfin
/-- an element of the script -/
theorem wp_script {n : Nat} {i : Int32} (hd : decode y.2.1 pc = .ok (.iaload, 1)) (hk : hK H 0 = (99, n)) (hi : vp_in i n) (kk : Wp y d kc ks (pc + 1) lo (.int (hI H 0 i.toNatClampNeg) :: st) H Q) : Wp y d kc ks pc lo (.int i :: .ref 0 :: st) H Q := by
  intro b o L xs dC dI aC p l e R s m args below meth c Hm locs cells slots Qm ls hC hW hS hl h1 h2 h3 h4 hr
  have hL : n = L := by have := hk.symm.trans hW.2.2.1; cases this; rfl
  subst hL
  have hlt : i.toNatClampNeg < n := Nat.not_le.mp fun q => hi (Or.inr q)
  have hfin := kk b o n xs dC dI aC p l e R s m args below meth c Hm locs cells slots Qm ls hC hW hS hl h1 h2 h3 h4 hr
  rw [hW.2.2.2.2 _ hlt] at hfin
  obtain ⟨-, -, hX, hb1, hb2, -⟩ := hC.2.2.2.2.2.2
  have h9 := va_sld (b := b) (rest := st.map (shV b o)) hC.1 hC.2.1 hX (by omega) (show ¬ o + 1 ≤ b by omega) hS hi hd hfin
  exact h9
theorem wp_alen {a n k : Nat} (hd : decode y.2.1 pc = .ok (.arraylength, 1)) (hk : hK H a = (k, n)) (hkk : k = 20 ∨ k = 21 ∨ k = 22 ∨ k = 23 ∨ k = 24 ∨ k = 25 ∨ (k = 99 ∧ a = 0)) (kk : Wp y d kc ks (pc + 1) lo (.int (Int32.ofNat n) :: st) H Q) : Wp y d kc ks pc lo (.ref a :: st) H Q := by
  intro b o L xs dC dI aC p l e R s m args below meth c Hm locs cells slots Qm ls hC hW hS hl h1 h2 h3 h4 hr
  have hfin := kk b o L xs dC dI aC p l e R s m args below meth c Hm locs cells slots Qm ls hC hW hS hl h1 h2 h3 h4 hr
  by_cases h9 : k = 99
  · subst h9
    have ha : a = 0 := by omega
    subst ha
    have hL : n = L := by have := hk.symm.trans hW.2.2.1; cases this; rfl
    subst hL
    obtain ⟨-, -, hX, hb1, hb2, -⟩ := hC.2.2.2.2.2.2
    have h9 := va_slen (b := b) (rest := st.map (shV b o)) hC.1 hC.2.1 hX (by omega) (show ¬ o + 1 ≤ b by omega) hS hd hfin
    exact h9
  · obtain ⟨p0, p1⟩ := hW.pos hk (by omega) (by omega)
    have hg := hw_get (aC := aC) (b := b) (o := o) p0 p1
    rcases hkk with rfl | rfl | rfl | rfl | rfl | rfl | ⟨rfl, -⟩
    · rw [cellE_i hk (by simp [isIA])] at hg
      exact va_alen hC.1 hC.2.1 hC.2.2.2.2.2.2.1 hW.1 (a - 1) 0 hg (ty := .int) rfl rfl hd hfin
    · rw [cellE_i hk (by simp [isIA])] at hg
      exact va_alen hC.1 hC.2.1 hC.2.2.2.2.2.2.1 hW.1 (a - 1) 1 hg (ty := .byte) rfl rfl hd hfin
    · rw [cellE_i hk (by simp [isIA])] at hg
      exact va_alen hC.1 hC.2.1 hC.2.2.2.2.2.2.1 hW.1 (a - 1) 2 hg (ty := .boolean) rfl rfl hd hfin
    · rw [cellE_l hk] at hg
      exact va_alen hC.1 hC.2.1 hC.2.2.2.2.2.2.1 hW.1 (a - 1) 3 hg (ty := .long) rfl rfl hd hfin
    · rw [cellE_q hk (by simp)] at hg
      exact va_alen hC.1 hC.2.1 hC.2.2.2.2.2.2.1 hW.1 (a - 1) 4 hg rfl rfl hd hfin
    · rw [cellE_q hk (by simp)] at hg
      exact va_alen hC.1 hC.2.1 hC.2.2.2.2.2.2.1 hW.1 (a - 1) 5 hg rfl rfl hd hfin
    · exact absurd rfl h9
theorem arr_up (cA : ClassId) (n : Nat) (f : Nat → Int32) (i : Nat) (x : Int32) : (vp_cell cA (n, .inl f)).setSlot i (.int x) = vp_cell cA (n, .inl (fun j => if j = i then x else f j)) := by
  rw [vp_cell_i, vp_cell_i, arrV_store]
  congr 1
  funext q
  by_cases hq : q = i
  · subst hq; simp [updV]
  · simp [updV, hq]
theorem arr_upL (cA : ClassId) (n : Nat) (f : Nat → Int64) (i : Nat) (x : Int64) : (vp_cell cA (n, .inr (.inl f))).setSlot i (.long x) = vp_cell cA (n, .inr (.inl (fun j => if j = i then x else f j))) := by
  rw [vp_cell_l, vp_cell_l, arrV_store]
  congr 1
  funext q
  by_cases hq : q = i
  · subst hq; simp [updV]
  · simp [updV, hq]
theorem u2_self {α : Type} (f : Nat → Nat → α) (a k : Nat) (v : α) : u2 f a k v a = fun j => if j = k then v else f a j := by funext j; simp [u2]
/-- what stands behind a write of an int into a row -/
theorem arr_go {a k n i : Nat} {x : Int32} {b o L : Nat} {xs : Nat → Int32} {dC : Nat → ClassId} {dI : Nat → Nat → Nat} {aC : Nat → ClassId} {Hm H1 : Heap} (hW : Wd b o L xs dC dI aC H Hm) (hk : hK H a = (k, n)) (hkk : isIA k) (e1 : H1[shA b o a]? = some ((vp_cell (aC k) (n, .inl (hI H a))).setSlot i (.int x))) (e2 : H1.size = Hm.size) (e3 : ∀ q, q ≠ shA b o a → H1[q]? = Hm[q]?) : Wd b o L xs dC dI aC (sI H a i x) H1 := by
  obtain ⟨p0, p1⟩ := hW.pos hk (by rcases hkk with h | h | h <;> omega) (by rcases hkk with h | h | h <;> omega)
  have hg := hw_get (aC := aC) (b := b) (o := o) p0 p1
  rw [cellE_i hk hkk] at hg
  rw [arr_up] at e1
  have hP1 := hW.1.set (hw_D aC b o H) hg (e := .inl (aC k, n, .inl (fun j => if j = i then x else hI H a j))) e1 e3
  refine hW.put p0 rfl rfl (by rw [hI_sI, u2_row (Ne.symm p0)]) ?_ (fun a' ha => cellE_eq rfl (by rw [hI_sI, u2_row ha]) rfl rfl) hP1 e2
  rw [cellE_i (H := sI H a i x) (k := k) (n := n) hk hkk, hI_sI, u2_self]
theorem wp_iastore {a n : Nat} {i x : Int32} (hd : decode y.2.1 pc = .ok (.iastore, 1)) (hk : hK H a = (20, n)) (hi : vp_in i n) (kk : Wp y d kc ks (pc + 1) lo st (sI H a i.toNatClampNeg x) Q) : Wp y d kc ks pc lo (.int x :: .int i :: .ref a :: st) H Q := by
  intro b o L xs dC dI aC p l e R s m args below meth c Hm locs cells slots Qm ls hC hW hS hl h1 h2 h3 h4 hr
  obtain ⟨p0, p1⟩ := hW.pos hk (by omega) (by omega)
  have hg := hw_get (aC := aC) (b := b) (o := o) p0 p1
  rw [cellE_i hk (by simp [isIA])] at hg
  refine W.iast hC.1 hC.2.1 (hW.1 (a - 1) _ hg) ((hC.2.2.2.2.2.2.1.2 0 _ rfl).1 n (fun j => .int (hI H a j))) (fun q => by cases q) (by show ¬ (i < 0 ∨ (arrV _ _ _).slots.size ≤ _); rw [arrV_size]; exact hi) rfl rfl hd fun H1 e1 e2 e3 => ?_
  exact kk b o L xs dC dI aC p l e R s m args below meth c H1 _ cells slots Qm ls hC (arr_go hW hk (by simp [isIA]) e1 e2 e3) (hS.put e2 e3 (by rw [shA_pos p0]; show o + 1 ≤ o + a; omega)) hl h1 h2 h3 h4 hr
theorem wp_bastore {a n : Nat} {i x : Int32} (hd : decode y.2.1 pc = .ok (.bastore, 1)) (hk : hK H a = (21, n)) (hi : vp_in i n) (kk : Wp y d kc ks (pc + 1) lo st (sI H a i.toNatClampNeg (x.toInt8.toInt32)) Q) : Wp y d kc ks pc lo (.int x :: .int i :: .ref a :: st) H Q := by
  intro b o L xs dC dI aC p l e R s m args below meth c Hm locs cells slots Qm ls hC hW hS hl h1 h2 h3 h4 hr
  obtain ⟨p0, p1⟩ := hW.pos hk (by omega) (by omega)
  have hg := hw_get (aC := aC) (b := b) (o := o) p0 p1
  rw [cellE_i hk (by simp [isIA])] at hg
  refine W.bast hC.1 hC.2.1 (hW.1 (a - 1) _ hg) ((hC.2.2.2.2.2.2.1.2 1 _ rfl).1 n (fun j => .int (hI H a j))) (fun q => by cases q) (by show ¬ (i < 0 ∨ (arrV _ _ _).slots.size ≤ _); rw [arrV_size]; exact hi) rfl rfl hd fun H1 e1 e2 e3 => ?_
  exact kk b o L xs dC dI aC p l e R s m args below meth c H1 _ cells slots Qm ls hC (arr_go hW hk (by simp [isIA]) e1 e2 e3) (hS.put e2 e3 (by rw [shA_pos p0]; show o + 1 ≤ o + a; omega)) hl h1 h2 h3 h4 hr
theorem wp_zastore {a n : Nat} {i x : Int32} (hd : decode y.2.1 pc = .ok (.bastore, 1)) (hk : hK H a = (22, n)) (hx : x = 0 ∨ x = 1) (hi : vp_in i n) (kk : Wp y d kc ks (pc + 1) lo st (sI H a i.toNatClampNeg x) Q) : Wp y d kc ks pc lo (.int x :: .int i :: .ref a :: st) H Q := by
  intro b o L xs dC dI aC p l e R s m args below meth c Hm locs cells slots Qm ls hC hW hS hl h1 h2 h3 h4 hr
  obtain ⟨p0, p1⟩ := hW.pos hk (by omega) (by omega)
  have hg := hw_get (aC := aC) (b := b) (o := o) p0 p1
  rw [cellE_i hk (by simp [isIA])] at hg
  refine W.zast hC.1 hC.2.1 (hW.1 (a - 1) _ hg) ((hC.2.2.2.2.2.2.1.2 2 _ rfl).1 n (fun j => .int (hI H a j))) (fun q => by cases q) (by show ¬ (i < 0 ∨ (arrV _ _ _).slots.size ≤ _); rw [arrV_size]; exact hi) rfl rfl hd fun H1 e1 e2 e3 => ?_
  have hnx : narrow .boolean (.int x) = .int x := by rcases hx with rfl | rfl <;> rfl
  rw [hnx] at e1
  exact kk b o L xs dC dI aC p l e R s m args below meth c H1 _ cells slots Qm ls hC (arr_go hW hk (by simp [isIA]) e1 e2 e3) (hS.put e2 e3 (by rw [shA_pos p0]; show o + 1 ≤ o + a; omega)) hl h1 h2 h3 h4 hr
theorem wp_lastore {a n : Nat} {i : Int32} {x : Int64} (hd : decode y.2.1 pc = .ok (.lastore, 1)) (hk : hK H a = (23, n)) (hi : vp_in i n) (kk : Wp y d kc ks (pc + 1) lo st (sL H a i.toNatClampNeg x) Q) : Wp y d kc ks pc lo (.long x :: .int i :: .ref a :: st) H Q := by
  intro b o L xs dC dI aC p l e R s m args below meth c Hm locs cells slots Qm ls hC hW hS hl h1 h2 h3 h4 hr
  obtain ⟨p0, p1⟩ := hW.pos hk (by omega) (by omega)
  have hg := hw_get (aC := aC) (b := b) (o := o) p0 p1
  rw [cellE_l hk] at hg
  refine W.last hC.1 hC.2.1 (hW.1 (a - 1) _ hg) ((hC.2.2.2.2.2.2.1.2 3 _ rfl).1 n (fun j => .long (hL H a j))) (fun q => by cases q) (by show ¬ (i < 0 ∨ (arrV _ _ _).slots.size ≤ _); rw [arrV_size]; exact hi) rfl rfl hd fun H1 e1 e2 e3 => ?_
  rw [arr_upL] at e1
  have hP1 := hW.1.set (hw_D aC b o H) hg (e := .inl (aC 23, n, .inr (.inl (fun j => if j = i.toNatClampNeg then x else hL H a j)))) e1 e3
  exact kk b o L xs dC dI aC p l e R s m args below meth c H1 _ cells slots Qm ls hC (hW.put p0 rfl rfl rfl (by rw [cellE_l (H := sL H a i.toNatClampNeg x) (n := n) hk, hL_sL, u2_self]) (fun a' ha => cellE_eq rfl rfl (by rw [hL_sL, u2_row ha]) rfl) hP1 e2) (hS.put e2 e3 (by rw [shA_pos p0]; show o + 1 ≤ o + a; omega)) hl h1 h2 h3 h4 hr
theorem arr_upQ (cA : ClassId) (n : Nat) (f : Nat → Option Nat) (i : Nat) (x : Nat) : (vp_cell cA (n, .inr (.inr (.inr (.inr f))))).setSlot i (.ref x) = vp_cell cA (n, .inr (.inr (.inr (.inr (fun j => if j = i then some x else f j))))) := by
  rw [vp_cell_q, vp_cell_q, arrV_store]
  congr 1
  funext q
  by_cases hq : q = i
  · subst hq; simp [updV, va_rf]
  · simp [updV, hq]
theorem wp_aastore {a n k v nv ci : Nat} {i : Int32} (hd : decode y.2.1 pc = .ok (.aastore, 1)) (hk : hK H a = (k, n)) (hkk : (k = 24 ∧ ci = 2) ∨ (k = 25 ∧ ci = 3)) (hv : hK H v = (ci + 1, nv)) (hi : vp_in i n) (kk : Wp y d kc ks (pc + 1) lo st (sR H a i.toNatClampNeg (some v)) Q) : Wp y d kc ks pc lo (.ref v :: .int i :: .ref a :: st) H Q := by
  intro b o L xs dC dI aC p l e R s m args below meth c Hm locs cells slots Qm ls hC hW hS hl h1 h2 h3 h4 hr
  have hci : ci < 13 := by omega
  obtain ⟨p0, p1⟩ := hW.pos hk (by omega) (by omega)
  obtain ⟨v0, v1⟩ := hW.pos hv (by omega) (by omega)
  have hg := hw_get (aC := aC) (b := b) (o := o) p0 p1
  rw [cellE_q hk (by omega)] at hg
  have hgv := hw_get (aC := aC) (b := b) (o := o) v0 v1
  rw [cellE_obj hv hci] at hgv
  have hq : ∃ (r : vw_C) (t0 : Nat), vwCl[ci]? = some r ∧ (tys aC)[t0]? = some (aC k, .object r.1) := by
    rcases hkk with ⟨rfl, rfl⟩ | ⟨rfl, rfl⟩
    · exact ⟨(RX2, TX2, 5), 4, rfl, rfl⟩
    · exact ⟨(RX3, TX3, 9), 5, rfl, rfl⟩
  obtain ⟨r, t0, hc, ht⟩ := hq
  have hlt : i.toNatClampNeg < n := Nat.not_le.mp fun q => hi (Or.inr q)
  have h0 : ¬ i < 0 := fun q => hi (Or.inl q)
  obtain ⟨r', hr', cellV, g1, g2, g3, -⟩ := hW.1 (v - 1) _ hgv
  have hcls := (hC.2.2.2.2.2.2.1.1 ci r hc).2
  obtain ⟨kA, comp, k1, k2, k3, -⟩ := (hC.2.2.2.2.2.2.1.2 t0 _ ht).2
  have hcomp : comp = dC ci := Option.some.inj (k3.symm.trans hcls.1)
  subst hcomp
  obtain ⟨kC, hkC, -⟩ := hcls.2
  refine W.aast hC.1 hC.2.1 (hW.1 (a - 1) _ hg) (fun q h => by cases h) (fun h => by cases h) k1 k2 rfl hkC ⟨h0, by show _ < (arrV _ _ _).slots.size; rw [arrV_size]; exact hlt⟩ g1 (fun q h => by rw [g3] at h; cases h) (by rw [g2]; exact hkC) (by rw [g2]; exact va_assign hcls) rfl rfl hd fun H1 e1 e2 e3 => ?_
  rw [arr_upQ] at e1
  have hP1 := hW.1.set (hw_D aC b o H) hg (e := .inl (aC k, n, .inr (.inr (.inr (.inr (fun j => if j = i.toNatClampNeg then some (shA b o v) else (hR H a j).map (shA b o))))))) e1 e3
  refine kk b o L xs dC dI aC p l e R s m args below meth c H1 _ cells slots Qm ls hC (hW.put p0 rfl rfl rfl ?_ (fun a' ha => cellE_eq rfl rfl rfl (by rw [hR_sR, u2_row ha])) hP1 e2) (hS.put e2 e3 (by rw [shA_pos p0]; show o + 1 ≤ o + a; omega)) hl h1 h2 h3 h4 hr
  rw [cellE_q (H := sR H a i.toNatClampNeg (some v)) (n := n) hk (by omega), hR_sR, u2_self]
  congr 7
  funext j
  by_cases hj : j = i.toNatClampNeg <;> simp [hj]
/-- the world with a new cell behind it -/
theorem Wd.new {b o L : Nat} {xs : Nat → Int32} {dC : Nat → ClassId} {dI : Nat → Nat → Nat} {aC : Nat → ClassId} {H : PH} {Hm H1 : Heap} {k n : Nat} (h : Wd b o L xs dC dI aC H Hm) (hat : va_at (dC, dI) vwCl (o + (hN H + 1), cellE aC b o (nC H k n) (hN H + 1)) H1) (hz : H1.size = Hm.size + 1) (ho : ∀ q, q < Hm.size → H1[q]? = Hm[q]?) : Wd b o L xs dC dI aC (nC H k n) H1 := by
  obtain ⟨z0, z, z1, z2, z3⟩ := h
  have hk : ∀ (k : Nat) (x : Nat × va_E), (hw aC b o H)[k]? = some x → H1[x.1]? = Hm[x.1]? := fun k x hx => ho x.1 ((z0 k x hx).lt)
  refine ⟨?_, by rw [hz, z, hN_nC]; omega, ?_, fun a ha => ?_, fun j hj => ?_⟩
  · rw [← hw_push (H := H) (H' := nC H k n) (e := cellE aC b o (nC H k n) (hN H + 1)) rfl rfl (fun a' ha => cellE_eq (by rw [hK_nC, u1_ne ha]) (by rw [hI_nC, u1_ne ha]) (by rw [hL_nC, u1_ne ha]) (by rw [hR_nC, u1_ne ha]))]
    refine (z0.kept hk).app (fun k x hx => ?_)
    have hz : k < 1 := (List.getElem?_eq_some_iff.mp hx).1
    rw [show k = 0 by omega] at hx
    cases hx
    exact hat
  · rw [hK_nC, u1_ne (by omega)]; exact z1
  · rw [hK_nC, u1_ne (by rw [hN_nC] at ha; omega)]; exact z2 a (by rw [hN_nC] at ha; omega)
  · rw [hI_nC, u1_ne (by omega)]; exact z3 j hj
theorem S_new {o : Nat} {H0 Hm H1 : Heap} {locs : List Loc} (hS : va_S (fun q => o + 1 ≤ q) H0 Hm locs) (hz : H1.size = Hm.size + 1) (ho : ∀ q, q < Hm.size → H1[q]? = Hm[q]?) : va_S (fun q => o + 1 ≤ q) H0 H1 locs :=
  ⟨Nat.le_trans hS.1 (by omega), fun x h1 h2 => (ho x (Nat.lt_of_lt_of_le h1 hS.1)).trans (hS.2.1 x h1 h2), hS.2.2⟩
theorem wp_new {idx ci : Nat} {q : vw_C} (hd : decode y.2.1 pc = .ok (.new idx, 3)) (hq : vwCl[ci]? = some q) (hc : Cond.classLink y.1.cls idx q.1 ∈ gw) (kk : Wp y d kc ks (pc + 3) lo (.ref (hN H + 1) :: st) (nC H (ci + 1) q.2.2) Q) : Wp y d (kc + 1) (ks + q.2.2) pc lo st H Q := by
  intro b o L xs dC dI aC p l e R s m args below meth c Hm locs cells slots Qm ls hC hW hS hl h1 h2 h3 h4 hr
  have hci : ci < 13 := (List.getElem?_eq_some_iff.mp hq).1
  obtain ⟨k1, k2, k3, k4, k5, k6⟩ := clOk ci q hq
  have hKn := hC.2.2.2.2.2.2.1.1 ci _ hq
  have hz0 := hW.2.1
  refine W.newcK hC.1 hC.2.1 hC.2.2.2.1 (hC.2.2.2.2.2.1 _ hc) (hC.2.2.2.2.2.1 _ k4) (hC.2.2.2.2.2.1 _ k5) rfl hd (by omega) (by omega) hKn.2.1 hz0 fun H1 kC hkC e1 z1 o1 => ?_
  have hW1 : Wd b o L xs dC dI aC (nC H (ci + 1) q.2.2) H1 := hW.new (k := ci + 1) (n := q.2.2) (by
    rw [cellE_obj (ci := ci) (n := q.2.2) (by rw [hK_nC, u1_eq]) hci]
    refine ⟨_, hq, (u_born (tyOf ci) hC.2.2.2.2.2.1 k1 hKn hkC e1 k2).to (fun j hj => ?_)⟩
    have hj6 : j < 60 := by omega
    have e5 : vp_V ((List.range 60).map (fval b o (nC H (ci + 1) q.2.2) (hN H + 1) ci)) j = fval b o (nC H (ci + 1) q.2.2) (hN H + 1) ci j := by
      rw [vp_V, List.getD_eq_getElem?_getD, fs_get hj6]; rfl
    show _ = vp_V ((List.range 60).map (fval b o (nC H (ci + 1) q.2.2) (hN H + 1) ci)) j
    rw [e5, fval, hL_nC, hR_nC, hI_nC, u1_eq, u1_eq, u1_eq]
    have hnf := ty_nf ci hci j hj6
    generalize tyOf ci j = t at hnf
    cases t <;> first | (simp [fso, defaultValue, va_rf]; done) | exact absurd hnf (by decide)) (by rw [z1, hz0]) (fun q hq => o1 q (by rw [← hz0]; exact hq))
  have hfin := kk b o L xs dC dI aC p l e R s m args below meth c H1 locs (cells + 1) (slots + q.2.2) Qm ls hC hW1 (S_new hS (by rw [z1, hz0]) (fun q hq => o1 q (by rw [← hz0]; exact hq))) hl h1 h2 (by omega) (by omega) (by
    rw [show cells + 1 + kc = cells + (kc + 1) by omega, show slots + q.2.2 + ks = slots + (ks + q.2.2) by omega]; exact hr)
  rw [List.map_cons, shV, shA_pos (by omega)] at hfin
  exact hfin
theorem wp_newarray {at' : ArrayType} {k : Nat} {n : Int32} (hd : decode y.2.1 pc = .ok (.newarray at', 2)) (hk : (at' = .int ∧ k = 20) ∨ (at' = .byte ∧ k = 21) ∨ (at' = .boolean ∧ k = 22) ∨ (at' = .long ∧ k = 23)) (hc : Cond.arrayClass (newarray.typeOf at') ∈ gw) (hn : ¬ n < 0) (hb : n.toNatClampNeg ≤ 60000) (kk : Wp y d kc ks (pc + 2) lo (.ref (hN H + 1) :: st) (nC H k n.toNatClampNeg) Q) : Wp y d (kc + 1) (ks + n.toNatClampNeg) pc lo (.int n :: st) H Q := by
  intro b o L xs dC dI aC p l e R s m args below meth c Hm locs cells slots Qm ls hC hW hS hl h1 h2 h3 h4 hr
  have hz0 := hW.2.1
  have hcb : n.toNatClampNeg * componentBytes (newarray.typeOf at') ≤ 536870912 := by
    have : componentBytes (newarray.typeOf at') ≤ 8 := by rcases hk with ⟨rfl, -⟩ | ⟨rfl, -⟩ | ⟨rfl, -⟩ | ⟨rfl, -⟩ <;> decide
    exact Nat.le_trans (Nat.mul_le_mul hb this) (by decide)
  refine va_newaK hC.1 hC.2.1 (hC.2.2.2.2.2.1 _ hc) rfl hd rfl hn rfl hcb (by omega) (by omega) hz0 fun H1 cA e1 z1 o1 hAr hNm => ?_
  have hcA : cA = aC k := by
    rcases hk with ⟨rfl, rfl⟩ | ⟨rfl, rfl⟩ | ⟨rfl, rfl⟩ | ⟨rfl, rfl⟩
    · exact Option.some.inj (hNm.symm.trans (hC.2.2.2.2.2.2.1.2 0 _ rfl).2)
    · exact Option.some.inj (hNm.symm.trans (hC.2.2.2.2.2.2.1.2 1 _ rfl).2)
    · exact Option.some.inj (hNm.symm.trans (hC.2.2.2.2.2.2.1.2 2 _ rfl).2)
    · exact Option.some.inj (hNm.symm.trans (hC.2.2.2.2.2.2.1.2 3 _ rfl).2)
  subst hcA
  have hW1 : Wd b o L xs dC dI aC (nC H k n.toNatClampNeg) H1 := hW.new (k := k) (n := n.toNatClampNeg) (by
    rcases hk with ⟨rfl, rfl⟩ | ⟨rfl, rfl⟩ | ⟨rfl, rfl⟩ | ⟨rfl, rfl⟩
    · rw [cellE_i (H := nC H 20 n.toNatClampNeg) (k := 20) (n := n.toNatClampNeg) (by rw [hK_nC, u1_eq]) (by simp [isIA]), hI_nC, u1_eq]; exact e1
    · rw [cellE_i (H := nC H 21 n.toNatClampNeg) (k := 21) (n := n.toNatClampNeg) (by rw [hK_nC, u1_eq]) (by simp [isIA]), hI_nC, u1_eq]; exact e1
    · rw [cellE_i (H := nC H 22 n.toNatClampNeg) (k := 22) (n := n.toNatClampNeg) (by rw [hK_nC, u1_eq]) (by simp [isIA]), hI_nC, u1_eq]; exact e1
    · rw [cellE_l (H := nC H 23 n.toNatClampNeg) (n := n.toNatClampNeg) (by rw [hK_nC, u1_eq]), hL_nC, u1_eq]; exact e1) (by rw [z1, hz0]) (fun q hq => o1 q (by rw [← hz0]; exact hq))
  have hfin := kk b o L xs dC dI aC p l e R s m args below meth c H1 locs (cells + 1) (slots + n.toNatClampNeg) Qm ls hC hW1 (S_new hS (by rw [z1, hz0]) (fun q hq => o1 q (by rw [← hz0]; exact hq))) hl h1 h2 (by omega) (by omega) (by
    rw [show cells + 1 + kc = cells + (kc + 1) by omega, show slots + n.toNatClampNeg + ks = slots + (ks + n.toNatClampNeg) by omega]; exact hr)
  rw [List.map_cons, shV, shA_pos (by omega)] at hfin
  exact hfin
theorem wp_anewarray {idx k : Nat} {C : String} {n : Int32} (hd : decode y.2.1 pc = .ok (.anewarray idx, 3)) (hk : (C = "CarriageHire$Horse" ∧ k = 24) ∨ (C = "CarriageHire$Job" ∧ k = 25)) (hc : Cond.classLink y.1.cls idx C ∈ gw) (hn : ¬ n < 0) (hb : n.toNatClampNeg ≤ 60000) (kk : Wp y d kc ks (pc + 3) lo (.ref (hN H + 1) :: st) (nC H k n.toNatClampNeg) Q) : Wp y d (kc + 1) (ks + n.toNatClampNeg) pc lo (.int n :: st) H Q := by
  intro b o L xs dC dI aC p l e R s m args below meth c Hm locs cells slots Qm ls hC hW hS hl h1 h2 h3 h4 hr
  have hz0 := hW.2.1
  have hao : va_AO C s := by
    rcases hk with ⟨rfl, -⟩ | ⟨rfl, -⟩
    · exact hC.2.2.2.2.2.2.2.2.2.2.2.1
    · exact hC.2.2.2.2.2.2.2.2.2.2.2.2
  refine W.anew hC.1 hC.2.1 hC.2.2.2.1 (hC.2.2.2.2.2.1 _ hc) (va_AO.use hao) rfl hd rfl hn (by omega) (by omega) (by omega) fun cA kA comp f1 f2 f3 f4 => ?_
  have hcA : cA = aC k := by
    rcases hk with ⟨rfl, rfl⟩ | ⟨rfl, rfl⟩
    · obtain ⟨_, _, -, -, -, g⟩ := (hC.2.2.2.2.2.2.1.2 4 _ rfl).2
      exact Option.some.inj (f1.symm.trans g)
    · obtain ⟨_, _, -, -, -, g⟩ := (hC.2.2.2.2.2.2.1.2 5 _ rfl).2
      exact Option.some.inj (f1.symm.trans g)
  subst hcA
  generalize hH1 : Hm.push ({ cls := aC k, slots := Array.replicate n.toNatClampNeg .null, vm := .none } : Cell) = H1
  have z1 : H1.size = Hm.size + 1 := by rw [← hH1, Array.size_push]
  have e1 : H1[Hm.size]? = some (arrV (aC k) n.toNatClampNeg (fun _ => .null)) := by rw [← hH1, Array.getElem?_push_size, ← arrV_new]
  have o1 : ∀ q : Nat, q < Hm.size → H1[q]? = Hm[q]? := fun q hq => by rw [← hH1, Array.getElem?_push, if_neg (Nat.ne_of_lt hq)]
  rw [hz0] at e1
  have hW1 : Wd b o L xs dC dI aC (nC H k n.toNatClampNeg) H1 := hW.new (k := k) (n := n.toNatClampNeg) (by
    rw [cellE_q (H := nC H k n.toNatClampNeg) (k := k) (n := n.toNatClampNeg) (by rw [hK_nC, u1_eq]) (by omega), hR_nC, u1_eq]; exact e1) z1 o1
  have hfin := kk b o L xs dC dI aC p l e R s m args below meth c H1 locs (cells + 1) (slots + n.toNatClampNeg) Qm ls hC hW1 (S_new hS z1 o1) hl h1 h2 (by omega) (by omega) (by
    rw [show cells + 1 + kc = cells + (kc + 1) by omega, show slots + n.toNatClampNeg + ks = slots + (ks + n.toNatClampNeg) by omega]; exact hr)
  rw [List.map_cons, shV, shA_pos (by omega), ← hz0] at hfin
  exact hfin
end ArrRules
