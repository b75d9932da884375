/-! ===== fields ===== -/
/-- the constant pool's entry idx of class own is field k of class ci -/
def FL (own : String) (idx ci k : Nat) : Prop := ∃ q : vw_C, vwCl[ci]? = some q ∧ k < q.2.2 ∧ (Cond.fieldLink own idx (q.2.1 k).1 (q.2.1 k).2.1 (q.2.1 k).2.2.1 ∈ gw ∨ ∃ host, Cond.fieldLinkNest own idx (q.2.1 k).1 (q.2.1 k).2.1 (q.2.1 k).2.2.1 host ∈ nw)
theorem in_nw {w : Cond} (h : (lw_tbl.contains w && isNest w) = true) : w ∈ nw := by
  rw [Bool.and_eq_true] at h
  exact List.mem_filter.mpr ⟨by simpa using h.1, h.2⟩
theorem Wd.pos {b o L : Nat} {xs : Nat → Int32} {dC : Nat → ClassId} {dI : Nat → Nat → Nat} {aC : Nat → ClassId} {H : PH} {Hm : Heap} (h : Wd b o L xs dC dI aC H Hm) {a k n : Nat} (hk : hK H a = (k, n)) (h0 : k ≠ 0) (h9 : k ≠ 99) : a ≠ 0 ∧ a ≤ hN H := by
  obtain ⟨-, -, z1, z2, -⟩ := h
  refine ⟨fun e => ?_, ?_⟩
  · subst e; rw [z1] at hk; exact h9 (by cases hk; rfl)
  · rcases Nat.lt_or_ge (hN H) a with q | q
    · rw [z2 a q] at hk; exact absurd (by cases hk; rfl) h0
    · exact q
theorem cellE_obj {aC : Nat → ClassId} {b o : Nat} {H : PH} {a ci n : Nat} (hk : hK H a = (ci + 1, n)) (hc : ci < 13) : cellE aC b o H a = .inr (ci, (List.range 60).map (fval b o H a ci)) := by
  have e : ci + 1 - 1 = ci := by omega
  unfold cellE
  rw [hk]
  simp only [e]
  rw [if_neg (by omega), if_neg (by omega), if_neg (by omega), if_neg (by omega), if_neg (by omega), if_neg (by omega)]
theorem fs_get {b o : Nat} {H : PH} {a ci k : Nat} (hk : k < 60) : ((List.range 60).map (fval b o H a ci))[k]? = some (fval b o H a ci k) := by
  rw [List.getElem?_map, List.getElem?_range hk]; rfl
theorem fs_set {b o : Nat} {H H' : PH} {a ci k : Nat} (v : Value) (hv : fval b o H' a ci k = v) (ho : ∀ j, j ≠ k → fval b o H' a ci j = fval b o H a ci j) : ((List.range 60).map (fval b o H a ci)).set k v = (List.range 60).map (fval b o H' a ci) := by
  apply List.ext_getElem?
  intro i
  by_cases hi : i = k
  · subst hi
    by_cases hl : i < 60
    · rw [List.getElem?_set_self (by simpa using hl), fs_get hl, hv]
    · rw [List.getElem?_eq_none (by simp; omega), List.getElem?_eq_none (by simp; omega)]
  · rw [List.getElem?_set_ne (by omega)]
    by_cases hl : i < 60
    · rw [fs_get hl, fs_get hl, ho i hi]
    · rw [List.getElem?_eq_none (by simp; omega), List.getElem?_eq_none (by simp; omega)]
theorem Wd.put {b o L : Nat} {xs : Nat → Int32} {dC : Nat → ClassId} {dI : Nat → Nat → Nat} {aC : Nat → ClassId} {H H' : PH} {Hm Hm' : Heap} {a : Nat} {e : va_E} (h : Wd b o L xs dC dI aC H Hm) (h0 : a ≠ 0) (hn : hN H' = hN H) (hk : hK H' = hK H) (hi : hI H' 0 = hI H 0) (he : cellE aC b o H' a = e) (ho : ∀ a', a' ≠ a → cellE aC b o H' a' = cellE aC b o H a') (hP : va_P (dC, dI) vwCl ((hw aC b o H).set (a - 1) (shA b o a, e)) Hm') (hz : Hm'.size = Hm.size) : Wd b o L xs dC dI aC H' Hm' := by
  obtain ⟨-, z, z1, z2, z3⟩ := h
  rw [hw_set h0 hn he ho] at hP
  exact ⟨hP, by rw [hz, z, hn], by rw [hk]; exact z1, by rw [hk, hn]; exact z2, by rw [hi]; exact z3⟩
section HeapRules
variable {y : MD} {d kc ks pc : Nat} {lo : List (Option Value)} {st : List Value} {H : PH} {Q : Option Value → PH → Prop}
theorem wp_getv {idx ci k a n : Nat} {v : Value} (hd : decode y.2.1 pc = .ok (.getfield idx, 3)) (hf : FL y.1.cls idx ci k) (hk : hK H a = (ci + 1, n)) (hv : ∀ b o, fval b o H a ci k = shV b o v) (kk : Wp y d kc ks (pc + 3) lo (v :: st) H Q) : Wp y d kc ks pc lo (.ref a :: st) H Q := by
  intro b o L xs dC dI aC p l e R s m args below meth c Hm locs cells slots Qm ls hC hW hS hl h1 h2 h3 h4 hr
  obtain ⟨q, hq, hkq, hlink⟩ := hf
  have hci : ci < 13 := (List.getElem?_eq_some_iff.mp hq).1
  obtain ⟨p0, p1⟩ := hW.pos hk (by omega) (by omega)
  obtain ⟨k1, k2, k3, k4, k5, k6⟩ := clOk ci q hq
  have hg := hw_get (aC := aC) (b := b) (o := o) p0 p1
  rw [cellE_obj hk hci] at hg
  have hfin := kk b o L xs dC dI aC p l e R s m args below meth c Hm locs cells slots Qm ls hC hW hS hl h1 h2 h3 h4 hr
  rcases hlink with hlink | ⟨host, hlink⟩
  · exact va_get (ci := ci) (C := q.1) (T := q.2.1) (N := q.2.2) (v := shV b o v) hC.1 hC.2.1 hC.2.2.2.2.2.1 k1 hC.2.2.2.1 hC.2.2.2.2.2.2.1 hW.1 (a - 1) hg hq k hkq (hC.2.2.2.2.2.1 _ hlink) (fun _ h => h) (by rw [fs_get (by omega), hv b o]) hd hfin
  · exact va_getN (ci := ci) (C := q.1) (T := q.2.1) (N := q.2.2) (v := shV b o v) hC.1 hC.2.1 hC.2.2.2.2.2.1 k1 hC.2.2.2.1 hC.2.2.2.2.2.2.1 hW.1 (a - 1) hg hq k hkq (va_Nw.use rfl (hC.2.2.2.2.2.2.2.1 _ hlink)) (fun _ h => h) (by rw [fs_get (by omega), hv b o]) hd hfin
theorem wp_geti {idx ci k a n : Nat} (hd : decode y.2.1 pc = .ok (.getfield idx, 3)) (hf : FL y.1.cls idx ci k) (ht : fso (tyOf ci k) = 0) (hk : hK H a = (ci + 1, n)) (kk : Wp y d kc ks (pc + 3) lo (.int (hI H a k) :: st) H Q) : Wp y d kc ks pc lo (.ref a :: st) H Q :=
  wp_getv hd hf hk (fun b o => by simp [fval, ht, shV]) kk
theorem wp_getl {idx ci k a n : Nat} (hd : decode y.2.1 pc = .ok (.getfield idx, 3)) (hf : FL y.1.cls idx ci k) (ht : fso (tyOf ci k) = 1) (hk : hK H a = (ci + 1, n)) (kk : Wp y d kc ks (pc + 3) lo (.long (hL H a k) :: st) H Q) : Wp y d kc ks pc lo (.ref a :: st) H Q :=
  wp_getv hd hf hk (fun b o => by simp [fval, ht, shV]) kk
theorem wp_getr {idx ci k a n : Nat} (hd : decode y.2.1 pc = .ok (.getfield idx, 3)) (hf : FL y.1.cls idx ci k) (ht : fso (tyOf ci k) = 2) (hk : hK H a = (ci + 1, n)) (kk : Wp y d kc ks (pc + 3) lo (va_rf (hR H a k) :: st) H Q) : Wp y d kc ks pc lo (.ref a :: st) H Q :=
  wp_getv hd hf hk (fun b o => by rw [shV_rf]; simp [fval, ht]) kk
theorem wp_geta {idx ci k a n q : Nat} (hd : decode y.2.1 pc = .ok (.getfield idx, 3)) (hf : FL y.1.cls idx ci k) (ht : fso (tyOf ci k) = 2) (hk : hK H a = (ci + 1, n)) (hr : hR H a k = some q) (kk : Wp y d kc ks (pc + 3) lo (.ref q :: st) H Q) : Wp y d kc ks pc lo (.ref a :: st) H Q :=
  wp_getr hd hf ht hk (by rw [hr]; exact kk)
/-- a field is written: the new heap differs there alone -/
theorem wp_putv {idx ci k a n : Nat} {v : Value} {H' : PH} (hd : decode y.2.1 pc = .ok (.putfield idx, 3)) (hf : FL y.1.cls idx ci k) (hk : hK H a = (ci + 1, n)) (hfn : ∀ q : vw_C, vwCl[ci]? = some q → (q.2.1 k).2.2.2 = false ∨ (y.1.name = "<init>" ∧ (q.2.1 k).1 = y.1.cls ∧ (q.2.1 k).2.2.2 = true ∧ Cond.fieldLink y.1.cls idx (q.2.1 k).1 (q.2.1 k).2.1 (q.2.1 k).2.2.1 ∈ gw))
    (hna : ∀ b o, narrow (tyOf ci k) (shV b o v) = shV b o v) (hfi : ∀ b o, fits (tyOf ci k) (shV b o v) = true) (hn : hN H' = hN H) (hkk : hK H' = hK H) (hv : ∀ b o, fval b o H' a ci k = shV b o v) (ho : ∀ b o j, j ≠ k → fval b o H' a ci j = fval b o H a ci j) (hoo : ∀ a', a' ≠ a → hI H' a' = hI H a' ∧ hL H' a' = hL H a' ∧ hR H' a' = hR H a')
    (kk : Wp y d kc ks (pc + 3) lo st H' Q) : Wp y d kc ks pc lo (v :: .ref a :: st) H Q := by
  intro b o L xs dC dI aC p l e R s m args below meth c Hm locs cells slots Qm ls hC hW hS hl h1 h2 h3 h4 hr
  obtain ⟨q, hq, hkq, hlink⟩ := hf
  have hci : ci < 13 := (List.getElem?_eq_some_iff.mp hq).1
  obtain ⟨p0, p1⟩ := hW.pos hk (by omega) (by omega)
  obtain ⟨k1, k2, k3, k4, k5, k6⟩ := clOk ci q hq
  have hg := hw_get (aC := aC) (b := b) (o := o) p0 p1
  rw [cellE_obj hk hci] at hg
  have he : cellE aC b o H' a = .inr (ci, ((List.range 60).map (fval b o H a ci)).set k (shV b o v)) := by
    rw [cellE_obj (n := n) (by rw [hkk]; exact hk) hci, fs_set (H' := H') _ (hv b o) (ho b o)]
  have hap := va_apart (own := y.1.cls) hC.2.2.2.2.2.1 k1 (tyOf ci) k2 k3 hC.2.2.2.2.2.2.1 hq
  obtain ⟨r, hr1, cell, g1, g2, g3, g4⟩ := hW.1 (a - 1) _ hg
  have hre : r = q := Option.some.inj (hr1.symm.trans hq)
  subst hre
  obtain ⟨hS9, hfc, kC, hkC, hkind⟩ := hC.2.2.2.2.2.2.1.1 ci _ hq
  obtain ⟨cf, kf, fi, f, hi, hsl⟩ := hS9 k hkq
  have hst := (u_facts hfc hkC (u_lays hC.2.2.2.2.2.1 k1 hkq) hi).1
  have hlay := hC.2.2.2.2.2.1 _ (k1 _ (u_in_lay hkq))
  have hgo : ∀ (H1 : Heap), H1[shA b o a]? = some (cell.setSlot f.slot (shV b o v)) → H1.size = Hm.size → (∀ q, q ≠ shA b o a → H1[q]? = Hm[q]?) → W p l e R s m args below meth c H1 (locs ++ [⟨shA b o a, f.slot⟩]) cells slots Qm (F0 m (pc + 3) ls (st.map (shV b o))) := fun H1 e1 e2 e3 => by
    rw [hsl] at e1
    have hP1 := hW.1.set (hw_D aC b o H) hg (e := .inr (ci, ((List.range 60).map (fval b o H a ci)).set k (shV b o v))) ⟨_, hq, t_OB.to (V := updV (vp_V ((List.range 60).map (fval b o H a ci))) k (shV b o v)) ⟨_, e1, g2, g3, t_set g4 hap hkq (shV b o v)⟩ (fun j _ => vp_updV_set (by simp; omega) (shV b o v) j)⟩ e3
    exact kk b o L xs dC dI aC p l e R s m args below meth c H1 _ cells slots Qm ls hC (hW.put p0 hn hkk (hoo 0 (Ne.symm p0)).1 he (fun a' ha => cellE_eq (by rw [hkk]) (hoo a' ha).1 (hoo a' ha).2.1 (hoo a' ha).2.2) hP1 e2) (hS.put e2 e3 (by rw [shA_pos p0]; show o + 1 ≤ o + a; omega)) hl h1 h2 h3 h4 hr
  have hss : k < r.2.2 := hkq
  rcases hfn _ hq with hfin | ⟨hin, hdecl, hfin, hlk⟩
  · unfold u_lay at hlay
    rw [if_neg (by rw [hfin]; decide)] at hlay
    have h6 := u_store hfc hkC hkind hlay hi (k2 k hkq) (hna b o) (hfi b o)
    rcases hlink with hlink | ⟨host, hlink⟩
    · exact W.putK hC.1 hC.2.1 (f := f) ⟨hC.2.2.2.1, hC.2.2.2.2.2.1 _ hlink, ⟨_, _, _, hi⟩, hst⟩ (by rw [g2]; exact h6) g1 g3 (by rw [hsl]; exact k2_hasslot (g4 k hkq)) rfl rfl hd hgo
    · exact va_WputK hC.1 hC.2.1 (f := f) hC.2.2.2.1 (va_Nw.use rfl (hC.2.2.2.2.2.2.2.1 _ hlink)) hi hst (by rw [g2]; exact h6) g1 g3 (by rw [hsl]; exact k2_hasslot (g4 k hkq)) rfl rfl hd hgo
  · unfold u_lay at hlay
    rw [if_pos hfin] at hlay
    have hcf : m.cls = cf := by
      obtain ⟨_, _, c', _, _, _, -, -, hf', -, -, -, hown2, -⟩ := Cond.laysFinal_spec hlay
      have e1 : c' = cf := by have := hi.symm.trans hf'; simp at this; exact this.1.symm
      rw [hdecl] at hown2
      rw [← e1]; exact Option.some.inj (hC.2.2.2.1.symm.trans hown2)
    have h6 := u_fits hfc hkC hkind (Or.inr hlay) hi (k2 k hkq) (hna b o) (hfi b o)
    exact W.putFinK hC.1 hC.2.1 hC.2.2.2.1 (hC.2.2.2.2.2.1 _ hlk) hi hst hcf (hC.2.2.2.2.1 hin) (by rw [g2]; exact h6) g1 g3 (by rw [hsl]; exact k2_hasslot (g4 k hkq)) rfl rfl hd hgo
/-- a field that may be written here: not final, or in its own class's constructor -/
def MayPut (y : MD) (idx ci k : Nat) : Prop := ∀ q : vw_C, vwCl[ci]? = some q → (q.2.1 k).2.2.2 = false ∨ (y.1.name = "<init>" ∧ (q.2.1 k).1 = y.1.cls ∧ (q.2.1 k).2.2.2 = true ∧ Cond.fieldLink y.1.cls idx (q.2.1 k).1 (q.2.1 k).2.1 (q.2.1 k).2.2.1 ∈ gw)
theorem wp_puti {idx ci k a n : Nat} {x : Int32} (hd : decode y.2.1 pc = .ok (.putfield idx, 3)) (hf : FL y.1.cls idx ci k) (hm : MayPut y idx ci k) (ht : tyOf ci k = .int) (hk : hK H a = (ci + 1, n)) (kk : Wp y d kc ks (pc + 3) lo st (sI H a k x) Q) : Wp y d kc ks pc lo (.int x :: .ref a :: st) H Q := by
  refine wp_putv (H' := sI H a k x) hd hf hk hm (fun b o => by rw [ht]; rfl) (fun b o => by rw [ht]; rfl) rfl rfl (fun b o => by simp [fval, ht, fso, hI_sI, u2_eq, shV]) (fun b o j hj => by simp only [fval, hI_sI, hL_sI, hR_sI, u2_ne2 hj]) (fun a' ha => ⟨by rw [hI_sI, u2_row ha], rfl, rfl⟩) kk
theorem wp_putz {idx ci k a n : Nat} {x : Int32} (hd : decode y.2.1 pc = .ok (.putfield idx, 3)) (hf : FL y.1.cls idx ci k) (hm : MayPut y idx ci k) (ht : tyOf ci k = .boolean) (hx : x = 0 ∨ x = 1) (hk : hK H a = (ci + 1, n)) (kk : Wp y d kc ks (pc + 3) lo st (sI H a k x) Q) : Wp y d kc ks pc lo (.int x :: .ref a :: st) H Q := by
  refine wp_putv (H' := sI H a k x) hd hf hk hm (fun b o => by rw [ht]; rcases hx with rfl | rfl <;> rfl) (fun b o => by rw [ht]; rcases hx with rfl | rfl <;> rfl) rfl rfl (fun b o => by simp [fval, ht, fso, hI_sI, u2_eq, shV]) (fun b o j hj => by simp only [fval, hI_sI, hL_sI, hR_sI, u2_ne2 hj]) (fun a' ha => ⟨by rw [hI_sI, u2_row ha], rfl, rfl⟩) kk
theorem wp_putl {idx ci k a n : Nat} {x : Int64} (hd : decode y.2.1 pc = .ok (.putfield idx, 3)) (hf : FL y.1.cls idx ci k) (hm : MayPut y idx ci k) (ht : tyOf ci k = .long) (hk : hK H a = (ci + 1, n)) (kk : Wp y d kc ks (pc + 3) lo st (sL H a k x) Q) : Wp y d kc ks pc lo (.long x :: .ref a :: st) H Q := by
  refine wp_putv (H' := sL H a k x) hd hf hk hm (fun b o => by rw [ht]; rfl) (fun b o => by rw [ht]; rfl) rfl rfl (fun b o => by simp [fval, ht, fso, hL_sL, u2_eq, shV]) (fun b o j hj => by simp only [fval, hI_sL, hL_sL, hR_sL, u2_ne2 hj]) (fun a' ha => ⟨rfl, by rw [hL_sL, u2_row ha], rfl⟩) kk
theorem wp_putr {idx ci k a n : Nat} {r : Option Nat} (hd : decode y.2.1 pc = .ok (.putfield idx, 3)) (hf : FL y.1.cls idx ci k) (hm : MayPut y idx ci k) (ht : fso (tyOf ci k) = 2) (hk : hK H a = (ci + 1, n)) (kk : Wp y d kc ks (pc + 3) lo st (sR H a k r) Q) : Wp y d kc ks pc lo (va_rf r :: .ref a :: st) H Q := by
  have hna : ∀ t : FieldType, fso t = 2 → ∀ r : Option Nat, narrow t (va_rf r) = va_rf r ∧ fits t (va_rf r) = true := by
    intro t h r; cases t <;> simp [fso] at h <;> cases r <;> exact ⟨rfl, rfl⟩
  refine wp_putv (H' := sR H a k r) hd hf hk hm (fun b o => by rw [shV_rf]; exact (hna _ ht _).1) (fun b o => by rw [shV_rf]; exact (hna _ ht _).2) rfl rfl (fun b o => by rw [shV_rf]; simp [fval, ht, hR_sR, u2_eq]) (fun b o j hj => by simp only [fval, hI_sR, hL_sR, hR_sR, u2_ne2 hj]) (fun a' ha => ⟨rfl, rfl, by rw [hR_sR, u2_row ha]⟩) kk
theorem wp_puta {idx ci k a n q : Nat} (hd : decode y.2.1 pc = .ok (.putfield idx, 3)) (hf : FL y.1.cls idx ci k) (hm : MayPut y idx ci k) (ht : fso (tyOf ci k) = 2) (hk : hK H a = (ci + 1, n)) (kk : Wp y d kc ks (pc + 3) lo st (sR H a k (some q)) Q) : Wp y d kc ks pc lo (.ref q :: .ref a :: st) H Q := wp_putr (r := some q) hd hf hm ht hk kk
end HeapRules
