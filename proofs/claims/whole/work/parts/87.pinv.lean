/-! ===== pure: what a config of the machine keeps ===== -/
def rk (x : Nat) : Nat := if x = 41 then 1 else if x = 42 then 2 else if 43 ≤ x ∧ x ≤ 45 then 3 else if x = 46 ∨ x = 47 then 4 else if x = 48 ∨ x = 49 then 5 else 0
theorem rk5 (x : Nat) : rk x ≤ 5 := by unfold rk; repeat' split
                                       all_goals omega
theorem rk_pos {x : Nat} : 1 ≤ rk x ↔ 41 ≤ x ∧ x ≤ 49 := by
  unfold rk
  repeat' split
  all_goals omega
theorem rk_N {x : Nat} (h : isN x = true) : rk x = 0 := by
  have : x = 51 ∨ x = 40 ∨ x = 50 := of_decide_eq_true h
  have h1 : ¬ 1 ≤ rk x := fun q => by have := rk_pos.mp q; omega
  omega
def tpR (W : List Nat) : Nat := match W with
  | [] => 0
  | x :: _ => rk x
theorem tpR5 (W : List Nat) : tpR W ≤ 5 := by cases W with
  | nil => exact Nat.zero_le _
  | cons x W => exact rk5 x
def WI : List Nat → Prop
  | [] => True
  | x :: W => (isN x = true ∨ tpR W < rk x) ∧ WI W
theorem WI_len : ∀ W, WI W → W.length ≤ 6 * deepW W + tpR W
  | [], _ => Nat.zero_le _
  | x :: W, h => by
    have ih := WI_len W h.2
    have t5 := tpR5 W
    show W.length + 1 ≤ 6 * (deepW W + (if isN x = true then 1 else 0)) + rk x
    by_cases q : isN x = true
    · rw [if_pos q]; omega
    · rw [if_neg q]
      have := h.1.resolve_left q
      omega
theorem WI_el : ∀ W, WI W → ∀ x, x ∈ W → 40 ≤ x ∧ x ≤ 51
  | [], _, x, h => by cases h
  | y :: W, h, x, hx => by
    rcases List.mem_cons.mp hx with z | z
    · subst z
      rcases h.1 with q | q
      · have : x = 51 ∨ x = 40 ∨ x = 50 := of_decide_eq_true q
        omega
      · have := rk_pos.mp (by omega : 1 ≤ rk x); omega
    · exact WI_el W h.2 x z
/-- what an item does to the height of the pile -/
def ef (x : Nat × Nat) (h : Nat) : Option Nat := if x.1 < 40 then some (h + 1) else if x.1 = 40 ∨ x.1 = 50 then (if 1 ≤ h then some h else none) else (if 2 ≤ h then some (h - 1) else none)
def ht : OL → Nat → Option Nat
  | [], h => some h
  | x :: l, h => (ef x h).bind (ht l)
theorem ht_app : ∀ (l l' : OL) (h : Nat), ht (l ++ l') h = (ht l h).bind (ht l')
  | [], l', h => rfl
  | x :: l, l', h => by
    show (ef x h).bind (ht (l ++ l')) = ((ef x h).bind (ht l)).bind (ht l')
    cases ef x h with
    | none => rfl
    | some k => exact ht_app l l' k
def bn : List Nat → Nat
  | [] => 0
  | x :: W => bn W + (if isN x = true then 0 else 1)
def vls : OL → Nat
  | [] => 0
  | x :: l => vls l + (if x.1 < 40 then 1 else 0)
theorem vls_app : ∀ l l' : OL, vls (l ++ l') = vls l + vls l'
  | [], l' => by rw [List.nil_append]; show _ = 0 + _; omega
  | x :: l, l' => by
    show vls (l ++ l') + _ = vls l + _ + vls l'
    rw [vls_app l l']; omega
def okI (x : Nat × Nat) : Prop := (x.1 = 0 ∧ x.2 < 1000000) ∨ (20 ≤ x.1 ∧ x.1 < 26 ∧ x.2 = 0) ∨ (40 ≤ x.1 ∧ x.1 ≤ 50 ∧ x.2 = 0)
/-- what an e being read keeps; b is 1 behind an operand -/
def SI (o0 : OL) (b v : Nat) (W : List Nat) (o : OL) : Prop := WI W ∧ deepW W ≤ 8 ∧ vls o ≤ v ∧ (∀ x, x ∈ o → okI x) ∧ ∃ l, o = o0 ++ l ∧ ht l 0 = some (bn W + b)
theorem SI_pop {o0 : OL} {v x : Nat} {W : List Nat} {o : OL} (hx : x ≠ 51) (h : SI o0 1 v (x :: W) o) : SI o0 1 v W (o ++ [(x, 0)]) := by
  obtain ⟨h1, h2, h3, h4, l, h5, h6⟩ := h
  have e := WI_el _ h1 x (List.mem_cons_self ..)
  refine ⟨h1.2, ?_, ?_, fun y hy => ?_, l ++ [(x, 0)], by rw [h5, List.append_assoc], ?_⟩
  · have : deepW (x :: W) = deepW W + (if isN x = true then 1 else 0) := rfl
    omega
  · rw [vls_app]; show vls o + (0 + if x < 40 then 1 else 0) ≤ v
    rw [if_neg (by omega)]; omega
  · rcases List.mem_append.mp hy with z | z
    · exact h4 y z
    · rw [List.mem_singleton.mp z]; exact Or.inr (Or.inr ⟨e.1, by show x ≤ 50; omega, rfl⟩)
  · rw [ht_app, h6]
    show (ef (x, 0) (bn W + (if isN x = true then 0 else 1) + 1)).bind (ht []) = _
    unfold ef
    rw [if_neg (by show ¬ x < 40; omega)]
    by_cases q : isN x = true
    · have : x = 51 ∨ x = 40 ∨ x = 50 := of_decide_eq_true q
      rw [if_pos q, if_pos (by show x = 40 ∨ x = 50; omega), if_pos (by omega)]; rfl
    · have : ¬ (x = 51 ∨ x = 40 ∨ x = 50) := fun z => q (decide_eq_true z)
      rw [if_neg q, if_neg (by show ¬ (x = 40 ∨ x = 50); omega), if_pos (by omega)]; rfl
theorem SI_stp {o0 : OL} {v : Nat} {p : Nat → Bool} (hp : p 51 = false) : ∀ {W : List Nat} {o : OL}, SI o0 1 v W o → SI o0 1 v (stp p W o).1 (stp p W o).2
  | [], o, h => h
  | x :: W, o, h => by
    by_cases q : p x = true
    · rw [stp_t q]; exact SI_stp hp (SI_pop (fun z => by rw [z, hp] at q; cases q) h)
    · rw [stp_f (by simpa using q)]; exact h
/-- what stays on top -/
theorem stp_top {p : Nat → Bool} : ∀ {W : List Nat} {o : OL} {y : Nat} {W' : List Nat}, (stp p W o).1 = y :: W' → p y = false
  | [], o, y, W', h => by cases h
  | x :: W, o, y, W', h => by
    by_cases q : p x = true
    · rw [stp_t q] at h; exact stp_top h
    · rw [stp_f (by simpa using q)] at h
      cases h
      simpa using q
theorem tpR_lt {p : Nat → Bool} {W : List Nat} {o : OL} {k : Nat} (hk : 0 < k) (h : ∀ y, p y = false → y ∈ (stp p W o).1 → rk y < k) : tpR (stp p W o).1 < k := by
  cases e : (stp p W o).1 with
  | nil => exact hk
  | cons y W' => exact h y (stp_top e) (by rw [e]; exact List.mem_cons_self ..)
/-- a sign between two -/
theorem SI_bin {o0 : OL} {v x : Nat} {W : List Nat} {o : OL} (h : SI o0 1 v W o) (hx : tpR W < rk x) : SI o0 0 v (x :: W) o := by
  obtain ⟨h1, h2, h3, h4, l, h5, h6⟩ := h
  have e := rk_pos.mp (by omega : 1 ≤ rk x)
  have hn : ¬ isN x = true := fun z => by have : x = 51 ∨ x = 40 ∨ x = 50 := of_decide_eq_true z; omega
  refine ⟨⟨Or.inr hx, h1⟩, ?_, h3, h4, l, h5, ?_⟩
  · show deepW W + (if isN x = true then 1 else 0) ≤ 8
    rw [if_neg hn]; exact h2
  · rw [h6]
    show some (bn W + 1) = some (bn W + (if isN x = true then 0 else 1) + 0)
    rw [if_neg hn]
theorem SI_nest {o0 : OL} {v x : Nat} {W : List Nat} {o : OL} (h : SI o0 0 v W o) (hx : isN x = true) (hd : ¬ 8 ≤ deepW W) : SI o0 0 v (x :: W) o := by
  obtain ⟨h1, h2, h3, h4, l, h5, h6⟩ := h
  refine ⟨⟨Or.inl hx, h1⟩, ?_, h3, h4, l, h5, ?_⟩
  · show deepW W + (if isN x = true then 1 else 0) ≤ 8
    rw [if_pos hx]; omega
  · rw [h6]
    show some (bn W + 0) = some (bn W + (if isN x = true then 0 else 1) + 0)
    rw [if_pos hx]
theorem SI_val {o0 : OL} {v : Nat} {y : Nat × Nat} {W : List Nat} {o : OL} (h : SI o0 0 v W o) (hy : okI y) (hy4 : y.1 < 40) : SI o0 1 (v + 1) W (o ++ [y]) := by
  obtain ⟨h1, h2, h3, h4, l, h5, h6⟩ := h
  refine ⟨h1, h2, ?_, fun z hz => ?_, l ++ [y], by rw [h5, List.append_assoc], ?_⟩
  · rw [vls_app]; show vls o + (0 + if y.1 < 40 then 1 else 0) ≤ v + 1
    rw [if_pos hy4]; omega
  · rcases List.mem_append.mp hz with q | q
    · exact h4 z q
    · rw [List.mem_singleton.mp q]; exact hy
  · rw [ht_app, h6]
    show (ef y (bn W + 0)).bind (ht []) = _
    unfold ef
    rw [if_pos hy4]; rfl
theorem SI_cl {o0 : OL} {v : Nat} {W : List Nat} {o : OL} (h : SI o0 1 v (51 :: W) o) : SI o0 1 v W o := by
  obtain ⟨h1, h2, h3, h4, h5⟩ := h
  exact ⟨h1.2, by have h2' : deepW W + 1 ≤ 8 := h2; omega, h3, h4, h5⟩
def b2 (u : Nat) : Nat := if u = 2 then 1 else 0
/-- a config of an e that began with o0 -/
def CI (o0 : OL) (u : Nat) (W : List Nat) (s v : Nat) (o : OL) : Prop := u ≤ 2 ∧ SI o0 (b2 u) v W o ∧ o.length + W.length + 1 ≤ s
theorem CI_RB {o0 : OL} {u s v : Nat} {W : List Nat} {o : OL} (h : CI o0 u W s v o) (hs : s ≤ 600) : RB9 o W ∧ o.length + W.length + 1 ≤ 600 ∧ W.length + 1 ≤ 390 := by
  obtain ⟨h1, h2, h3⟩ := h
  have h4 := WI_len W h2.1
  have h5 := tpR5 W
  have h6 := h2.2.1
  exact ⟨⟨by omega, by omega, h6, fun x hx => by have := WI_el W h2.1 x hx; omega⟩, by omega, by omega⟩
section CIs
variable {bf : Nat → Int32} {N s v u : Nat} {o o0 : OL} {W : List Nat} {tk2 : Nat → Nat}
theorem goN_r {u' : Nat} {W' : List Nat} {v' : Nat} {o' : OL} {c : CF} {nx : Nat → Nat} (h : goN tk2 nx u' W' s v' o' = .inr c) : c = (u', W', nx s, v', o') := by
  unfold goN at h
  split at h
  · cases h
  · cases h; rfl
theorem CI_stO (hB : BF bf N) (hs : s ≤ N) (h8 : tkA bf N s ≠ 8) (hu : u = 0 ∨ u = 1) (h : CI o0 u W s v o) (hv : v ≤ 100) (e2 : tk2 s = tkA bf N s) {c : CF} (h1 : stO tk2 (nxtT bf N) (itmT bf N) (unkT bf N) u W s v o = .inr c) : CI o0 c.1 c.2.1 c.2.2.1 c.2.2.2.1 c.2.2.2.2 ∧ c.2.2.2.1 ≤ 100 ∧ c.2.2.1 ≤ N := by
  obtain ⟨c1, c2, c3⟩ := h
  have hb : b2 u = 0 := if_neg (by omega)
  rw [hb] at c2
  have nx := fun h0 => nxt_gt hB hs h0 h8
  rw [stO, e2] at h1
  split at h1
  · cases h1
  · rename_i hd
    split at h1
    · rename_i h67
      have := nx (by omega)
      split at h1
      · cases h1
      · rename_i hv1
        split at h1
        · cases h1
        · rename_i hun
          have e := goN_r h1
          subst e
          have hok : okI (itmT bf N s) ∧ (itmT bf N s).1 < 40 := by
            rcases h67 with z | z
            · obtain ⟨-, a, b, -⟩ := num_cd hB z
              exact ⟨Or.inl ⟨a, b⟩, by omega⟩
            · have hu : unkT bf N s = false := by cases r : unkT bf N s with
                | false => rfl
                | true => exact absurd ⟨z, r⟩ hun
              obtain ⟨-, a, b, c⟩ := (name_cd hB z).2 hu
              exact ⟨Or.inr (Or.inl ⟨a, b, c⟩), by omega⟩
          have hl := stp_len (pS 50) W (o ++ [itmT bf N s])
          have hl2 : (o ++ [itmT bf N s]).length = o.length + 1 := by rw [List.length_append]; rfl
          exact ⟨⟨Nat.le_refl _, SI_stp (by decide) (SI_val c2 hok.1 hok.2), by show (stp (pS 50) W (o ++ [itmT bf N s])).2.length + (stp (pS 50) W (o ++ [itmT bf N s])).1.length + 1 ≤ nxtT bf N s; omega⟩, by show v + 1 ≤ 100; omega, by show nxtT bf N s ≤ N; omega⟩
    · split at h1
      · have := nx (by omega)
        have e := goN_r h1
        subst e
        exact ⟨⟨Nat.zero_le _, SI_nest c2 (by decide) hd, by show o.length + (W.length + 1) + 1 ≤ nxtT bf N s; omega⟩, hv, by show nxtT bf N s ≤ N; omega⟩
      · split at h1
        · have := nx (by omega)
          have e := goN_r h1
          subst e
          exact ⟨⟨(by decide : 1 ≤ 2), SI_nest c2 (by decide) hd, by show o.length + (W.length + 1) + 1 ≤ nxtT bf N s; omega⟩, hv, by show nxtT bf N s ≤ N; omega⟩
        · split at h1
          · rename_i h5
            have := nx (by omega)
            have e := goN_r h1
            subst e
            exact ⟨⟨Nat.zero_le _, SI_nest c2 (by decide) hd, by show o.length + (W.length + 1) + 1 ≤ nxtT bf N s; omega⟩, hv, by show nxtT bf N s ≤ N; omega⟩
          · cases h1
theorem CI_put {x u' k : Nat} {p : Nat → Bool} (hp : p 51 = false) (hu' : u' = 0 ∨ u' = 1) (c2 : SI o0 1 v W o) (c3 : o.length + W.length + 1 ≤ s) (hk : s + 1 ≤ nxtT bf N s) (hx : tpR (stp p W o).1 < rk x) : CI o0 u' (x :: (stp p W o).1) (nxtT bf N s) v (stp p W o).2 := by
  have hb : b2 u' = 0 := if_neg (by omega)
  have hl := stp_len p W o
  refine ⟨by omega, ?_, by show (stp p W o).2.length + ((stp p W o).1.length + 1) + 1 ≤ _; omega⟩
  rw [hb]
  exact SI_bin (SI_stp hp c2) hx
theorem CI_stB (hB : BF bf N) (hs : s ≤ N) (h8 : tkA bf N s ≠ 8) (h : CI o0 2 W s v o) (hv : v ≤ 100) (e2 : tk2 s = tkA bf N s) {c : CF} (h1 : stB tk2 (nxtT bf N) W s v o = .inr c) : CI o0 c.1 c.2.1 c.2.2.1 c.2.2.2.1 c.2.2.2.2 ∧ c.2.2.2.1 ≤ 100 ∧ c.2.2.1 ≤ N := by
  obtain ⟨c1, c2, c3⟩ := h
  have c2 : SI o0 1 v W o := c2
  have nx := fun h0 => nxt_gt hB hs h0 h8
  have el := fun (p : Nat → Bool) (hp : p 51 = false) => WI_el _ (SI_stp hp c2).1
  rw [stB, e2] at h1
  split at h1
  · rename_i hq
    have hq : tkA bf N s = 43 ∨ tkA bf N s = 45 := of_decide_eq_true hq
    have := nx (by omega)
    have e := goN_r h1
    subst e
    refine ⟨CI_put (k := 4) (by decide) (Or.inr rfl) c2 c3 (by omega) ?_, hv, by show nxtT bf N s ≤ N; omega⟩
    rw [show rk (opc (tkA bf N s)) = 4 from (by rcases hq with z | z <;> rw [z] <;> rfl)]
    refine tpR_lt (by decide) (fun y hy hm => ?_)
    have z : ¬ (46 ≤ y ∧ y ≠ 51) := of_decide_eq_false hy
    have := el (pS 46) (by decide) y hm
    unfold rk
    repeat' split
    all_goals omega
  · split at h1
    · rename_i hq
      have hq : tkA bf N s = 42 ∨ tkA bf N s = 47 := of_decide_eq_true hq
      have := nx (by omega)
      have e := goN_r h1
      subst e
      refine ⟨CI_put (k := 4) (by decide) (Or.inr rfl) c2 c3 (by omega) ?_, hv, by show nxtT bf N s ≤ N; omega⟩
      rw [show rk (opc (tkA bf N s)) = 5 from (by rcases hq with z | z <;> rw [z] <;> rfl)]
      refine tpR_lt (by decide) (fun y hy hm => ?_)
      have z : ¬ (48 ≤ y ∧ y ≠ 51) := of_decide_eq_false hy
      have := el (pS 48) (by decide) y hm
      unfold rk
      repeat' split
      all_goals omega
    · split at h1
      · rename_i hq
        have hq : tkA bf N s = 60 ∨ tkA bf N s = 61 ∨ tkA bf N s = 62 := of_decide_eq_true hq
        have := nx (by omega)
        split at h1
        · cases h1
        · rename_i hc
          have e := goN_r h1
          subst e
          refine ⟨CI_put (k := 4) (by decide) (Or.inr rfl) c2 c3 (by omega) ?_, hv, by show nxtT bf N s ≤ N; omega⟩
          rw [show rk (opc (tkA bf N s)) = 3 from (by rcases hq with z | z | z <;> rw [z] <;> rfl)]
          cases e : (stp (pS 46) W o).1 with
          | nil => exact (by decide : 0 < 3)
          | cons y W' =>
            have hy := stp_top e
            have z : ¬ (46 ≤ y ∧ y ≠ 51) := of_decide_eq_false hy
            rw [e] at hc
            have hc : ¬ (43 ≤ y ∧ y ≤ 45) := fun q => hc (decide_eq_true q)
            show rk y < 3
            unfold rk
            repeat' split
            all_goals omega
      · split at h1
        · have := nx (by omega)
          have e := goN_r h1
          subst e
          refine ⟨CI_put (k := 4) (by decide) (Or.inl rfl) c2 c3 (by omega) (show _ < 2 from ?_), hv, by show nxtT bf N s ≤ N; omega⟩
          refine tpR_lt (by decide) (fun y hy hm => ?_)
          have z : ¬ (y ≠ 41 ∧ y ≠ 51) := of_decide_eq_false hy
          unfold rk
          repeat' split
          all_goals omega
        · split at h1
          · have := nx (by omega)
            have e := goN_r h1
            subst e
            refine ⟨CI_put (k := 4) (by decide) (Or.inl rfl) c2 c3 (by omega) (show _ < 1 from ?_), hv, by show nxtT bf N s ≤ N; omega⟩
            refine tpR_lt (by decide) (fun y hy hm => ?_)
            have z : ¬ (0 ≤ y ∧ y ≠ 51) := of_decide_eq_false hy
            unfold rk
            repeat' split
            all_goals omega
          · split at h1
            · rename_i h5
              have := nx (by omega)
              have e := goN_r h1
              subst e
              have k1 := SI_stp (p := pS 0) (by decide) c2
              have l1 := stp_len (pS 0) W o
              have hcl := stp_51 (o := o) h5.2
              rw [hcl] at k1 l1
              have k2 := SI_stp (p := pS 50) (by decide) (SI_cl k1)
              have l2 := stp_len (pS 50) (stp (pS 0) W o).1.tail (stp (pS 0) W o).2
              have l1' : (stp (pS 0) W o).1.tail.length + 1 + (stp (pS 0) W o).2.length = W.length + o.length := l1
              exact ⟨⟨Nat.le_refl _, k2, by show (stp (pS 50) (stp (pS 0) W o).1.tail (stp (pS 0) W o).2).2.length + (stp (pS 50) (stp (pS 0) W o).1.tail (stp (pS 0) W o).2).1.length + 1 ≤ nxtT bf N s; omega⟩, hv, by show nxtT bf N s ≤ N; omega⟩
            · cases h1
end CIs
