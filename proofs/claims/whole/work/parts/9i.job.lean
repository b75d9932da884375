/-! ===== a step of the law: job: by program (mkrel.py) ===== -/
section SJ
variable {L u d : Nat} {X : Nat → Int32} {H : PH} {Q : Option Value → PH → Prop}
theorem le7 {x : Int32} : x ≤ 7 ↔ x < 8 := by
  rw [le_i, lt_i, show (7 : Int32).toInt = 7 from rfl, show (8 : Int32).toInt = 8 from rfl]
  omega
theorem can_eq {k f t b w h : Int32} : jCan k f t b w h ↔ mjCan k f t b w h := by
  unfold jCan mjCan
  rw [le7, le7]
def B_job (m a k : Nat) : Prop := a = 8 ∨ (a = 5 ∧ (k = 3 ∨ k = 5)) ∨ (40 ≤ a ∧ a ≤ 45 ∧ k = m) ∨ (a = 33 ∧ k = 11) ∨ (48 ≤ a ∧ a ≤ 51)
def C_job (m a k : Nat) : Prop := a = 7 ∧ k = m
def posIns (pos : Nat → Nat) (m p j : Nat) : Nat := if j = m then p else if pos j < p then pos j else pos j + 1
theorem fra_jNew {B : Nat → Nat → Prop} {m pl : Nat} {k f t b w h : Int32} : fra B (C_job m) H (jNew0 H m k f t b w h pl) := by
  unfold jNew0 jIni
  exact fra_sR (fra_sRn (fra_sIn (fra_sIn (fra_sIn (fra_sIn (fra_sIn (fra_sIn (fra_nC fra_rfl) (by omega)) (by omega)) (by omega)) (by omega)) (by omega)) (by omega)) (by omega)) ⟨rfl, rfl⟩
theorem jNew_at {m pl b0 : Nat} {k f t b w h : Int32} (hb : b0 = hN H + 1) (h69 : 69 < b0) : hN (jNew0 H m k f t b w h pl) = b0 ∧ hK (jNew0 H m k f t b w h pl) b0 = (4, 9) ∧ hR (jNew0 H m k f t b w h pl) 7 m = some b0 ∧ hR (jNew0 H m k f t b w h pl) b0 6 = some pl ∧ ∀ x, hI (jNew0 H m k f t b w h pl) b0 x = if x = 5 then h else if x = 4 then w else if x = 3 then b else if x = 2 then t else if x = 1 then f else if x = 0 then k else 0 := by
  refine ⟨hb.symm, ?_, ?_, ?_, fun x => ?_⟩
  · show hK (nC H 4 9) b0 = _
    rw [hK_nC, hb, u1_eq]
  · unfold jNew0
    rw [hR_sR', if_pos ⟨rfl, rfl⟩, hb]
  · unfold jNew0 jIni
    rw [← hb, hR_sR', if_neg (by omega), hR_sR', if_pos ⟨rfl, rfl⟩]
  · unfold jNew0 jIni
    rw [← hb, hI_sR, hI_sR, hI_sI', hI_sI', hI_sI', hI_sI', hI_sI', hI_sI', hI_new hb]
    simp only [true_and]
theorem fra_later {C : Nat → Nat → Prop} {G0 H2 H' : PH} {m : Nat} {k f t b w h v1 v2 v3 : Int32} (h8 : eqX is8 G0 H2) (hc : eqX isCp (mjNew (sI (sI H2 5 3 v1) 5 5 v2) m k f t b w h) H') : fra (B_job m) C G0 (sI H' 33 11 v3) := by
  have h1 : fra (B_job m) C G0 (mjNew (sI (sI H2 5 3 v1) 5 5 v2) m k f t b w h) := by
    unfold mjNew
    exact fra_sI (fra_sI (fra_sI (fra_sI (fra_sI (fra_sI (fra_sI (fra_sI (fra_X h8 (fun a k q => Or.inl q)) (Or.inr (Or.inl ⟨rfl, Or.inl rfl⟩))) (Or.inr (Or.inl ⟨rfl, Or.inr rfl⟩))) (by unfold B_job; omega)) (by unfold B_job; omega)) (by unfold B_job; omega)) (by unfold B_job; omega)) (by unfold B_job; omega)) (by unfold B_job; omega)
  exact fra_sI (fra_trans h1 (fra_X hc (fun a k q => by unfold isCp at q; unfold B_job; omega))) (by unfold B_job; omega)
theorem later_at {G0 H2 H' : PH} {m : Nat} {k f t b w h v1 v2 v3 : Int32} (hc : eqX isCp (mjNew (sI (sI H2 5 3 v1) 5 5 v2) m k f t b w h) H') : hI (sI H' 33 11 v3) 5 3 = v1 ∧ hI (sI H' 33 11 v3) 5 5 = v2 ∧ hI (sI H' 33 11 v3) 33 11 = v3 ∧ (∀ i, hI (sI H' 33 11 v3) 8 i = hI H2 8 i) ∧ hI (sI H' 33 11 v3) 40 m = k ∧ hI (sI H' 33 11 v3) 41 m = f ∧ hI (sI H' 33 11 v3) 42 m = t ∧ hI (sI H' 33 11 v3) 43 m = b ∧ hI (sI H' 33 11 v3) 44 m = w ∧ hI (sI H' 33 11 v3) 45 m = h := by
  have g : ∀ a i, (a < 48 ∨ 51 < a) → a ≠ 33 → hI (sI H' 33 11 v3) a i = hI (mjNew (sI (sI H2 5 3 v1) 5 5 v2) m k f t b w h) a i := fun a i h1 h2 => by
    rw [hI_sI', if_neg (fun q => h2 q.1)]
    exact hc.2.2.2.2 a i (by unfold isCp; omega)
  have e : ∀ a i, hI (mjNew (sI (sI H2 5 3 v1) 5 5 v2) m k f t b w h) a i = if a = 45 ∧ i = m then h else if a = 44 ∧ i = m then w else if a = 43 ∧ i = m then b else if a = 42 ∧ i = m then t else if a = 41 ∧ i = m then f else if a = 40 ∧ i = m then k else if a = 5 ∧ i = 5 then v2 else if a = 5 ∧ i = 3 then v1 else hI H2 a i := fun _ _ => rfl
  refine ⟨?_, ?_, ?_, fun i => ?_, ?_, ?_, ?_, ?_, ?_, ?_⟩
  · rw [g 5 3 (by omega) (by omega), e]; simp
  · rw [g 5 5 (by omega) (by omega), e]; simp
  · rw [hI_sI', if_pos ⟨rfl, rfl⟩]
  · rw [g 8 i (by omega) (by omega), e]; simp
  · rw [g 40 m (by omega) (by omega), e]; simp
  · rw [g 41 m (by omega) (by omega), e]; simp
  · rw [g 42 m (by omega) (by omega), e]; simp
  · rw [g 43 m (by omega) (by omega), e]; simp
  · rw [g 44 m (by omega) (by omega), e]; simp
  · rw [g 45 m (by omega) (by omega), e]; simp
theorem OP_new {G : PH} {m p : Nat} {ord pos : Nat → Nat} {b : Int32} (hp : p ≤ m) (hO : OP H m ord pos) (h43 : ∀ i, i < m → hI G 43 i = hI H 43 i) (hm : hI G 43 m = b) (g1 : ∀ i, p ≤ i → i < m → b < hI H 43 (ord i)) (g2 : p ≠ 0 → hI H 43 (ord (p - 1)) ≤ b) : OP G (m + 1) (ordIns ord m p) (posIns pos m p) := by
  obtain ⟨o1, o2, o3⟩ := hO
  have key : ∀ j, j < m → (p ≤ pos j ↔ b < hI H 43 j) := by
    intro j hj
    have hpj := o2 j hj
    constructor
    · intro q
      have := g1 (pos j) q hpj.1
      rw [hpj.2] at this
      exact this
    · intro q
      rcases Nat.lt_or_ge (pos j) p with r | r
      · have h0 := g2 (by omega)
        have hl := o1 (p - 1) (by omega)
        exfalso
        refine absurd q (Int32.not_lt.mpr (le_tr ?_ h0))
        rcases Nat.lt_or_ge (pos j) (p - 1) with z | z
        · rcases (o3 j (ord (p - 1)) hj hl.1).mpr (by rw [hl.2]; exact z) with y | y
          · exact Int32.le_of_lt y
          · rw [y.1]; exact Int32.le_refl _
        · have : pos j = p - 1 := by omega
          rw [← this, hpj.2]
          exact Int32.le_refl _
      · exact r
  have pm : posIns pos m p m = p := if_pos rfl
  have pj : ∀ j, j < m → posIns pos m p j = if pos j < p then pos j else pos j + 1 := fun j hj => if_neg (by omega)
  refine ⟨fun t ht => ?_, fun j hj => ?_, fun x y hx hy => ?_⟩
  · unfold ordIns
    by_cases q : t < p
    · rw [if_pos q]
      have := o1 t (by omega)
      rw [pj _ this.1, this.2, if_pos q]
      exact ⟨by omega, rfl⟩
    · rw [if_neg q]
      by_cases q2 : t = p
      · rw [if_pos q2, pm]
        exact ⟨by omega, q2.symm⟩
      · rw [if_neg q2]
        have := o1 (t - 1) (by omega)
        rw [pj _ this.1, this.2, if_neg (by omega)]
        exact ⟨by omega, by omega⟩
  · by_cases q : j = m
    · rw [q, pm]
      unfold ordIns
      rw [if_neg (by omega), if_pos rfl]
      exact ⟨by omega, rfl⟩
    · have := o2 j (by omega)
      rw [pj j (by omega)]
      unfold ordIns
      by_cases q2 : pos j < p
      · rw [if_pos q2, if_pos q2]
        exact ⟨by omega, this.2⟩
      · rw [if_neg q2, if_neg (by omega), if_neg (by omega), Nat.add_sub_cancel]
        exact ⟨by omega, this.2⟩
  · unfold mAhd
    by_cases q : x = m
    · by_cases q2 : y = m
      · rw [q, q2]
        constructor
        · rintro (r | r)
          · exact absurd r (fun y => Int32.lt_irrefl y)
          · exact absurd r.2 (Nat.lt_irrefl _)
        · intro r
          exact absurd r (Nat.lt_irrefl _)
      · rw [q, hm, h43 y (by omega), pm, pj y (by omega)]
        have k := key y (by omega)
        constructor
        · rintro (r | r)
          · have := k.mpr r
            rw [if_neg (by omega)]
            omega
          · omega
        · intro r
          by_cases z : pos y < p
          · rw [if_pos z] at r
            omega
          · exact Or.inl (k.mp (by omega))
    · by_cases q2 : y = m
      · rw [q2, hm, h43 x (by omega), pm, pj x (by omega)]
        have k := key x (by omega)
        constructor
        · intro r
          have hn : ¬ b < hI H 43 x := by
            rcases r with r | r
            · exact fun z => absurd (Int32.lt_trans r z) (fun y => Int32.lt_irrefl y)
            · rw [r.1]; exact fun y => Int32.lt_irrefl y
          have : pos x < p := by
            rcases Nat.lt_or_ge (pos x) p with z | z
            · exact z
            · exact absurd (k.mp z) hn
          rw [if_pos this]
          exact this
        · intro r
          by_cases z : pos x < p
          · have hn : hI H 43 x ≤ b := Int32.not_lt.mp (fun y => by have := k.mpr y; omega)
            by_cases e : hI H 43 x = b
            · exact Or.inr ⟨e, by omega⟩
            · exact Or.inl (Int32.lt_of_le_of_ne hn e)
          · rw [if_neg z] at r
            omega
      · rw [h43 x (by omega), h43 y (by omega), pj x (by omega), pj y (by omega)]
        have := o3 x y (by omega) (by omega)
        unfold mAhd at this
        rw [this]
        by_cases z1 : pos x < p <;> by_cases z2 : pos y < p
        · rw [if_pos z1, if_pos z2]
        · rw [if_pos z1, if_neg z2]; omega
        · rw [if_neg z1, if_pos z2]; omega
        · rw [if_neg z1, if_neg z2]; omega
theorem sel {α : Type} {m : Nat} {f : Nat → α} {b : α} (P : Nat → α → Prop) (h1 : ∀ i, i < m → P i (f i)) (h2 : P m b) : ∀ i, i < m + 1 → P i (if i = m then b else f i) := by
  intro i hi
  by_cases q : i = m
  · rw [if_pos q, q]; exact h2
  · rw [if_neg q]; exact h1 i (by omega)
theorem RJb_new {G G0 H2 H' : PH} {m p pl b0 F T : Nat} {jo fr tt ord pos : Nat → Nat} {k f t b w h : Int32} (h69 : 69 ≤ hN H) (rJ : RJb H m jo fr tt ord pos) (hm : m < 10) (hc : jCan k f t b w h) (eF : f = nI F) (hF8 : F < 8) (eT : t = nI T) (hT8 : T < 8) (hb0 : b0 = hN H + 1) (e0 : G0 = jNew0 H m k f t b w h pl) (hp : p ≤ m) (h8 : eqX is8 G0 H2) (ho8 : ∀ i, i ≤ m → hI H2 8 i = nI (ordIns ord m p i)) (g1 : ∀ i, p ≤ i → i < m → b < hI H (jo (ord i)) 3) (g2 : p ≠ 0 → hI H (jo (ord (p - 1))) 3 ≤ b) {v : Int32} (hcp : eqX isCp (mjNew (sI (sI H2 5 3 (nI (m + 1))) 5 5 v) m k f t b w h) H') (eG : G = sI H' 33 11 (nI (m + 1))) :
    RJb G (m + 1) (fun i => if i = m then b0 else jo i) (fun i => if i = m then F else fr i) (fun i => if i = m then T else tt i) (ordIns ord m p) (posIns pos m p) := by
  have b9 : 69 < b0 := by omega
  obtain ⟨n1, n2, n3, n4, n5⟩ := jNew_at (H := H) (m := m) (pl := pl) (k := k) (f := f) (t := t) (b := b) (w := w) (h := h) hb0 b9
  rw [← e0] at n1 n2 n3 n4 n5
  have hl : ∀ C, fra (B_job m) C G0 G := fun C => by rw [eG]; exact fra_later h8 hcp
  have hh : fra (B_job m) (C_job m) H G := fra_trans (by rw [e0]; exact fra_jNew) (hl _)
  obtain ⟨l1, l2, l3, l4, l5, l6, l7, l8, l9, l10⟩ := later_at (G0 := G0) (v3 := nI (m + 1)) hcp
  rw [← eG] at l1 l2 l3 l4 l5 l6 l7 l8 l9 l10
  obtain ⟨⟨s1, s2, s3, s4, s5, s6, s7, s8⟩, ⟨m1, m2, m3, m4⟩, ro, rO, r2, r3, r4, r5⟩ := rJ
  have kb : ∀ x, hI G b0 x = hI G0 b0 x := fun x => (hl (fun _ _ => False)).2.2.1 b0 x (by omega) (by unfold B_job; omega)
  have ko : ∀ i x, i < m → hI G (jo i) x = hI H (jo i) x := fun i x hi => hh.2.2.1 _ x (r2 i hi) (by have := s5 i hi; unfold B_job; omega)
  have kr : ∀ a i, 40 ≤ a → a ≤ 47 → i ≠ m → hI G a i = hI H a i := fun a i h1 h2 h3 => hh.2.2.1 a i (by omega) (by unfold B_job; omega)
  have k2 : ∀ a i, 46 ≤ a → a ≤ 47 → hI G a i = hI H a i := fun a i h1 h2 => hh.2.2.1 a i (by omega) (by unfold B_job; omega)
  have hO' : OP G (m + 1) (ordIns ord m p) (posIns pos m p) := OP_new hp rO (fun i hi => kr 43 i (by omega) (by omega) (by omega)) l8 (fun i hi1 hi2 => by rw [← (r3 (ord i) (ro i hi2).2).2.1]; exact g1 i hi1 hi2) (fun q => by rw [← (r3 (ord (p - 1)) (ro (p - 1) (by omega)).2).2.1]; exact g2 q)
  have hN' : b0 ≤ hN G := Nat.le_trans (Nat.le_of_eq n1.symm) (hl (fun _ _ => False)).1
  refine ⟨⟨l1, hm, sel (fun i x => hR G 7 i = some x) (fun i hi => by rw [hh.2.2.2 7 i (by omega) (fun q => by have := q.2; omega)]; exact s3 i hi) (((hl (fun _ _ => False)).2.2.2 7 m (by omega) (fun q => q)).trans n3), sel (fun _ x => hK G x = (4, 9)) (fun i hi => by rw [hh.2.1 _ (r2 i hi)]; exact s4 i hi) (((hl (fun _ _ => False)).2.1 b0 (by omega)).trans n2), sel (fun _ x => 69 < x) s5 b9, fun i j hi hj q => ?_, fun i hi => ?_, fun i hi => ?_⟩, ⟨l3, hm, fun i hi => ?_, fun i hi => ?_⟩, fun i hi => ⟨by rw [l4]; exact ho8 i (by omega), (hO'.1 i hi).1⟩, hO', sel (fun _ x => x ≤ hN G) (fun i hi => Nat.le_trans (r2 i hi) hh.1) hN', sel (fun i x => hI G x 0 = hI G 40 i ∧ hI G x 3 = hI G 43 i ∧ hI G x 4 = hI G 44 i ∧ hI G x 5 = hI G 45 i ∧ hI G x 7 = hI G 46 i ∧ hI G x 8 = hI G 47 i) (fun i hi => ?_) ?_, fun i hi => ?_, fun i hi => ?_⟩
  · have q : (if i = m then b0 else jo i) = (if j = m then b0 else jo j) := q
    by_cases h1 : i = m <;> by_cases h2 : j = m
    · omega
    · rw [if_pos h1, if_neg h2] at q
      have := r2 j (by omega)
      omega
    · rw [if_neg h1, if_pos h2] at q
      have := r2 i (by omega)
      omega
    · rw [if_neg h1, if_neg h2] at q
      exact s6 i j (by omega) (by omega) q
  · show hI G (if i = m then b0 else jo i) 1 = nI (if i = m then F else fr i) ∧ (if i = m then F else fr i) < 8
    by_cases q : i = m
    · rw [if_pos q, if_pos q, kb, n5]
      exact ⟨eF, hF8⟩
    · rw [if_neg q, if_neg q, ko i 1 (by omega)]
      exact s7 i (by omega)
  · show hI G (if i = m then b0 else jo i) 2 = nI (if i = m then T else tt i) ∧ (if i = m then T else tt i) < 8
    by_cases q : i = m
    · rw [if_pos q, if_pos q, kb, n5]
      exact ⟨eT, hT8⟩
    · rw [if_neg q, if_neg q, ko i 2 (by omega)]
      exact s8 i (by omega)
  · show hI G 41 i = nI (if i = m then F else fr i) ∧ (if i = m then F else fr i) < 8
    by_cases q : i = m
    · rw [q, if_pos rfl, l6]
      exact ⟨eF, hF8⟩
    · rw [if_neg q, kr 41 i (by omega) (by omega) q]
      exact m3 i (by omega)
  · show hI G 42 i = nI (if i = m then T else tt i) ∧ (if i = m then T else tt i) < 8
    by_cases q : i = m
    · rw [q, if_pos rfl, l7]
      exact ⟨eT, hT8⟩
    · rw [if_neg q, kr 42 i (by omega) (by omega) q]
      exact m4 i (by omega)
  · rw [ko i 0 hi, ko i 3 hi, ko i 4 hi, ko i 5 hi, ko i 7 hi, ko i 8 hi, kr 40 i (by omega) (by omega) (by omega), kr 43 i (by omega) (by omega) (by omega), kr 44 i (by omega) (by omega) (by omega), kr 45 i (by omega) (by omega) (by omega), kr 46 i (by omega) (by omega) (by omega), kr 47 i (by omega) (by omega) (by omega)]
    exact r3 i hi
  · rw [kb, kb, kb, kb, kb, kb, n5, n5, n5, n5, n5, n5, l5, l8, l9, l10, k2 46 m (by omega) (by omega), k2 47 m (by omega) (by omega), (r5 m (Nat.le_refl _)).1, (r5 m (Nat.le_refl _)).2]
    exact ⟨rfl, rfl, rfl, rfl, rfl, rfl⟩
  · by_cases q : i = m
    · rw [q, l8, l9]
      exact ⟨hc.2.2.2.1, hc.2.2.2.2.1⟩
    · rw [kr 43 i (by omega) (by omega) q, kr 44 i (by omega) (by omega) q]
      exact r4 i (by omega)
  · rw [k2 46 i (by omega) (by omega), k2 47 i (by omega) (by omega)]
    exact r5 i (by omega)
/-- rows of the reference behind copy -/
theorem rows_cp {G H1 H' : PH} {m : Nat} {v : Int32} (hm : m < 10) (h1 : ∀ a k, 48 ≤ a → a ≤ 51 → hI H1 a k = hI H a k) (hc : CpOk H1 H' m) (eG : G = sI H' 33 11 v) : (∀ c, c ≠ m → rowEq c H G) ∧ ∀ o E, o.length ≤ 600 → E.length ≤ 10 → RowC 10 o E H → RowC m o E G := by
  obtain ⟨-, ⟨a1, a2⟩, ⟨b1, b2⟩, ⟨c1, c2⟩, ⟨e1, e2⟩⟩ := hc
  have g : ∀ a k, a ≠ 33 → hI G a k = hI H' a k := fun a k ha => by rw [eG, hI_sI', if_neg (fun q => ha q.1)]
  refine ⟨fun c hcm => ⟨fun i hi => ⟨?_, ?_⟩, fun i hi => ?_, ?_⟩, fun o E ho hE hr => ?_⟩
  · rw [g _ _ (by omega), c2 _ (by omega), h1 _ _ (by omega) (by omega)]
  · rw [g _ _ (by omega), e2 _ (by omega), h1 _ _ (by omega) (by omega)]
  · rw [g _ _ (by omega), b2 _ (by omega), h1 _ _ (by omega) (by omega)]
  · rw [g _ _ (by omega), a2 _ (by omega), h1 _ _ (by omega) (by omega)]
  · obtain ⟨r1, r2, r3, r4⟩ := hr
    refine ⟨fun i x hx => ?_, fun i hi => ?_, fun i hi => ?_, ?_⟩
    · have hi : i < o.length := by
        rcases Nat.lt_or_ge i o.length with q | q
        · exact q
        · rw [List.getElem?_eq_none q] at hx; cases hx
      rw [g _ _ (by omega), g _ _ (by omega), c1 i (by omega), e1 i (by omega), h1 _ _ (by omega) (by omega), h1 _ _ (by omega) (by omega)]
      exact r1 i x hx
    · rw [g _ _ (by omega), b1 (2 * i) (by omega), h1 _ _ (by omega) (by omega)]
      exact r2 i hi
    · have := r3 i hi
      rw [Nat.add_assoc] at this ⊢
      rw [g _ _ (by omega), b1 (2 * i + 1) (by omega), h1 _ _ (by omega) (by omega)]
      exact this
    · have := a1 0 (by omega)
      rw [g _ _ (by omega)]
      rw [show 1 * m + 0 = m by omega, show 1 * 10 + 0 = 10 by omega] at this
      rw [this, h1 _ _ (by omega) (by omega)]
      exact r4
theorem s_job {a b c e f g : Int32} (hRl : Rel L X u H) (hu : u < 1000000) (hq : ∀ x H1, Mid L X H1 → (∀ d Q', (∀ H2, Rel L X (u + 1) H2 → Q' (some (.int x)) H2) → Wp mX12_job (d + 8) 0 0 0 [some (.ref 33), some (.int a), some (.int b), some (.int c), some (.int e), some (.int f), some (.int g), none] [] H1 Q') → Q (some (.int x)) H1) : Wp mX11_job (d + 70) 4 623 0 [some (.ref 1), some (.int a), some (.int b), some (.int c), some (.int e), some (.int f), some (.int g)] [] H Q := by
  obtain ⟨hF, hk0, hi0, n, ho, m, jo, fr, tt, ord, pos, w, car, N, nb, rH, rJ, rW, rL, rC, rT, rB, rS, rF⟩ := id hRl
  have h69 : 69 ≤ hN H := hF.2.2
  have mid : Mid L X H := ⟨hF, hk0, hi0⟩
  have h16 : n ≤ 16 := rH.1.2.1
  have h10 : m ≤ 10 := rJ.1.2.1
  refine wp_room (kc := 1) (ks := 9) (by omega) (by omega) ?_
  obtain ⟨A, o, E, p1, p2, p3, p4⟩ := rL.1
  refine c_X11_job hF p1 (c_X1_book hF rJ.1 rJ.2.2.1 rJ.2.2.2.2.1 (fun hc hm H2 p hp h8 ho8 g1 g2 => ?_) (fun hn => ?_))
  · obtain ⟨F, hF7, eF⟩ := N_of (M := 7) (by decide) hc.2.1
    obtain ⟨T, hT7, eT⟩ := N_of (M := 7) (by decide) hc.2.2.1
    have hF8 : F < 8 := by omega
    have hT8 : T < 8 := by omega
    have h0 : fra (B_job m) (C_job m) H (jNew0 H m a b c e f g A) := fra_jNew
    have h1 : fra (B_job m) (C_job m) H (sI (sI H2 5 3 (nI (m + 1))) 5 5 (hI H 5 5 + 1)) := fra_sI (fra_sI (fra_trans h0 (fra_X h8 (fun a k q => Or.inl q))) (Or.inr (Or.inl ⟨rfl, Or.inl rfl⟩))) (Or.inr (Or.inl ⟨rfl, Or.inr rfl⟩))
    have hF1 : Fix (sI (sI H2 5 3 (nI (m + 1))) 5 5 (hI H 5 5 + 1)) := Fix_fra h1 (fun x hx q => n7 x hx q.1) hF
    refine hq _ _ (Mid_fra h1 hF1 (fun k q => by unfold B_job at q; omega) mid) (fun d Q' k => ?_)
    refine c_X12_job (m := m) (H := sI (sI H2 5 3 (nI (m + 1))) 5 5 (hI H 5 5 + 1)) hF1 (by
      rw [hI_sI', if_neg (by omega), hI_sI', if_neg (by omega), h8.2.2.2.2 33 11 (by unfold is8; omega), (fra_jNew (B := fun _ _ => False) (H := H) (m := m) (k := a) (f := b) (t := c) (b := e) (w := f) (h := g) (pl := A)).2.2.1 33 11 (by omega) (fun q => q)]
      exact rJ.2.1.1) h10 (fun _ _ H' hcp => ?_) (fun hn => absurd ⟨can_eq.mp hc, hm⟩ hn)
    have h : fra (B_job m) (C_job m) H (sI H' 33 11 (nI (m + 1))) := fra_trans h0 (fra_later h8 hcp.1)
    have e5 : hI (sI H' 33 11 (nI (m + 1))) 5 5 = hI H 5 5 + 1 := (later_at (G0 := H) (v3 := nI (m + 1)) hcp.1).2.1
    have hl : hL (sI H' 33 11 (nI (m + 1))) 11 0 = hL H 11 0 := by
      show hL H' 11 0 = _
      rw [hcp.1.2.2.1]
      show hL H2 11 0 = _
      rw [h8.2.2.1]
      exact (show hL (nC H 4 9) 11 0 = hL H 11 0 from hL_nC' (by omega))
    obtain ⟨w1, w2⟩ := rows_cp (H := H) (G := sI H' 33 11 (nI (m + 1))) (v := nI (m + 1)) hm (fun x k hx1 hx2 => by
      show hI (mjNew (sI (sI H2 5 3 (nI (m + 1))) 5 5 (hI H 5 5 + 1)) m a b c e f g) x k = _
      unfold mjNew
      rw [hI_sI', if_neg (by omega), hI_sI', if_neg (by omega), hI_sI', if_neg (by omega), hI_sI', if_neg (by omega), hI_sI', if_neg (by omega), hI_sI', if_neg (by omega), hI_sI', if_neg (by omega), hI_sI', if_neg (by omega), h8.2.2.2.2 x k (by unfold is8; omega)]
      exact (fra_jNew (B := fun _ _ => False) (H := H) (m := m) (k := a) (f := b) (t := c) (b := e) (w := f) (h := g) (pl := A)).2.2.1 x k (by omega) (fun q => q)) hcp rfl
    have oL : ∀ x k, B_job m x k → OffL H x := fun x k b => Or.inr (by unfold B_job at b; omega)
    have cL : ∀ x k, C_job m x k → x < 29 := fun x k q => by have := q.1; omega
    have jA := jNew_at (H := H) (m := m) (pl := A) (k := a) (f := b) (t := c) (b := e) (w := f) (h := g) rfl (by omega)
    have r6 : hR (sI H' 33 11 (nI (m + 1))) (hN H + 1) 6 = some A := ((fra_later (C := fun _ _ => False) h8 hcp.1).2.2.2 (hN H + 1) 6 (by rw [jA.1]; exact Nat.le_refl _) (fun q => q)).trans jA.2.2.2.1
    have l' : RLs (sI H' 33 11 (nI (m + 1))) (m + 1) (fun i => if i = m then hN H + 1 else jo i) := by
      refine ⟨⟨A, o, E, by rw [h.2.2.2 1 8 (by omega) (fun q => absurd q.1 (by decide))]; exact p1, LRo_fr h h69 oL cL p2, p3, RowC_eq p3.1 p3.2.1 (w1 10 (by omega)) p4⟩, sel (fun j x => ∃ A o E, hR (sI H' 33 11 (nI (m + 1))) x 6 = some A ∧ LRo (sI H' 33 11 (nI (m + 1))) A o E ∧ okO o E ∧ RowC j o E (sI H' 33 11 (nI (m + 1)))) (fun j hj => ?_) ⟨A, o, E, r6, LRo_fr h h69 oL cL p2, p3, w2 o E p3.1 p3.2.1 p4⟩⟩
      obtain ⟨A1, o1, E1, f1, f2, f3, f4⟩ := rL.2 j hj
      exact ⟨A1, o1, E1, by rw [h.2.2.2 (jo j) 6 (rJ.2.2.2.2.1 j hj) (fun q => by have := q.1; have := rJ.1.2.2.2.2.1 j hj; omega)]; exact f1, LRo_fr h h69 oL cL f2, f3, RowC_eq f3.1 f3.2.1 (w1 j (by omega)) f4⟩
    exact k _ ⟨Fix_fra h (fun x hx q => n7 x hx q.1) hF, (h.2.1 0 (by omega)).trans hk0, (funext (fun k => h.2.2.1 0 k (by omega) (fun b => by unfold B_job at b; omega))).trans hi0, n, ho, m + 1, _, _, _, _, _, w, car, N, nb,
      RHo_fr h h69 (fun a k b => Or.inr (by unfold B_job at b; omega)) (fun k q => absurd q.1 (by decide)) rH,
      RJb_new h69 rJ hm hc eF hF8 eT hT8 rfl rfl hp h8 ho8 g1 g2 hcp.1 rfl,
      RWy_fr h h69 (fun a k b => by unfold B_job at b; unfold OffW; omega) rW,
      l',
      RCa_bump (H := H) hu hl (h.2.2.1 9 4 (by omega) (fun b => by unfold B_job at b; omega)) e5 rC,
      RTp_fr h h69 (fun a k b => by unfold B_job at b; omega) rT,
      RBk_fr h h69 (fun a k b => by unfold B_job at b; unfold OffB; omega) rB,
      RSp_fr h h69 (fun a k b => by unfold B_job at b; omega) rS,
      RFt_fr h h69 (fun a k b => by unfold B_job at b; omega) rF⟩
  · exact hq _ H mid (fun d Q' k => c_X12_job hF rJ.2.1.1 h10 (fun hc hm => absurd ⟨can_eq.mpr hc, hm⟩ hn) (fun _ => k H (Rel_up hRl)))
end SJ
