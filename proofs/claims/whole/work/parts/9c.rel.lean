/-! ===== class against reference: what holds between calls, and what leaves it as it was ===== -/
def fra (B C : Nat → Nat → Prop) (H H' : PH) : Prop := hN H ≤ hN H' ∧ (∀ a, a ≤ hN H → hK H' a = hK H a) ∧ (∀ a k, a ≤ hN H → ¬ B a k → hI H' a k = hI H a k) ∧ ∀ a k, a ≤ hN H → ¬ C a k → hR H' a k = hR H a k
section FR
variable {B C A : Nat → Nat → Prop} {H H1 H' : PH}
theorem hR_sR' (H : PH) (a k : Nat) (v : Option Nat) (a' k' : Nat) : hR (sR H a k v) a' k' = if a' = a ∧ k' = k then v else hR H a' k' := rfl
theorem fra_rfl : fra B C H H := ⟨Nat.le_refl _, fun _ _ => rfl, fun _ _ _ _ => rfl, fun _ _ _ _ => rfl⟩
theorem fra_trans (h : fra B C H H1) (h' : fra B C H1 H') : fra B C H H' :=
  ⟨Nat.le_trans h.1 h'.1, fun a ha => (h'.2.1 a (Nat.le_trans ha h.1)).trans (h.2.1 a ha), fun a k ha q => (h'.2.2.1 a k (Nat.le_trans ha h.1) q).trans (h.2.2.1 a k ha q), fun a k ha q => (h'.2.2.2 a k (Nat.le_trans ha h.1) q).trans (h.2.2.2 a k ha q)⟩
theorem fra_sI {a k : Nat} {v : Int32} (h : fra B C H H') (ha : B a k) : fra B C H (sI H' a k v) :=
  ⟨h.1, h.2.1, fun b i hb q => (if_neg (fun e => q (by rw [e.1, e.2]; exact ha))).trans (h.2.2.1 b i hb q), h.2.2.2⟩
theorem fra_sIn {a k : Nat} {v : Int32} (h : fra B C H H') (ha : hN H < a) : fra B C H (sI H' a k v) :=
  ⟨h.1, h.2.1, fun b i hb q => (if_neg (fun e => by have := e.1; omega)).trans (h.2.2.1 b i hb q), h.2.2.2⟩
theorem fra_sR {a k : Nat} {v : Option Nat} (h : fra B C H H') (ha : C a k) : fra B C H (sR H' a k v) :=
  ⟨h.1, h.2.1, h.2.2.1, fun b i hb q => (if_neg (fun e => q (by rw [e.1, e.2]; exact ha))).trans (h.2.2.2 b i hb q)⟩
theorem fra_sRn {a k : Nat} {v : Option Nat} (h : fra B C H H') (ha : hN H < a) : fra B C H (sR H' a k v) :=
  ⟨h.1, h.2.1, h.2.2.1, fun b i hb q => (if_neg (fun e => by have := e.1; omega)).trans (h.2.2.2 b i hb q)⟩
theorem fra_nC {k n : Nat} (h : fra B C H H') : fra B C H (nC H' k n) :=
  ⟨Nat.le_succ_of_le h.1, fun a ha => (hK_nC' (Nat.le_trans ha h.1)).trans (h.2.1 a ha), fun a i ha q => (hI_nC' (Nat.le_trans ha h.1)).trans (h.2.2.1 a i ha q), fun a i ha q => (hR_nC' (Nat.le_trans ha h.1)).trans (h.2.2.2 a i ha q)⟩
theorem fra_X (h : eqX A H H') (hA : ∀ a k, A a k → B a k) : fra B C H H' :=
  ⟨Nat.le_of_eq h.1.symm, fun a _ => by rw [h.2.1], fun a k _ q => h.2.2.2.2 a k (fun s => q (hA a k s)), fun a k _ _ => by rw [h.2.2.2.1]⟩
theorem fra_Z (h : eqZ H H') (hA : ∀ a k, is9 a k → B a k) : fra B C H H' :=
  ⟨Nat.le_of_eq h.1.symm, fun a _ => by rw [h.2.1], fun a k _ q => h.2.2.2.1 a k (fun s => q (hA a k s)), fun a k _ _ => by rw [h.2.2.1]⟩
theorem fra_M (h : eqM A H H') (hA : ∀ a k, A a k → B a k) : fra B C H H' :=
  ⟨Nat.le_of_eq h.1.symm, fun a _ => by rw [h.2.1], fun a k _ q => h.2.2.2.1 a k (fun s => q (hA a k s)), fun a k _ _ => by rw [h.2.2.1]⟩
theorem fra_gro {n : Nat} (h : gro H H' n) : fra B C H H' :=
  ⟨by rw [h.1]; omega, fun a ha => (h.2 a ha).1, fun a k ha _ => by rw [(h.2 a ha).2.1], fun a k ha _ => by rw [(h.2 a ha).2.2.2]⟩
/-- horses -/
def OffH (H : PH) (a k : Nat) : Prop := (69 < a ∧ hK H a ≠ (3, 5)) ∨ (a ≤ 69 ∧ (¬ (a = 2 ∧ k = 2) ∧ ¬ (a = 33 ∧ k = 0) ∧ (a < 34 ∨ 38 < a)))
def RHo (H : PH) (n : Nat) (ho : Nat → Nat) : Prop := HS H n ho ∧ hI H 33 0 = nI n ∧ (∀ i, i < n → ho i ≤ hN H) ∧ (∀ i, i < n → hI H (ho i) 0 = hI H 34 i ∧ hI H (ho i) 1 = hI H 35 i ∧ hI H (ho i) 2 = hI H 36 i ∧ hI H (ho i) 3 = hI H 37 i ∧ hI H (ho i) 4 = hI H 38 i) ∧ (∀ i, i < n → (100 ≤ hI H 35 i ∧ hI H 35 i ≤ 200) ∧ (1 ≤ hI H 36 i ∧ hI H 36 i ≤ 20) ∧ (0 ≤ hI H 37 i ∧ hI H 37 i ≤ 1000)) ∧ ∀ i, n ≤ i → hI H 38 i = 0
theorem RHo_fr {n : Nat} {ho : Nat → Nat} (h : fra B C H H') (h69 : 69 ≤ hN H) (hB : ∀ a k, B a k → OffH H a k) (hC : ∀ k, ¬ C 3 k) (hr : RHo H n ho) : RHo H' n ho := by
  obtain ⟨⟨s1, s2, s3, s4, s5, s6⟩, r1, r2, r3, r4, r5⟩ := hr
  have kf : ∀ a k, a ≤ 69 → ¬ (¬ (a = 2 ∧ k = 2) ∧ ¬ (a = 33 ∧ k = 0) ∧ (a < 34 ∨ 38 < a)) → hI H' a k = hI H a k := fun a k ha q => h.2.2.1 a k (by omega) (fun b => by
    rcases hB a k b with ⟨c1, _⟩ | ⟨_, c2⟩
    · omega
    · exact q c2)
  have ko : ∀ i k, i < n → hI H' (ho i) k = hI H (ho i) k := fun i k hi => h.2.2.1 _ k (r2 i hi) (fun b => by
    rcases hB _ k b with ⟨_, c1⟩ | ⟨c1, _⟩
    · exact c1 (s4 i hi)
    · have := s5 i hi; omega)
  refine ⟨⟨by rw [kf 2 2 (by omega) (by omega)]; exact s1, s2, fun i hi => by rw [h.2.2.2 3 i (by omega) (hC i)]; exact s3 i hi, fun i hi => by rw [h.2.1 _ (r2 i hi)]; exact s4 i hi, s5, s6⟩, by rw [kf 33 0 (by omega) (by omega)]; exact r1, fun i hi => Nat.le_trans (r2 i hi) h.1, fun i hi => ?_, fun i hi => ?_, fun i hi => ?_⟩
  · rw [ko i 0 hi, ko i 1 hi, ko i 2 hi, ko i 3 hi, ko i 4 hi, kf 34 i (by omega) (by omega), kf 35 i (by omega) (by omega), kf 36 i (by omega) (by omega), kf 37 i (by omega) (by omega), kf 38 i (by omega) (by omega)]
    exact r3 i hi
  · rw [kf 35 i (by omega) (by omega), kf 36 i (by omega) (by omega), kf 37 i (by omega) (by omega)]
    exact r4 i hi
  · rw [kf 38 i (by omega) (by omega)]
    exact r5 i hi
/-- ways and carriages -/
def OffW (a k : Nat) : Prop := ¬ (a = 5 ∧ k = 4) ∧ a ≠ 6 ∧ a ≠ 39 ∧ ¬ (a = 33 ∧ k = 3)
def RWy (H : PH) (w : Nat → Nat → Nat) (car : Nat) : Prop := WY H w ∧ MWY H w ∧ hI H 5 4 = nI car ∧ hI H 33 3 = nI car ∧ 1 ≤ car ∧ car ≤ 6
theorem RWy_fr {w : Nat → Nat → Nat} {car : Nat} (h : fra B C H H') (h69 : 69 ≤ hN H) (hB : ∀ a k, B a k → OffW a k) (hr : RWy H w car) : RWy H' w car := by
  obtain ⟨r1, r2, r3, r4, r5⟩ := hr
  have kf : ∀ a k, a ≤ 69 → ¬ (¬ (a = 5 ∧ k = 4) ∧ a ≠ 6 ∧ a ≠ 39 ∧ ¬ (a = 33 ∧ k = 3)) → hI H' a k = hI H a k := fun a k ha q => h.2.2.1 a k (by omega) (fun b => q (hB a k b))
  refine ⟨fun a b ha hb => ?_, fun a b ha hb => ?_, by rw [kf 5 4 (by omega) (by omega)]; exact r3, by rw [kf 33 3 (by omega) (by omega)]; exact r4, r5⟩
  · have := r1 a b ha hb
    unfold wy at this ⊢
    rw [kf 6 _ (by omega) (by omega)]
    exact this
  · have := r2 a b ha hb
    unfold mwy at this ⊢
    rw [kf 39 _ (by omega) (by omega)]
    exact this
/-- jobs -/
def OffJ (H : PH) (a k : Nat) : Prop := (69 < a ∧ hK H a ≠ (4, 9)) ∨ (a ≤ 69 ∧ (¬ (a = 5 ∧ k = 3) ∧ a ≠ 8 ∧ ¬ (a = 33 ∧ k = 11) ∧ (a < 40 ∨ 47 < a)))
def RJb (H : PH) (m : Nat) (jo fr tt ord pos : Nat → Nat) : Prop := JS H m jo fr tt ∧ MJ H m fr tt ∧ (∀ t, t < m → hI H 8 t = nI (ord t) ∧ ord t < m) ∧ OP H m ord pos ∧ (∀ j, j < m → jo j ≤ hN H) ∧
  (∀ j, j < m → hI H (jo j) 0 = hI H 40 j ∧ hI H (jo j) 3 = hI H 43 j ∧ hI H (jo j) 4 = hI H 44 j ∧ hI H (jo j) 5 = hI H 45 j ∧ hI H (jo j) 7 = hI H 46 j ∧ hI H (jo j) 8 = hI H 47 j) ∧
  (∀ j, j < m → (0 ≤ hI H 43 j ∧ hI H 43 j ≤ 1400) ∧ (0 ≤ hI H 44 j ∧ hI H 44 j ≤ 300)) ∧ ∀ j, m ≤ j → hI H 46 j = 0 ∧ hI H 47 j = 0
theorem RJb_at {m : Nat} {jo fr tt ord pos : Nat → Nat} (h : fra B C H H') (h69 : 69 ≤ hN H) (hB : ∀ a k, B a k → OffJ H a k) (hr : RJb H m jo fr tt ord pos) : (∀ a k, a ≤ 69 → ¬ (¬ (a = 5 ∧ k = 3) ∧ a ≠ 8 ∧ ¬ (a = 33 ∧ k = 11) ∧ (a < 40 ∨ 47 < a)) → hI H' a k = hI H a k) ∧ ∀ i k, i < m → hI H' (jo i) k = hI H (jo i) k := by
  obtain ⟨⟨-, -, -, s4, s5, -⟩, -, -, -, r2, -⟩ := hr
  refine ⟨fun a k ha q => h.2.2.1 a k (by omega) (fun b => ?_), fun i k hi => h.2.2.1 _ k (r2 i hi) (fun b => ?_)⟩
  · rcases hB a k b with ⟨c1, _⟩ | ⟨_, c2⟩
    · omega
    · exact q c2
  · rcases hB _ k b with ⟨_, c1⟩ | ⟨c1, _⟩
    · exact c1 (s4 i hi)
    · have := s5 i hi
      omega
theorem RJb_fr {m : Nat} {jo fr tt ord pos : Nat → Nat} (h : fra B C H H') (h69 : 69 ≤ hN H) (hB : ∀ a k, B a k → OffJ H a k) (hC : ∀ k, ¬ C 7 k) (hr : RJb H m jo fr tt ord pos) : RJb H' m jo fr tt ord pos := by
  obtain ⟨kf, ko⟩ := RJb_at h h69 hB hr
  obtain ⟨⟨s1, s2, s3, s4, s5, s6, s7, s8⟩, ⟨m1, m2, m3, m4⟩, ro, ⟨o1, o2, o3⟩, r2, r3, r4, r5⟩ := hr
  refine ⟨⟨by rw [kf 5 3 (by omega) (by omega)]; exact s1, s2, fun i hi => by rw [h.2.2.2 7 i (by omega) (hC i)]; exact s3 i hi, fun i hi => by rw [h.2.1 _ (r2 i hi)]; exact s4 i hi, s5, s6, fun i hi => by rw [ko i 1 hi]; exact s7 i hi, fun i hi => by rw [ko i 2 hi]; exact s8 i hi⟩, ⟨by rw [kf 33 11 (by omega) (by omega)]; exact m1, m2, fun i hi => by rw [kf 41 i (by omega) (by omega)]; exact m3 i hi, fun i hi => by rw [kf 42 i (by omega) (by omega)]; exact m4 i hi⟩, fun t ht => by rw [kf 8 t (by omega) (by omega)]; exact ro t ht, ⟨o1, o2, fun a b ha hb => ?_⟩, fun i hi => Nat.le_trans (r2 i hi) h.1, fun i hi => ?_, fun i hi => ?_, fun i hi => ?_⟩
  · have := o3 a b ha hb
    unfold mAhd at this ⊢
    rw [kf 43 a (by omega) (by omega), kf 43 b (by omega) (by omega)]
    exact this
  · rw [ko i 0 hi, ko i 3 hi, ko i 4 hi, ko i 5 hi, ko i 7 hi, ko i 8 hi, kf 40 i (by omega) (by omega), kf 43 i (by omega) (by omega), kf 44 i (by omega) (by omega), kf 45 i (by omega) (by omega), kf 46 i (by omega) (by omega), kf 47 i (by omega) (by omega)]
    exact r3 i hi
  · rw [kf 43 i (by omega) (by omega), kf 44 i (by omega) (by omega)]
    exact r4 i hi
  · rw [kf 46 i (by omega) (by omega), kf 47 i (by omega) (by omega)]
    exact r5 i hi
/-- a list of prices: the class's at A, the reference's in its row c -/
def OffL (H : PH) (a : Nat) : Prop := (69 < a ∧ (hK H a).1 ≠ 20) ∨ (a ≤ 69 ∧ (a < 29 ∨ 32 < a))
def rowEq (c : Nat) (H H' : PH) : Prop := (∀ i, i < 600 → hI H' 48 (600 * c + i) = hI H 48 (600 * c + i) ∧ hI H' 49 (600 * c + i) = hI H 49 (600 * c + i)) ∧ (∀ i, i < 22 → hI H' 50 (22 * c + i) = hI H 50 (22 * c + i)) ∧ hI H' 51 c = hI H 51 c
def pOk (p N : Nat) : Prop := ((30 ≤ p ∧ p ≤ 32) ∨ 69 < p) ∧ p ≤ N
def LRo (H : PH) (A : Nat) (o : OL) (E : List (Nat × Nat)) : Prop := ∃ p q r, PL H A p q r o.length E.length ∧ pOk p (hN H) ∧ pOk q (hN H) ∧ pOk r (hN H) ∧ 28 < A ∧ A ≤ hN H ∧ (∀ i x, o[i]? = some x → hI H p i = encC x) ∧ ∀ i, i < E.length → hI H q i = nI (E.getD i (0, 0)).1 ∧ hI H r i = nI (E.getD i (0, 0)).2
def okO (o : OL) (E : List (Nat × Nat)) : Prop := o.length ≤ 600 ∧ E.length ≤ 10 ∧ LF o E ∧ (∀ x, x ∈ o → okI x) ∧ vls o ≤ 100
theorem LRo_fr {A0 : Nat} {o : OL} {E : List (Nat × Nat)} (h : fra B C H H') (h69 : 69 ≤ hN H) (hB : ∀ a k, B a k → OffL H a) (hC : ∀ a k, C a k → a < 29) (hr : LRo H A0 o E) : LRo H' A0 o E := by
  obtain ⟨p, q, r, ⟨p1, p2, p3, p4, p5, p6, p7⟩, g1, g2, g3, a1, a2, e1, e2⟩ := hr
  have kp : ∀ a n, pOk a (hN H) → hK H a = (20, n) → ∀ k, hI H' a k = hI H a k := fun a n ha hk k => h.2.2.1 a k ha.2 (fun b => by
    rcases hB a k b with ⟨_, c1⟩ | ⟨c1, c2⟩
    · exact c1 (by rw [hk])
    · have := ha.1
      omega)
  have kr : ∀ k, hR H' A0 k = hR H A0 k := fun k => h.2.2.2 A0 k a2 (fun c => by have := hC _ _ c; omega)
  refine ⟨p, q, r, ⟨by rw [h.2.1 _ a2]; exact p1, by rw [kr]; exact p2, by rw [kr]; exact p3, by rw [kr]; exact p4, by rw [h.2.1 _ g1.2]; exact p5, by rw [h.2.1 _ g2.2]; exact p6, by rw [h.2.1 _ g3.2]; exact p7⟩, ⟨g1.1, Nat.le_trans g1.2 h.1⟩, ⟨g2.1, Nat.le_trans g2.2 h.1⟩, ⟨g3.1, Nat.le_trans g3.2 h.1⟩, a1, Nat.le_trans a2 h.1, fun i x hx => by rw [kp p _ g1 p5]; exact e1 i x hx, fun i hi => by rw [kp q _ g2 p6, kp r _ g3 p7]; exact e2 i hi⟩
theorem RowC_eq {c : Nat} {o : OL} {E : List (Nat × Nat)} (ho : o.length ≤ 600) (hE : E.length ≤ 10) (h : rowEq c H H') (hr : RowC c o E H) : RowC c o E H' := by
  obtain ⟨r1, r2, r3, r4⟩ := hr
  refine ⟨fun i x hx => ?_, fun i hi => ?_, fun i hi => ?_, by rw [h.2.2]; exact r4⟩
  · have hi : i < o.length := by
      rcases Nat.lt_or_ge i o.length with q | q
      · exact q
      · rw [List.getElem?_eq_none q] at hx; cases hx
    rw [(h.1 i (by omega)).1, (h.1 i (by omega)).2]
    exact r1 i x hx
  · rw [h.2.1 (2 * i) (by omega)]
    exact r2 i hi
  · have := r3 i hi
    rw [Nat.add_assoc] at this ⊢
    rw [h.2.1 (2 * i + 1) (by omega)]
    exact this
def RLs (H : PH) (m : Nat) (jo : Nat → Nat) : Prop := (∃ A o E, hR H 1 8 = some A ∧ LRo H A o E ∧ okO o E ∧ RowC 10 o E H) ∧ ∀ j, j < m → ∃ A o E, hR H (jo j) 6 = some A ∧ LRo H A o E ∧ okO o E ∧ RowC j o E H
theorem RLs_fr {m : Nat} {jo : Nat → Nat} (h : fra B C H H') (h69 : 69 ≤ hN H) (hj : ∀ j, j < m → jo j ≤ hN H ∧ 69 < jo j) (hB : ∀ a k, B a k → OffL H a) (hC : ∀ a k, C a k → a < 29 ∧ a ≠ 1) (hrow : ∀ c, c ≤ 10 → rowEq c H H') (h10 : m ≤ 10) (hr : RLs H m jo) : RLs H' m jo := by
  obtain ⟨⟨A0, o, E, e1, e2, e3, e4⟩, r⟩ := hr
  refine ⟨⟨A0, o, E, by rw [h.2.2.2 1 8 (by omega) (fun c => (hC _ _ c).2 rfl)]; exact e1, LRo_fr h h69 hB (fun a k c => (hC a k c).1) e2, e3, RowC_eq e3.1 e3.2.1 (hrow 10 (by omega)) e4⟩, fun j hjm => ?_⟩
  obtain ⟨A1, o1, E1, f1, f2, f3, f4⟩ := r j hjm
  exact ⟨A1, o1, E1, by rw [h.2.2.2 (jo j) 6 (hj j hjm).1 (fun c => by have := (hC _ _ c).1; have := (hj j hjm).2; omega)]; exact f1, LRo_fr h h69 hB (fun a k c => (hC a k c).1) f2, f3, RowC_eq f3.1 f3.2.1 (hrow j (by omega)) f4⟩
theorem row_fr (h : fra B C H H') (h69 : 69 ≤ hN H) (hB : ∀ a k, B a k → a < 48 ∨ 51 < a) (c : Nat) : rowEq c H H' :=
  ⟨fun i _ => ⟨h.2.2.1 48 _ (by omega) (fun b => by have := hB _ _ b; omega), h.2.2.1 49 _ (by omega) (fun b => by have := hB _ _ b; omega)⟩, fun i _ => h.2.2.1 50 _ (by omega) (fun b => by have := hB _ _ b; omega), h.2.2.1 51 _ (by omega) (fun b => by have := hB _ _ b; omega)⟩
/-- the cache of BEST -/
def RCa (H : PH) (m car : Nat) (jo fr tt ord : Nat → Nat) (w : Nat → Nat → Nat) (u : Nat) : Prop := hL H 11 0 = 0 ∧ (∃ cg, cg ≤ u ∧ hI H 5 5 = nI cg ∧ (hI H 9 4 = -1 ∨ ∃ sn, sn ≤ cg ∧ hI H 9 4 = nI sn)) ∧ (hI H 9 4 = hI H 5 5 → hasB H m car jo fr tt ord w H)
theorem hasB_cong {H2 H3 : PH} {m car : Nat} {jo fr tt ord : Nat → Nat} {w : Nat → Nat → Nat} (hO : ∀ t, t < m → ord t < m) (hf : ∀ i j, i < m → j < m → folB H' jo fr tt i j = folB H jo fr tt i j) (hk : ∀ j, j < m → hI H' (jo j) 8 = hI H (jo j) 8) (h9 : hI H3 9 5 = hI H2 9 5 ∧ hI H3 9 6 = hI H2 9 6) (h12 : ∀ k, hI H3 12 k = hI H2 12 k) (h : hasB H m car jo fr tt ord w H2) : hasB H' m car jo fr tt ord w H3 := by
  obtain ⟨v, h1, h2⟩ := h
  have e1 : ckF fr tt ord w (folB H' jo fr tt) m = ckF fr tt ord w (folB H jo fr tt) m := by
    funext S
    unfold ckF
    rw [chF_fol hf hO m 0 none 0 (by omega) (fun p q => by cases q)]
  have e2 : Kc H' jo m = Kc H jo m := mkM_cong (fun i hi => by rw [hk i hi])
  refine ⟨v, by rw [e1, e2]; exact h1, ?_⟩
  rw [e2]
  refine ⟨fun hv => ?_, fun hv => ?_⟩
  · rw [h9.1, h9.2]
    exact ⟨(h2.1 hv).1, (h2.1 hv).2.1, fun n hn => by rw [h12]; exact (h2.1 hv).2.2 n hn⟩
  · rw [h9.1, h9.2]
    exact ⟨(h2.2 hv).1, (h2.2 hv).2.1, fun g hg n hn => by rw [h12]; exact (h2.2 hv).2.2 g hg n hn⟩
theorem fol_at {m : Nat} {jo fr tt : Nat → Nat} (h6 : ∀ k, hI H' 6 k = hI H 6 k) (ko : ∀ i k, i < m → hI H' (jo i) k = hI H (jo i) k) : ∀ i j, i < m → j < m → folB H' jo fr tt i j = folB H jo fr tt i j := by
  intro i j hi hj
  unfold folB cFol cEnd wy
  rw [h6, h6, ko i 3 hi, ko i 4 hi, ko j 3 hj]
theorem RCa_fr {m car u : Nat} {jo fr tt ord pos : Nat → Nat} {w : Nat → Nat → Nat} (h : fra B C H H') (h69 : 69 ≤ hN H) (hB1 : ∀ a k, B a k → OffJ H a k) (hB2 : ∀ a k, B a k → a ≠ 6 ∧ a ≠ 9 ∧ a ≠ 12 ∧ ¬ (a = 5 ∧ k = 5)) (hJ : RJb H m jo fr tt ord pos) (hl : hL H' 11 0 = hL H 11 0) (hr : RCa H m car jo fr tt ord w u) : RCa H' m car jo fr tt ord w u := by
  obtain ⟨kf, ko⟩ := RJb_at h h69 hB1 hJ
  obtain ⟨r1, r2, r3⟩ := hr
  have e5 : hI H' 5 5 = hI H 5 5 := h.2.2.1 5 5 (by omega) (fun b => (hB2 _ _ b).2.2.2 ⟨rfl, rfl⟩)
  have e9 : ∀ k, hI H' 9 k = hI H 9 k := fun k => h.2.2.1 9 k (by omega) (fun b => (hB2 _ _ b).2.1 rfl)
  have e12 : ∀ k, hI H' 12 k = hI H 12 k := fun k => h.2.2.1 12 k (by omega) (fun b => (hB2 _ _ b).2.2.1 rfl)
  have e6 : ∀ k, hI H' 6 k = hI H 6 k := fun k => h.2.2.1 6 k (by omega) (fun b => (hB2 _ _ b).1 rfl)
  refine ⟨by rw [hl]; exact r1, by rw [e5, e9]; exact r2, fun q => ?_⟩
  rw [e5, e9] at q
  exact hasB_cong (fun t ht => (hJ.2.2.1 t ht).2) (fol_at e6 ko) (fun j hj => ko j 8 hj) ⟨e9 5, e9 6⟩ e12 (r3 q)
/-- tape, book, and the rest -/
def RTp (H : PH) (N : Nat) : Prop := hI H 14 1 = nI N ∧ hI H 33 40 = nI N ∧ N ≤ 600 ∧ ∀ j, j < N → hI H 15 j &&& 255 = hI H 61 j
theorem RTp_fr {N : Nat} (h : fra B C H H') (h69 : 69 ≤ hN H) (hB : ∀ a k, B a k → ¬ (a = 14 ∧ k = 1) ∧ ¬ (a = 33 ∧ k = 40) ∧ a ≠ 15 ∧ a ≠ 61) (hr : RTp H N) : RTp H' N := by
  have kf : ∀ a k, a ≤ 69 → ¬ (¬ (a = 14 ∧ k = 1) ∧ ¬ (a = 33 ∧ k = 40) ∧ a ≠ 15 ∧ a ≠ 61) → hI H' a k = hI H a k := fun a k ha q => h.2.2.1 a k (by omega) (fun b => q (hB a k b))
  obtain ⟨r1, r2, r3, r4⟩ := hr
  exact ⟨by rw [kf 14 1 (by omega) (by omega)]; exact r1, by rw [kf 33 40 (by omega) (by omega)]; exact r2, r3, fun j hj => by rw [kf 15 j (by omega) (by omega), kf 61 j (by omega) (by omega)]; exact r4 j hj⟩
def RBk (H : PH) (n : Nat) : Prop := hI H 23 5 = nI n ∧ hI H 33 54 = nI n ∧ n ≤ 40 ∧ ∀ i, i < n → (hI H 24 i = hI H 65 i ∧ hI H 25 i = hI H 66 i ∧ hI H 26 i = hI H 67 i ∧ hI H 27 i = hI H 68 i ∧ hI H 28 i = hI H 69 i) ∧ (0 ≤ hI H 66 i ∧ hI H 66 i < hI H 67 i ∧ hI H 67 i ≤ 3000) ∧ 0 ≤ hI H 68 i ∧ (hI H 69 i = -1 ∨ 0 ≤ hI H 69 i)
def OffB (a k : Nat) : Prop := ¬ (a = 23 ∧ k = 5) ∧ ¬ (a = 33 ∧ k = 54) ∧ (a < 24 ∨ 28 < a) ∧ (a < 65 ∨ 69 < a)
theorem RBk_fr {n : Nat} (h : fra B C H H') (h69 : 69 ≤ hN H) (hB : ∀ a k, B a k → OffB a k) (hr : RBk H n) : RBk H' n := by
  have kf : ∀ a k, a ≤ 69 → ¬ (¬ (a = 23 ∧ k = 5) ∧ ¬ (a = 33 ∧ k = 54) ∧ (a < 24 ∨ 28 < a) ∧ (a < 65 ∨ 69 < a)) → hI H' a k = hI H a k := fun a k ha q => h.2.2.1 a k (by omega) (fun b => q (hB a k b))
  obtain ⟨r1, r2, r3, r4⟩ := hr
  refine ⟨by rw [kf 23 5 (by omega) (by omega)]; exact r1, by rw [kf 33 54 (by omega) (by omega)]; exact r2, r3, fun i hi => ?_⟩
  rw [kf 24 i (by omega) (by omega), kf 25 i (by omega) (by omega), kf 26 i (by omega) (by omega), kf 27 i (by omega) (by omega), kf 28 i (by omega) (by omega), kf 65 i (by omega) (by omega), kf 66 i (by omega) (by omega), kf 67 i (by omega) (by omega), kf 68 i (by omega) (by omega), kf 69 i (by omega) (by omega)]
  exact r4 i hi
def RSp (H : PH) : Prop := hI H 2 3 = hI H 33 1 ∧ hI H 2 4 = hI H 33 2 ∧ hI H 13 2 = hI H 33 4
theorem RSp_fr (h : fra B C H H') (h69 : 69 ≤ hN H) (hB : ∀ a k, B a k → ¬ (a = 2 ∧ (k = 3 ∨ k = 4)) ∧ ¬ (a = 13 ∧ k = 2) ∧ ¬ (a = 33 ∧ (k = 1 ∨ k = 2 ∨ k = 4))) (hr : RSp H) : RSp H' := by
  have kf : ∀ a k, a ≤ 69 → ¬ (¬ (a = 2 ∧ (k = 3 ∨ k = 4)) ∧ ¬ (a = 13 ∧ k = 2) ∧ ¬ (a = 33 ∧ (k = 1 ∨ k = 2 ∨ k = 4))) → hI H' a k = hI H a k := fun a k ha q => h.2.2.1 a k (by omega) (fun b => q (hB a k b))
  unfold RSp
  rw [kf 2 3 (by omega) (by omega), kf 2 4 (by omega) (by omega), kf 13 2 (by omega) (by omega), kf 33 1 (by omega) (by omega), kf 33 2 (by omega) (by omega), kf 33 4 (by omega) (by omega)]
  exact hr
def RFt (H : PH) : Prop := hI H 16 11 = hI H 33 41 ∧ hI H 16 12 = hI H 33 42
theorem RFt_fr (h : fra B C H H') (h69 : 69 ≤ hN H) (hB : ∀ a k, B a k → ¬ (a = 16 ∧ (k = 11 ∨ k = 12)) ∧ ¬ (a = 33 ∧ (k = 41 ∨ k = 42))) (hr : RFt H) : RFt H' := by
  have kf : ∀ a k, a ≤ 69 → ¬ (¬ (a = 16 ∧ (k = 11 ∨ k = 12)) ∧ ¬ (a = 33 ∧ (k = 41 ∨ k = 42))) → hI H' a k = hI H a k := fun a k ha q => h.2.2.1 a k (by omega) (fun b => q (hB a k b))
  unfold RFt
  rw [kf 16 11 (by omega) (by omega), kf 16 12 (by omega) (by omega), kf 33 41 (by omega) (by omega), kf 33 42 (by omega) (by omega)]
  exact hr
end FR
