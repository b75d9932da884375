/-! ===== pure: the machine with signs that wait ===== -/
abbrev OL : Type := List (Nat × Nat)
abbrev CF : Type := Nat × List Nat × Nat × Nat × OL
abbrev FT : Type := Nat × Nat
def stp (p : Nat → Bool) : List Nat → OL → List Nat × OL
  | [], o => ([], o)
  | x :: W, o => if p x = true then stp p W (o ++ [(x, 0)]) else (x :: W, o)
def pS (l x : Nat) : Bool := decide (l ≤ x ∧ x ≠ 51)
def pA (x : Nat) : Bool := decide (x ≠ 41 ∧ x ≠ 51)
def p1 (x : Nat) : Bool := decide (x ≠ 41 ∧ x ≠ 42 ∧ x ≠ 51)
/-- nothing on top that p takes -/
def tpN (p : Nat → Bool) (W : List Nat) : Prop := ∀ x, W.head? = some x → p x = false
theorem stp_N {p : Nat → Bool} {W : List Nat} {o : OL} (h : tpN p W) : stp p W o = (W, o) := by
  cases W with
  | nil => rfl
  | cons x W => unfold stp; rw [if_neg (by rw [h x rfl]; decide)]
theorem stp_t {p : Nat → Bool} {x : Nat} {W : List Nat} {o : OL} (h : p x = true) : stp p (x :: W) o = stp p W (o ++ [(x, 0)]) := by
  show (if p x = true then stp p W (o ++ [(x, 0)]) else (x :: W, o)) = _
  rw [if_pos h]
theorem stp_f {p : Nat → Bool} {x : Nat} {W : List Nat} {o : OL} (h : p x = false) : stp p (x :: W) o = (x :: W, o) := stp_N (fun y hy => by cases hy; exact h)
theorem stp_stp {p p' : Nat → Bool} (h : ∀ x, p x = true → p' x = true) : ∀ (W : List Nat) (o : OL), stp p' (stp p W o).1 (stp p W o).2 = stp p' W o
  | [], o => rfl
  | x :: W, o => by
    by_cases q : p x = true
    · rw [stp_t q, stp_stp h W _, stp_t (h x q)]
    · rw [stp_f (by simpa using q)]
theorem stp_up {p p' : Nat → Bool} (h : ∀ x, p x = true → p' x = true) {W W' : List Nat} {o o' : OL} (e : stp p W o = (W', o')) : stp p' W o = stp p' W' o' := by
  have := stp_stp h W o
  rw [e] at this
  exact this.symm
theorem pS_pS {l l' : Nat} (h : l ≤ l') : ∀ x, pS l' x = true → pS l x = true := fun x q => by
  unfold pS at *; rw [decide_eq_true_iff] at *; omega
theorem pS_p1 : ∀ x, pS 46 x = true → p1 x = true := fun x q => by unfold pS p1 at *; rw [decide_eq_true_iff] at *; omega
theorem p1_pA : ∀ x, p1 x = true → pA x = true := fun x q => by unfold p1 pA at *; rw [decide_eq_true_iff] at *; omega
theorem pA_p0 : ∀ x, pA x = true → pS 0 x = true := fun x q => by unfold pS pA at *; rw [decide_eq_true_iff] at *; omega
theorem stp_len (p : Nat → Bool) : ∀ (W : List Nat) (o : OL), (stp p W o).1.length + (stp p W o).2.length = W.length + o.length
  | [], o => rfl
  | x :: W, o => by
    by_cases q : p x = true
    · rw [stp_t q, stp_len p W _]; simp; omega
    · rw [stp_f (by simpa using q)]
def isN (x : Nat) : Bool := decide (x = 51 ∨ x = 40 ∨ x = 50)
def deepW : List Nat → Nat
  | [] => 0
  | x :: W => deepW W + (if isN x = true then 1 else 0)
def opc (t : Nat) : Nat := if t = 43 then 46 else if t = 45 then 47 else if t = 42 then 48 else if t = 47 then 49 else if t = 61 then 43 else if t = 60 then 44 else 45
def cmpT (W : List Nat) : Bool := match W with
  | [] => false
  | x :: _ => decide (43 ≤ x ∧ x ≤ 45)
section PM
variable (tok nxt : Nat → Nat) (itm : Nat → Nat × Nat) (unk : Nat → Bool)
def goN (now : Nat) (W : List Nat) (s v : Nat) (o : OL) : FT ⊕ CF := if tok (nxt s) = 8 then .inl (1, nxt s) else .inr (now, W, nxt s, v, o)
def stO (now : Nat) (W : List Nat) (s v : Nat) (o : OL) : FT ⊕ CF :=
  if 8 ≤ deepW W then .inl (2, s)
  else if tok s = 7 ∨ tok s = 6 then
    (if v = 100 then .inl (2, s) else if tok s = 6 ∧ unk s = true then .inl (3, s) else goN tok nxt 2 (stp (pS 50) W (o ++ [itm s])).1 s (v + 1) (stp (pS 50) W (o ++ [itm s])).2)
  else if tok s = 40 then goN tok nxt 0 (51 :: W) s v o
  else if tok s = 45 then goN tok nxt 1 (50 :: W) s v o
  else if now = 0 ∧ tok s = 5 then goN tok nxt 0 (40 :: W) s v o
  else .inl (2, s)
def isSum (t : Nat) : Bool := decide (t = 43 ∨ t = 45)
def isMul (t : Nat) : Bool := decide (t = 42 ∨ t = 47)
def isCmp (t : Nat) : Bool := decide (t = 60 ∨ t = 61 ∨ t = 62)
def stB (W : List Nat) (s v : Nat) (o : OL) : FT ⊕ CF :=
  if isSum (tok s) = true then goN tok nxt 1 (opc (tok s) :: (stp (pS 46) W o).1) s v (stp (pS 46) W o).2
  else if isMul (tok s) = true then goN tok nxt 1 (opc (tok s) :: (stp (pS 48) W o).1) s v (stp (pS 48) W o).2
  else if isCmp (tok s) = true then (if cmpT (stp (pS 46) W o).1 = true then .inl (2, s) else goN tok nxt 1 (opc (tok s) :: (stp (pS 46) W o).1) s v (stp (pS 46) W o).2)
  else if tok s = 4 then goN tok nxt 0 (42 :: (stp pA W o).1) s v (stp pA W o).2
  else if tok s = 3 then goN tok nxt 0 (41 :: (stp (pS 0) W o).1) s v (stp (pS 0) W o).2
  else if tok s = 41 ∧ 51 ∈ W then goN tok nxt 2 (stp (pS 50) (stp (pS 0) W o).1.tail (stp (pS 0) W o).2).1 s v (stp (pS 50) (stp (pS 0) W o).1.tail (stp (pS 0) W o).2).2
  else .inl (2, s)
def st1 (c : CF) : FT ⊕ CF := if c.1 = 2 then stB tok nxt c.2.1 c.2.2.1 c.2.2.2.1 c.2.2.2.2 else stO tok nxt itm unk c.1 c.2.1 c.2.2.1 c.2.2.2.1 c.2.2.2.2
/-- the end of an e: tm is the token that must stand behind it -/
def trm (tm : Nat) (c : CF) : Prop := c.1 = 2 ∧ ¬ 51 ∈ c.2.1 ∧ tok c.2.2.1 = tm
def Rch (tm : Nat) : Nat → CF → FT ⊕ CF → Prop
  | 0, c, r => r = .inr c
  | n + 1, c, r => ¬ trm tok tm c ∧ ((∃ f, st1 tok nxt itm unk c = .inl f ∧ r = .inl f) ∨ ∃ c', st1 tok nxt itm unk c = .inr c' ∧ Rch tm n c' r)
def RchE (tm : Nat) (c : CF) (r : FT ⊕ CF) : Prop := ∃ n, Rch tok nxt itm unk tm n c r
variable {tok nxt itm unk}
theorem RchE_rfl {tm : Nat} {c : CF} : RchE tok nxt itm unk tm c (.inr c) := ⟨0, rfl⟩
theorem RchE_trans {tm : Nat} {c c' : CF} {r : FT ⊕ CF} (h : RchE tok nxt itm unk tm c (.inr c')) (h' : RchE tok nxt itm unk tm c' r) : RchE tok nxt itm unk tm c r := by
  obtain ⟨n, hn⟩ := h
  induction n generalizing c with
  | zero => cases hn; exact h'
  | succ n ih =>
    obtain ⟨h1, h2⟩ := hn
    rcases h2 with ⟨f, -, h3⟩ | ⟨c1, h3, h4⟩
    · cases h3
    · obtain ⟨k, hk⟩ := ih h4
      exact ⟨k + 1, h1, Or.inr ⟨c1, h3, hk⟩⟩
theorem RchE_one {tm : Nat} {c c' : CF} (ht : ¬ trm tok tm c) (h : st1 tok nxt itm unk c = .inr c') : RchE tok nxt itm unk tm c (.inr c') := ⟨1, ht, Or.inr ⟨c', h, rfl⟩⟩
theorem RchE_bad {tm : Nat} {c : CF} {f : FT} (ht : ¬ trm tok tm c) (h : st1 tok nxt itm unk c = .inl f) : RchE tok nxt itm unk tm c (.inl f) := ⟨1, ht, Or.inl ⟨f, h, rfl⟩⟩
theorem nt_O {tm u : Nat} {W : List Nat} {s v : Nat} {o : OL} (hu : u ≠ 2) : ¬ trm tok tm (u, W, s, v, o) := fun h => hu h.1
theorem nt_tok {tm u : Nat} {W : List Nat} {s v : Nat} {o : OL} (h : tok s ≠ tm) : ¬ trm tok tm (u, W, s, v, o) := fun q => h q.2.2
theorem nt_open {tm u : Nat} {W : List Nat} {s v : Nat} {o : OL} (h : 51 ∈ W) : ¬ trm tok tm (u, W, s, v, o) := fun q => q.2.1 h
theorem st1_O {u : Nat} {W : List Nat} {s v : Nat} {o : OL} (hu : u ≠ 2) : st1 tok nxt itm unk (u, W, s, v, o) = stO tok nxt itm unk u W s v o := if_neg hu
theorem st1_B {W : List Nat} {s v : Nat} {o : OL} : st1 tok nxt itm unk (2, W, s, v, o) = stB tok nxt W s v o := if_pos rfl
end PM
theorem mem_stp {p : Nat → Bool} (hp : p 51 = false) : ∀ {W : List Nat} {o : OL}, 51 ∈ (stp p W o).1 ↔ 51 ∈ W
  | [], o => Iff.rfl
  | x :: W, o => by
    by_cases q : p x = true
    · rw [stp_t q, mem_stp hp]
      constructor
      · intro h; exact List.mem_cons_of_mem _ h
      · intro h
        rcases List.mem_cons.mp h with z | z
        · rw [← z, hp] at q; cases q
        · exact z
    · rw [stp_f (by simpa using q)]
/-- the items, as the class writes them -/
def encC (x : Nat × Nat) : Int32 := if x.1 = 0 then nI x.2 else if x.1 < 40 then -(nI (x.1 - 19)) else if x.1 = 40 then -9 else if x.1 = 41 then -7 else if x.1 = 42 then -8 else if x.1 = 43 then -61 else if x.1 = 44 then -60 else if x.1 = 45 then -62 else if x.1 = 46 then -43 else if x.1 = 47 then -45 else if x.1 = 48 then -42 else if x.1 = 49 then -47 else -10
theorem encC_op {t : Nat} (h : isSum t = true ∨ isMul t = true ∨ isCmp t = true) : encC (opc t, 0) = -(nI t) := by
  unfold isSum isMul isCmp at h
  simp only [decide_eq_true_eq] at h
  rcases h with (h | h) | (h | h) | (h | h | h) <;> subst h <;> rfl
/-! tokens of a tape -/
def nmI (x : Int64) : Nat := if x = 1802071652 then 0 else if x = 7823737 then 1 else if x = 2002872692 then 2 else if x = 422608071022 then 3 else if x = 114827870823795 then 4 else if x = 1818326117 then 5 else 6
theorem ncd_nm (x : Int64) : ncd x = (if nmI x < 6 then -(nI (nmI x + 1)) else -1000) := by
  unfold ncd nmI
  repeat (split; · rfl)
  rfl
theorem nm_le (x : Int64) : nmI x ≤ 6 := by
  unfold nmI
  repeat (split; · decide)
  decide
section TB
variable (bf : Nat → Int32) (N : Nat)
def nxtT (s : Nat) : Nat := sk bf N (nxA bf N s)
def unkT (s : Nat) : Bool := decide (nmI (wvI bf s (le bf N s - s)) = 6)
def itmT (s : Nat) : Nat × Nat := if srt bf N s = 2 then (0, (nvI bf s (de bf N s - s)).toNatClampNeg) else (20 + nmI (wvI bf s (le bf N s - s)), 0)
variable {bf N}
theorem runP_all (P : Int32 → Bool) : ∀ f p i, p ≤ i → i < runP bf P f p → P (bf i) = true
  | 0, p, i, h1, h2 => by unfold runP at h2; omega
  | f + 1, p, i, h1, h2 => by
    unfold runP at h2
    by_cases q : P (bf p) = true
    · rw [if_pos q] at h2
      by_cases e : i = p
      · rw [e]; exact q
      · exact runP_all P f (p + 1) i (by omega) h2
    · rw [if_neg q] at h2; omega
theorem nv_nat (hB : BF bf N) {s : Nat} : ∀ k, s + k ≤ N → k ≤ 6 → (∀ i, i < k → dgB (bf (s + i)) = true) → ∃ x, nvI bf s k = nI x ∧ x + 1 ≤ 10 ^ k
  | 0, _, _, _ => ⟨0, rfl, Nat.le_refl _⟩
  | k + 1, h1, h2, h3 => by
    obtain ⟨x, x1, x2⟩ := nv_nat hB k (by omega) (by omega) (fun i hi => h3 i (by omega))
    obtain ⟨b, b1, b2⟩ := hB.2.1 (s + k) (by omega)
    have hd := h3 k (by omega)
    unfold dgB at hd
    rw [decide_eq_true_iff, b2] at hd
    have d1 := (nI_leI (a := 48) (b := b) (by omega) (by omega)).mp hd.1
    have d2 := (nI_leI (a := b) (b := 57) (by omega) (by omega)).mp hd.2
    refine ⟨10 * x + b - 48, ?_, ?_⟩
    · show 10 * nvI bf s k + bf (s + k) - 48 = _
      rw [x1, b2, show (10 : Int32) = nI 10 from rfl, pk_mul, nI_add, show (48 : Int32) = nI 48 from rfl, pk_sub (by omega)]
    · rw [Nat.pow_succ]; omega
theorem tk_srt (hB : BF bf N) {s : Nat} : (tkA bf N s = 7 ↔ srt bf N s = 2) ∧ (tkA bf N s = 8 ↔ srt bf N s = 3) ∧ (tkA bf N s = 0 ↔ srt bf N s = 0) ∧ (srt bf N s = 1 → tkA bf N s = wtk (wvI bf s (le bf N s - s))) ∧ (1 ≤ tkA bf N s ∧ tkA bf N s ≤ 6 ↔ srt bf N s = 1) ∧ ((40 ≤ tkA bf N s ∨ 40 ≤ srt bf N s) → tkA bf N s = srt bf N s ∧ 40 ≤ srt bf N s) ∧ (srt bf N s ≤ 3 ∨ 40 ≤ srt bf N s) := by
  have hw := wtk_in (wvI bf s (le bf N s - s))
  rcases Nat.lt_or_ge s N with h | h
  · by_cases hl : ltB (bf s) = true
    · by_cases q : le bf N s - s ≤ 8
      · obtain ⟨a, b, -⟩ := (tk_word hB h hl).1 q
        rw [a, b]
        refine ⟨by omega, by omega, by omega, fun _ => rfl, by omega, by omega, by omega⟩
      · obtain ⟨a, b⟩ := (tk_word hB h hl).2 q
        rw [a, b]
        refine ⟨by omega, by omega, by omega, by omega, by omega, by omega, by omega⟩
    · by_cases hd : dgB (bf s) = true
      · by_cases q : de bf N s - s ≤ 6 ∧ ltB (bf (de bf N s)) = false
        · obtain ⟨a, b, -⟩ := (tk_num hB h hl hd).1 q
          rw [a, b]
          refine ⟨by omega, by omega, by omega, by omega, by omega, by omega, by omega⟩
        · obtain ⟨a, b⟩ := (tk_num hB h hl hd).2 q
          rw [a, b]
          refine ⟨by omega, by omega, by omega, by omega, by omega, by omega, by omega⟩
      · by_cases q : sgB (bf s) = true
        · obtain ⟨-, a, a', b, -⟩ := (tk_sign hB h hl hd).1 q
          rw [b]
          refine ⟨by omega, by omega, by omega, by omega, by omega, by omega, by omega⟩
        · obtain ⟨a, b⟩ := (tk_sign hB h hl hd).2 q
          rw [a, b]
          refine ⟨by omega, by omega, by omega, by omega, by omega, by omega, by omega⟩
  · obtain ⟨a, b, -⟩ := tk_end hB h
    rw [a, b]
    refine ⟨by omega, by omega, by omega, by omega, by omega, by omega, by omega⟩
theorem num_cd (hB : BF bf N) {s : Nat} (h : tkA bf N s = 7) : nvI bf s (de bf N s - s) = nI (itmT bf N s).2 ∧ (itmT bf N s).1 = 0 ∧ (itmT bf N s).2 < 1000000 ∧ cdA bf N s = encC (itmT bf N s) := by
  have h2 := (tk_srt hB).1.mp h
  have hlt : s < N := by
    rcases Nat.lt_or_ge s N with z | z
    · exact z
    · have := (tk_end hB z).1; omega
  have hl : ¬ ltB (bf s) = true := fun q => by
    by_cases r : le bf N s - s ≤ 8
    · have := ((tk_word hB hlt q).1 r).1; omega
    · have := ((tk_word hB hlt q).2 r).1; omega
  have hd : dgB (bf s) = true := by
    cases q : dgB (bf s) with
    | true => rfl
    | false =>
      by_cases r : sgB (bf s) = true
      · have := ((tk_sign hB hlt hl (by rw [q]; decide)).1 r).2.1; omega
      · have := ((tk_sign hB hlt hl (by rw [q]; decide)).2 r).1; omega
  have hq : de bf N s - s ≤ 6 ∧ ltB (bf (de bf N s)) = false := by
    apply Classical.byContradiction
    intro q
    have := ((tk_num hB hlt hl hd).2 q).1
    omega
  have hge := runP_ge bf dgB (N - s) s
  have hcd := ((tk_num hB hlt hl hd).1 hq).2.2.2
  obtain ⟨x, x1, x2⟩ := nv_nat hB (s := s) (de bf N s - s) (by unfold de; omega) hq.1 (fun i hi => runP_all dgB (N - s) s (s + i) (by omega) (by unfold de at hi; omega))
  have hx : x < 1000000 := by
    have : (10 : Nat) ^ (de bf N s - s) ≤ 10 ^ 6 := Nat.pow_le_pow_right (by decide) hq.1
    omega
  have e : itmT bf N s = (0, x) := by unfold itmT; rw [if_pos h2, x1, nI_clamp (by omega)]
  rw [e]
  exact ⟨x1, rfl, hx, by rw [hcd, x1]; rfl⟩
theorem name_cd (hB : BF bf N) {s : Nat} (h : tkA bf N s = 6) : (cdA bf N s = -1000 ↔ unkT bf N s = true) ∧ (unkT bf N s = false → cdA bf N s = encC (itmT bf N s) ∧ 20 ≤ (itmT bf N s).1 ∧ (itmT bf N s).1 < 26 ∧ (itmT bf N s).2 = 0) := by
  have h1 : srt bf N s = 1 := (tk_srt hB).2.2.2.2.1.mp (by omega)
  have hc : cdA bf N s = ncd (wvI bf s (le bf N s - s)) := by unfold cdA; rw [if_pos h1]
  have he : itmT bf N s = (20 + nmI (wvI bf s (le bf N s - s)), 0) := by unfold itmT; rw [if_neg (by omega)]
  have hle := nm_le (wvI bf s (le bf N s - s))
  rw [hc, ncd_nm, he]
  unfold unkT
  generalize nmI (wvI bf s (le bf N s - s)) = k at *
  refine ⟨?_, fun q => ?_⟩
  · have : k = 0 ∨ k = 1 ∨ k = 2 ∨ k = 3 ∨ k = 4 ∨ k = 5 ∨ k = 6 := by omega
    rcases this with r | r | r | r | r | r | r <;> subst r <;> decide
  · have hk : k < 6 := by
      have : k ≠ 6 := of_decide_eq_false q
      omega
    rw [if_pos hk]
    refine ⟨?_, by show 20 ≤ 20 + k; omega, by show 20 + k < 26; omega, rfl⟩
    unfold encC
    have : k = 0 ∨ k = 1 ∨ k = 2 ∨ k = 3 ∨ k = 4 ∨ k = 5 := by omega
    rcases this with r | r | r | r | r | r <;> subst r <;> rfl
theorem nxt_gt (hB : BF bf N) {s : Nat} (hs : s ≤ N) (h0 : tkA bf N s ≠ 0) (h8 : tkA bf N s ≠ 8) : s < N ∧ s + 1 ≤ nxtT bf N s ∧ nxtT bf N s ≤ N ∧ nxA bf N s ≤ N := by
  have hlt : s < N := by
    rcases Nat.lt_or_ge s N with z | z
    · exact z
    · exact absurd (tk_end hB z).2.1 h0
  have hfin : s + 1 ≤ nxA bf N s ∧ nxA bf N s ≤ N := by
    have run1 : ∀ P : Int32 → Bool, P (bf s) = true → s + 1 ≤ runP bf P (N - s) s ∧ runP bf P (N - s) s ≤ N := fun P hP => by
      obtain ⟨f, hf⟩ : ∃ f, N - s = f + 1 := ⟨N - s - 1, by omega⟩
      rw [hf]
      unfold runP
      rw [if_pos hP]
      have := runP_ge bf P f (s + 1)
      omega
    by_cases hl : ltB (bf s) = true
    · by_cases q : le bf N s - s ≤ 8
      · rw [((tk_word hB hlt hl).1 q).2.2.1]; exact run1 _ hl
      · exact absurd ((tk_word hB hlt hl).2 q).2 h8
    · by_cases hd : dgB (bf s) = true
      · by_cases q : de bf N s - s ≤ 6 ∧ ltB (bf (de bf N s)) = false
        · rw [((tk_num hB hlt hl hd).1 q).2.2.1]; exact run1 _ hd
        · exact absurd ((tk_num hB hlt hl hd).2 q).2 h8
      · by_cases q : sgB (bf s) = true
        · rw [((tk_sign hB hlt hl hd).1 q).2.2.2.2]; omega
        · exact absurd ((tk_sign hB hlt hl hd).2 q).2 h8
  have := sk_bd (bf := bf) hfin.2
  unfold nxtT
  omega
end TB
