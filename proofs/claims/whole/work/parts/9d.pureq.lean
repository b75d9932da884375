/-! ===== pure: class and reference say the same ===== -/
theorem bit_sh (b : BitVec 32) (n : Nat) (hn : n ≤ 24) : (b >>> n) &&& 1#32 = (b.sshiftRight n) &&& 1#32 := by
  have h := byte_sh b n hn
  have e : ∀ c : BitVec 32, c &&& 1#32 = (c &&& 255#32) &&& 1#32 := fun c => by rw [BitVec.and_assoc]; rfl
  rw [e, h, ← e]
theorem bit_eq (x : Int32) : ∀ i, i < 16 → ush x (nI i) &&& 1 = x >>> (nI i &&& 31) &&& 1
  | 0, _ => Int32.toBitVec_inj.mp (bit_sh x.toBitVec 0 (by decide))
  | 1, _ => Int32.toBitVec_inj.mp (bit_sh x.toBitVec 1 (by decide))
  | 2, _ => Int32.toBitVec_inj.mp (bit_sh x.toBitVec 2 (by decide))
  | 3, _ => Int32.toBitVec_inj.mp (bit_sh x.toBitVec 3 (by decide))
  | 4, _ => Int32.toBitVec_inj.mp (bit_sh x.toBitVec 4 (by decide))
  | 5, _ => Int32.toBitVec_inj.mp (bit_sh x.toBitVec 5 (by decide))
  | 6, _ => Int32.toBitVec_inj.mp (bit_sh x.toBitVec 6 (by decide))
  | 7, _ => Int32.toBitVec_inj.mp (bit_sh x.toBitVec 7 (by decide))
  | 8, _ => Int32.toBitVec_inj.mp (bit_sh x.toBitVec 8 (by decide))
  | 9, _ => Int32.toBitVec_inj.mp (bit_sh x.toBitVec 9 (by decide))
  | 10, _ => Int32.toBitVec_inj.mp (bit_sh x.toBitVec 10 (by decide))
  | 11, _ => Int32.toBitVec_inj.mp (bit_sh x.toBitVec 11 (by decide))
  | 12, _ => Int32.toBitVec_inj.mp (bit_sh x.toBitVec 12 (by decide))
  | 13, _ => Int32.toBitVec_inj.mp (bit_sh x.toBitVec 13 (by decide))
  | 14, _ => Int32.toBitVec_inj.mp (bit_sh x.toBitVec 14 (by decide))
  | 15, _ => Int32.toBitVec_inj.mp (bit_sh x.toBitVec 15 (by decide))
  | n + 16, h => absurd h (by omega)
theorem and1 (y : Int32) : y &&& 1 = 0 ∨ y &&& 1 = 1 := by
  cases h : y.toBitVec.getLsbD 0 with
  | false =>
    refine Or.inl (Int32.toBitVec_inj.mp ?_)
    show y.toBitVec &&& 1#32 = 0#32
    apply BitVec.eq_of_getLsbD_eq
    intro i hi
    rw [BitVec.getLsbD_and, BitVec.getLsbD_one, BitVec.getLsbD_zero]
    by_cases q : i = 0
    · subst q; rw [h]; rfl
    · simp [q]
  | true =>
    refine Or.inr (Int32.toBitVec_inj.mp ?_)
    show y.toBitVec &&& 1#32 = 1#32
    apply BitVec.eq_of_getLsbD_eq
    intro i hi
    rw [BitVec.getLsbD_and, BitVec.getLsbD_one]
    by_cases q : i = 0
    · subst q; rw [h]; rfl
    · simp [q]
theorem hb_mb (x : Int32) {i : Nat} (hi : i < 16) : hb x i ↔ mb x i := by
  have e := bit_eq x i hi
  unfold ush at e
  unfold hb mb
  rw [e]
  rcases and1 (x >>> (nI i &&& 31)) with h | h <;> rw [h] <;> decide
theorem mb_ne (x : Int32) (i : Nat) : (¬ (x >>> (nI i &&& 31) &&& 1) = 0) ↔ mb x i := by
  unfold mb
  rcases and1 (x >>> (nI i &&& 31)) with h | h <;> rw [h] <;> decide
theorem asN (x : Int32) : ∃ k, k < 2 ^ 32 ∧ x = nI k := ⟨x.toBitVec.toNat, x.toBitVec.isLt, Int32.toBitVec_inj.mp (by show x.toBitVec = BitVec.ofNat 32 x.toBitVec.toNat; rw [BitVec.ofNat_toNat]; simp)⟩
theorem nI_z {y : Nat} (h : y < 2 ^ 32) (e : nI y = 0) : y = 0 := by
  have h1 := congrArg (fun z : Int32 => z.toBitVec.toNat) e
  have h2 : (BitVec.ofNat 32 y).toNat = 0 := h1
  rw [BitVec.toNat_ofNat] at h2
  omega
theorem set_of {n : Nat} (h16 : n ≤ 16) {x : Int32} : isSetP n x ↔ ∃ k, k < 2 ^ n ∧ x = nI k := by
  have hp : 2 ^ n ≤ 65536 := Nat.pow_le_pow_right (n := 2) (by decide) h16
  unfold isSetP
  rw [sh1 (by omega)]
  constructor
  · intro h
    exact in_of (by omega) h
  · rintro ⟨k, hk, rfl⟩
    exact ⟨nI_pos' (by omega), nI_lt hk (by omega)⟩
theorem hall_set {n : Nat} (h16 : n ≤ 16) {x : Int32} : hall x n ↔ isSetP n x := by
  have hp : 2 ^ n ≤ 65536 := Nat.pow_le_pow_right (n := 2) (by decide) h16
  have hp0 : 0 < 2 ^ n := Nat.pow_pos (by decide)
  rw [set_of h16]
  obtain ⟨k, hk, rfl⟩ := asN x
  have e := ush_nI (x := k) (k := n) hk (by omega)
  unfold ush at e
  unfold hall
  rw [e]
  constructor
  · intro h
    have h0 := nI_z (Nat.lt_of_le_of_lt (Nat.div_le_self _ _) hk) h
    exact ⟨k, by rcases Nat.div_eq_zero_iff.mp h0 with q | q <;> omega, rfl⟩
  · rintro ⟨j, hj, ej⟩
    have h2 := congrArg (fun z : Int32 => z.toBitVec.toNat) ej
    have h3 : (BitVec.ofNat 32 k).toNat = (BitVec.ofNat 32 j).toNat := h2
    rw [BitVec.toNat_ofNat, BitVec.toNat_ofNat, Nat.mod_eq_of_lt hk, Nat.mod_eq_of_lt (by omega)] at h3
    rw [h3, Nat.div_eq_of_lt hj]
    rfl
theorem bc_mny {k : Nat} (hk : k < 65536) : bcI (nI k) = mny (nI k) 16 := by
  rw [bc_pop hk, mny_nI hk 16 (by omega), pop_n (n := 16) (by omega) (fun i hi => Nat.testBit_lt_two_pow (Nat.lt_of_lt_of_le hk (Nat.pow_le_pow_right (n := 2) (by decide) hi))), ct_sm]
theorem bc_set {n : Nat} (h16 : n ≤ 16) {x : Int32} (h : isSetP n x) : bcI x = mny x 16 := by
  obtain ⟨k, hk, rfl⟩ := (set_of h16).mp h
  exact bc_mny (Nat.lt_of_lt_of_le hk (Nat.pow_le_pow_right (n := 2) (by decide) h16))
theorem le_i {a b : Int32} : a ≤ b ↔ a.toInt ≤ b.toInt := Int32.le_iff_toInt_le
theorem lt_i {a b : Int32} : a < b ↔ a.toInt < b.toInt := Int32.lt_iff_toInt_lt
theorem absI_far {a b : Int32} (ha : 0 ≤ a ∧ a ≤ 200) (hb : 0 ≤ b ∧ b ≤ 200) : absI (a - b) = farI a b := by
  have a1 := le_i.mp ha.1
  have a2 := le_i.mp ha.2
  have b1 := le_i.mp hb.1
  have b2 := le_i.mp hb.2
  rw [show (0 : Int32).toInt = 0 from rfl] at a1 b1
  rw [show (200 : Int32).toInt = 200 from rfl] at a2 b2
  have e1 : (a - b).toInt = a.toInt - b.toInt := fb_subI (by omega) (by omega)
  have e2 : (b - a).toInt = b.toInt - a.toInt := fb_subI (by omega) (by omega)
  unfold absI farI
  by_cases q : b ≤ a
  · have q2 := le_i.mp q
    rw [if_pos q, if_pos (le_i.mpr (by rw [e1, show (0 : Int32).toInt = 0 from rfl]; omega))]
  · have q2 : ¬ b.toInt ≤ a.toInt := fun r => q (le_i.mpr r)
    rw [if_neg q, if_neg (fun r => by have := le_i.mp r; rw [e1, show (0 : Int32).toInt = 0 from rfl] at this; omega)]
    apply Int32.toInt_inj.mp
    rw [fb_negI (by rw [e1]; omega), e1, e2]
    omega
section PQ
variable {H : PH} {n m : Nat} {ho jo fr tt ord pos : Nat → Nat} {w : Nat → Nat → Nat} {car : Nat}
theorem le_tr {a b c : Int32} (h1 : a ≤ b) (h2 : b ≤ c) : a ≤ c := Int32.le_trans h1 h2
theorem ho_rg (hr : RHo H n ho) {e : Nat} (he : e < n) : (0 ≤ hI H (ho e) 1 ∧ hI H (ho e) 1 ≤ 200) ∧ (0 ≤ hI H (ho e) 2 ∧ hI H (ho e) 2 ≤ 200) := by
  obtain ⟨-, -, -, r3, r4, -⟩ := hr
  rw [(r3 e he).2.1, (r3 e he).2.2.1]
  have := r4 e he
  exact ⟨⟨le_tr (by decide) this.1.1, this.1.2⟩, ⟨le_tr (by decide) this.2.1.1, le_tr this.2.1.2 (by decide)⟩⟩
theorem alk_mal (hr : RHo H n ho) (hs : RSp H) {e f : Nat} (he : e < n) (hf : f < n) : alk H ho e f ↔ mal H e f := by
  have ge := ho_rg hr he
  have gf := ho_rg hr hf
  unfold alk mal
  rw [absI_far ge.1 gf.1, absI_far ge.2 gf.2]
  obtain ⟨-, -, -, r3, -, -⟩ := hr
  rw [(r3 e he).1, (r3 e he).2.1, (r3 e he).2.2.1, (r3 f hf).1, (r3 f hf).2.1, (r3 f hf).2.2.1, hs.1, hs.2.1]
theorem all_md (hr : RHo H n ho) (hs : RSp H) (z : Int32) : allA H ho n z ↔ mdAll H n n z := by
  have h16 := hr.1.2.1
  constructor
  · intro h e he f hf hef h1 h2
    exact (alk_mal hr hs he hf).mp (h e he f hf hef ((hb_mb z (by omega)).mpr h1) ((hb_mb z (by omega)).mpr h2))
  · intro h e he f hf hef h1 h2
    exact (alk_mal hr hs he hf).mpr (h e he f hf hef ((hb_mb z (by omega)).mp h1) ((hb_mb z (by omega)).mp h2))
theorem match_eq (hr : RHo H n ho) (hs : RSp H) (x : Int32) : (2 ≤ bcI x ∧ hall x n ∧ allA H ho n x) ↔ (isSetP n x ∧ 1 < mny x 16 ∧ mdAll H n n x) := by
  have h16 := hr.1.2.1
  rw [all_md hr hs, hall_set h16]
  have e : isSetP n x → (2 ≤ bcI x ↔ 1 < mny x 16) := fun h => by
    rw [bc_set h16 h]
    rw [le_i, lt_i, show (2 : Int32).toInt = 2 from rfl, show (1 : Int32).toInt = 1 from rfl]
    omega
  constructor
  · rintro ⟨h1, h2, h3⟩
    exact ⟨h2, (e h2).mp h1, h3⟩
  · rintro ⟨h1, h2, h3⟩
    exact ⟨(e h1).mpr h2, h1, h3⟩
theorem al_mal (hr : RHo H n ho) (hs : RSp H) : ∀ f, f < n → ∀ e, e < f → (mal H e f ↔ alB H ho e f = true) := by
  intro f hf e he
  unfold alB
  rw [decide_eq_true_iff]
  exact (alk_mal hr hs (by omega) hf).symm
theorem wy_mwy (hw : RWy H w car) {a b : Nat} (ha : a < 8) (hb : b < 8) : wy H a b = mwy H a b := by rw [(hw.1 a b ha hb).1, (hw.2.1 a b ha hb).1]
theorem end_eq (hw : RWy H w car) (hj : RJb H m jo fr tt ord pos) {i : Nat} (hi : i < m) : cEnd H jo fr tt i = mEnd H fr tt i := by
  unfold cEnd mEnd
  rw [wy_mwy hw (hj.1.2.2.2.2.2.2.1 i hi).2 (hj.1.2.2.2.2.2.2.2 i hi).2, (hj.2.2.2.2.2.1 i hi).2.1, (hj.2.2.2.2.2.1 i hi).2.2.1]
theorem fol_eq (hw : RWy H w car) (hj : RJb H m jo fr tt ord pos) {i j : Nat} (hi : i < m) (hjm : j < m) : cFol H jo fr tt i j ↔ mFol H fr tt i j := by
  unfold cFol mFol
  rw [end_eq hw hj hi, wy_mwy hw (hj.1.2.2.2.2.2.2.2 i hi).2 (hj.1.2.2.2.2.2.2.1 j hjm).2, (hj.2.2.2.2.2.1 j hjm).2.1]
theorem cost_eq (hw : RWy H w car) (hj : RJb H m jo fr tt ord pos) {i : Nat} (hi : i < m) : cCost H jo fr tt i = mCost H fr tt i := by
  unfold cCost mCost
  rw [wy_mwy hw (hj.1.2.2.2.2.2.2.1 i hi).2 (hj.1.2.2.2.2.2.2.2 i hi).2, (hj.2.2.2.2.2.1 i hi).1, (hj.2.2.2.2.2.1 i hi).2.2.1]
theorem N_of {x : Int32} {M : Nat} (hM : M < 2 ^ 31) (h : 0 ≤ x ∧ x ≤ nI M) : ∃ j, j ≤ M ∧ x = nI j := by
  obtain ⟨j, hj, rfl⟩ := nI_of (Int32.not_lt.mpr h.1)
  exact ⟨j, (nI_leI hj hM).mp h.2, rfl⟩
theorem end_nI (hw : RWy H w car) (hj : RJb H m jo fr tt ord pos) {i : Nat} (hi : i < m) : ∃ e, e ≤ 2000 ∧ mEnd H fr tt i = nI e := by
  obtain ⟨b, hb, eb⟩ := N_of (M := 1400) (by decide) (hj.2.2.2.2.2.2.1 i hi).1
  obtain ⟨q, hq, eq⟩ := N_of (M := 300) (by decide) (hj.2.2.2.2.2.2.1 i hi).2
  have hw2 := hw.2.1 (fr i) (tt i) (hj.1.2.2.2.2.2.2.1 i hi).2 (hj.1.2.2.2.2.2.2.2 i hi).2
  refine ⟨b + w (fr i) (tt i) + q, by omega, ?_⟩
  unfold mEnd
  rw [eb, eq, hw2.1, nI_add, nI_add]
theorem cost_nI (hw : RWy H w car) (hj : RJb H m jo fr tt ord pos) {i : Nat} (hi : i < m) : ∃ e, e ≤ 1050 ∧ mCost H fr tt i = nI e := by
  obtain ⟨q, hq, eq⟩ := N_of (M := 300) (by decide) (hj.2.2.2.2.2.2.1 i hi).2
  have hw2 := hw.2.1 (fr i) (tt i) (hj.1.2.2.2.2.2.2.1 i hi).2 (hj.1.2.2.2.2.2.2.2 i hi).2
  unfold mCost
  rw [eq, hw2.1, show nI q / 2 = nI (q / 2) from pk_div (by omega) (by decide) (by decide)]
  by_cases k : hI H 40 i = 2
  · rw [if_pos k, show (3 : Int32) * nI (w (fr i) (tt i)) = nI (3 * w (fr i) (tt i)) from pk_mul 3 _, nI_add]
    exact ⟨_, by omega, rfl⟩
  · rw [if_neg k, show (2 : Int32) * nI (w (fr i) (tt i)) = nI (2 * w (fr i) (tt i)) from pk_mul 2 _, nI_add]
    exact ⟨_, by omega, rfl⟩
theorem rst1 (v r : Int32) : minI (v + maxI r 0) 1000 = cutR (addR v r) := by
  have e : v + maxI r 0 = addR v r := by
    unfold maxI addR
    by_cases h : r < 0
    · rw [if_pos h, if_pos (Int32.le_of_lt h), Int32.add_zero]
    · rw [if_neg h]
      by_cases q : r ≤ 0
      · rw [if_pos q, show r = 0 from Int32.le_antisymm q (Int32.not_lt.mp h), Int32.add_zero]
      · rw [if_neg q]
  rw [e]
  unfold minI cutR
  by_cases h : (1000 : Int32) < addR v r
  · rw [if_pos h, if_neg (Int32.not_le.mpr h)]
  · rw [if_neg h, if_pos (Int32.not_lt.mp h)]
theorem rst_nI {x b e : Nat} (hx : x ≤ 1000) (hb : b ≤ 1400) (he : e ≤ 2000) : ∃ y, y ≤ 1000 ∧ cutR (addR (nI x) (nI b - nI e)) = nI y := by
  have key : ∃ y, y ≤ 2400 ∧ addR (nI x) (nI b - nI e) = nI y := by
    unfold addR
    rcases Nat.lt_or_ge b e with q | q
    · rw [if_pos (Int32.le_of_lt (pk_sneg (by omega) q))]
      exact ⟨x, by omega, rfl⟩
    · rw [pk_sub q]
      by_cases h : nI (b - e) ≤ 0
      · rw [if_pos h]
        exact ⟨x, by omega, rfl⟩
      · rw [if_neg h, nI_add]
        exact ⟨_, by omega, rfl⟩
  obtain ⟨y, hy, ey⟩ := key
  rw [ey]
  unfold cutR
  by_cases h : nI y ≤ 1000
  · rw [if_pos h]
    exact ⟨y, (nI_leI (a := y) (b := 1000) (by omega) (by decide)).mp h, rfl⟩
  · rw [if_neg h]
    exact ⟨1000, by decide, rfl⟩
theorem sub_nI {x c : Nat} (hx : x ≤ 1000) (hc : c ≤ 1050) : maxI (nI x - nI c) 0 = (if nI c ≤ nI x then nI x - nI c else 0) ∧ ∃ y, y ≤ 1000 ∧ (if nI c ≤ nI x then nI x - nI c else 0) = nI y := by
  unfold maxI
  rcases Nat.lt_or_ge x c with q | q
  · rw [if_pos (pk_sneg (by omega) q), if_neg (nI_ge q (by omega))]
    exact ⟨rfl, 0, by decide, rfl⟩
  · rw [if_pos (nI_le q (by omega)), pk_sub q, if_neg (nI_pos (by omega))]
    exact ⟨rfl, _, by omega, rfl⟩
theorem str_go (hw : RWy H w car) (hj : RJb H m jo fr tt ord pos) {i hh : Nat} (hh16 : hh < 16) : ∀ (f t x : Nat) (ah : Option Nat), t + f ≤ m → x ≤ 1000 → (∀ p, ah = some p → p < m) → strF H jo fr tt ord i hh f t (nI x) ah = mstrF H fr tt ord i hh f t (nI x) ah
  | 0, t, x, ah, _, _, _ => rfl
  | f + 1, t, x, ah, ht, hx, hp => by
    have hot := (hj.2.2.1 t (by omega)).2
    have g := hj.2.2.2.2.2.1 (ord t) hot
    have sk : skp H jo ord i hh t ↔ ¬ mIn H i hh (ord t) := by
      unfold skp mIn
      rw [g.2.2.2.2.1, g.2.2.2.2.2, hb_mb _ hh16]
      constructor
      · rintro (q | ⟨q1, q2⟩) ⟨r1, r2⟩
        · exact q r1
        · rcases r2 with r2 | r2
          · exact q1 r2
          · exact q2 r2
      · intro q
        by_cases r1 : hI H 47 (ord t) = 0
        · exact Or.inr ⟨fun r2 => q ⟨r1, Or.inl r2⟩, fun r2 => q ⟨r1, Or.inr r2⟩⟩
        · exact Or.inl r1
    have rs : rst H jo fr tt (ord t) (nI x) ah = mrst H fr tt (ord t) (nI x) ah ∧ ∃ y, y ≤ 1000 ∧ mrst H fr tt (ord t) (nI x) ah = nI y := by
      cases ah with
      | none => exact ⟨rfl, x, hx, rfl⟩
      | some p =>
        have hpm := hp p rfl
        obtain ⟨b, hb, eb⟩ := N_of (M := 1400) (by decide) (hj.2.2.2.2.2.2.1 (ord t) hot).1
        obtain ⟨e, he, ee⟩ := end_nI hw hj hpm
        refine ⟨?_, ?_⟩
        · show minI (nI x + maxI (hI H (jo (ord t)) 3 - cEnd H jo fr tt p) 0) 1000 = cutR (addR (nI x) (hI H 43 (ord t) - mEnd H fr tt p))
          rw [rst1, g.2.1, end_eq hw hj hpm]
        · show ∃ y, y ≤ 1000 ∧ cutR (addR (nI x) (hI H 43 (ord t) - mEnd H fr tt p)) = nI y
          rw [eb, ee]
          exact rst_nI hx hb he
    obtain ⟨rs1, y, hy, ey⟩ := rs
    show (if skp H jo ord i hh t then strF H jo fr tt ord i hh f (t + 1) (nI x) ah else if ord t = i then rst H jo fr tt (ord t) (nI x) ah else strF H jo fr tt ord i hh f (t + 1) (maxI (rst H jo fr tt (ord t) (nI x) ah - cCost H jo fr tt (ord t)) 0) (some (ord t))) = (if ¬ mIn H i hh (ord t) then mstrF H fr tt ord i hh f (t + 1) (nI x) ah else if ord t = i then mrst H fr tt (ord t) (nI x) ah else mstrF H fr tt ord i hh f (t + 1) (msub H fr tt (mrst H fr tt (ord t) (nI x) ah) (ord t)) (some (ord t)))
    by_cases q : mIn H i hh (ord t)
    · rw [if_neg (c := skp H jo ord i hh t) (fun r => sk.mp r q), if_neg (c := ¬ mIn H i hh (ord t)) (fun r => r q)]
      by_cases q2 : ord t = i
      · rw [if_pos q2, if_pos q2]
        exact rs1
      · rw [if_neg q2, if_neg q2, rs1, ey]
        obtain ⟨c, hc, ec⟩ := cost_nI hw hj hot
        have := sub_nI hy hc
        unfold msub
        rw [cost_eq hw hj hot, ec, this.1]
        obtain ⟨z, hz, ez⟩ := this.2
        rw [ez]
        exact str_go hw hj hh16 f (t + 1) z (some (ord t)) (by omega) hz (fun p hp => by cases hp; exact hot)
    · rw [if_pos (c := skp H jo ord i hh t) (sk.mpr q), if_pos (c := ¬ mIn H i hh (ord t)) q]
      exact str_go hw hj hh16 f (t + 1) x ah (by omega) hx hp
theorem str_eq (hr : RHo H n ho) (hw : RWy H w car) (hj : RJb H m jo fr tt ord pos) {i hh : Nat} (hh1 : hh < n) : strC H jo fr tt ord ho m i hh = strM H fr tt ord m i hh := by
  have h16 := hr.1.2.1
  obtain ⟨-, -, -, r3, r4, -⟩ := hr
  obtain ⟨x, hx, ex⟩ := N_of (M := 1000) (by decide) (r4 hh hh1).2.2
  unfold strC strM
  rw [(r3 hh hh1).2.2.2.1, ex]
  exact str_go hw hj (by omega) m 0 x none (by omega) hx (fun p hp => by cases hp)
theorem max_le {a b s : Int32} : maxI a b ≤ s ↔ a ≤ s ∧ b ≤ s := by
  unfold maxI
  by_cases h : a < b
  · rw [if_pos h]
    exact ⟨fun q => ⟨le_tr (Int32.le_of_lt h) q, q⟩, fun q => q.2⟩
  · rw [if_neg h]
    exact ⟨fun q => ⟨q, le_tr (Int32.not_lt.mp h) q⟩, fun q => q.1⟩
theorem ifb {α : Type} {p q : Prop} {a b c : α} (h : p ↔ q) (hb : b = c) : (if bI p = 0 then a else b) = (if bI q = 0 then a else c) := by rw [propext h, hb]
theorem flw_rgt (hr : RHo H n ho) (hs : RSp H) (hw : RWy H w car) (hj : RJb H m jo fr tt ord pos) {i : Nat} (hi : i < m) {z : Int32} (hz : ¬ z = 0) : flw H jo fr tt ord ho m n i z = rgt H fr tt ord m n i z := by
  have h16 := hr.1.2.1
  have e1 : allA H ho n z ↔ mdAll H n n z := all_md hr hs z
  have e2 : (∀ i, i < n → hb z i → hI H (ho i) 4 = 0) ↔ mlam H n z := by
    unfold mlam
    constructor
    · intro h e he q
      rw [← (hr.2.2.2.1 e he).2.2.2.2]
      exact h e he ((hb_mb z (by omega)).mpr q)
    · intro h e he q
      rw [(hr.2.2.2.1 e he).2.2.2.2]
      exact h e he ((hb_mb z (by omega)).mp q)
  have e3 : els H m jo fr tt i z ↔ mels H m fr tt i z := by
    unfold els mels
    constructor
    · rintro ⟨e, he, q1, q2, q3, q4, q5⟩
      rw [(hj.2.2.2.2.2.1 e he).2.2.2.2.2] at q1
      rw [(hj.2.2.2.2.2.1 e he).2.2.2.2.1] at q3
      exact ⟨e, he, q2, q1, q3, fun r => q5 ((fol_eq hw hj he hi).mpr r.2), fun r => q4 ((fol_eq hw hj hi he).mpr r.2)⟩
    · rintro ⟨e, he, q1, q2, q3, q4, q5⟩
      exact ⟨e, he, by rw [(hj.2.2.2.2.2.1 e he).2.2.2.2.2]; exact q2, q1, by rw [(hj.2.2.2.2.2.1 e he).2.2.2.2.1]; exact q3, fun r => q5 ⟨Ne.symm q1, (fol_eq hw hj hi he).mp r⟩, fun r => q4 ⟨q1, (fol_eq hw hj he hi).mp r⟩⟩
  have e4 : frs H jo fr tt ord ho m n i z (maxI (cCost H jo fr tt i) (hI H 13 2)) ↔ mfrs H fr tt ord m n i z := by
    unfold frs mfrs
    rw [cost_eq hw hj hi, hs.2.2]
    constructor
    · intro h e he q
      have := h e he ((hb_mb z (by omega)).mpr q)
      rw [str_eq hr hw hj he, max_le] at this
      exact this
    · intro h e he q
      rw [str_eq hr hw hj he, max_le]
      exact h e he ((hb_mb z (by omega)).mp q)
  unfold flw rgt
  rw [if_neg hz, propext e1, propext e2, propext e3, propext e4]
  by_cases g : mlam H n z
  · rw [bI_f (p := ¬ mlam H n z) (fun q => q g), bI_t g]
    rfl
  · rw [bI_t (p := ¬ mlam H n z) g, bI_f g]
    rfl
theorem tm_ne {z : Int32} {hx e : Nat} (he : e < 16) : ¬ tmN z hx e = 0 := by
  intro h
  unfold tmN at h
  rw [sh1 (b := e) (by omega)] at h
  generalize z &&& ((1 : Int32) <<< (nI hx &&& 31) ^^^ (-1)) = y at h
  have h1 := congrArg (fun z : Int32 => z.toBitVec.getLsbD e) h
  have h2 : (y.toBitVec ||| BitVec.ofNat 32 (2 ^ e)).getLsbD e = (0#32).getLsbD e := h1
  rw [BitVec.getLsbD_or, BitVec.getLsbD_ofNat, BitVec.getLsbD_zero, Nat.testBit_two_pow_self, decide_eq_true (show e < 32 by omega)] at h2
  simp at h2
theorem dif_eq (hr : RHo H n ho) {e h : Nat} (he : e < n) (hh : h < n) : dif H ho e h = difM H h e := by
  have ge := ho_rg hr he
  have gf := ho_rg hr hh
  unfold dif difM
  rw [absI_far ge.1 gf.1, absI_far ge.2 gf.2]
  obtain ⟨-, -, -, r3, -, -⟩ := hr
  rw [(r3 e he).2.1, (r3 e he).2.2.1, (r3 h hh).2.1, (r3 h hh).2.2.1]
theorem stand_eq (hr : RHo H n ho) (hs : RSp H) (hw : RWy H w car) (hj : RJb H m jo fr tt ord pos) {i h : Nat} (hi : i < m) (hh : h < n) {o o' : Option Nat} (h1 : siV (okC H jo fr tt ord ho m n i h) (fun e => dif H ho e h) n o) (h2 : siV (okM H fr tt ord m n i h) (difM H h) n o') : o = o' := by
  have h16 := hr.1.2.1
  refine siV_one h1 h2 (fun e he => ?_) (fun e he => dif_eq hr he hh)
  unfold okC okM
  rw [(hj.2.2.2.2.2.1 i hi).2.2.2.2.1, flw_rgt hr hs hw hj hi (tm_ne (by omega)), hb_mb _ (by omega)]
theorem hit_eq {nb : Nat} (hb : RBk H nb) {c x k : Int32} {i : Nat} (hi : i < nb) : bkHit H c x k i ↔ mdHit H c x k i := by
  obtain ⟨⟨a1, a2, a3, a4, a5⟩, -, -, b4⟩ := hb.2.2.2 i hi
  unfold bkHit bkHold mdHit
  rw [a1, a2, a3, a4, a5]
  have e : (hI H 69 i = -1 ∨ k < hI H 69 i) ↔ (hI H 69 i < 0 ∨ k < hI H 69 i) := by
    rcases b4 with q | q
    · rw [q]
      exact ⟨fun _ => Or.inl (by decide), fun _ => Or.inl rfl⟩
    · constructor
      · rintro (r | r)
        · rw [r] at q; exact absurd q (by decide)
        · exact Or.inr r
      · rintro (r | r)
        · exact absurd r (Int32.not_lt.mpr q)
        · exact Or.inr r
  constructor
  · rintro ⟨⟨q1, q2, q3⟩, q4, q5⟩
    exact ⟨q1, q2, e.mp q3, q4, q5⟩
  · rintro ⟨q1, q2, q3, q4, q5⟩
    exact ⟨⟨q1, q2, e.mpr q3⟩, q4, q5⟩
theorem whole_eq {nb : Nat} (hb : RBk H nb) (c x k : Int32) : (∀ i, i < nb → ¬ bkHit H c x k i) ↔ ∀ i, i < nb → ¬ mdHit H c x k i :=
  ⟨fun h i hi q => h i hi ((hit_eq hb hi).mpr q), fun h i hi q => h i hi ((hit_eq hb hi).mp q)⟩
def bN (H : PH) (a i : Nat) : Nat := (hI H a i).toNatClampNeg
theorem bN_eq {x : Int32} (h : 0 ≤ x) : x = nI x.toNatClampNeg := by
  obtain ⟨j, hj, rfl⟩ := nI_of (Int32.not_lt.mpr h)
  rw [nI_clamp hj]
theorem bk_ft {nb : Nat} (hb : RBk H nb) : (∀ i, i < nb → hI H 25 i = nI (bN H 66 i)) ∧ (∀ i, i < nb → hI H 26 i = nI (bN H 67 i)) ∧ ∀ i, i < nb → bN H 66 i < bN H 67 i ∧ bN H 67 i ≤ 3000 := by
  have k : ∀ i, i < nb → hI H 66 i = nI (bN H 66 i) ∧ hI H 67 i = nI (bN H 67 i) ∧ bN H 66 i < bN H 67 i ∧ bN H 67 i ≤ 3000 := by
    intro i hi
    obtain ⟨-, ⟨b1, b2, b3⟩, -, -⟩ := hb.2.2.2 i hi
    have e1 := bN_eq b1
    have e2 := bN_eq (le_tr b1 (Int32.le_of_lt b2))
    refine ⟨e1, e2, ?_⟩
    obtain ⟨p, hp, ep⟩ := nI_of (Int32.not_lt.mpr b1)
    obtain ⟨q, hq, eq⟩ := nI_of (Int32.not_lt.mpr (le_tr b1 (Int32.le_of_lt b2)))
    unfold bN
    rw [ep, eq] at b2
    rw [eq] at b3
    rw [ep, eq, nI_clamp hp, nI_clamp hq]
    exact ⟨(nI_ltI hp hq).mp b2, (nI_leI (b := 3000) hq (by decide)).mp b3⟩
  refine ⟨fun i hi => ?_, fun i hi => ?_, fun i hi => (k i hi).2.2⟩
  · rw [(hb.2.2.2 i hi).1.2.1]; exact (k i hi).1
  · rw [(hb.2.2.2 i hi).1.2.2.1]; exact (k i hi).2.1
theorem blk_eq {nb : Nat} (hb : RBk H nb) {c k : Int32} {z s : Nat} (hz : 1 ≤ z) (hz5 : z ≤ 500) (hs : s ≤ 3000) : (∃ e, e < nb ∧ bkTrg H c k (bN H 66) (bN H 67) z e s) ↔ mdBlk H nb c k z s := by
  obtain ⟨f1, f2, f3⟩ := bk_ft hb
  unfold mdBlk mdWh
  constructor
  · rintro ⟨e, he, q1, q2, q3⟩
    have g := f3 e he
    refine ⟨max (bN H 66 e) s - s, by omega, fun q => q e he ?_⟩
    refine (hit_eq hb he).mp ⟨q1, ?_, ?_⟩
    · rw [f1 e he]; exact nI_le (by omega) (by omega)
    · rw [f2 e he]; exact nI_lt (by omega) (by omega)
  · rintro ⟨u, hu, q⟩
    rcases Classical.em (∃ i, i < nb ∧ mdHit H c (nI (s + u)) k i) with ⟨i, hi, r⟩ | r
    · have g := f3 i hi
      obtain ⟨r1, r2, r3⟩ := (hit_eq hb hi).mpr r
      rw [f1 i hi, nI_leI (by omega) (by omega)] at r2
      rw [f2 i hi, nI_ltI (by omega) (by omega)] at r3
      exact ⟨i, hi, r1, by omega, by omega⟩
    · exact absurd (fun i hi h => r ⟨i, hi, h⟩) q
theorem free_eq {nb : Nat} (hb : RBk H nb) {c k : Int32} {z m0 s s' : Nat} (hz : 1 ≤ z) (hz5 : z ≤ 500) (h1 : m0 ≤ s) (h2 : s ≤ 3000) (h3 : ∀ e, e < nb → ¬ bkTrg H c k (bN H 66) (bN H 67) z e s) (h4 : ∀ u, m0 ≤ u → u < s → ∃ e, e < nb ∧ bkTrg H c k (bN H 66) (bN H 67) z e u) (g1 : m0 ≤ s') (g2 : s' ≤ 3000) (g3 : ∀ u, u < z → mdWh H nb c k (s' + u)) (g4 : ∀ u, m0 ≤ u → u < s' → mdBlk H nb c k z u) : s = s' := by
  refine least_one (p := fun s => ¬ mdBlk H nb c k z s) h1 g1 (fun q => ?_) (fun q => ?_) (fun u hu1 hu2 q => q ((blk_eq hb hz hz5 (by omega)).mp (h4 u hu1 hu2))) (fun u hu1 hu2 q => q (g4 u hu1 hu2))
  · obtain ⟨e, he, r⟩ := (blk_eq hb hz hz5 h2).mpr q
    exact h3 e he r
  · obtain ⟨u, hu, r⟩ := q
    exact r (g3 u hu)
theorem K_eq (hj : RJb H m jo fr tt ord pos) : Kc H jo m = Kof H m := mkM_cong (fun i hi => by unfold kpB; rw [(hj.2.2.2.2.2.1 i hi).2.2.2.2.2])
theorem ck_eq (hw : RWy H w car) (hj : RJb H m jo fr tt ord pos) : ckF fr tt ord w (folB H jo fr tt) m = fun S => keyO S (mco H fr tt ord w m S) := by
  funext S
  unfold ckF mco
  rw [chF_fol (fol' := mfolB H fr tt) (fun i j hi hjm => by unfold folB mfolB; exact decide_eq_decide.mpr (fol_eq hw hj hi hjm)) (fun t ht => (hj.2.2.1 t ht).2) m 0 none 0 (by omega) (fun p q => by cases q)]
end PQ
