/-! ===== how a call changes its own piece ===== -/
section PC
variable {H H2 : PH} {n m j : Nat} {ho jo fr tt ord pos : Nat → Nat} {w : Nat → Nat → Nat} {car N nb : Nat} {z : Int32}
theorem RHo_lame (rH : RHo H n ho) (hj : j < n) : RHo (sI (sI H (ho j) 4 z) 38 j z) n ho := by
  obtain ⟨⟨s1, s2, s3, s4, s5, s6⟩, r1, r2, r3, r4, r5⟩ := rH
  have o9 := s5 j hj
  have e : ∀ a k, hI (sI (sI H (ho j) 4 z) 38 j z) a k = if a = 38 ∧ k = j then z else if a = ho j ∧ k = 4 then z else hI H a k := fun _ _ => rfl
  have f : ∀ a k, a ≠ 38 → k ≠ 4 → hI (sI (sI H (ho j) 4 z) 38 j z) a k = hI H a k := fun a k h1 h2 => by rw [e, if_neg (fun q => h1 q.1), if_neg (fun q => h2 q.2)]
  have g : ∀ a k, a ≠ 38 → a ≤ 69 → hI (sI (sI H (ho j) 4 z) 38 j z) a k = hI H a k := fun a k h1 h2 => by rw [e, if_neg (fun q => h1 q.1), if_neg (fun q => by have := q.1; omega)]
  refine ⟨⟨(g 2 2 (by omega) (by omega)).trans s1, s2, s3, s4, s5, s6⟩, (g 33 0 (by omega) (by omega)).trans r1, r2, fun i hi => ?_, fun i hi => ?_, fun i hi => ?_⟩
  · have o := s5 i hi
    rw [f (ho i) 0 (by omega) (by omega), f (ho i) 1 (by omega) (by omega), f (ho i) 2 (by omega) (by omega), f (ho i) 3 (by omega) (by omega), g 34 i (by omega) (by omega), g 35 i (by omega) (by omega), g 36 i (by omega) (by omega), g 37 i (by omega) (by omega)]
    refine ⟨(r3 i hi).1, (r3 i hi).2.1, (r3 i hi).2.2.1, (r3 i hi).2.2.2.1, ?_⟩
    by_cases q : i = j
    · rw [q, e (ho j) 4, if_neg (by omega), if_pos ⟨rfl, rfl⟩, e 38 j, if_pos ⟨rfl, rfl⟩]
    · rw [e (ho i) 4, if_neg (by omega), if_neg (fun x => q (s6 i j hi hj x.1)), e 38 i, if_neg (fun x => q x.2), if_neg (by omega)]
      exact (r3 i hi).2.2.2.2
  · rw [g 35 i (by omega) (by omega), g 36 i (by omega) (by omega), g 37 i (by omega) (by omega)]
    exact r4 i hi
  · rw [e, if_neg (by omega), if_neg (by omega)]
    exact r5 i hi
def B_horse (n a k : Nat) : Prop := (a = 2 ∧ k = 2) ∨ (34 ≤ a ∧ a ≤ 37 ∧ k = n) ∨ (a = 33 ∧ k = 0)
def C_horse (n a k : Nat) : Prop := a = 3 ∧ k = n
theorem fra_hNew {c h p s : Int32} : fra (B_horse n) (C_horse n) H (hNew H n c h p s) := by
  unfold hNew
  exact fra_sI (fra_sR (fra_sIn (fra_sIn (fra_sIn (fra_sIn (fra_nC fra_rfl) (by omega)) (by omega)) (by omega)) (by omega)) ⟨rfl, rfl⟩) (Or.inl ⟨rfl, rfl⟩)
theorem fra_mhNew {H1 : PH} {c h p s : Int32} (hf : fra (B_horse n) (C_horse n) H H1) : fra (B_horse n) (C_horse n) H (mhNew H1 n c h p s) := by
  unfold mhNew
  exact fra_sI (fra_sI (fra_sI (fra_sI (fra_sI hf (Or.inr (Or.inl ⟨by omega, by omega, rfl⟩))) (Or.inr (Or.inl ⟨by omega, by omega, rfl⟩))) (Or.inr (Or.inl ⟨by omega, by omega, rfl⟩))) (Or.inr (Or.inl ⟨by omega, by omega, rfl⟩))) (Or.inr (Or.inr ⟨rfl, rfl⟩))
theorem hI_new {b kk l k : Nat} (h : b = hN H + 1) : hI (nC H kk l) b k = 0 := by rw [hI_nC, h, u1_eq]
theorem RHo_new {c h p s : Int32} (h69 : 69 ≤ hN H) (hc : hCan c h p s) (hn : n < 16) (rH : RHo H n ho) : RHo (mhNew (hNew H n c h p s) n c h p s) (n + 1) (fun i => if i = n then hN H + 1 else ho i) := by
  have hf : fra (B_horse n) (C_horse n) H (mhNew (hNew H n c h p s) n c h p s) := fra_mhNew fra_hNew
  obtain ⟨⟨s1, s2, s3, s4, s5, s6⟩, r1, r2, r3, r4, r5⟩ := rH
  obtain ⟨b, hb⟩ : ∃ b, b = hN H + 1 := ⟨_, rfl⟩
  have hb9 : 69 < b := by omega
  have hNG : hN (mhNew (hNew H n c h p s) n c h p s) = hN H + 1 := rfl
  have kb : hK (mhNew (hNew H n c h p s) n c h p s) b = (3, 5) := by
    show hK (nC H 3 5) b = _
    rw [hK_nC, hb, u1_eq]
  have rb : hR (mhNew (hNew H n c h p s) n c h p s) 3 n = some b := by
    show hR (sR _ 3 n (some (hN H + 1))) 3 n = _
    rw [hR_sR', if_pos ⟨rfl, rfl⟩, hb]
  have eb : ∀ k, hI (mhNew (hNew H n c h p s) n c h p s) b k = if k = 3 then s else if k = 2 then p else if k = 1 then h else if k = 0 then c else 0 := by
    intro k
    unfold mhNew hNew
    rw [← hb, hI_sI', if_neg (by omega), hI_sI', if_neg (by omega), hI_sI', if_neg (by omega), hI_sI', if_neg (by omega), hI_sI', if_neg (by omega), hI_sI', if_neg (by omega), hI_sR, hI_sI', hI_sI', hI_sI', hI_sI', hI_new hb]
    simp only [true_and]
  have e33 : hI (mhNew (hNew H n c h p s) n c h p s) 33 0 = nI (n + 1) := by unfold mhNew; rw [hI_sI', if_pos ⟨rfl, rfl⟩]
  have e37 : hI (mhNew (hNew H n c h p s) n c h p s) 37 n = s := by unfold mhNew; rw [hI_sI', if_neg (by omega), hI_sI', if_pos ⟨rfl, rfl⟩]
  have e36 : hI (mhNew (hNew H n c h p s) n c h p s) 36 n = p := by unfold mhNew; rw [hI_sI', if_neg (by omega), hI_sI', if_neg (by omega), hI_sI', if_pos ⟨rfl, rfl⟩]
  have e35 : hI (mhNew (hNew H n c h p s) n c h p s) 35 n = h := by unfold mhNew; rw [hI_sI', if_neg (by omega), hI_sI', if_neg (by omega), hI_sI', if_neg (by omega), hI_sI', if_pos ⟨rfl, rfl⟩]
  have e34 : hI (mhNew (hNew H n c h p s) n c h p s) 34 n = c := by unfold mhNew; rw [hI_sI', if_neg (by omega), hI_sI', if_neg (by omega), hI_sI', if_neg (by omega), hI_sI', if_neg (by omega), hI_sI', if_pos ⟨rfl, rfl⟩]
  have e2 : hI (mhNew (hNew H n c h p s) n c h p s) 2 2 = nI (n + 1) := by unfold mhNew hNew; rw [hI_sI', if_neg (by omega), hI_sI', if_neg (by omega), hI_sI', if_neg (by omega), hI_sI', if_neg (by omega), hI_sI', if_neg (by omega), hI_sI', if_pos ⟨rfl, rfl⟩]
  rw [← hb]
  generalize mhNew (hNew H n c h p s) n c h p s = G at *
  have ko : ∀ i k, i < n → hI G (ho i) k = hI H (ho i) k := fun i k hi => hf.2.2.1 _ k (r2 i hi) (fun q => by have := s5 i hi; unfold B_horse at q; omega)
  have kr : ∀ a i, 34 ≤ a → a ≤ 38 → i ≠ n → hI G a i = hI H a i := fun a i h1 h2 h3 => hf.2.2.1 a i (by omega) (fun q => by unfold B_horse at q; omega)
  have k38 : hI G 38 n = hI H 38 n := hf.2.2.1 38 n (by omega) (fun q => by unfold B_horse at q; omega)
  have hN1 : b ≤ hN G := by omega
  have cs : ∀ (P : Nat → Nat → Prop), (∀ i, i < n → P i (ho i)) → P n b → ∀ i, i < n + 1 → P i (if i = n then b else ho i) := by
    intro P h1 h2 i hi
    by_cases q : i = n
    · rw [if_pos q, q]; exact h2
    · rw [if_neg q]; exact h1 i (by omega)
  refine ⟨⟨e2, hn, cs (fun i x => hR G 3 i = some x) (fun i hi => by rw [hf.2.2.2 3 i (by omega) (fun q => by have := q.2; omega)]; exact s3 i hi) rb, cs (fun _ x => hK G x = (3, 5)) (fun i hi => by rw [hf.2.1 _ (r2 i hi)]; exact s4 i hi) kb, cs (fun _ x => 69 < x) s5 hb9, fun i k hi hk q => ?_⟩, e33, cs (fun _ x => x ≤ hN G) (fun i hi => Nat.le_trans (r2 i hi) hf.1) hN1, cs (fun i x => hI G x 0 = hI G 34 i ∧ hI G x 1 = hI G 35 i ∧ hI G x 2 = hI G 36 i ∧ hI G x 3 = hI G 37 i ∧ hI G x 4 = hI G 38 i) (fun i hi => ?_) ?_, fun i hi => ?_, fun i hi => ?_⟩
  · have q : (if i = n then b else ho i) = (if k = n then b else ho k) := q
    by_cases h1 : i = n <;> by_cases h2 : k = n
    · omega
    · rw [if_pos h1, if_neg h2] at q
      have := r2 k (by omega)
      omega
    · rw [if_neg h1, if_pos h2] at q
      have := r2 i (by omega)
      omega
    · rw [if_neg h1, if_neg h2] at q
      exact s6 i k (by omega) (by omega) q
  · rw [ko i 0 hi, ko i 1 hi, ko i 2 hi, ko i 3 hi, ko i 4 hi, kr 34 i (by omega) (by omega) (by omega), kr 35 i (by omega) (by omega) (by omega), kr 36 i (by omega) (by omega) (by omega), kr 37 i (by omega) (by omega) (by omega), kr 38 i (by omega) (by omega) (by omega)]
    exact r3 i hi
  · rw [eb 0, eb 1, eb 2, eb 3, eb 4, e34, e35, e36, e37, k38, r5 n (Nat.le_refl _)]
    exact ⟨rfl, rfl, rfl, rfl, rfl⟩
  · by_cases q : i = n
    · rw [q, e35, e36, e37]
      exact hc.2
    · rw [kr 35 i (by omega) (by omega) q, kr 36 i (by omega) (by omega) q, kr 37 i (by omega) (by omega) q]
      exact r4 i (by omega)
  · rw [kr 38 i (by omega) (by omega) (by omega)]
    exact r5 i (by omega)
theorem RJb_set {f : Nat} {v : Int32} (hf : f = 7 ∨ f = 8) (hj : j < m) (hn : hN H2 = hN H) (hk : hK H2 = hK H) (hr : hR H2 = hR H) (he : ∀ a k, ¬ (a = 5 ∧ k = 5) → hI H2 a k = if a = 39 + f ∧ k = j then v else if a = jo j ∧ k = f then v else hI H a k) (rJ : RJb H m jo fr tt ord pos) : RJb H2 m jo fr tt ord pos := by
  obtain ⟨⟨s1, s2, s3, s4, s5, s6, s7, s8⟩, ⟨m1, m2, m3, m4⟩, ro, ⟨o1, o2, o3⟩, r2, r3, r4, r5⟩ := rJ
  have o9 := s5 j hj
  have g : ∀ a k, a ≤ 69 → a ≠ 39 + f → ¬ (a = 5 ∧ k = 5) → hI H2 a k = hI H a k := fun a k h1 h2 h3 => by rw [he a k h3, if_neg (fun q => h2 q.1), if_neg (fun q => by have := q.1; omega)]
  have ko : ∀ i k, i < m → k ≠ f → hI H2 (jo i) k = hI H (jo i) k := fun i k hi h => by
    have := s5 i hi
    rw [he _ k (by omega), if_neg (by omega), if_neg (fun q => h q.2)]
  have kr : ∀ i, i ≠ j → hI H2 (39 + f) i = hI H (39 + f) i := fun i h => by rw [he _ i (by omega), if_neg (fun q => h q.2), if_neg (by omega)]
  have sp : ∀ i, i < m → hI H (jo i) f = hI H (39 + f) i → hI H2 (jo i) f = hI H2 (39 + f) i := fun i hi h => by
    have := s5 i hi
    by_cases q : i = j
    · rw [q, he (jo j) f (by omega), if_neg (by omega), if_pos ⟨rfl, rfl⟩, he (39 + f) j (by omega), if_pos ⟨rfl, rfl⟩]
    · rw [he (jo i) f (by omega), if_neg (by omega), if_neg (fun x => q (s6 i j hi hj x.1)), kr i q]
      exact h
  refine ⟨⟨(g 5 3 (by omega) (by omega) (by omega)).trans s1, s2, fun i hi => by rw [hr]; exact s3 i hi, fun i hi => by rw [hk]; exact s4 i hi, s5, s6, fun i hi => by rw [ko i 1 hi (by omega)]; exact s7 i hi, fun i hi => by rw [ko i 2 hi (by omega)]; exact s8 i hi⟩, ⟨(g 33 11 (by omega) (by omega) (by omega)).trans m1, m2, fun i hi => by rw [g 41 i (by omega) (by omega) (by omega)]; exact m3 i hi, fun i hi => by rw [g 42 i (by omega) (by omega) (by omega)]; exact m4 i hi⟩, fun t ht => by rw [g 8 t (by omega) (by omega) (by omega)]; exact ro t ht, ⟨o1, o2, fun a b ha hb => ?_⟩, fun i hi => by rw [hn]; exact r2 i hi, fun i hi => ?_, fun i hi => ?_, fun i hi => ?_⟩
  · have := o3 a b ha hb
    unfold mAhd at this ⊢
    rw [g 43 a (by omega) (by omega) (by omega), g 43 b (by omega) (by omega) (by omega)]
    exact this
  · rw [ko i 0 hi (by omega), ko i 3 hi (by omega), ko i 4 hi (by omega), ko i 5 hi (by omega), g 40 i (by omega) (by omega) (by omega), g 43 i (by omega) (by omega) (by omega), g 44 i (by omega) (by omega) (by omega), g 45 i (by omega) (by omega) (by omega)]
    refine ⟨(r3 i hi).1, (r3 i hi).2.1, (r3 i hi).2.2.1, (r3 i hi).2.2.2.1, ?_, ?_⟩
    · rcases hf with q | q
      · have := sp i hi (by rw [q]; exact (r3 i hi).2.2.2.2.1)
        rw [q] at this
        exact this
      · rw [ko i 7 hi (by omega), g 46 i (by omega) (by omega) (by omega)]
        exact (r3 i hi).2.2.2.2.1
    · rcases hf with q | q
      · rw [ko i 8 hi (by omega), g 47 i (by omega) (by omega) (by omega)]
        exact (r3 i hi).2.2.2.2.2
      · have := sp i hi (by rw [q]; exact (r3 i hi).2.2.2.2.2)
        rw [q] at this
        exact this
  · rw [g 43 i (by omega) (by omega) (by omega), g 44 i (by omega) (by omega) (by omega)]
    exact r4 i hi
  · have a1 : hI H2 46 i = hI H 46 i := by
      rcases hf with q | q
      · have := kr i (by omega)
        rw [q] at this
        exact this
      · exact g 46 i (by omega) (by omega) (by omega)
    have a2 : hI H2 47 i = hI H 47 i := by
      rcases hf with q | q
      · exact g 47 i (by omega) (by omega) (by omega)
      · have := kr i (by omega)
        rw [q] at this
        exact this
    rw [a1, a2]
    exact r5 i hi
theorem RWy_way {i j V : Nat} {v : Int32} (hi : i < 8) (hj : j < 8) (hv : v = nI V) (hV : V ≤ 300) (rW : RWy H w car) : RWy (mwNew (wNew H i j v) i j v) (fun a b => if (a = i ∧ b = j) ∨ (a = j ∧ b = i) then V else w a b) car := by
  obtain ⟨r1, r2, r3, r4, r5⟩ := rW
  have e6 : ∀ k, hI (mwNew (wNew H i j v) i j v) 6 k = if k = j * 8 + i then v else if k = i * 8 + j then v else hI H 6 k := by
    intro k
    unfold mwNew wNew
    rw [hI_sI', if_neg (by omega), hI_sI', if_neg (by omega), hI_sI', if_neg (by omega), hI_sI', hI_sI']
    simp only [true_and]
  have e39 : ∀ k, hI (mwNew (wNew H i j v) i j v) 39 k = if k = j * 8 + i then v else if k = i * 8 + j then v else hI H 39 k := by
    intro k
    unfold mwNew wNew
    rw [hI_sI', hI_sI', hI_sI', if_neg (c := 39 = 5 ∧ k = 5) (by omega), hI_sI', if_neg (c := 39 = 6 ∧ k = j * 8 + i) (by omega), hI_sI', if_neg (c := 39 = 6 ∧ k = i * 8 + j) (by omega)]
    simp only [true_and]
  refine ⟨fun a b ha hb => ?_, fun a b ha hb => ?_, ?_, ?_, r5⟩
  · unfold wy
    rw [e6]
    show (if a * 8 + b = j * 8 + i then v else if a * 8 + b = i * 8 + j then v else hI H 6 (a * 8 + b)) = nI (if (a = i ∧ b = j) ∨ (a = j ∧ b = i) then V else w a b) ∧ (if (a = i ∧ b = j) ∨ (a = j ∧ b = i) then V else w a b) ≤ 300
    by_cases q : (a = i ∧ b = j) ∨ (a = j ∧ b = i)
    · rw [if_pos q]
      refine ⟨?_, hV⟩
      rcases q with q | q
      · by_cases q2 : a * 8 + b = j * 8 + i
        · rw [if_pos q2]; exact hv
        · rw [if_neg q2, if_pos (by omega)]; exact hv
      · rw [if_pos (by omega)]; exact hv
    · rw [if_neg q, if_neg (by omega), if_neg (by omega)]
      exact r1 a b ha hb
  · unfold mwy
    rw [e39]
    show (if a * 8 + b = j * 8 + i then v else if a * 8 + b = i * 8 + j then v else hI H 39 (a * 8 + b)) = nI (if (a = i ∧ b = j) ∨ (a = j ∧ b = i) then V else w a b) ∧ (if (a = i ∧ b = j) ∨ (a = j ∧ b = i) then V else w a b) ≤ 300
    by_cases q : (a = i ∧ b = j) ∨ (a = j ∧ b = i)
    · rw [if_pos q]
      refine ⟨?_, hV⟩
      rcases q with q | q
      · by_cases q2 : a * 8 + b = j * 8 + i
        · rw [if_pos q2]; exact hv
        · rw [if_neg q2, if_pos (by omega)]; exact hv
      · rw [if_pos (by omega)]; exact hv
    · rw [if_neg q, if_neg (by omega), if_neg (by omega)]
      exact r2 a b ha hb
  · unfold mwNew wNew
    rw [hI_sI', if_neg (by omega), hI_sI', if_neg (by omega), hI_sI', if_neg (by omega), hI_sI', if_neg (by omega), hI_sI', if_neg (by omega)]
    exact r3
  · unfold mwNew wNew
    rw [hI_sI', if_neg (by omega), hI_sI', if_neg (by omega), hI_sI', if_neg (by omega), hI_sI', if_neg (by omega), hI_sI', if_neg (by omega)]
    exact r4
/-- the tape's bytes on both sides -/
def TB (H G : PH) (N : Nat) : Prop := ∀ j, j < N → hI H 15 j &&& 255 = hI G 61 j
theorem TB_1 {G : PH} {v s : Int32} (hs : s = 24 ∨ s = 16 ∨ s = 8 ∨ s = 0) (h : TB H G N) : TB (ap1 H N (bt8 v s)) (mp1 G N (bt9 v s)) (N + 1) := by
  intro i hi
  have e1 : hI (ap1 H N (bt8 v s)) 15 i = if i = N then bt8 v s else hI H 15 i := by
    unfold ap1
    rw [hI_sI', if_neg (by omega), hI_sI']
    simp only [true_and]
  have e2 : hI (mp1 G N (bt9 v s)) 61 i = if i = N then bt9 v s else hI G 61 i := by
    unfold mp1
    rw [hI_sI', if_neg (by omega), hI_sI']
    simp only [true_and]
  rw [e1, e2]
  by_cases q : i = N
  · rw [if_pos q, if_pos q]
    exact byte_eq v hs
  · rw [if_neg q, if_neg q]
    exact h i (by omega)
theorem TB_4 {G : PH} {v : Int32} (h : TB H G N) : TB (apd H N v) (mpd G N v) (N + 4) :=
  TB_1 (by decide) (TB_1 (by decide) (TB_1 (by decide) (TB_1 (by decide) h)))
theorem TB_A {G : PH} {a b c e f : Int32} (h : TB H G N) : TB (apA H N a b c e f) (mpA G N a b c e f) (N + 20) :=
  TB_4 (TB_4 (TB_4 (TB_4 (TB_4 h))))
def B_feed (a k : Nat) : Prop := a = 15 ∨ (a = 14 ∧ k = 1) ∨ a = 61 ∨ (a = 33 ∧ k = 40)
theorem fra_ap1 {C : Nat → Nat → Prop} {G : PH} {L : Nat} {b : Int32} (h : fra B_feed C H G) : fra B_feed C H (ap1 G L b) := fra_sI (fra_sI h (Or.inl rfl)) (Or.inr (Or.inl ⟨rfl, rfl⟩))
theorem fra_mp1 {C : Nat → Nat → Prop} {G : PH} {L : Nat} {b : Int32} (h : fra B_feed C H G) : fra B_feed C H (mp1 G L b) := fra_sI (fra_sI h (Or.inr (Or.inr (Or.inl rfl)))) (Or.inr (Or.inr (Or.inr ⟨rfl, rfl⟩)))
theorem fra_apd {C : Nat → Nat → Prop} {G : PH} {L : Nat} {b : Int32} (h : fra B_feed C H G) : fra B_feed C H (apd G L b) := fra_ap1 (fra_ap1 (fra_ap1 (fra_ap1 h)))
theorem fra_mpd {C : Nat → Nat → Prop} {G : PH} {L : Nat} {b : Int32} (h : fra B_feed C H G) : fra B_feed C H (mpd G L b) := fra_mp1 (fra_mp1 (fra_mp1 (fra_mp1 h)))
theorem fra_apA {C : Nat → Nat → Prop} {G : PH} {L : Nat} {a b c e f : Int32} (h : fra B_feed C H G) : fra B_feed C H (apA G L a b c e f) := fra_apd (fra_apd (fra_apd (fra_apd (fra_apd h))))
theorem fra_mpA {C : Nat → Nat → Prop} {G : PH} {L : Nat} {a b c e f : Int32} (h : fra B_feed C H G) : fra B_feed C H (mpA G L a b c e f) := fra_mpd (fra_mpd (fra_mpd (fra_mpd (fra_mpd h))))
theorem ap1_61 {L : Nat} {b : Int32} (k : Nat) : hI (ap1 H L b) 61 k = hI H 61 k := by unfold ap1; rw [hI_sI', if_neg (by omega), hI_sI', if_neg (by omega)]
theorem ap1_33 {L : Nat} {b : Int32} (k : Nat) : hI (ap1 H L b) 33 k = hI H 33 k := by unfold ap1; rw [hI_sI', if_neg (by omega), hI_sI', if_neg (by omega)]
theorem apA_61 {L : Nat} {a b c e f : Int32} (k : Nat) : hI (apA H L a b c e f) 61 k = hI H 61 k := by
  unfold apA apd
  iterate 20 rw [ap1_61]
theorem apA_33 {L : Nat} {a b c e f : Int32} (k : Nat) : hI (apA H L a b c e f) 33 k = hI H 33 k := by
  unfold apA apd
  iterate 20 rw [ap1_33]
theorem mp1_15 {L : Nat} {b : Int32} (k : Nat) : hI (mp1 H L b) 15 k = hI H 15 k := by unfold mp1; rw [hI_sI', if_neg (by omega), hI_sI', if_neg (by omega)]
theorem mp1_14 {L : Nat} {b : Int32} (k : Nat) : hI (mp1 H L b) 14 k = hI H 14 k := by unfold mp1; rw [hI_sI', if_neg (by omega), hI_sI', if_neg (by omega)]
theorem mpA_15 {L : Nat} {a b c e f : Int32} (k : Nat) : hI (mpA H L a b c e f) 15 k = hI H 15 k := by
  unfold mpA mpd
  iterate 20 rw [mp1_15]
theorem mpA_14 {L : Nat} {a b c e f : Int32} (k : Nat) : hI (mpA H L a b c e f) 14 k = hI H 14 k := by
  unfold mpA mpd
  iterate 20 rw [mp1_14]
theorem RTp_feed {a b c e f : Int32} (hN : N + 20 ≤ 600) (rT : RTp H N) : RTp (mpA (apA H N a b c e f) N a b c e f) (N + 20) := by
  refine ⟨?_, mpd_len _ _ _, hN, fun j hj => ?_⟩
  · rw [mpA_14]
    exact apd_len _ _ _
  · rw [mpA_15]
    exact TB_A (G := apA H N a b c e f) (fun i hi => by rw [apA_61]; exact rT.2.2.2 i hi) j hj
/-- the book -/
def B_book (n a k : Nat) : Prop := (a = 23 ∧ k = 5) ∨ (a = 33 ∧ k = 54) ∨ (((24 ≤ a ∧ a ≤ 28) ∨ (65 ≤ a ∧ a ≤ 69)) ∧ k = n)
theorem fra_bkNew {C : Nat → Nat → Prop} {G : PH} {c f t u : Int32} (h : fra (B_book n) C H G) : fra (B_book n) C H (bkNew G n c f t u) := by
  unfold bkNew
  exact fra_sI (fra_sI (fra_sI (fra_sI (fra_sI (fra_sI h (Or.inr (Or.inr ⟨Or.inl (by omega), rfl⟩))) (Or.inr (Or.inr ⟨Or.inl (by omega), rfl⟩))) (Or.inr (Or.inr ⟨Or.inl (by omega), rfl⟩))) (Or.inr (Or.inr ⟨Or.inl (by omega), rfl⟩))) (Or.inr (Or.inr ⟨Or.inl (by omega), rfl⟩))) (Or.inl ⟨rfl, rfl⟩)
theorem fra_mdNew {C : Nat → Nat → Prop} {G : PH} {c f t u : Int32} (h : fra (B_book n) C H G) : fra (B_book n) C H (mdNew G n c f t u) := by
  unfold mdNew
  exact fra_sI (fra_sI (fra_sI (fra_sI (fra_sI (fra_sI h (Or.inr (Or.inr ⟨Or.inr (by omega), rfl⟩))) (Or.inr (Or.inr ⟨Or.inr (by omega), rfl⟩))) (Or.inr (Or.inr ⟨Or.inr (by omega), rfl⟩))) (Or.inr (Or.inr ⟨Or.inr (by omega), rfl⟩))) (Or.inr (Or.inr ⟨Or.inr (by omega), rfl⟩))) (Or.inr (Or.inl ⟨rfl, rfl⟩))
theorem RBk_new {c f t u : Int32} (h69 : 69 ≤ hN H) (hc : (0 ≤ c ∧ c ≤ 5) ∧ (0 ≤ f ∧ f ≤ 2000) ∧ f < t ∧ t ≤ 3000 ∧ (0 ≤ u ∧ u ≤ 5000)) (hn : n < 40) (rB : RBk H n) : RBk (mdNew (bkNew H n c f t u) n c f t u) (n + 1) := by
  have hf : fra (B_book n) (fun _ _ => False) H (mdNew (bkNew H n c f t u) n c f t u) := fra_mdNew (fra_bkNew fra_rfl)
  have e : ∀ a k, hI (mdNew (bkNew H n c f t u) n c f t u) a k = if a = 33 ∧ k = 54 then nI (n + 1) else if a = 69 ∧ k = n then -1 else if a = 68 ∧ k = n then u else if a = 67 ∧ k = n then t else if a = 66 ∧ k = n then f else if a = 65 ∧ k = n then c else if a = 23 ∧ k = 5 then nI (n + 1) else if a = 28 ∧ k = n then -1 else if a = 27 ∧ k = n then u else if a = 26 ∧ k = n then t else if a = 25 ∧ k = n then f else if a = 24 ∧ k = n then c else hI H a k := fun _ _ => rfl
  refine ⟨by rw [e]; simp, by rw [e]; simp, hn, fun i hi => ?_⟩
  by_cases q : i = n
  · subst q
    rw [e 24, e 25, e 26, e 27, e 28, e 65, e 66, e 67, e 68, e 69]
    simp
    exact ⟨⟨hc.2.1.1, hc.2.2.1, hc.2.2.2.1⟩, hc.2.2.2.2.1⟩
  · have kr : ∀ a, (24 ≤ a ∧ a ≤ 28) ∨ (65 ≤ a ∧ a ≤ 69) → hI (mdNew (bkNew H n c f t u) n c f t u) a i = hI H a i := fun a ha => hf.2.2.1 a i (by omega) (fun b => by unfold B_book at b; omega)
    rw [kr 24 (by omega), kr 25 (by omega), kr 26 (by omega), kr 27 (by omega), kr 28 (by omega), kr 65 (by omega), kr 66 (by omega), kr 67 (by omega), kr 68 (by omega), kr 69 (by omega)]
    exact rB.2.2.2 i (by omega)
theorem RBk_un {mi : Int32} (hj : j < n) (hm : hI H 68 j ≤ mi) (rB : RBk H n) : RBk (sI (sI H 28 j mi) 69 j mi) n := by
  have e : ∀ a k, hI (sI (sI H 28 j mi) 69 j mi) a k = if a = 69 ∧ k = j then mi else if a = 28 ∧ k = j then mi else hI H a k := fun _ _ => rfl
  have g : ∀ a k, a ≠ 69 → a ≠ 28 → hI (sI (sI H 28 j mi) 69 j mi) a k = hI H a k := fun a k h1 h2 => by rw [e, if_neg (fun q => h1 q.1), if_neg (fun q => h2 q.1)]
  refine ⟨(g 23 5 (by omega) (by omega)).trans rB.1, (g 33 54 (by omega) (by omega)).trans rB.2.1, rB.2.2.1, fun i hi => ?_⟩
  rw [g 24 i (by omega) (by omega), g 25 i (by omega) (by omega), g 26 i (by omega) (by omega), g 27 i (by omega) (by omega), g 65 i (by omega) (by omega), g 66 i (by omega) (by omega), g 67 i (by omega) (by omega), g 68 i (by omega) (by omega), e 28 i, e 69 i, if_neg (c := 28 = 69 ∧ i = j) (by omega), if_neg (c := 69 = 28 ∧ i = j) (by omega)]
  have r := rB.2.2.2 i hi
  by_cases q : i = j
  · rw [if_pos ⟨rfl, q⟩, if_pos ⟨rfl, q⟩]
    rw [← q] at hm
    exact ⟨⟨r.1.1, r.1.2.1, r.1.2.2.1, r.1.2.2.2.1, rfl⟩, r.2.1, r.2.2.1, Or.inr (le_tr r.2.2.1 hm)⟩
  · rw [if_neg (fun x => q x.2), if_neg (fun x => q x.2)]
    exact r
end PC
