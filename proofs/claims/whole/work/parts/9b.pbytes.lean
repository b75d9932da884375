/-! ===== pure: the bytes of the tape ===== -/
theorem byte_sh (b : BitVec 32) (n : Nat) (hn : n ≤ 24) : (b >>> n) &&& 255#32 = (b.sshiftRight n) &&& 255#32 := by
  apply BitVec.eq_of_getLsbD_eq
  intro i hi
  rw [BitVec.getLsbD_and, BitVec.getLsbD_and, BitVec.getLsbD_ushiftRight, BitVec.getLsbD_sshiftRight]
  by_cases q : i < 8
  · have : n + i < 32 := by omega
    simp [hi, this, Nat.add_comm]
    rw [decide_eq_false (by omega : ¬ 32 ≤ i), Bool.not_false, Bool.true_and]
  · have e : (255#32).getLsbD i = false := by
      have : ∀ j : Fin 32, 8 ≤ j.val → (255#32).getLsbD j.val = false := by decide
      exact this ⟨i, hi⟩ (by show 8 ≤ i; omega)
    rw [e, Bool.and_false, Bool.and_false]
theorem byte_eq (v : Int32) {s : Int32} (hs : s = 24 ∨ s = 16 ∨ s = 8 ∨ s = 0) : bt8 v s &&& 255 = bt9 v s := by
  unfold bt8 bt9
  rw [bp_b, bp_b]
  apply Int32.toBitVec_inj.mp
  rcases hs with h | h | h | h <;> subst h
  · exact byte_sh v.toBitVec 24 (by decide)
  · exact byte_sh v.toBitVec 16 (by decide)
  · exact byte_sh v.toBitVec 8 (by decide)
  · exact byte_sh v.toBitVec 0 (by decide)
