/-! ===== the reference's tokens ===== -/
/-- the same but for ints of A and the reference's word -/
def eqM (A : Nat → Nat → Prop) (H H' : PH) : Prop := hN H' = hN H ∧ hK H' = hK H ∧ hR H' = hR H ∧ (∀ a k, ¬ A a k → hI H' a k = hI H a k) ∧ ∀ a k, ¬ (a = 33 ∧ k = 48) → hL H' a k = hL H a k
theorem eqM_rfl {A : Nat → Nat → Prop} {H : PH} : eqM A H H := ⟨rfl, rfl, rfl, fun _ _ _ => rfl, fun _ _ _ => rfl⟩
theorem eqM_sI {A : Nat → Nat → Prop} {H H' : PH} {a k : Nat} {v : Int32} (h : eqM A H H') (ha : A a k) : eqM A H (sI H' a k v) := ⟨h.1, h.2.1, h.2.2.1, fun a' k' q => by rw [hI_sI', if_neg (fun e => q (by rw [e.1, e.2]; exact ha))]; exact h.2.2.2.1 a' k' q, h.2.2.2.2⟩
theorem eqM_sL {A : Nat → Nat → Prop} {H H' : PH} {v : Int64} (h : eqM A H H') : eqM A H (sL H' 33 48 v) := ⟨h.1, h.2.1, h.2.2.1, h.2.2.2.1, fun a' k' q => by rw [hL_sL', if_neg q]; exact h.2.2.2.2 a' k' q⟩
theorem eqM_trans {A : Nat → Nat → Prop} {H H' H'' : PH} (h : eqM A H H') (h' : eqM A H' H'') : eqM A H H'' := ⟨h'.1.trans h.1, h'.2.1.trans h.2.1, h'.2.2.1.trans h.2.2.1, fun a k q => (h'.2.2.2.1 a k q).trans (h.2.2.2.1 a k q), fun a k q => (h'.2.2.2.2 a k q).trans (h.2.2.2.2 a k q)⟩
theorem eqM_mono {A B : Nat → Nat → Prop} {H H' : PH} (hAB : ∀ a k, A a k → B a k) (h : eqM A H H') : eqM B H H' := ⟨h.1, h.2.1, h.2.2.1, fun a k q => h.2.2.2.1 a k (fun z => q (hAB a k z)), h.2.2.2.2⟩
theorem Fix_eqM {A : Nat → Nat → Prop} {H H' : PH} (h : eqM A H H') (hF : Fix H) : Fix H' := by unfold Fix; rw [h.2.1, h.2.2.1, h.1]; exact hF
def isNx (a k : Nat) : Prop := a = 33 ∧ (k = 43 ∨ k = 45 ∨ k = 46 ∨ k = 47)
/-- the reference's tape reads bf -/
def MTp (H : PH) (bf : Nat → Int32) (N : Nat) : Prop := BF bf N ∧ hI H 33 44 = nI N ∧ ∀ j, j < N → hI H 61 j = bf j
theorem MTp_nx {H H1 : PH} {bf : Nat → Int32} {N : Nat} (he : eqM isNx H H1) (hT : MTp H bf N) : MTp H1 bf N := ⟨hT.1, by rw [he.2.2.2.1 33 44 (by unfold isNx; omega)]; exact hT.2.1, fun j hj => by rw [he.2.2.2.1 61 j (by unfold isNx; omega)]; exact hT.2.2 j hj⟩
section MN
variable {d : Nat} {H : PH} {Q : Option Value → PH → Prop} {bf : Nat → Int32} {N : Nat}
theorem c_X12_here {p k : Nat} (hF : Fix H) (hT : MTp H bf N) (hp : hI H 33 43 = nI p) (hpk : p + k < 2 ^ 30) (hq : Q (some (.int (bf (p + k)))) H) : Wp mX12_here d 0 0 0 [some (.ref 33), some (.int (nI k))] [] H Q := by
  have hN := hT.1.1
  rcases Nat.lt_or_ge (p + k) N with h | h
  · have hlt := h
    refine wp_aload_n dX12_here_0 rfl ?_
    refine wp_geti dX12_here_1 fl_RX12_219 rfl (fk_33 hF) ?_
    rw [hp]
    refine wp_iload_n dX12_here_4 rfl ?_
    refine wp_iadd dX12_here_5 ?_
    rw [nI_add]
    refine wp_aload_n dX12_here_6 rfl ?_
    refine wp_geti dX12_here_7 fl_RX12_222 rfl (fk_33 hF) ?_
    rw [hT.2.1]
    refine wp_icmp_ge (tgt := 27) dX12_here_10 (by decide) (fun h10 => absurd h10 (nI_ge h (by omega))) (fun _ => ?_)
    refine wp_aload_n dX12_here_13 rfl ?_
    refine wp_geta dX12_here_14 fl_RX12_102 rfl (fk_33 hF) (fr_33_39 hF) ?_
    refine wp_aload_n dX12_here_17 rfl ?_
    refine wp_geti dX12_here_18 fl_RX12_219 rfl (fk_33 hF) ?_
    rw [hp]
    refine wp_iload_n dX12_here_21 rfl ?_
    refine wp_iadd dX12_here_22 ?_
    rw [nI_add]
    refine wp_ialoadN dX12_here_23 (fk_61 hF) (by omega) (by decide) ?_
    rw [hT.2.2 _ h]
    refine wp_goto (tgt := 28) dX12_here_24 (by decide) ?_
    refine wp_ireturn rfl dX12_here_28 ?_
    exact hq
  · have hge := h
    refine wp_aload_n dX12_here_0 rfl ?_
    refine wp_geti dX12_here_1 fl_RX12_219 rfl (fk_33 hF) ?_
    rw [hp]
    refine wp_iload_n dX12_here_4 rfl ?_
    refine wp_iadd dX12_here_5 ?_
    rw [nI_add]
    refine wp_aload_n dX12_here_6 rfl ?_
    refine wp_geti dX12_here_7 fl_RX12_222 rfl (fk_33 hF) ?_
    rw [hT.2.1]
    refine wp_icmp_ge (tgt := 27) dX12_here_10 (by decide) (fun _ => ?_) (fun h10 => absurd h10 (fun q => q (nI_le h (by omega))))
    refine wp_iconst (v := -1) dX12_here_27 (by decide) ?_
    refine wp_ireturn rfl dX12_here_28 ?_
    rw [hT.1.2.2 _ h] at hq; exact hq
theorem c_X12_isLetter {x : Int32} (hq : Q (some (.int (bI (ltB x = true)))) H) : Wp mX12_isLetter d 0 0 0 [some (.int x)] [] H Q := by
  unfold ltB at hq
  rw [show (decide (97 ≤ x ∧ x ≤ 122) = true) = (97 ≤ x ∧ x ≤ 122) from propext decide_eq_true_iff] at hq
  refine wp_iload_n dX12_isLetter_0 rfl ?_
  refine wp_bipush (v := 97) dX12_isLetter_1 (by decide) ?_
  refine wp_icmp_lt (tgt := 16) dX12_isLetter_3 (by decide) (fun h3 => ?_) (fun h3 => ?_)
  · refine wp_iconst (v := 0) dX12_isLetter_16 (by decide) ?_
    refine wp_zreturn rfl (Or.inl rfl) dX12_isLetter_17 ?_
    first | exact bq_t hq ⟨Int32.not_lt.mp h3, Int32.not_lt.mp h9⟩ | exact bq_f hq (fun q => absurd h3 (Int32.not_lt.mpr q.1)) | exact bq_f hq (fun q => absurd h9 (Int32.not_lt.mpr q.2))
  · refine wp_iload_n dX12_isLetter_6 rfl ?_
    refine wp_bipush (v := 122) dX12_isLetter_7 (by decide) ?_
    refine wp_icmp_gt (tgt := 16) dX12_isLetter_9 (by decide) (fun h9 => ?_) (fun h9 => ?_)
    · refine wp_iconst (v := 0) dX12_isLetter_16 (by decide) ?_
      refine wp_zreturn rfl (Or.inl rfl) dX12_isLetter_17 ?_
      first | exact bq_t hq ⟨Int32.not_lt.mp h3, Int32.not_lt.mp h9⟩ | exact bq_f hq (fun q => absurd h3 (Int32.not_lt.mpr q.1)) | exact bq_f hq (fun q => absurd h9 (Int32.not_lt.mpr q.2))
    · refine wp_iconst (v := 1) dX12_isLetter_12 (by decide) ?_
      refine wp_goto (tgt := 17) dX12_isLetter_13 (by decide) ?_
      refine wp_zreturn rfl (Or.inr rfl) dX12_isLetter_17 ?_
      first | exact bq_t hq ⟨Int32.not_lt.mp h3, Int32.not_lt.mp h9⟩ | exact bq_f hq (fun q => absurd h3 (Int32.not_lt.mpr q.1)) | exact bq_f hq (fun q => absurd h9 (Int32.not_lt.mpr q.2))
theorem c_X12_isDigit {x : Int32} (hq : Q (some (.int (bI (dgB x = true)))) H) : Wp mX12_isDigit d 0 0 0 [some (.int x)] [] H Q := by
  unfold dgB at hq
  rw [show (decide (48 ≤ x ∧ x ≤ 57) = true) = (48 ≤ x ∧ x ≤ 57) from propext decide_eq_true_iff] at hq
  refine wp_iload_n dX12_isDigit_0 rfl ?_
  refine wp_bipush (v := 48) dX12_isDigit_1 (by decide) ?_
  refine wp_icmp_lt (tgt := 16) dX12_isDigit_3 (by decide) (fun h3 => ?_) (fun h3 => ?_)
  · refine wp_iconst (v := 0) dX12_isDigit_16 (by decide) ?_
    refine wp_zreturn rfl (Or.inl rfl) dX12_isDigit_17 ?_
    first | exact bq_t hq ⟨Int32.not_lt.mp h3, Int32.not_lt.mp h9⟩ | exact bq_f hq (fun q => absurd h3 (Int32.not_lt.mpr q.1)) | exact bq_f hq (fun q => absurd h9 (Int32.not_lt.mpr q.2))
  · refine wp_iload_n dX12_isDigit_6 rfl ?_
    refine wp_bipush (v := 57) dX12_isDigit_7 (by decide) ?_
    refine wp_icmp_gt (tgt := 16) dX12_isDigit_9 (by decide) (fun h9 => ?_) (fun h9 => ?_)
    · refine wp_iconst (v := 0) dX12_isDigit_16 (by decide) ?_
      refine wp_zreturn rfl (Or.inl rfl) dX12_isDigit_17 ?_
      first | exact bq_t hq ⟨Int32.not_lt.mp h3, Int32.not_lt.mp h9⟩ | exact bq_f hq (fun q => absurd h3 (Int32.not_lt.mpr q.1)) | exact bq_f hq (fun q => absurd h9 (Int32.not_lt.mpr q.2))
    · refine wp_iconst (v := 1) dX12_isDigit_12 (by decide) ?_
      refine wp_goto (tgt := 17) dX12_isDigit_13 (by decide) ?_
      refine wp_zreturn rfl (Or.inr rfl) dX12_isDigit_17 ?_
      first | exact bq_t hq ⟨Int32.not_lt.mp h3, Int32.not_lt.mp h9⟩ | exact bq_f hq (fun q => absurd h3 (Int32.not_lt.mpr q.1)) | exact bq_f hq (fun q => absurd h9 (Int32.not_lt.mpr q.2))
theorem sg_ten (x : Int32) : sgB x = true ↔ (x = 59 ∨ x = 61 ∨ x = 60 ∨ x = 62 ∨ x = 43 ∨ x = 45 ∨ x = 42 ∨ x = 47 ∨ x = 40 ∨ x = 41) := by
  unfold sgB
  rw [decide_eq_true_iff]
  have le2 : ∀ (a b : Int32), a ≤ b ↔ a.toInt ≤ b.toInt := fun a b => Int32.le_iff_toInt_le
  have eq2 : ∀ (a b : Int32), a = b ↔ a.toInt = b.toInt := fun a b => Int32.toInt_inj.symm
  simp only [le2, eq2]
  have : (59 : Int32).toInt = 59 ∧ (60 : Int32).toInt = 60 ∧ (61 : Int32).toInt = 61 ∧ (62 : Int32).toInt = 62 ∧ (40 : Int32).toInt = 40 ∧ (41 : Int32).toInt = 41 ∧ (42 : Int32).toInt = 42 ∧ (43 : Int32).toInt = 43 ∧ (45 : Int32).toInt = 45 ∧ (47 : Int32).toInt = 47 := by decide
  omega
theorem c_X12_isSign {x : Int32} (hq : Q (some (.int (bI (sgB x = true)))) H) : Wp mX12_isSign d 0 0 0 [some (.int x)] [] H Q := by
  rw [show (sgB x = true) = (x = 59 ∨ x = 61 ∨ x = 60 ∨ x = 62 ∨ x = 43 ∨ x = 45 ∨ x = 42 ∨ x = 47 ∨ x = 40 ∨ x = 41) from propext (sg_ten x)] at hq
  refine wp_iload_n dX12_isSign_0 rfl ?_
  refine wp_bipush (v := 59) dX12_isSign_1 (by decide) ?_
  refine wp_icmp_eq (tgt := 60) dX12_isSign_3 (by decide) (fun h3 => ?_) (fun h3 => ?_)
  · refine wp_iconst (v := 1) dX12_isSign_60 (by decide) ?_
    refine wp_goto (tgt := 65) dX12_isSign_61 (by decide) ?_
    refine wp_zreturn rfl (Or.inr rfl) dX12_isSign_65 ?_
    first
        | exact bq_t hq (Or.inl h3)
        | exact bq_t hq (Or.inr (Or.inl h9))
        | exact bq_t hq (Or.inr (Or.inr (Or.inl h15)))
        | exact bq_t hq (Or.inr (Or.inr (Or.inr (Or.inl h21))))
        | exact bq_t hq (Or.inr (Or.inr (Or.inr (Or.inr (Or.inl h27)))))
        | exact bq_t hq (Or.inr (Or.inr (Or.inr (Or.inr (Or.inr (Or.inl h33))))))
        | exact bq_t hq (Or.inr (Or.inr (Or.inr (Or.inr (Or.inr (Or.inr (Or.inl h39)))))))
        | exact bq_t hq (Or.inr (Or.inr (Or.inr (Or.inr (Or.inr (Or.inr (Or.inr (Or.inl h45))))))))
        | exact bq_t hq (Or.inr (Or.inr (Or.inr (Or.inr (Or.inr (Or.inr (Or.inr (Or.inr (Or.inl h51)))))))))
        | exact bq_t hq (Or.inr (Or.inr (Or.inr (Or.inr (Or.inr (Or.inr (Or.inr (Or.inr (Or.inr h57)))))))))
        | exact bq_f hq (fun q => by rcases q with q | q | q | q | q | q | q | q | q | q <;> first | exact h3 q | exact h9 q | exact h15 q | exact h21 q | exact h27 q | exact h33 q | exact h39 q | exact h45 q | exact h51 q | exact h57 q)
  · refine wp_iload_n dX12_isSign_6 rfl ?_
    refine wp_bipush (v := 61) dX12_isSign_7 (by decide) ?_
    refine wp_icmp_eq (tgt := 60) dX12_isSign_9 (by decide) (fun h9 => ?_) (fun h9 => ?_)
    · refine wp_iconst (v := 1) dX12_isSign_60 (by decide) ?_
      refine wp_goto (tgt := 65) dX12_isSign_61 (by decide) ?_
      refine wp_zreturn rfl (Or.inr rfl) dX12_isSign_65 ?_
      first
          | exact bq_t hq (Or.inl h3)
          | exact bq_t hq (Or.inr (Or.inl h9))
          | exact bq_t hq (Or.inr (Or.inr (Or.inl h15)))
          | exact bq_t hq (Or.inr (Or.inr (Or.inr (Or.inl h21))))
          | exact bq_t hq (Or.inr (Or.inr (Or.inr (Or.inr (Or.inl h27)))))
          | exact bq_t hq (Or.inr (Or.inr (Or.inr (Or.inr (Or.inr (Or.inl h33))))))
          | exact bq_t hq (Or.inr (Or.inr (Or.inr (Or.inr (Or.inr (Or.inr (Or.inl h39)))))))
          | exact bq_t hq (Or.inr (Or.inr (Or.inr (Or.inr (Or.inr (Or.inr (Or.inr (Or.inl h45))))))))
          | exact bq_t hq (Or.inr (Or.inr (Or.inr (Or.inr (Or.inr (Or.inr (Or.inr (Or.inr (Or.inl h51)))))))))
          | exact bq_t hq (Or.inr (Or.inr (Or.inr (Or.inr (Or.inr (Or.inr (Or.inr (Or.inr (Or.inr h57)))))))))
          | exact bq_f hq (fun q => by rcases q with q | q | q | q | q | q | q | q | q | q <;> first | exact h3 q | exact h9 q | exact h15 q | exact h21 q | exact h27 q | exact h33 q | exact h39 q | exact h45 q | exact h51 q | exact h57 q)
    · refine wp_iload_n dX12_isSign_12 rfl ?_
      refine wp_bipush (v := 60) dX12_isSign_13 (by decide) ?_
      refine wp_icmp_eq (tgt := 60) dX12_isSign_15 (by decide) (fun h15 => ?_) (fun h15 => ?_)
      · refine wp_iconst (v := 1) dX12_isSign_60 (by decide) ?_
        refine wp_goto (tgt := 65) dX12_isSign_61 (by decide) ?_
        refine wp_zreturn rfl (Or.inr rfl) dX12_isSign_65 ?_
        first
            | exact bq_t hq (Or.inl h3)
            | exact bq_t hq (Or.inr (Or.inl h9))
            | exact bq_t hq (Or.inr (Or.inr (Or.inl h15)))
            | exact bq_t hq (Or.inr (Or.inr (Or.inr (Or.inl h21))))
            | exact bq_t hq (Or.inr (Or.inr (Or.inr (Or.inr (Or.inl h27)))))
            | exact bq_t hq (Or.inr (Or.inr (Or.inr (Or.inr (Or.inr (Or.inl h33))))))
            | exact bq_t hq (Or.inr (Or.inr (Or.inr (Or.inr (Or.inr (Or.inr (Or.inl h39)))))))
            | exact bq_t hq (Or.inr (Or.inr (Or.inr (Or.inr (Or.inr (Or.inr (Or.inr (Or.inl h45))))))))
            | exact bq_t hq (Or.inr (Or.inr (Or.inr (Or.inr (Or.inr (Or.inr (Or.inr (Or.inr (Or.inl h51)))))))))
            | exact bq_t hq (Or.inr (Or.inr (Or.inr (Or.inr (Or.inr (Or.inr (Or.inr (Or.inr (Or.inr h57)))))))))
            | exact bq_f hq (fun q => by rcases q with q | q | q | q | q | q | q | q | q | q <;> first | exact h3 q | exact h9 q | exact h15 q | exact h21 q | exact h27 q | exact h33 q | exact h39 q | exact h45 q | exact h51 q | exact h57 q)
      · refine wp_iload_n dX12_isSign_18 rfl ?_
        refine wp_bipush (v := 62) dX12_isSign_19 (by decide) ?_
        refine wp_icmp_eq (tgt := 60) dX12_isSign_21 (by decide) (fun h21 => ?_) (fun h21 => ?_)
        · refine wp_iconst (v := 1) dX12_isSign_60 (by decide) ?_
          refine wp_goto (tgt := 65) dX12_isSign_61 (by decide) ?_
          refine wp_zreturn rfl (Or.inr rfl) dX12_isSign_65 ?_
          first
              | exact bq_t hq (Or.inl h3)
              | exact bq_t hq (Or.inr (Or.inl h9))
              | exact bq_t hq (Or.inr (Or.inr (Or.inl h15)))
              | exact bq_t hq (Or.inr (Or.inr (Or.inr (Or.inl h21))))
              | exact bq_t hq (Or.inr (Or.inr (Or.inr (Or.inr (Or.inl h27)))))
              | exact bq_t hq (Or.inr (Or.inr (Or.inr (Or.inr (Or.inr (Or.inl h33))))))
              | exact bq_t hq (Or.inr (Or.inr (Or.inr (Or.inr (Or.inr (Or.inr (Or.inl h39)))))))
              | exact bq_t hq (Or.inr (Or.inr (Or.inr (Or.inr (Or.inr (Or.inr (Or.inr (Or.inl h45))))))))
              | exact bq_t hq (Or.inr (Or.inr (Or.inr (Or.inr (Or.inr (Or.inr (Or.inr (Or.inr (Or.inl h51)))))))))
              | exact bq_t hq (Or.inr (Or.inr (Or.inr (Or.inr (Or.inr (Or.inr (Or.inr (Or.inr (Or.inr h57)))))))))
              | exact bq_f hq (fun q => by rcases q with q | q | q | q | q | q | q | q | q | q <;> first | exact h3 q | exact h9 q | exact h15 q | exact h21 q | exact h27 q | exact h33 q | exact h39 q | exact h45 q | exact h51 q | exact h57 q)
        · refine wp_iload_n dX12_isSign_24 rfl ?_
          refine wp_bipush (v := 43) dX12_isSign_25 (by decide) ?_
          refine wp_icmp_eq (tgt := 60) dX12_isSign_27 (by decide) (fun h27 => ?_) (fun h27 => ?_)
          · refine wp_iconst (v := 1) dX12_isSign_60 (by decide) ?_
            refine wp_goto (tgt := 65) dX12_isSign_61 (by decide) ?_
            refine wp_zreturn rfl (Or.inr rfl) dX12_isSign_65 ?_
            first
                | exact bq_t hq (Or.inl h3)
                | exact bq_t hq (Or.inr (Or.inl h9))
                | exact bq_t hq (Or.inr (Or.inr (Or.inl h15)))
                | exact bq_t hq (Or.inr (Or.inr (Or.inr (Or.inl h21))))
                | exact bq_t hq (Or.inr (Or.inr (Or.inr (Or.inr (Or.inl h27)))))
                | exact bq_t hq (Or.inr (Or.inr (Or.inr (Or.inr (Or.inr (Or.inl h33))))))
                | exact bq_t hq (Or.inr (Or.inr (Or.inr (Or.inr (Or.inr (Or.inr (Or.inl h39)))))))
                | exact bq_t hq (Or.inr (Or.inr (Or.inr (Or.inr (Or.inr (Or.inr (Or.inr (Or.inl h45))))))))
                | exact bq_t hq (Or.inr (Or.inr (Or.inr (Or.inr (Or.inr (Or.inr (Or.inr (Or.inr (Or.inl h51)))))))))
                | exact bq_t hq (Or.inr (Or.inr (Or.inr (Or.inr (Or.inr (Or.inr (Or.inr (Or.inr (Or.inr h57)))))))))
                | exact bq_f hq (fun q => by rcases q with q | q | q | q | q | q | q | q | q | q <;> first | exact h3 q | exact h9 q | exact h15 q | exact h21 q | exact h27 q | exact h33 q | exact h39 q | exact h45 q | exact h51 q | exact h57 q)
          · refine wp_iload_n dX12_isSign_30 rfl ?_
            refine wp_bipush (v := 45) dX12_isSign_31 (by decide) ?_
            refine wp_icmp_eq (tgt := 60) dX12_isSign_33 (by decide) (fun h33 => ?_) (fun h33 => ?_)
            · refine wp_iconst (v := 1) dX12_isSign_60 (by decide) ?_
              refine wp_goto (tgt := 65) dX12_isSign_61 (by decide) ?_
              refine wp_zreturn rfl (Or.inr rfl) dX12_isSign_65 ?_
              first
                  | exact bq_t hq (Or.inl h3)
                  | exact bq_t hq (Or.inr (Or.inl h9))
                  | exact bq_t hq (Or.inr (Or.inr (Or.inl h15)))
                  | exact bq_t hq (Or.inr (Or.inr (Or.inr (Or.inl h21))))
                  | exact bq_t hq (Or.inr (Or.inr (Or.inr (Or.inr (Or.inl h27)))))
                  | exact bq_t hq (Or.inr (Or.inr (Or.inr (Or.inr (Or.inr (Or.inl h33))))))
                  | exact bq_t hq (Or.inr (Or.inr (Or.inr (Or.inr (Or.inr (Or.inr (Or.inl h39)))))))
                  | exact bq_t hq (Or.inr (Or.inr (Or.inr (Or.inr (Or.inr (Or.inr (Or.inr (Or.inl h45))))))))
                  | exact bq_t hq (Or.inr (Or.inr (Or.inr (Or.inr (Or.inr (Or.inr (Or.inr (Or.inr (Or.inl h51)))))))))
                  | exact bq_t hq (Or.inr (Or.inr (Or.inr (Or.inr (Or.inr (Or.inr (Or.inr (Or.inr (Or.inr h57)))))))))
                  | exact bq_f hq (fun q => by rcases q with q | q | q | q | q | q | q | q | q | q <;> first | exact h3 q | exact h9 q | exact h15 q | exact h21 q | exact h27 q | exact h33 q | exact h39 q | exact h45 q | exact h51 q | exact h57 q)
            · refine wp_iload_n dX12_isSign_36 rfl ?_
              refine wp_bipush (v := 42) dX12_isSign_37 (by decide) ?_
              refine wp_icmp_eq (tgt := 60) dX12_isSign_39 (by decide) (fun h39 => ?_) (fun h39 => ?_)
              · refine wp_iconst (v := 1) dX12_isSign_60 (by decide) ?_
                refine wp_goto (tgt := 65) dX12_isSign_61 (by decide) ?_
                refine wp_zreturn rfl (Or.inr rfl) dX12_isSign_65 ?_
                first
                    | exact bq_t hq (Or.inl h3)
                    | exact bq_t hq (Or.inr (Or.inl h9))
                    | exact bq_t hq (Or.inr (Or.inr (Or.inl h15)))
                    | exact bq_t hq (Or.inr (Or.inr (Or.inr (Or.inl h21))))
                    | exact bq_t hq (Or.inr (Or.inr (Or.inr (Or.inr (Or.inl h27)))))
                    | exact bq_t hq (Or.inr (Or.inr (Or.inr (Or.inr (Or.inr (Or.inl h33))))))
                    | exact bq_t hq (Or.inr (Or.inr (Or.inr (Or.inr (Or.inr (Or.inr (Or.inl h39)))))))
                    | exact bq_t hq (Or.inr (Or.inr (Or.inr (Or.inr (Or.inr (Or.inr (Or.inr (Or.inl h45))))))))
                    | exact bq_t hq (Or.inr (Or.inr (Or.inr (Or.inr (Or.inr (Or.inr (Or.inr (Or.inr (Or.inl h51)))))))))
                    | exact bq_t hq (Or.inr (Or.inr (Or.inr (Or.inr (Or.inr (Or.inr (Or.inr (Or.inr (Or.inr h57)))))))))
                    | exact bq_f hq (fun q => by rcases q with q | q | q | q | q | q | q | q | q | q <;> first | exact h3 q | exact h9 q | exact h15 q | exact h21 q | exact h27 q | exact h33 q | exact h39 q | exact h45 q | exact h51 q | exact h57 q)
              · refine wp_iload_n dX12_isSign_42 rfl ?_
                refine wp_bipush (v := 47) dX12_isSign_43 (by decide) ?_
                refine wp_icmp_eq (tgt := 60) dX12_isSign_45 (by decide) (fun h45 => ?_) (fun h45 => ?_)
                · refine wp_iconst (v := 1) dX12_isSign_60 (by decide) ?_
                  refine wp_goto (tgt := 65) dX12_isSign_61 (by decide) ?_
                  refine wp_zreturn rfl (Or.inr rfl) dX12_isSign_65 ?_
                  first
                      | exact bq_t hq (Or.inl h3)
                      | exact bq_t hq (Or.inr (Or.inl h9))
                      | exact bq_t hq (Or.inr (Or.inr (Or.inl h15)))
                      | exact bq_t hq (Or.inr (Or.inr (Or.inr (Or.inl h21))))
                      | exact bq_t hq (Or.inr (Or.inr (Or.inr (Or.inr (Or.inl h27)))))
                      | exact bq_t hq (Or.inr (Or.inr (Or.inr (Or.inr (Or.inr (Or.inl h33))))))
                      | exact bq_t hq (Or.inr (Or.inr (Or.inr (Or.inr (Or.inr (Or.inr (Or.inl h39)))))))
                      | exact bq_t hq (Or.inr (Or.inr (Or.inr (Or.inr (Or.inr (Or.inr (Or.inr (Or.inl h45))))))))
                      | exact bq_t hq (Or.inr (Or.inr (Or.inr (Or.inr (Or.inr (Or.inr (Or.inr (Or.inr (Or.inl h51)))))))))
                      | exact bq_t hq (Or.inr (Or.inr (Or.inr (Or.inr (Or.inr (Or.inr (Or.inr (Or.inr (Or.inr h57)))))))))
                      | exact bq_f hq (fun q => by rcases q with q | q | q | q | q | q | q | q | q | q <;> first | exact h3 q | exact h9 q | exact h15 q | exact h21 q | exact h27 q | exact h33 q | exact h39 q | exact h45 q | exact h51 q | exact h57 q)
                · refine wp_iload_n dX12_isSign_48 rfl ?_
                  refine wp_bipush (v := 40) dX12_isSign_49 (by decide) ?_
                  refine wp_icmp_eq (tgt := 60) dX12_isSign_51 (by decide) (fun h51 => ?_) (fun h51 => ?_)
                  · refine wp_iconst (v := 1) dX12_isSign_60 (by decide) ?_
                    refine wp_goto (tgt := 65) dX12_isSign_61 (by decide) ?_
                    refine wp_zreturn rfl (Or.inr rfl) dX12_isSign_65 ?_
                    first
                        | exact bq_t hq (Or.inl h3)
                        | exact bq_t hq (Or.inr (Or.inl h9))
                        | exact bq_t hq (Or.inr (Or.inr (Or.inl h15)))
                        | exact bq_t hq (Or.inr (Or.inr (Or.inr (Or.inl h21))))
                        | exact bq_t hq (Or.inr (Or.inr (Or.inr (Or.inr (Or.inl h27)))))
                        | exact bq_t hq (Or.inr (Or.inr (Or.inr (Or.inr (Or.inr (Or.inl h33))))))
                        | exact bq_t hq (Or.inr (Or.inr (Or.inr (Or.inr (Or.inr (Or.inr (Or.inl h39)))))))
                        | exact bq_t hq (Or.inr (Or.inr (Or.inr (Or.inr (Or.inr (Or.inr (Or.inr (Or.inl h45))))))))
                        | exact bq_t hq (Or.inr (Or.inr (Or.inr (Or.inr (Or.inr (Or.inr (Or.inr (Or.inr (Or.inl h51)))))))))
                        | exact bq_t hq (Or.inr (Or.inr (Or.inr (Or.inr (Or.inr (Or.inr (Or.inr (Or.inr (Or.inr h57)))))))))
                        | exact bq_f hq (fun q => by rcases q with q | q | q | q | q | q | q | q | q | q <;> first | exact h3 q | exact h9 q | exact h15 q | exact h21 q | exact h27 q | exact h33 q | exact h39 q | exact h45 q | exact h51 q | exact h57 q)
                  · refine wp_iload_n dX12_isSign_54 rfl ?_
                    refine wp_bipush (v := 41) dX12_isSign_55 (by decide) ?_
                    refine wp_icmp_ne (tgt := 64) dX12_isSign_57 (by decide) (fun h57 => ?_) (fun h57 => ?_)
                    · refine wp_iconst (v := 0) dX12_isSign_64 (by decide) ?_
                      refine wp_zreturn rfl (Or.inl rfl) dX12_isSign_65 ?_
                      first
                          | exact bq_t hq (Or.inl h3)
                          | exact bq_t hq (Or.inr (Or.inl h9))
                          | exact bq_t hq (Or.inr (Or.inr (Or.inl h15)))
                          | exact bq_t hq (Or.inr (Or.inr (Or.inr (Or.inl h21))))
                          | exact bq_t hq (Or.inr (Or.inr (Or.inr (Or.inr (Or.inl h27)))))
                          | exact bq_t hq (Or.inr (Or.inr (Or.inr (Or.inr (Or.inr (Or.inl h33))))))
                          | exact bq_t hq (Or.inr (Or.inr (Or.inr (Or.inr (Or.inr (Or.inr (Or.inl h39)))))))
                          | exact bq_t hq (Or.inr (Or.inr (Or.inr (Or.inr (Or.inr (Or.inr (Or.inr (Or.inl h45))))))))
                          | exact bq_t hq (Or.inr (Or.inr (Or.inr (Or.inr (Or.inr (Or.inr (Or.inr (Or.inr (Or.inl h51)))))))))
                          | exact bq_t hq (Or.inr (Or.inr (Or.inr (Or.inr (Or.inr (Or.inr (Or.inr (Or.inr (Or.inr h57)))))))))
                          | exact bq_f hq (fun q => by rcases q with q | q | q | q | q | q | q | q | q | q <;> first | exact h3 q | exact h9 q | exact h15 q | exact h21 q | exact h27 q | exact h33 q | exact h39 q | exact h45 q | exact h51 q | exact h57 q)
                    · refine wp_iconst (v := 1) dX12_isSign_60 (by decide) ?_
                      refine wp_goto (tgt := 65) dX12_isSign_61 (by decide) ?_
                      refine wp_zreturn rfl (Or.inr rfl) dX12_isSign_65 ?_
                      first
                          | exact bq_t hq (Or.inl h3)
                          | exact bq_t hq (Or.inr (Or.inl h9))
                          | exact bq_t hq (Or.inr (Or.inr (Or.inl h15)))
                          | exact bq_t hq (Or.inr (Or.inr (Or.inr (Or.inl h21))))
                          | exact bq_t hq (Or.inr (Or.inr (Or.inr (Or.inr (Or.inl h27)))))
                          | exact bq_t hq (Or.inr (Or.inr (Or.inr (Or.inr (Or.inr (Or.inl h33))))))
                          | exact bq_t hq (Or.inr (Or.inr (Or.inr (Or.inr (Or.inr (Or.inr (Or.inl h39)))))))
                          | exact bq_t hq (Or.inr (Or.inr (Or.inr (Or.inr (Or.inr (Or.inr (Or.inr (Or.inl h45))))))))
                          | exact bq_t hq (Or.inr (Or.inr (Or.inr (Or.inr (Or.inr (Or.inr (Or.inr (Or.inr (Or.inl h51)))))))))
                          | exact bq_t hq (Or.inr (Or.inr (Or.inr (Or.inr (Or.inr (Or.inr (Or.inr (Or.inr (Or.inr h57)))))))))
                          | exact bq_f hq (fun q => by rcases q with q | q | q | q | q | q | q | q | q | q <;> first | exact h3 q | exact h9 q | exact h15 q | exact h21 q | exact h27 q | exact h33 q | exact h39 q | exact h45 q | exact h51 q | exact h57 q)
/-- the reference stands at the token at s -/
def mTok (bf : Nat → Int32) (N s : Nat) (H : PH) : Prop := hI H 33 45 = nI (srt bf N s) ∧ hI H 33 46 = nI s ∧ hI H 33 43 = nI (if srt bf N s = 3 then s else nxA bf N s) ∧ (srt bf N s = 1 → hL H 33 48 = wvI bf s (le bf N s - s) ∧ hI H 33 47 = 0) ∧ (srt bf N s = 2 → hI H 33 47 = nvI bf s (de bf N s - s))
theorem l_next_end {s n : Nat} {x1 : Int32} {H1 : PH} (hF : Fix H) (he : eqM isNx H H1) (hs : s ≤ N) (hN : N ≤ 600) (hn : n ≤ 600) (k45 : hI H1 33 45 = nI (srt bf N s)) (k46 : hI H1 33 46 = nI s) (k43 : hI H1 33 43 = nI s) (kn : srt bf N s ≠ 3 → s + n = nxA bf N s) (k3 : srt bf N s < 1000) (kw : srt bf N s = 1 → hL H1 33 48 = wvI bf s (le bf N s - s) ∧ hI H1 33 47 = 0) (kd : srt bf N s = 2 → hI H1 33 47 = nvI bf s (de bf N s - s)) (hq : ∀ H', eqM isNx H H' → mTok bf N s H' → Q none H') : Wp mX12_next d 0 0 234 [some (.ref 33), some (.int x1), some (.int (nI n))] [] H1 Q := by
  have hF1 := Fix_eqM he hF
  by_cases h3 : srt bf N s = 3
  · have h3' := h3
    refine wp_aload_n dX12_next_234 rfl ?_
    refine wp_geti dX12_next_235 fl_RX12_238 rfl (fk_33 hF1) ?_
    rw [k45, h3]
    refine wp_iconst (v := 3) dX12_next_238 (by decide) ?_
    refine wp_icmp_eq (tgt := 252) dX12_next_239 (by decide) (fun _ => ?_) (fun h239 => absurd h239 (fun q => q rfl))
    refine wp_return rfl dX12_next_252 ?_
    exact hq H1 he ⟨k45, k46, by rw [if_pos h3]; exact k43, kw, kd⟩
  · have h3' := h3
    refine wp_aload_n dX12_next_234 rfl ?_
    refine wp_geti dX12_next_235 fl_RX12_238 rfl (fk_33 hF1) ?_
    rw [k45]
    refine wp_iconst (v := 3) dX12_next_238 (by decide) ?_
    refine wp_icmp_eq (tgt := 252) dX12_next_239 (by decide) (fun h239 => absurd h239 (fun q => h3 ((nI_eq (a := srt bf N s) (b := 3) (by omega) (by decide)).mp q))) (fun _ => ?_)
    refine wp_aload_n dX12_next_242 rfl ?_
    refine wp_dup dX12_next_243 rfl ?_
    refine wp_geti dX12_next_244 fl_RX12_219 rfl (fk_33 hF1) ?_
    rw [k43]
    refine wp_iload_n dX12_next_247 rfl ?_
    refine wp_iadd dX12_next_248 ?_
    rw [nI_add, kn h3]
    refine wp_puti dX12_next_249 fl_RX12_219 (mp_12_43 _ _) rfl (fk_33 hF1) ?_
    refine wp_return rfl dX12_next_252 ?_
    refine hq _ (eqM_sI he ⟨rfl, by omega⟩) ⟨?_, ?_, ?_, fun z => ?_, fun z => ?_⟩
    · rw [hI_sI', if_neg (by omega)]; exact k45
    · rw [hI_sI', if_neg (by omega)]; exact k46
    · rw [hI_sI', if_pos ⟨rfl, rfl⟩, if_neg h3]
    · rw [hI_sI', if_neg (by omega)]; exact kw z
    · rw [hI_sI', if_neg (by omega)]; exact kd z
theorem l_next_word {s : Nat} {x1 : Int32} (hF : Fix H) (hT : MTp H bf N) (hs : s ≤ N) (hlet : s < N) (hl : ltB (bf s) = true) (hq : ∀ H', eqM isNx H H' → mTok bf N s H' → Q none H') :
    ∀ (f n : Nat) (H1 : PH), N - (s + n) = f → s + n ≤ N → runP bf ltB f (s + n) = le bf N s → eqM isNx H H1 → hI H1 33 43 = nI s → hI H1 33 46 = nI s → hI H1 33 47 = 0 → hL H1 33 48 = wvI bf s (min n 8) → Wp mX12_next (d + 1) 0 0 78 [some (.ref 33), some (.int x1), some (.int (nI n))] [] H1 Q := by
  have hN := hT.1.1
  have hB := hT.1
  have hend : ∀ (n : Nat) (H1 : PH), s + n ≤ N → s + n = le bf N s → eqM isNx H H1 → hI H1 33 43 = nI s → hI H1 33 46 = nI s → hI H1 33 47 = 0 → hL H1 33 48 = wvI bf s (min n 8) → Wp mX12_next (d + 1) 0 0 119 [some (.ref 33), some (.int x1), some (.int (nI n))] [] H1 Q := by
    intro n H1 hn hle he k43 k46 k47 k48
    have hF1 := Fix_eqM he hF
    have hns : n = le bf N s - s := by omega
    have fin : ∀ k, k = srt bf N s → Wp mX12_next (d + 1) 0 0 234 [some (.ref 33), some (.int x1), some (.int (nI n))] [] (sI H1 33 45 (nI k)) Q := by
      intro k hk
      refine l_next_end hF (eqM_sI he ⟨rfl, by omega⟩) hs hN (by omega) (by rw [hI_sI', if_pos ⟨rfl, rfl⟩, hk]) (by rw [hI_sI', if_neg (by omega)]; exact k46) (by rw [hI_sI', if_neg (by omega)]; exact k43) (fun z => ?_) ?_ (fun z => ⟨?_, by rw [hI_sI', if_neg (by omega)]; exact k47⟩) (fun z => ?_) hq
      · by_cases q : le bf N s - s ≤ 8
        · rw [((tk_word hB hlet hl).1 q).2.2.1]; exact hle
        · exact absurd ((tk_word hB hlet hl).2 q).1 z
      · by_cases q : le bf N s - s ≤ 8
        · rw [((tk_word hB hlet hl).1 q).1]; decide
        · rw [((tk_word hB hlet hl).2 q).1]; decide
      · by_cases q : le bf N s - s ≤ 8
        · show hL H1 33 48 = _
          rw [k48, hns, Nat.min_eq_left q]
        · have := ((tk_word hB hlet hl).2 q).1; omega
      · by_cases q : le bf N s - s ≤ 8
        · have := ((tk_word hB hlet hl).1 q).1; omega
        · have := ((tk_word hB hlet hl).2 q).1; omega
    refine wp_aload_n dX12_next_119 rfl ?_
    refine wp_iload_n dX12_next_120 rfl ?_
    refine wp_bipush (v := 8) dX12_next_121 (by decide) ?_
    refine wp_icmp_le (tgt := 130) dX12_next_123 (by decide) (fun h123 => ?_) (fun h123 => ?_)
    · refine wp_iconst (v := 1) dX12_next_130 (by decide) ?_
      refine wp_puti dX12_next_131 fl_RX12_238 (mp_12_45 _ _) rfl (fk_33 hF1) ?_
      refine wp_goto (tgt := 234) dX12_next_134 (by decide) ?_
      first
          | exact fin 1 (by
              have := (nI_leI (a := n) (b := 8) (by omega) (by decide)).mp h123
              exact ((tk_word hB hlet hl).1 (by omega)).1.symm)
          | exact fin 3 (by
              have : ¬ n ≤ 8 := fun z => h123 (nI_le (a := n) (b := 8) z (by decide))
              exact ((tk_word hB hlet hl).2 (by omega)).1.symm)
    · refine wp_iconst (v := 3) dX12_next_126 (by decide) ?_
      refine wp_goto (tgt := 131) dX12_next_127 (by decide) ?_
      refine wp_puti dX12_next_131 fl_RX12_238 (mp_12_45 _ _) rfl (fk_33 hF1) ?_
      refine wp_goto (tgt := 234) dX12_next_134 (by decide) ?_
      first
          | exact fin 1 (by
              have := (nI_leI (a := n) (b := 8) (by omega) (by decide)).mp h123
              exact ((tk_word hB hlet hl).1 (by omega)).1.symm)
          | exact fin 3 (by
              have : ¬ n ≤ 8 := fun z => h123 (nI_le (a := n) (b := 8) z (by decide))
              exact ((tk_word hB hlet hl).2 (by omega)).1.symm)
  intro f
  induction f with
  | zero =>
    intro n H1 hf hn hr he k43 k46 k47 k48
    have hF1 := Fix_eqM he hF
    have hT1 := MTp_nx he hT
    have hr' : s + n = le bf N s := hr
    have hno : ¬ ltB (bf (s + n)) = true := by rw [hB.2.2 (s + n) (by omega)]; decide
    refine wp_aload_n dX12_next_78 rfl ?_
    refine wp_iload_n dX12_next_79 rfl ?_
    refine wp_callv1 (ci := 12) dX12_next_80 lk_RX12_225 ok_X12_here im_X12_here se_X12_here rfl rfl (fk_33 hF1) (Nat.le_of_ble_eq_true rfl) (Nat.le_of_ble_eq_true rfl) ?_
    refine c_X12_here hF1 hT1 k43 (by omega) ?_
    refine wp_calls1 dX12_next_83 lk_RX12_241 ok_X12_isLetter st_X12_isLetter (Nat.le_of_ble_eq_true rfl) (Nat.le_of_ble_eq_true rfl) ?_
    refine c_X12_isLetter ?_
    refine wp_ifb_eq (tgt := 119) dX12_next_86 (by decide) (fun _ => ?_) (fun h86 => absurd h86 (hno))
    exact hend n H1 hn hr' he k43 k46 k47 k48
  | succ f ih =>
    intro n H1 hf hn hr he k43 k46 k47 k48
    have hF1 := Fix_eqM he hF
    have hT1 := MTp_nx he hT
    unfold runP at hr
    by_cases hlt : ltB (bf (s + n)) = true
    · rw [if_pos hlt] at hr
      rcases Nat.lt_or_ge n 8 with h8 | h8
      · have hw : wvI bf s (min (n + 1) 8) = (wvI bf s (min n 8) <<< ((8 : Int32).toInt64 &&& 63)) ||| (bf (s + n)).toInt64 := by
          rw [Nat.min_eq_left (show n + 1 ≤ 8 by omega), Nat.min_eq_left (show n ≤ 8 by omega)]; rfl
        refine wp_aload_n dX12_next_78 rfl ?_
        refine wp_iload_n dX12_next_79 rfl ?_
        refine wp_callv1 (ci := 12) dX12_next_80 lk_RX12_225 ok_X12_here im_X12_here se_X12_here rfl rfl (fk_33 hF1) (Nat.le_of_ble_eq_true rfl) (Nat.le_of_ble_eq_true rfl) ?_
        refine c_X12_here hF1 hT1 k43 (by omega) ?_
        refine wp_calls1 dX12_next_83 lk_RX12_241 ok_X12_isLetter st_X12_isLetter (Nat.le_of_ble_eq_true rfl) (Nat.le_of_ble_eq_true rfl) ?_
        refine c_X12_isLetter ?_
        refine wp_ifb_eq (tgt := 119) dX12_next_86 (by decide) (fun h86 => absurd h86 (fun q => q hlt)) (fun _ => ?_)
        refine wp_iload_n dX12_next_89 rfl ?_
        refine wp_bipush (v := 8) dX12_next_90 (by decide) ?_
        refine wp_icmp_ge (tgt := 113) dX12_next_92 (by decide) (fun h92 => absurd h92 (nI_ge (a := n) (b := 8) h8 (by decide))) (fun _ => ?_)
        refine wp_aload_n dX12_next_95 rfl ?_
        refine wp_aload_n dX12_next_96 rfl ?_
        refine wp_getl dX12_next_97 fl_RX12_231 rfl (fk_33 hF1) ?_
        rw [k48]
        refine wp_bipush (v := 8) dX12_next_100 (by decide) ?_
        refine wp_lshl dX12_next_102 ?_
        refine wp_aload_n dX12_next_103 rfl ?_
        refine wp_iload_n dX12_next_104 rfl ?_
        refine wp_callv1 (ci := 12) dX12_next_105 lk_RX12_225 ok_X12_here im_X12_here se_X12_here rfl rfl (fk_33 hF1) (Nat.le_of_ble_eq_true rfl) (Nat.le_of_ble_eq_true rfl) ?_
        refine c_X12_here hF1 hT1 k43 (by omega) ?_
        refine wp_i2l dX12_next_108 ?_
        refine wp_lor dX12_next_109 ?_
        rw [← hw]
        refine wp_putl dX12_next_110 fl_RX12_231 (mp_12_48 _ _) rfl (fk_33 hF1) ?_
        refine wp_incN dX12_next_113 rfl (by decide) ?_
        refine wp_goto (tgt := 78) dX12_next_116 (by decide) ?_
        exact ih (n + 1) _ (by omega) (by omega) hr (eqM_sL he) k43 k46 k47 (by rw [hL_sL', if_pos ⟨rfl, rfl⟩])
      · have hm : min (n + 1) 8 = min n 8 := by omega
        refine wp_aload_n dX12_next_78 rfl ?_
        refine wp_iload_n dX12_next_79 rfl ?_
        refine wp_callv1 (ci := 12) dX12_next_80 lk_RX12_225 ok_X12_here im_X12_here se_X12_here rfl rfl (fk_33 hF1) (Nat.le_of_ble_eq_true rfl) (Nat.le_of_ble_eq_true rfl) ?_
        refine c_X12_here hF1 hT1 k43 (by omega) ?_
        refine wp_calls1 dX12_next_83 lk_RX12_241 ok_X12_isLetter st_X12_isLetter (Nat.le_of_ble_eq_true rfl) (Nat.le_of_ble_eq_true rfl) ?_
        refine c_X12_isLetter ?_
        refine wp_ifb_eq (tgt := 119) dX12_next_86 (by decide) (fun h86 => absurd h86 (fun q => q hlt)) (fun _ => ?_)
        refine wp_iload_n dX12_next_89 rfl ?_
        refine wp_bipush (v := 8) dX12_next_90 (by decide) ?_
        refine wp_icmp_ge (tgt := 113) dX12_next_92 (by decide) (fun _ => ?_) (fun h92 => absurd h92 (fun q => q (nI_le (a := 8) (b := n) h8 (by omega))))
        refine wp_incN dX12_next_113 rfl (by decide) ?_
        refine wp_goto (tgt := 78) dX12_next_116 (by decide) ?_
        exact ih (n + 1) _ (by omega) (by omega) hr he k43 k46 k47 (by rw [hm]; exact k48)
    · rw [if_neg hlt] at hr
      refine wp_aload_n dX12_next_78 rfl ?_
      refine wp_iload_n dX12_next_79 rfl ?_
      refine wp_callv1 (ci := 12) dX12_next_80 lk_RX12_225 ok_X12_here im_X12_here se_X12_here rfl rfl (fk_33 hF1) (Nat.le_of_ble_eq_true rfl) (Nat.le_of_ble_eq_true rfl) ?_
      refine c_X12_here hF1 hT1 k43 (by omega) ?_
      refine wp_calls1 dX12_next_83 lk_RX12_241 ok_X12_isLetter st_X12_isLetter (Nat.le_of_ble_eq_true rfl) (Nat.le_of_ble_eq_true rfl) ?_
      refine c_X12_isLetter ?_
      refine wp_ifb_eq (tgt := 119) dX12_next_86 (by decide) (fun _ => ?_) (fun h86 => absurd h86 (hlt))
      exact hend n H1 hn hr he k43 k46 k47 k48
theorem l_next_num {s : Nat} {x1 : Int32} (hF : Fix H) (hT : MTp H bf N) (hs : s ≤ N) (hlet : s < N) (hl : ¬ ltB (bf s) = true) (hd : dgB (bf s) = true) (hq : ∀ H', eqM isNx H H' → mTok bf N s H' → Q none H') :
    ∀ (f n : Nat) (H1 : PH), N - (s + n) = f → s + n ≤ N → runP bf dgB f (s + n) = de bf N s → eqM isNx H H1 → hI H1 33 43 = nI s → hI H1 33 46 = nI s → hI H1 33 47 = nvI bf s (min n 6) → Wp mX12_next (d + 1) 0 0 144 [some (.ref 33), some (.int x1), some (.int (nI n))] [] H1 Q := by
  have hN := hT.1.1
  have hB := hT.1
  have hend : ∀ (n : Nat) (H1 : PH), s + n ≤ N → s + n = de bf N s → eqM isNx H H1 → hI H1 33 43 = nI s → hI H1 33 46 = nI s → hI H1 33 47 = nvI bf s (min n 6) → Wp mX12_next (d + 1) 0 0 187 [some (.ref 33), some (.int x1), some (.int (nI n))] [] H1 Q := by
    intro n H1 hn hle he k43 k46 k47
    have hF1 := Fix_eqM he hF
    have hT1 := MTp_nx he hT
    have hns : n = de bf N s - s := by omega
    have fin : ∀ k, k = srt bf N s → Wp mX12_next (d + 1) 0 0 234 [some (.ref 33), some (.int x1), some (.int (nI n))] [] (sI H1 33 45 (nI k)) Q := by
      intro k hk
      refine l_next_end hF (eqM_sI he ⟨rfl, by omega⟩) hs hN (by omega) (by rw [hI_sI', if_pos ⟨rfl, rfl⟩, hk]) (by rw [hI_sI', if_neg (by omega)]; exact k46) (by rw [hI_sI', if_neg (by omega)]; exact k43) (fun z => ?_) ?_ (fun z => ?_) (fun z => ?_) hq
      · by_cases q : de bf N s - s ≤ 6 ∧ ltB (bf (de bf N s)) = false
        · rw [((tk_num hB hlet hl hd).1 q).2.2.1]; exact hle
        · exact absurd ((tk_num hB hlet hl hd).2 q).1 z
      · by_cases q : de bf N s - s ≤ 6 ∧ ltB (bf (de bf N s)) = false
        · rw [((tk_num hB hlet hl hd).1 q).1]; decide
        · rw [((tk_num hB hlet hl hd).2 q).1]; decide
      · by_cases q : de bf N s - s ≤ 6 ∧ ltB (bf (de bf N s)) = false
        · have := ((tk_num hB hlet hl hd).1 q).1; omega
        · have := ((tk_num hB hlet hl hd).2 q).1; omega
      · by_cases q : de bf N s - s ≤ 6 ∧ ltB (bf (de bf N s)) = false
        · rw [hI_sI', if_neg (by omega), k47, hns, Nat.min_eq_left q.1]
        · have := ((tk_num hB hlet hl hd).2 q).1; omega
    refine wp_aload_n dX12_next_187 rfl ?_
    refine wp_iload_n dX12_next_188 rfl ?_
    refine wp_bipush (v := 6) dX12_next_189 (by decide) ?_
    refine wp_icmp_gt (tgt := 205) dX12_next_191 (by decide) (fun h191 => ?_) (fun h191 => ?_)
    · refine wp_iconst (v := 3) dX12_next_205 (by decide) ?_
      refine wp_goto (tgt := 210) dX12_next_206 (by decide) ?_
      refine wp_puti dX12_next_210 fl_RX12_238 (mp_12_45 _ _) rfl (fk_33 hF1) ?_
      refine wp_goto (tgt := 234) dX12_next_213 (by decide) ?_
      first
          | exact fin 2 (by
              have h6 : n ≤ 6 := by
                rcases Nat.lt_or_ge 6 n with z | z
                · exact absurd (nI_lt (a := 6) z (by omega)) h191
                · exact z
              exact ((tk_num hB hlet hl hd).1 ⟨by omega, by rw [← hle]; simpa using h202⟩).1.symm)
          | exact fin 3 (((tk_num hB hlet hl hd).2 (fun z => by
              first
                | exact absurd h191 (nI_nlt (a := 6) (b := n) (by omega) (by decide))
                | (rw [hle, z.2] at h202; cases h202))).1.symm)
    · refine wp_aload_n dX12_next_194 rfl ?_
      refine wp_iload_n dX12_next_195 rfl ?_
      refine wp_callv1 (ci := 12) dX12_next_196 lk_RX12_225 ok_X12_here im_X12_here se_X12_here rfl rfl (fk_33 hF1) (Nat.le_of_ble_eq_true rfl) (Nat.le_of_ble_eq_true rfl) ?_
      refine c_X12_here hF1 hT1 k43 (by omega) ?_
      refine wp_calls1 dX12_next_199 lk_RX12_241 ok_X12_isLetter st_X12_isLetter (Nat.le_of_ble_eq_true rfl) (Nat.le_of_ble_eq_true rfl) ?_
      refine c_X12_isLetter ?_
      refine wp_ifb_eq (tgt := 209) dX12_next_202 (by decide) (fun h202 => ?_) (fun h202 => ?_)
      · refine wp_iconst (v := 2) dX12_next_209 (by decide) ?_
        refine wp_puti dX12_next_210 fl_RX12_238 (mp_12_45 _ _) rfl (fk_33 hF1) ?_
        refine wp_goto (tgt := 234) dX12_next_213 (by decide) ?_
        first
            | exact fin 2 (by
                have h6 : n ≤ 6 := by
                  rcases Nat.lt_or_ge 6 n with z | z
                  · exact absurd (nI_lt (a := 6) z (by omega)) h191
                  · exact z
                exact ((tk_num hB hlet hl hd).1 ⟨by omega, by rw [← hle]; simpa using h202⟩).1.symm)
            | exact fin 3 (((tk_num hB hlet hl hd).2 (fun z => by
                first
                  | exact absurd h191 (nI_nlt (a := 6) (b := n) (by omega) (by decide))
                  | (rw [hle, z.2] at h202; cases h202))).1.symm)
      · refine wp_iconst (v := 3) dX12_next_205 (by decide) ?_
        refine wp_goto (tgt := 210) dX12_next_206 (by decide) ?_
        refine wp_puti dX12_next_210 fl_RX12_238 (mp_12_45 _ _) rfl (fk_33 hF1) ?_
        refine wp_goto (tgt := 234) dX12_next_213 (by decide) ?_
        first
            | exact fin 2 (by
                have h6 : n ≤ 6 := by
                  rcases Nat.lt_or_ge 6 n with z | z
                  · exact absurd (nI_lt (a := 6) z (by omega)) h191
                  · exact z
                exact ((tk_num hB hlet hl hd).1 ⟨by omega, by rw [← hle]; simpa using h202⟩).1.symm)
            | exact fin 3 (((tk_num hB hlet hl hd).2 (fun z => by
                first
                  | exact absurd h191 (nI_nlt (a := 6) (b := n) (by omega) (by decide))
                  | (rw [hle, z.2] at h202; cases h202))).1.symm)
  intro f
  induction f with
  | zero =>
    intro n H1 hf hn hr he k43 k46 k47
    have hF1 := Fix_eqM he hF
    have hT1 := MTp_nx he hT
    have hr' : s + n = de bf N s := hr
    have hno : ¬ dgB (bf (s + n)) = true := by rw [hB.2.2 (s + n) (by omega)]; decide
    refine wp_aload_n dX12_next_144 rfl ?_
    refine wp_iload_n dX12_next_145 rfl ?_
    refine wp_callv1 (ci := 12) dX12_next_146 lk_RX12_225 ok_X12_here im_X12_here se_X12_here rfl rfl (fk_33 hF1) (Nat.le_of_ble_eq_true rfl) (Nat.le_of_ble_eq_true rfl) ?_
    refine c_X12_here hF1 hT1 k43 (by omega) ?_
    refine wp_calls1 dX12_next_149 lk_RX12_244 ok_X12_isDigit st_X12_isDigit (Nat.le_of_ble_eq_true rfl) (Nat.le_of_ble_eq_true rfl) ?_
    refine c_X12_isDigit ?_
    refine wp_ifb_eq (tgt := 187) dX12_next_152 (by decide) (fun _ => ?_) (fun h152 => absurd h152 (hno))
    exact hend n H1 hn hr' he k43 k46 k47
  | succ f ih =>
    intro n H1 hf hn hr he k43 k46 k47
    have hF1 := Fix_eqM he hF
    have hT1 := MTp_nx he hT
    unfold runP at hr
    by_cases hlt : dgB (bf (s + n)) = true
    · rw [if_pos hlt] at hr
      rcases Nat.lt_or_ge n 6 with h8 | h8
      · have hw : nvI bf s (min (n + 1) 6) = 10 * nvI bf s (min n 6) + bf (s + n) - 48 := by
          rw [Nat.min_eq_left (show n + 1 ≤ 6 by omega), Nat.min_eq_left (show n ≤ 6 by omega)]; rfl
        refine wp_aload_n dX12_next_144 rfl ?_
        refine wp_iload_n dX12_next_145 rfl ?_
        refine wp_callv1 (ci := 12) dX12_next_146 lk_RX12_225 ok_X12_here im_X12_here se_X12_here rfl rfl (fk_33 hF1) (Nat.le_of_ble_eq_true rfl) (Nat.le_of_ble_eq_true rfl) ?_
        refine c_X12_here hF1 hT1 k43 (by omega) ?_
        refine wp_calls1 dX12_next_149 lk_RX12_244 ok_X12_isDigit st_X12_isDigit (Nat.le_of_ble_eq_true rfl) (Nat.le_of_ble_eq_true rfl) ?_
        refine c_X12_isDigit ?_
        refine wp_ifb_eq (tgt := 187) dX12_next_152 (by decide) (fun h152 => absurd h152 (fun q => q hlt)) (fun _ => ?_)
        refine wp_iload_n dX12_next_155 rfl ?_
        refine wp_bipush (v := 6) dX12_next_156 (by decide) ?_
        refine wp_icmp_ge (tgt := 181) dX12_next_158 (by decide) (fun h158 => absurd h158 (nI_ge (a := n) (b := 6) h8 (by decide))) (fun _ => ?_)
        refine wp_aload_n dX12_next_161 rfl ?_
        refine wp_bipush (v := 10) dX12_next_162 (by decide) ?_
        refine wp_aload_n dX12_next_164 rfl ?_
        refine wp_geti dX12_next_165 fl_RX12_235 rfl (fk_33 hF1) ?_
        rw [k47]
        refine wp_imul dX12_next_168 ?_
        refine wp_aload_n dX12_next_169 rfl ?_
        refine wp_iload_n dX12_next_170 rfl ?_
        refine wp_callv1 (ci := 12) dX12_next_171 lk_RX12_225 ok_X12_here im_X12_here se_X12_here rfl rfl (fk_33 hF1) (Nat.le_of_ble_eq_true rfl) (Nat.le_of_ble_eq_true rfl) ?_
        refine c_X12_here hF1 hT1 k43 (by omega) ?_
        refine wp_iadd dX12_next_174 ?_
        refine wp_bipush (v := 48) dX12_next_175 (by decide) ?_
        refine wp_isub dX12_next_177 ?_
        rw [← hw]
        refine wp_puti dX12_next_178 fl_RX12_235 (mp_12_47 _ _) rfl (fk_33 hF1) ?_
        refine wp_incN dX12_next_181 rfl (by decide) ?_
        refine wp_goto (tgt := 144) dX12_next_184 (by decide) ?_
        refine ih (n + 1) _ (by omega) (by omega) hr (eqM_sI he ⟨rfl, by omega⟩) ?_ ?_ ?_
        · rw [hI_sI', if_neg (by omega)]; exact k43
        · rw [hI_sI', if_neg (by omega)]; exact k46
        · rw [hI_sI', if_pos ⟨rfl, rfl⟩]
      · have hm : min (n + 1) 6 = min n 6 := by omega
        refine wp_aload_n dX12_next_144 rfl ?_
        refine wp_iload_n dX12_next_145 rfl ?_
        refine wp_callv1 (ci := 12) dX12_next_146 lk_RX12_225 ok_X12_here im_X12_here se_X12_here rfl rfl (fk_33 hF1) (Nat.le_of_ble_eq_true rfl) (Nat.le_of_ble_eq_true rfl) ?_
        refine c_X12_here hF1 hT1 k43 (by omega) ?_
        refine wp_calls1 dX12_next_149 lk_RX12_244 ok_X12_isDigit st_X12_isDigit (Nat.le_of_ble_eq_true rfl) (Nat.le_of_ble_eq_true rfl) ?_
        refine c_X12_isDigit ?_
        refine wp_ifb_eq (tgt := 187) dX12_next_152 (by decide) (fun h152 => absurd h152 (fun q => q hlt)) (fun _ => ?_)
        refine wp_iload_n dX12_next_155 rfl ?_
        refine wp_bipush (v := 6) dX12_next_156 (by decide) ?_
        refine wp_icmp_ge (tgt := 181) dX12_next_158 (by decide) (fun _ => ?_) (fun h158 => absurd h158 (fun q => q (nI_le (a := 6) (b := n) h8 (by omega))))
        refine wp_incN dX12_next_181 rfl (by decide) ?_
        refine wp_goto (tgt := 144) dX12_next_184 (by decide) ?_
        exact ih (n + 1) _ (by omega) (by omega) hr he k43 k46 (by rw [hm]; exact k47)
    · rw [if_neg hlt] at hr
      refine wp_aload_n dX12_next_144 rfl ?_
      refine wp_iload_n dX12_next_145 rfl ?_
      refine wp_callv1 (ci := 12) dX12_next_146 lk_RX12_225 ok_X12_here im_X12_here se_X12_here rfl rfl (fk_33 hF1) (Nat.le_of_ble_eq_true rfl) (Nat.le_of_ble_eq_true rfl) ?_
      refine c_X12_here hF1 hT1 k43 (by omega) ?_
      refine wp_calls1 dX12_next_149 lk_RX12_244 ok_X12_isDigit st_X12_isDigit (Nat.le_of_ble_eq_true rfl) (Nat.le_of_ble_eq_true rfl) ?_
      refine c_X12_isDigit ?_
      refine wp_ifb_eq (tgt := 187) dX12_next_152 (by decide) (fun _ => ?_) (fun h152 => absurd h152 (hlt))
      exact hend n H1 hn hr he k43 k46 k47
theorem l_next_at {s : Nat} (hF : Fix H) (hT : MTp H bf N) (hs : s ≤ N) (hq : ∀ H', eqM isNx H H' → mTok bf N s H' → Q none H') {H1 : PH} (he : eqM isNx H H1) (k43 : hI H1 33 43 = nI s) : Wp mX12_next (d + 1) 0 0 33 [some (.ref 33), none, none] [] H1 Q := by
  have hN := hT.1.1
  have hB := hT.1
  have hF1 := Fix_eqM he hF
  let H2 := sI H1 33 46 (nI s)
  let H3 := sI (sL H2 33 48 0) 33 47 0
  have he2 : eqM isNx H H2 := eqM_sI he ⟨rfl, by omega⟩
  have he3 : eqM isNx H H3 := eqM_sI (eqM_sL he2) ⟨rfl, by omega⟩
  have hF2 := Fix_eqM he2 hF
  have hF3 := Fix_eqM he3 hF
  have hT2 := MTp_nx he2 hT
  have p43 : hI H2 33 43 = nI s := by show hI (sI H1 33 46 (nI s)) 33 43 = _; rw [hI_sI', if_neg (by omega)]; exact k43
  have r43 : hI H3 33 43 = nI s := by show hI (sI (sL H2 33 48 0) 33 47 0) 33 43 = _; rw [hI_sI', if_neg (by omega)]; exact p43
  have r46 : hI H3 33 46 = nI s := by
    show hI (sI (sL H2 33 48 0) 33 47 0) 33 46 = _
    rw [hI_sI', if_neg (by omega)]
    show hI (sI H1 33 46 (nI s)) 33 46 = _
    rw [hI_sI', if_pos ⟨rfl, rfl⟩]
  have r47 : hI H3 33 47 = 0 := by show hI (sI (sL H2 33 48 0) 33 47 0) 33 47 = _; rw [hI_sI', if_pos ⟨rfl, rfl⟩]
  have r48 : hL H3 33 48 = 0 := by show hL (sL H2 33 48 0) 33 48 = _; rw [hL_sL', if_pos ⟨rfl, rfl⟩]
  have sgn : ∀ k n, k = srt bf N s → n ≤ 1 → (srt bf N s ≠ 3 → s + n = nxA bf N s) → srt bf N s ≠ 1 → srt bf N s ≠ 2 → srt bf N s < 1000 → Wp mX12_next (d + 1) 0 0 234 [some (.ref 33), some (.int (bf s)), some (.int (nI n))] [] (sI H3 33 45 (nI k)) Q := by
    intro k n hk hn hx h1 h2 h3
    exact l_next_end hF (eqM_sI he3 ⟨rfl, by omega⟩) hs hN (by omega) (by rw [hI_sI', if_pos ⟨rfl, rfl⟩, hk]) (by rw [hI_sI', if_neg (by omega)]; exact r46) (by rw [hI_sI', if_neg (by omega)]; exact r43) hx h3 (fun z => absurd z h1) (fun z => absurd z h2) hq
  have rest : Wp mX12_next (d + 1) 0 0 59 [some (.ref 33), some (.int (bf s)), some (.int 0)] [] H3 Q := by
    rcases Nat.lt_or_ge s N with hlt | hge
    · obtain ⟨b, b1, b2⟩ := hB.2.1 s hlt
      have hpos : ¬ bf s < 0 := by rw [b2]; exact nI_pos (by omega)
      by_cases hl : ltB (bf s) = true
      · have hw := l_next_word (d := d) (x1 := bf s) hF hT hs hlt hl hq (N - (s + 0)) 0 H3 rfl (by omega) rfl he3 r43 r46 r47 r48
        refine wp_iload_n dX12_next_59 rfl ?_
        refine wp_if_ge (tgt := 71) dX12_next_60 (by decide) (fun _ => ?_) (fun h60 => absurd h60 (fun q => q (Int32.not_lt.mp hpos)))
        refine wp_iload_n dX12_next_71 rfl ?_
        refine wp_calls1 dX12_next_72 lk_RX12_241 ok_X12_isLetter st_X12_isLetter (Nat.le_of_ble_eq_true rfl) (Nat.le_of_ble_eq_true rfl) ?_
        refine c_X12_isLetter ?_
        refine wp_ifb_eq (tgt := 137) dX12_next_75 (by decide) (fun h75 => absurd h75 (fun q => q hl)) (fun _ => ?_)
        exact hw
      · by_cases hd : dgB (bf s) = true
        · have hw := l_next_num (d := d) (x1 := bf s) hF hT hs hlt hl hd hq (N - (s + 0)) 0 H3 rfl (by omega) rfl he3 r43 r46 r47
          refine wp_iload_n dX12_next_59 rfl ?_
          refine wp_if_ge (tgt := 71) dX12_next_60 (by decide) (fun _ => ?_) (fun h60 => absurd h60 (fun q => q (Int32.not_lt.mp hpos)))
          refine wp_iload_n dX12_next_71 rfl ?_
          refine wp_calls1 dX12_next_72 lk_RX12_241 ok_X12_isLetter st_X12_isLetter (Nat.le_of_ble_eq_true rfl) (Nat.le_of_ble_eq_true rfl) ?_
          refine c_X12_isLetter ?_
          refine wp_ifb_eq (tgt := 137) dX12_next_75 (by decide) (fun _ => ?_) (fun h75 => absurd h75 (hl))
          refine wp_iload_n dX12_next_137 rfl ?_
          refine wp_calls1 dX12_next_138 lk_RX12_244 ok_X12_isDigit st_X12_isDigit (Nat.le_of_ble_eq_true rfl) (Nat.le_of_ble_eq_true rfl) ?_
          refine c_X12_isDigit ?_
          refine wp_ifb_eq (tgt := 216) dX12_next_141 (by decide) (fun h141 => absurd h141 (fun q => q hd)) (fun _ => ?_)
          exact hw
        · by_cases hg : sgB (bf s) = true
          · obtain ⟨t1, t2, t3, t4, t5⟩ := (tk_sign hB hlt hl hd).1 hg
            have h9 := sgn (srt bf N s) 1 rfl (by decide) (fun _ => t5.symm) (by omega) (by omega) (by omega)
            rw [← t1] at h9
            refine wp_iload_n dX12_next_59 rfl ?_
            refine wp_if_ge (tgt := 71) dX12_next_60 (by decide) (fun _ => ?_) (fun h60 => absurd h60 (fun q => q (Int32.not_lt.mp hpos)))
            refine wp_iload_n dX12_next_71 rfl ?_
            refine wp_calls1 dX12_next_72 lk_RX12_241 ok_X12_isLetter st_X12_isLetter (Nat.le_of_ble_eq_true rfl) (Nat.le_of_ble_eq_true rfl) ?_
            refine c_X12_isLetter ?_
            refine wp_ifb_eq (tgt := 137) dX12_next_75 (by decide) (fun _ => ?_) (fun h75 => absurd h75 (hl))
            refine wp_iload_n dX12_next_137 rfl ?_
            refine wp_calls1 dX12_next_138 lk_RX12_244 ok_X12_isDigit st_X12_isDigit (Nat.le_of_ble_eq_true rfl) (Nat.le_of_ble_eq_true rfl) ?_
            refine c_X12_isDigit ?_
            refine wp_ifb_eq (tgt := 216) dX12_next_141 (by decide) (fun _ => ?_) (fun h141 => absurd h141 (hd))
            refine wp_iconst (v := 1) dX12_next_216 (by decide) ?_
            refine wp_istore_n dX12_next_217 (by decide) ?_
            refine wp_aload_n dX12_next_218 rfl ?_
            refine wp_iload_n dX12_next_219 rfl ?_
            refine wp_calls1 dX12_next_220 lk_RX12_247 ok_X12_isSign st_X12_isSign (Nat.le_of_ble_eq_true rfl) (Nat.le_of_ble_eq_true rfl) ?_
            refine c_X12_isSign ?_
            refine wp_ifb_eq (tgt := 230) dX12_next_223 (by decide) (fun h223 => absurd h223 (fun q => q hg)) (fun _ => ?_)
            refine wp_iload_n dX12_next_226 rfl ?_
            refine wp_goto (tgt := 231) dX12_next_227 (by decide) ?_
            refine wp_puti dX12_next_231 fl_RX12_238 (mp_12_45 _ _) rfl (fk_33 hF3) ?_
            exact h9
          · obtain ⟨t1, t2⟩ := (tk_sign hB hlt hl hd).2 hg
            have h9 := sgn 3 1 t1.symm (by decide) (fun z => absurd t1 z) (by omega) (by omega) (by omega)
            refine wp_iload_n dX12_next_59 rfl ?_
            refine wp_if_ge (tgt := 71) dX12_next_60 (by decide) (fun _ => ?_) (fun h60 => absurd h60 (fun q => q (Int32.not_lt.mp hpos)))
            refine wp_iload_n dX12_next_71 rfl ?_
            refine wp_calls1 dX12_next_72 lk_RX12_241 ok_X12_isLetter st_X12_isLetter (Nat.le_of_ble_eq_true rfl) (Nat.le_of_ble_eq_true rfl) ?_
            refine c_X12_isLetter ?_
            refine wp_ifb_eq (tgt := 137) dX12_next_75 (by decide) (fun _ => ?_) (fun h75 => absurd h75 (hl))
            refine wp_iload_n dX12_next_137 rfl ?_
            refine wp_calls1 dX12_next_138 lk_RX12_244 ok_X12_isDigit st_X12_isDigit (Nat.le_of_ble_eq_true rfl) (Nat.le_of_ble_eq_true rfl) ?_
            refine c_X12_isDigit ?_
            refine wp_ifb_eq (tgt := 216) dX12_next_141 (by decide) (fun _ => ?_) (fun h141 => absurd h141 (hd))
            refine wp_iconst (v := 1) dX12_next_216 (by decide) ?_
            refine wp_istore_n dX12_next_217 (by decide) ?_
            refine wp_aload_n dX12_next_218 rfl ?_
            refine wp_iload_n dX12_next_219 rfl ?_
            refine wp_calls1 dX12_next_220 lk_RX12_247 ok_X12_isSign st_X12_isSign (Nat.le_of_ble_eq_true rfl) (Nat.le_of_ble_eq_true rfl) ?_
            refine c_X12_isSign ?_
            refine wp_ifb_eq (tgt := 230) dX12_next_223 (by decide) (fun _ => ?_) (fun h223 => absurd h223 (hg))
            refine wp_iconst (v := 3) dX12_next_230 (by decide) ?_
            refine wp_puti dX12_next_231 fl_RX12_238 (mp_12_45 _ _) rfl (fk_33 hF3) ?_
            exact h9
    · obtain ⟨t1, t2, t3⟩ := tk_end hB hge
      have h9 := sgn 0 0 t1.symm (by decide) (fun _ => t3.symm) (by omega) (by omega) (by omega)
      have hm : bf s = -1 := hB.2.2 s hge
      refine wp_iload_n dX12_next_59 rfl ?_
      refine wp_if_ge (tgt := 71) dX12_next_60 (by decide) (fun h60 => absurd h60 (by rw [hm]; decide)) (fun _ => ?_)
      refine wp_aload_n dX12_next_63 rfl ?_
      refine wp_iconst (v := 0) dX12_next_64 (by decide) ?_
      refine wp_puti dX12_next_65 fl_RX12_238 (mp_12_45 _ _) rfl (fk_33 hF3) ?_
      refine wp_goto (tgt := 234) dX12_next_68 (by decide) ?_
      exact h9
  refine wp_aload_n dX12_next_33 rfl ?_
  refine wp_aload_n dX12_next_34 rfl ?_
  refine wp_geti dX12_next_35 fl_RX12_219 rfl (fk_33 hF1) ?_
  rw [k43]
  refine wp_puti dX12_next_38 fl_RX12_228 (mp_12_46 _ _) rfl (fk_33 hF1) ?_
  refine wp_aload_n dX12_next_41 rfl ?_
  refine wp_iconst (v := 0) dX12_next_42 (by decide) ?_
  refine wp_callv1 (ci := 12) dX12_next_43 lk_RX12_225 ok_X12_here im_X12_here se_X12_here rfl rfl (fk_33 (Fix_sI hF1)) (Nat.le_of_ble_eq_true rfl) (Nat.le_of_ble_eq_true rfl) ?_
  refine c_X12_here (k := 0) hF2 hT2 p43 (by omega) ?_
  rw [Nat.add_zero s]
  refine wp_istore_n dX12_next_46 (by decide) ?_
  refine wp_iconst (v := 0) dX12_next_47 (by decide) ?_
  refine wp_istore_n dX12_next_48 (by decide) ?_
  refine wp_aload_n dX12_next_49 rfl ?_
  refine wp_lconst (v := 0) dX12_next_50 (by decide) ?_
  refine wp_putl dX12_next_51 fl_RX12_231 (mp_12_48 _ _) rfl (fk_33 (Fix_sI hF1)) ?_
  refine wp_aload_n dX12_next_54 rfl ?_
  refine wp_iconst (v := 0) dX12_next_55 (by decide) ?_
  refine wp_puti dX12_next_56 fl_RX12_235 (mp_12_47 _ _) rfl (fk_33 (Fix_sL (Fix_sI hF1))) ?_
  exact rest
theorem l_X12_next {s : Nat} (hF : Fix H) (hT : MTp H bf N) (hs : s ≤ N) (hq : ∀ H', eqM isNx H H' → mTok bf N s H' → Q none H') :
    ∀ (f p : Nat) (H1 : PH), N - p = f → p ≤ N → runP bf blB f p = s → eqM isNx H H1 → hI H1 33 43 = nI p → Wp mX12_next (d + 1) 0 0 0 [some (.ref 33), none, none] [] H1 Q := by
  have hN := hT.1.1
  have hB := hT.1
  intro f
  induction f with
  | zero =>
    intro p H1 hf hp hr he k43
    have hF1 := Fix_eqM he hF
    have hT1 := MTp_nx he hT
    have hr' : p = s := hr
    subst hr'
    have hm : bf p = -1 := hB.2.2 p (by omega)
    refine wp_aload_n dX12_next_0 rfl ?_
    refine wp_iconst (v := 0) dX12_next_1 (by decide) ?_
    refine wp_callv1 (ci := 12) dX12_next_2 lk_RX12_225 ok_X12_here im_X12_here se_X12_here rfl rfl (fk_33 hF1) (Nat.le_of_ble_eq_true rfl) (Nat.le_of_ble_eq_true rfl) ?_
    refine c_X12_here (k := 0) hF1 hT1 k43 (by omega) ?_
    rw [Nat.add_zero p, hm]
    refine wp_bipush (v := 32) dX12_next_5 (by decide) ?_
    refine wp_icmp_eq (tgt := 20) dX12_next_7 (by decide) (fun h7 => absurd h7 (by decide)) (fun _ => ?_)
    refine wp_aload_n dX12_next_10 rfl ?_
    refine wp_iconst (v := 0) dX12_next_11 (by decide) ?_
    refine wp_callv1 (ci := 12) dX12_next_12 lk_RX12_225 ok_X12_here im_X12_here se_X12_here rfl rfl (fk_33 hF1) (Nat.le_of_ble_eq_true rfl) (Nat.le_of_ble_eq_true rfl) ?_
    refine c_X12_here (k := 0) hF1 hT1 k43 (by omega) ?_
    rw [Nat.add_zero p, hm]
    refine wp_bipush (v := 10) dX12_next_15 (by decide) ?_
    refine wp_icmp_ne (tgt := 33) dX12_next_17 (by decide) (fun _ => ?_) (fun h17 => absurd h17 (by decide))
    exact l_next_at hF hT hs hq he k43
  | succ f ih =>
    intro p H1 hf hp hr he k43
    have hF1 := Fix_eqM he hF
    have hT1 := MTp_nx he hT
    unfold runP at hr
    have hbl : blB (bf p) = true ↔ (bf p = 32 ∨ bf p = 10) := decide_eq_true_iff
    have hgo : blB (bf p) = true → Wp mX12_next (d + 1) 0 0 20 [some (.ref 33), none, none] [] H1 Q := by
      intro hb
      rw [if_pos hb] at hr
      have h9 := ih (p + 1) (sI H1 33 43 (nI (p + 1))) (by omega) (by omega) hr (eqM_sI he ⟨rfl, by omega⟩) (by rw [hI_sI', if_pos ⟨rfl, rfl⟩])
      refine wp_aload_n dX12_next_20 rfl ?_
      refine wp_dup dX12_next_21 rfl ?_
      refine wp_geti dX12_next_22 fl_RX12_219 rfl (fk_33 hF1) ?_
      rw [k43]
      refine wp_iconst (v := 1) dX12_next_25 (by decide) ?_
      refine wp_iadd dX12_next_26 ?_
      rw [nI_1]
      refine wp_puti dX12_next_27 fl_RX12_219 (mp_12_43 _ _) rfl (fk_33 hF1) ?_
      refine wp_goto (tgt := 0) dX12_next_30 (by decide) ?_
      exact h9
    refine wp_aload_n dX12_next_0 rfl ?_
    refine wp_iconst (v := 0) dX12_next_1 (by decide) ?_
    refine wp_callv1 (ci := 12) dX12_next_2 lk_RX12_225 ok_X12_here im_X12_here se_X12_here rfl rfl (fk_33 hF1) (Nat.le_of_ble_eq_true rfl) (Nat.le_of_ble_eq_true rfl) ?_
    refine c_X12_here (k := 0) hF1 hT1 k43 (by omega) ?_
    rw [Nat.add_zero p]
    refine wp_bipush (v := 32) dX12_next_5 (by decide) ?_
    refine wp_icmp_eq (tgt := 20) dX12_next_7 (by decide) (fun h7 => ?_) (fun h7 => ?_)
    · first | exact hgo (hbl.mpr (Or.inl h7)) | exact hgo (hbl.mpr (Or.inr h17))
    · refine wp_aload_n dX12_next_10 rfl ?_
      refine wp_iconst (v := 0) dX12_next_11 (by decide) ?_
      refine wp_callv1 (ci := 12) dX12_next_12 lk_RX12_225 ok_X12_here im_X12_here se_X12_here rfl rfl (fk_33 hF1) (Nat.le_of_ble_eq_true rfl) (Nat.le_of_ble_eq_true rfl) ?_
      refine c_X12_here (k := 0) hF1 hT1 k43 (by omega) ?_
      rw [Nat.add_zero p]
      refine wp_bipush (v := 10) dX12_next_15 (by decide) ?_
      refine wp_icmp_ne (tgt := 33) dX12_next_17 (by decide) (fun h17 => ?_) (fun h17 => ?_)
      · have hb : ¬ blB (bf p) = true := fun z => (hbl.mp z).elim h7 h17
        rw [if_neg hb] at hr
        subst hr
        exact l_next_at hF hT hs hq he k43
      · first | exact hgo (hbl.mpr (Or.inl h7)) | exact hgo (hbl.mpr (Or.inr h17))
theorem c_X12_next {p : Nat} (hF : Fix H) (hT : MTp H bf N) (hp : p ≤ N) (k43 : hI H 33 43 = nI p) (hq : ∀ H', eqM isNx H H' → mTok bf N (sk bf N p) H' → Q none H') : Wp mX12_next (d + 1) 0 0 0 [some (.ref 33), none, none] [] H Q :=
  l_X12_next hF hT (sk_bd hp).2 hq _ p H rfl hp rfl eqM_rfl k43
end MN
