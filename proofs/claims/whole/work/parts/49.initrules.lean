/-! ===== rules for the constructors, with numbers for the new cells ===== -/
section InitRules
variable {y : MD} {d kc ks pc : Nat} {lo : List (Option Value)} {st : List Value} {H : PH} {Q : Option Value → PH → Prop}
theorem wp_newA {idx ci a : Nat} {q : vw_C} (hd : decode y.2.1 pc = .ok (.new idx, 3)) (hq : vwCl[ci]? = some q) (hc : Cond.classLink y.1.cls idx q.1 ∈ gw) (ha : hN H + 1 = a) (kk : Wp y d kc ks (pc + 3) lo (.ref a :: st) (nC H (ci + 1) q.2.2) Q) : Wp y d (kc + 1) (ks + q.2.2) pc lo st H Q := by
  subst ha; exact wp_new hd hq hc kk
theorem wp_newarrayA {at' : ArrayType} {k a N : Nat} {n : Int32} (hd : decode y.2.1 pc = .ok (.newarray at', 2)) (hk : (at' = .int ∧ k = 20) ∨ (at' = .byte ∧ k = 21) ∨ (at' = .boolean ∧ k = 22) ∨ (at' = .long ∧ k = 23)) (hc : Cond.arrayClass (newarray.typeOf at') ∈ gw) (hn : ¬ n < 0) (hN' : n.toNatClampNeg = N) (hb : N ≤ 60000) (ha : hN H + 1 = a) (kk : Wp y d kc ks (pc + 2) lo (.ref a :: st) (nC H k N) Q) : Wp y d (kc + 1) (ks + N) pc lo (.int n :: st) H Q := by
  subst ha; subst hN'; exact wp_newarray hd hk hc hn hb kk
theorem wp_anewarrayA {idx k a N : Nat} {C : String} {n : Int32} (hd : decode y.2.1 pc = .ok (.anewarray idx, 3)) (hk : (C = "CarriageHire$Horse" ∧ k = 24) ∨ (C = "CarriageHire$Job" ∧ k = 25)) (hc : Cond.classLink y.1.cls idx C ∈ gw) (hn : ¬ n < 0) (hN' : n.toNatClampNeg = N) (hb : N ≤ 60000) (ha : hN H + 1 = a) (kk : Wp y d kc ks (pc + 3) lo (.ref a :: st) (nC H k N) Q) : Wp y d (kc + 1) (ks + N) pc lo (.int n :: st) H Q := by
  subst ha; subst hN'; exact wp_anewarray hd hk hc hn hb kk
/-- the heap under another name -/
theorem wp_heap {H' : PH} (h : H = H') (kk : Wp y d kc ks pc lo st H' Q) : Wp y d kc ks pc lo st H Q := h ▸ kk
end InitRules
