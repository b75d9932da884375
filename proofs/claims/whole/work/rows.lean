section
-- ===== PART A: goes FIRST, ahead of the names: the tables' words, and 'selects' of the private methods out of them =====
/-- a private method of a class that the tables say can be made, by its rows of tables_1 -/
def lw_okq (q : MethodName × Nat) : Prop := (q.1.cls ≠ "java/lang/invoke/MethodHandle" ∧ q.1.cls ≠ "java/lang/invoke/VarHandle") ∧ Cond.instantiable q.1.cls q.2 ∈ tables_1 ∧ Cond.privateMethod q.1 ∈ tables_1 ∧ Cond.instanceMethod q.1 ∈ tables_1
theorem lw_p0 : lw_okq (⟨"CarriageHire$Stable", "alike", "(LCarriageHire$Horse;LCarriageHire$Horse;)Z"⟩, 5) := ⟨⟨by decide +kernel, by decide +kernel⟩, List.mem_of_getElem? (i := 27) (by decide +kernel), List.mem_of_getElem? (i := 393) (by decide +kernel), List.mem_of_getElem? (i := 394) (by decide +kernel)⟩
theorem lw_p1 : lw_okq (⟨"CarriageHire$Stable", "pairUp", "()V"⟩, 5) := ⟨⟨by decide +kernel, by decide +kernel⟩, List.mem_of_getElem? (i := 27) (by decide +kernel), List.mem_of_getElem? (i := 408) (by decide +kernel), List.mem_of_getElem? (i := 409) (by decide +kernel)⟩
theorem lw_p2 : lw_okq (⟨"CarriageHire$Stable", "countFours", "(I)I"⟩, 5) := ⟨⟨by decide +kernel, by decide +kernel⟩, List.mem_of_getElem? (i := 27) (by decide +kernel), List.mem_of_getElem? (i := 413) (by decide +kernel), List.mem_of_getElem? (i := 414) (by decide +kernel)⟩
theorem lw_p3 : lw_okq (⟨"CarriageHire$Day", "putInOrder", "(II)V"⟩, 6) := ⟨⟨by decide +kernel, by decide +kernel⟩, List.mem_of_getElem? (i := 54) (by decide +kernel), List.mem_of_getElem? (i := 477) (by decide +kernel), List.mem_of_getElem? (i := 478) (by decide +kernel)⟩
theorem lw_p4 : lw_okq (⟨"CarriageHire$Lays", "weighChains", "(I)V"⟩, 7) := ⟨⟨by decide +kernel, by decide +kernel⟩, List.mem_of_getElem? (i := 87) (by decide +kernel), List.mem_of_getElem? (i := 539) (by decide +kernel), List.mem_of_getElem? (i := 540) (by decide +kernel)⟩
theorem lw_p5 : lw_okq (⟨"CarriageHire$Lays", "chainKey", "(I)J"⟩, 7) := ⟨⟨by decide +kernel, by decide +kernel⟩, List.mem_of_getElem? (i := 87) (by decide +kernel), List.mem_of_getElem? (i := 543) (by decide +kernel), List.mem_of_getElem? (i := 544) (by decide +kernel)⟩
theorem lw_p6 : lw_okq (⟨"CarriageHire$Lays", "leastLay", "(II)J"⟩, 7) := ⟨⟨by decide +kernel, by decide +kernel⟩, List.mem_of_getElem? (i := 87) (by decide +kernel), List.mem_of_getElem? (i := 562) (by decide +kernel), List.mem_of_getElem? (i := 563) (by decide +kernel)⟩
theorem lw_p7 : lw_okq (⟨"CarriageHire$Lays", "leastSplit", "(I)J"⟩, 7) := ⟨⟨by decide +kernel, by decide +kernel⟩, List.mem_of_getElem? (i := 87) (by decide +kernel), List.mem_of_getElem? (i := 566) (by decide +kernel), List.mem_of_getElem? (i := 567) (by decide +kernel)⟩
theorem lw_p8 : lw_okq (⟨"CarriageHire$Lays", "numberChains", "(JI)V"⟩, 7) := ⟨⟨by decide +kernel, by decide +kernel⟩, List.mem_of_getElem? (i := 87) (by decide +kernel), List.mem_of_getElem? (i := 576) (by decide +kernel), List.mem_of_getElem? (i := 577) (by decide +kernel)⟩
theorem lw_p9 : lw_okq (⟨"CarriageHire$Teams", "flawOf", "(ILCarriageHire$Job;I)I"⟩, 3) := ⟨⟨by decide +kernel, by decide +kernel⟩, List.mem_of_getElem? (i := 118) (by decide +kernel), List.mem_of_getElem? (i := 611) (by decide +kernel), List.mem_of_getElem? (i := 612) (by decide +kernel)⟩
theorem lw_p10 : lw_okq (⟨"CarriageHire$Teams", "isElsewhere", "(ILCarriageHire$Job;I)Z"⟩, 3) := ⟨⟨by decide +kernel, by decide +kernel⟩, List.mem_of_getElem? (i := 118) (by decide +kernel), List.mem_of_getElem? (i := 620) (by decide +kernel), List.mem_of_getElem? (i := 621) (by decide +kernel)⟩
theorem lw_p11 : lw_okq (⟨"CarriageHire$Teams", "allFresh", "(ILCarriageHire$Job;I)Z"⟩, 3) := ⟨⟨by decide +kernel, by decide +kernel⟩, List.mem_of_getElem? (i := 118) (by decide +kernel), List.mem_of_getElem? (i := 625) (by decide +kernel), List.mem_of_getElem? (i := 626) (by decide +kernel)⟩
theorem lw_p12 : lw_okq (⟨"CarriageHire$Tape", "append", "(I)V"⟩, 2) := ⟨⟨by decide +kernel, by decide +kernel⟩, List.mem_of_getElem? (i := 134) (by decide +kernel), List.mem_of_getElem? (i := 678) (by decide +kernel), List.mem_of_getElem? (i := 679) (by decide +kernel)⟩
theorem lw_p13 : lw_okq (⟨"CarriageHire$PriceReader", "advance", "()V"⟩, 13) := ⟨⟨by decide +kernel, by decide +kernel⟩, List.mem_of_getElem? (i := 150) (by decide +kernel), List.mem_of_getElem? (i := 699) (by decide +kernel), List.mem_of_getElem? (i := 700) (by decide +kernel)⟩
theorem lw_p14 : lw_okq (⟨"CarriageHire$PriceReader", "takeWord", "()V"⟩, 13) := ⟨⟨by decide +kernel, by decide +kernel⟩, List.mem_of_getElem? (i := 150) (by decide +kernel), List.mem_of_getElem? (i := 713) (by decide +kernel), List.mem_of_getElem? (i := 714) (by decide +kernel)⟩
theorem lw_p15 : lw_okq (⟨"CarriageHire$PriceReader", "fail", "(I)V"⟩, 13) := ⟨⟨by decide +kernel, by decide +kernel⟩, List.mem_of_getElem? (i := 150) (by decide +kernel), List.mem_of_getElem? (i := 717) (by decide +kernel), List.mem_of_getElem? (i := 718) (by decide +kernel)⟩
def lw_privs_1 : List (MethodName × Nat) := [(⟨"CarriageHire$Stable", "alike", "(LCarriageHire$Horse;LCarriageHire$Horse;)Z"⟩, 5), (⟨"CarriageHire$Stable", "pairUp", "()V"⟩, 5), (⟨"CarriageHire$Stable", "countFours", "(I)I"⟩, 5), (⟨"CarriageHire$Day", "putInOrder", "(II)V"⟩, 6), (⟨"CarriageHire$Lays", "weighChains", "(I)V"⟩, 7), (⟨"CarriageHire$Lays", "chainKey", "(I)J"⟩, 7), (⟨"CarriageHire$Lays", "leastLay", "(II)J"⟩, 7), (⟨"CarriageHire$Lays", "leastSplit", "(I)J"⟩, 7), (⟨"CarriageHire$Lays", "numberChains", "(JI)V"⟩, 7), (⟨"CarriageHire$Teams", "flawOf", "(ILCarriageHire$Job;I)I"⟩, 3), (⟨"CarriageHire$Teams", "isElsewhere", "(ILCarriageHire$Job;I)Z"⟩, 3), (⟨"CarriageHire$Teams", "allFresh", "(ILCarriageHire$Job;I)Z"⟩, 3), (⟨"CarriageHire$Tape", "append", "(I)V"⟩, 2), (⟨"CarriageHire$PriceReader", "advance", "()V"⟩, 13), (⟨"CarriageHire$PriceReader", "takeWord", "()V"⟩, 13), (⟨"CarriageHire$PriceReader", "fail", "(I)V"⟩, 13)]
theorem lw_r1 : ∀ q ∈ lw_privs_1, lw_okq q := List.forall_mem_cons.mpr ⟨lw_p0, List.forall_mem_cons.mpr ⟨lw_p1, List.forall_mem_cons.mpr ⟨lw_p2, List.forall_mem_cons.mpr ⟨lw_p3, List.forall_mem_cons.mpr ⟨lw_p4, List.forall_mem_cons.mpr ⟨lw_p5, List.forall_mem_cons.mpr ⟨lw_p6, List.forall_mem_cons.mpr ⟨lw_p7, List.forall_mem_cons.mpr ⟨lw_p8, List.forall_mem_cons.mpr ⟨lw_p9, List.forall_mem_cons.mpr ⟨lw_p10, List.forall_mem_cons.mpr ⟨lw_p11, List.forall_mem_cons.mpr ⟨lw_p12, List.forall_mem_cons.mpr ⟨lw_p13, List.forall_mem_cons.mpr ⟨lw_p14, List.forall_mem_cons.mpr ⟨lw_p15, fun _ h => absurd h List.not_mem_nil⟩⟩⟩⟩⟩⟩⟩⟩⟩⟩⟩⟩⟩⟩⟩⟩
theorem lw_p16 : lw_okq (⟨"CarriageHire$PriceReader", "takeNumber", "()V"⟩, 13) := ⟨⟨by decide +kernel, by decide +kernel⟩, List.mem_of_getElem? (i := 150) (by decide +kernel), List.mem_of_getElem? (i := 741) (by decide +kernel), List.mem_of_getElem? (i := 742) (by decide +kernel)⟩
theorem lw_p17 : lw_okq (⟨"CarriageHire$PriceReader", "readLine", "()V"⟩, 13) := ⟨⟨by decide +kernel, by decide +kernel⟩, List.mem_of_getElem? (i := 150) (by decide +kernel), List.mem_of_getElem? (i := 749) (by decide +kernel), List.mem_of_getElem? (i := 750) (by decide +kernel)⟩
theorem lw_p18 : lw_okq (⟨"CarriageHire$PriceReader", "readEither", "(I)V"⟩, 13) := ⟨⟨by decide +kernel, by decide +kernel⟩, List.mem_of_getElem? (i := 150) (by decide +kernel), List.mem_of_getElem? (i := 753) (by decide +kernel), List.mem_of_getElem? (i := 754) (by decide +kernel)⟩
theorem lw_p19 : lw_okq (⟨"CarriageHire$PriceReader", "isTooDeep", "(I)Z"⟩, 13) := ⟨⟨by decide +kernel, by decide +kernel⟩, List.mem_of_getElem? (i := 150) (by decide +kernel), List.mem_of_getElem? (i := 757) (by decide +kernel), List.mem_of_getElem? (i := 758) (by decide +kernel)⟩
theorem lw_p20 : lw_okq (⟨"CarriageHire$PriceReader", "readBoth", "(I)V"⟩, 13) := ⟨⟨by decide +kernel, by decide +kernel⟩, List.mem_of_getElem? (i := 150) (by decide +kernel), List.mem_of_getElem? (i := 761) (by decide +kernel), List.mem_of_getElem? (i := 762) (by decide +kernel)⟩
theorem lw_p21 : lw_okq (⟨"CarriageHire$PriceReader", "readOne", "(I)V"⟩, 13) := ⟨⟨by decide +kernel, by decide +kernel⟩, List.mem_of_getElem? (i := 150) (by decide +kernel), List.mem_of_getElem? (i := 765) (by decide +kernel), List.mem_of_getElem? (i := 766) (by decide +kernel)⟩
theorem lw_p22 : lw_okq (⟨"CarriageHire$PriceReader", "emit", "(I)V"⟩, 13) := ⟨⟨by decide +kernel, by decide +kernel⟩, List.mem_of_getElem? (i := 150) (by decide +kernel), List.mem_of_getElem? (i := 769) (by decide +kernel), List.mem_of_getElem? (i := 770) (by decide +kernel)⟩
theorem lw_p23 : lw_okq (⟨"CarriageHire$PriceReader", "readSum", "(I)V"⟩, 13) := ⟨⟨by decide +kernel, by decide +kernel⟩, List.mem_of_getElem? (i := 150) (by decide +kernel), List.mem_of_getElem? (i := 773) (by decide +kernel), List.mem_of_getElem? (i := 774) (by decide +kernel)⟩
theorem lw_p24 : lw_okq (⟨"CarriageHire$PriceReader", "readTerm", "(I)V"⟩, 13) := ⟨⟨by decide +kernel, by decide +kernel⟩, List.mem_of_getElem? (i := 150) (by decide +kernel), List.mem_of_getElem? (i := 777) (by decide +kernel), List.mem_of_getElem? (i := 778) (by decide +kernel)⟩
theorem lw_p25 : lw_okq (⟨"CarriageHire$PriceReader", "readUnit", "(I)V"⟩, 13) := ⟨⟨by decide +kernel, by decide +kernel⟩, List.mem_of_getElem? (i := 150) (by decide +kernel), List.mem_of_getElem? (i := 781) (by decide +kernel), List.mem_of_getElem? (i := 782) (by decide +kernel)⟩
theorem lw_p26 : lw_okq (⟨"CarriageHire$PriceReader", "readOperand", "()V"⟩, 13) := ⟨⟨by decide +kernel, by decide +kernel⟩, List.mem_of_getElem? (i := 150) (by decide +kernel), List.mem_of_getElem? (i := 785) (by decide +kernel), List.mem_of_getElem? (i := 786) (by decide +kernel)⟩
theorem lw_p27 : lw_okq (⟨"CarriageHire$PriceReader", "expect", "(I)V"⟩, 13) := ⟨⟨by decide +kernel, by decide +kernel⟩, List.mem_of_getElem? (i := 150) (by decide +kernel), List.mem_of_getElem? (i := 789) (by decide +kernel), List.mem_of_getElem? (i := 790) (by decide +kernel)⟩
theorem lw_p28 : lw_okq (⟨"CarriageHire$Pricer", "valueOf", "([III)I"⟩, 3) := ⟨⟨by decide +kernel, by decide +kernel⟩, List.mem_of_getElem? (i := 198) (by decide +kernel), List.mem_of_getElem? (i := 824) (by decide +kernel), List.mem_of_getElem? (i := 825) (by decide +kernel)⟩
theorem lw_p29 : lw_okq (⟨"CarriageHire$Pricer", "step", "(I)V"⟩, 3) := ⟨⟨by decide +kernel, by decide +kernel⟩, List.mem_of_getElem? (i := 198) (by decide +kernel), List.mem_of_getElem? (i := 829) (by decide +kernel), List.mem_of_getElem? (i := 830) (by decide +kernel)⟩
theorem lw_p30 : lw_okq (⟨"CarriageHire$Pricer", "valueOfName", "(I)I"⟩, 3) := ⟨⟨by decide +kernel, by decide +kernel⟩, List.mem_of_getElem? (i := 198) (by decide +kernel), List.mem_of_getElem? (i := 833) (by decide +kernel), List.mem_of_getElem? (i := 834) (by decide +kernel)⟩
theorem lw_p31 : lw_okq (⟨"CarriageHire$Pricer", "push", "(I)V"⟩, 3) := ⟨⟨by decide +kernel, by decide +kernel⟩, List.mem_of_getElem? (i := 198) (by decide +kernel), List.mem_of_getElem? (i := 837) (by decide +kernel), List.mem_of_getElem? (i := 838) (by decide +kernel)⟩
def lw_privs_2 : List (MethodName × Nat) := [(⟨"CarriageHire$PriceReader", "takeNumber", "()V"⟩, 13), (⟨"CarriageHire$PriceReader", "readLine", "()V"⟩, 13), (⟨"CarriageHire$PriceReader", "readEither", "(I)V"⟩, 13), (⟨"CarriageHire$PriceReader", "isTooDeep", "(I)Z"⟩, 13), (⟨"CarriageHire$PriceReader", "readBoth", "(I)V"⟩, 13), (⟨"CarriageHire$PriceReader", "readOne", "(I)V"⟩, 13), (⟨"CarriageHire$PriceReader", "emit", "(I)V"⟩, 13), (⟨"CarriageHire$PriceReader", "readSum", "(I)V"⟩, 13), (⟨"CarriageHire$PriceReader", "readTerm", "(I)V"⟩, 13), (⟨"CarriageHire$PriceReader", "readUnit", "(I)V"⟩, 13), (⟨"CarriageHire$PriceReader", "readOperand", "()V"⟩, 13), (⟨"CarriageHire$PriceReader", "expect", "(I)V"⟩, 13), (⟨"CarriageHire$Pricer", "valueOf", "([III)I"⟩, 3), (⟨"CarriageHire$Pricer", "step", "(I)V"⟩, 3), (⟨"CarriageHire$Pricer", "valueOfName", "(I)I"⟩, 3), (⟨"CarriageHire$Pricer", "push", "(I)V"⟩, 3)]
theorem lw_r2 : ∀ q ∈ lw_privs_2, lw_okq q := List.forall_mem_cons.mpr ⟨lw_p16, List.forall_mem_cons.mpr ⟨lw_p17, List.forall_mem_cons.mpr ⟨lw_p18, List.forall_mem_cons.mpr ⟨lw_p19, List.forall_mem_cons.mpr ⟨lw_p20, List.forall_mem_cons.mpr ⟨lw_p21, List.forall_mem_cons.mpr ⟨lw_p22, List.forall_mem_cons.mpr ⟨lw_p23, List.forall_mem_cons.mpr ⟨lw_p24, List.forall_mem_cons.mpr ⟨lw_p25, List.forall_mem_cons.mpr ⟨lw_p26, List.forall_mem_cons.mpr ⟨lw_p27, List.forall_mem_cons.mpr ⟨lw_p28, List.forall_mem_cons.mpr ⟨lw_p29, List.forall_mem_cons.mpr ⟨lw_p30, List.forall_mem_cons.mpr ⟨lw_p31, fun _ h => absurd h List.not_mem_nil⟩⟩⟩⟩⟩⟩⟩⟩⟩⟩⟩⟩⟩⟩⟩⟩
theorem lw_p32 : lw_okq (⟨"CarriageHire$Pricer", "pop", "()I"⟩, 3) := ⟨⟨by decide +kernel, by decide +kernel⟩, List.mem_of_getElem? (i := 198) (by decide +kernel), List.mem_of_getElem? (i := 841) (by decide +kernel), List.mem_of_getElem? (i := 842) (by decide +kernel)⟩
theorem lw_p33 : lw_okq (⟨"CarriageHire$Book", "holds", "(III)Z"⟩, 6) := ⟨⟨by decide +kernel, by decide +kernel⟩, List.mem_of_getElem? (i := 214) (by decide +kernel), List.mem_of_getElem? (i := 876) (by decide +kernel), List.mem_of_getElem? (i := 877) (by decide +kernel)⟩
theorem lw_p34 : lw_okq (⟨"CarriageHireModel", "isHorse", "(I)Z"⟩, 60) := ⟨⟨by decide +kernel, by decide +kernel⟩, List.mem_of_getElem? (i := 892) (by decide +kernel), List.mem_of_getElem? (i := 1088) (by decide +kernel), List.mem_of_getElem? (i := 1089) (by decide +kernel)⟩
theorem lw_p35 : lw_okq (⟨"CarriageHireModel", "isSet", "(I)Z"⟩, 60) := ⟨⟨by decide +kernel, by decide +kernel⟩, List.mem_of_getElem? (i := 892) (by decide +kernel), List.mem_of_getElem? (i := 1115) (by decide +kernel), List.mem_of_getElem? (i := 1116) (by decide +kernel)⟩
theorem lw_p36 : lw_okq (⟨"CarriageHireModel", "doMatch", "(I)Z"⟩, 60) := ⟨⟨by decide +kernel, by decide +kernel⟩, List.mem_of_getElem? (i := 892) (by decide +kernel), List.mem_of_getElem? (i := 1122) (by decide +kernel), List.mem_of_getElem? (i := 1123) (by decide +kernel)⟩
theorem lw_p37 : lw_okq (⟨"CarriageHireModel", "copy", "(II)V"⟩, 60) := ⟨⟨by decide +kernel, by decide +kernel⟩, List.mem_of_getElem? (i := 892) (by decide +kernel), List.mem_of_getElem? (i := 1137) (by decide +kernel), List.mem_of_getElem? (i := 1138) (by decide +kernel)⟩
theorem lw_p38 : lw_okq (⟨"CarriageHireModel", "isOn", "(I)Z"⟩, 60) := ⟨⟨by decide +kernel, by decide +kernel⟩, List.mem_of_getElem? (i := 892) (by decide +kernel), List.mem_of_getElem? (i := 1145) (by decide +kernel), List.mem_of_getElem? (i := 1146) (by decide +kernel)⟩
theorem lw_p39 : lw_okq (⟨"CarriageHireModel", "isJob", "(I)Z"⟩, 60) := ⟨⟨by decide +kernel, by decide +kernel⟩, List.mem_of_getElem? (i := 892) (by decide +kernel), List.mem_of_getElem? (i := 1149) (by decide +kernel), List.mem_of_getElem? (i := 1150) (by decide +kernel)⟩
theorem lw_p40 : lw_okq (⟨"CarriageHireModel", "endOf", "(I)I"⟩, 60) := ⟨⟨by decide +kernel, by decide +kernel⟩, List.mem_of_getElem? (i := 892) (by decide +kernel), List.mem_of_getElem? (i := 1157) (by decide +kernel), List.mem_of_getElem? (i := 1158) (by decide +kernel)⟩
theorem lw_p41 : lw_okq (⟨"CarriageHireModel", "drive", "(I)I"⟩, 60) := ⟨⟨by decide +kernel, by decide +kernel⟩, List.mem_of_getElem? (i := 892) (by decide +kernel), List.mem_of_getElem? (i := 1161) (by decide +kernel), List.mem_of_getElem? (i := 1162) (by decide +kernel)⟩
theorem lw_p42 : lw_okq (⟨"CarriageHireModel", "wayOf", "(II)I"⟩, 60) := ⟨⟨by decide +kernel, by decide +kernel⟩, List.mem_of_getElem? (i := 892) (by decide +kernel), List.mem_of_getElem? (i := 1165) (by decide +kernel), List.mem_of_getElem? (i := 1166) (by decide +kernel)⟩
theorem lw_p43 : lw_okq (⟨"CarriageHireModel", "isBehind", "(II)Z"⟩, 60) := ⟨⟨by decide +kernel, by decide +kernel⟩, List.mem_of_getElem? (i := 892) (by decide +kernel), List.mem_of_getElem? (i := 1173) (by decide +kernel), List.mem_of_getElem? (i := 1174) (by decide +kernel)⟩
theorem lw_p44 : lw_okq (⟨"CarriageHireModel", "lay", "()V"⟩, 60) := ⟨⟨by decide +kernel, by decide +kernel⟩, List.mem_of_getElem? (i := 892) (by decide +kernel), List.mem_of_getElem? (i := 1181) (by decide +kernel), List.mem_of_getElem? (i := 1182) (by decide +kernel)⟩
theorem lw_p45 : lw_okq (⟨"CarriageHireModel", "isAhead", "(II)Z"⟩, 60) := ⟨⟨by decide +kernel, by decide +kernel⟩, List.mem_of_getElem? (i := 892) (by decide +kernel), List.mem_of_getElem? (i := 1185) (by decide +kernel), List.mem_of_getElem? (i := 1186) (by decide +kernel)⟩
theorem lw_p46 : lw_okq (⟨"CarriageHireModel", "look", "(I)V"⟩, 60) := ⟨⟨by decide +kernel, by decide +kernel⟩, List.mem_of_getElem? (i := 892) (by decide +kernel), List.mem_of_getElem? (i := 1189) (by decide +kernel), List.mem_of_getElem? (i := 1190) (by decide +kernel)⟩
theorem lw_p47 : lw_okq (⟨"CarriageHireModel", "strengthAt", "(II)I"⟩, 60) := ⟨⟨by decide +kernel, by decide +kernel⟩, List.mem_of_getElem? (i := 892) (by decide +kernel), List.mem_of_getElem? (i := 1209) (by decide +kernel), List.mem_of_getElem? (i := 1210) (by decide +kernel)⟩
def lw_privs_3 : List (MethodName × Nat) := [(⟨"CarriageHire$Pricer", "pop", "()I"⟩, 3), (⟨"CarriageHire$Book", "holds", "(III)Z"⟩, 6), (⟨"CarriageHireModel", "isHorse", "(I)Z"⟩, 60), (⟨"CarriageHireModel", "isSet", "(I)Z"⟩, 60), (⟨"CarriageHireModel", "doMatch", "(I)Z"⟩, 60), (⟨"CarriageHireModel", "copy", "(II)V"⟩, 60), (⟨"CarriageHireModel", "isOn", "(I)Z"⟩, 60), (⟨"CarriageHireModel", "isJob", "(I)Z"⟩, 60), (⟨"CarriageHireModel", "endOf", "(I)I"⟩, 60), (⟨"CarriageHireModel", "drive", "(I)I"⟩, 60), (⟨"CarriageHireModel", "wayOf", "(II)I"⟩, 60), (⟨"CarriageHireModel", "isBehind", "(II)Z"⟩, 60), (⟨"CarriageHireModel", "lay", "()V"⟩, 60), (⟨"CarriageHireModel", "isAhead", "(II)Z"⟩, 60), (⟨"CarriageHireModel", "look", "(I)V"⟩, 60), (⟨"CarriageHireModel", "strengthAt", "(II)I"⟩, 60)]
theorem lw_r3 : ∀ q ∈ lw_privs_3, lw_okq q := List.forall_mem_cons.mpr ⟨lw_p32, List.forall_mem_cons.mpr ⟨lw_p33, List.forall_mem_cons.mpr ⟨lw_p34, List.forall_mem_cons.mpr ⟨lw_p35, List.forall_mem_cons.mpr ⟨lw_p36, List.forall_mem_cons.mpr ⟨lw_p37, List.forall_mem_cons.mpr ⟨lw_p38, List.forall_mem_cons.mpr ⟨lw_p39, List.forall_mem_cons.mpr ⟨lw_p40, List.forall_mem_cons.mpr ⟨lw_p41, List.forall_mem_cons.mpr ⟨lw_p42, List.forall_mem_cons.mpr ⟨lw_p43, List.forall_mem_cons.mpr ⟨lw_p44, List.forall_mem_cons.mpr ⟨lw_p45, List.forall_mem_cons.mpr ⟨lw_p46, List.forall_mem_cons.mpr ⟨lw_p47, fun _ h => absurd h List.not_mem_nil⟩⟩⟩⟩⟩⟩⟩⟩⟩⟩⟩⟩⟩⟩⟩⟩
theorem lw_p48 : lw_okq (⟨"CarriageHireModel", "costOf", "(I)I"⟩, 60) := ⟨⟨by decide +kernel, by decide +kernel⟩, List.mem_of_getElem? (i := 892) (by decide +kernel), List.mem_of_getElem? (i := 1213) (by decide +kernel), List.mem_of_getElem? (i := 1214) (by decide +kernel)⟩
theorem lw_p49 : lw_okq (⟨"CarriageHireModel", "rightOf", "(II)I"⟩, 60) := ⟨⟨by decide +kernel, by decide +kernel⟩, List.mem_of_getElem? (i := 892) (by decide +kernel), List.mem_of_getElem? (i := 1221) (by decide +kernel), List.mem_of_getElem? (i := 1222) (by decide +kernel)⟩
theorem lw_p50 : lw_okq (⟨"CarriageHireModel", "four", "(I)V"⟩, 60) := ⟨⟨by decide +kernel, by decide +kernel⟩, List.mem_of_getElem? (i := 892) (by decide +kernel), List.mem_of_getElem? (i := 1233) (by decide +kernel), List.mem_of_getElem? (i := 1234) (by decide +kernel)⟩
theorem lw_p51 : lw_okq (⟨"CarriageHireModel", "next", "()V"⟩, 60) := ⟨⟨by decide +kernel, by decide +kernel⟩, List.mem_of_getElem? (i := 892) (by decide +kernel), List.mem_of_getElem? (i := 1245) (by decide +kernel), List.mem_of_getElem? (i := 1246) (by decide +kernel)⟩
theorem lw_p52 : lw_okq (⟨"CarriageHireModel", "here", "(I)I"⟩, 60) := ⟨⟨by decide +kernel, by decide +kernel⟩, List.mem_of_getElem? (i := 892) (by decide +kernel), List.mem_of_getElem? (i := 1249) (by decide +kernel), List.mem_of_getElem? (i := 1250) (by decide +kernel)⟩
theorem lw_p53 : lw_okq (⟨"CarriageHireModel", "isWord", "(J)Z"⟩, 60) := ⟨⟨by decide +kernel, by decide +kernel⟩, List.mem_of_getElem? (i := 892) (by decide +kernel), List.mem_of_getElem? (i := 1263) (by decide +kernel), List.mem_of_getElem? (i := 1264) (by decide +kernel)⟩
theorem lw_p54 : lw_okq (⟨"CarriageHireModel", "wrong", "(I)V"⟩, 60) := ⟨⟨by decide +kernel, by decide +kernel⟩, List.mem_of_getElem? (i := 892) (by decide +kernel), List.mem_of_getElem? (i := 1268) (by decide +kernel), List.mem_of_getElem? (i := 1269) (by decide +kernel)⟩
theorem lw_p55 : lw_okq (⟨"CarriageHireModel", "readE", "(Z)V"⟩, 60) := ⟨⟨by decide +kernel, by decide +kernel⟩, List.mem_of_getElem? (i := 892) (by decide +kernel), List.mem_of_getElem? (i := 1272) (by decide +kernel), List.mem_of_getElem? (i := 1273) (by decide +kernel)⟩
theorem lw_p56 : lw_okq (⟨"CarriageHireModel", "isOpen", "()Z"⟩, 60) := ⟨⟨by decide +kernel, by decide +kernel⟩, List.mem_of_getElem? (i := 892) (by decide +kernel), List.mem_of_getElem? (i := 1276) (by decide +kernel), List.mem_of_getElem? (i := 1277) (by decide +kernel)⟩
theorem lw_p57 : lw_okq (⟨"CarriageHireModel", "sign", "()I"⟩, 60) := ⟨⟨by decide +kernel, by decide +kernel⟩, List.mem_of_getElem? (i := 892) (by decide +kernel), List.mem_of_getElem? (i := 1280) (by decide +kernel), List.mem_of_getElem? (i := 1281) (by decide +kernel)⟩
theorem lw_p58 : lw_okq (⟨"CarriageHireModel", "settle", "(I)V"⟩, 60) := ⟨⟨by decide +kernel, by decide +kernel⟩, List.mem_of_getElem? (i := 892) (by decide +kernel), List.mem_of_getElem? (i := 1284) (by decide +kernel), List.mem_of_getElem? (i := 1285) (by decide +kernel)⟩
theorem lw_p59 : lw_okq (⟨"CarriageHireModel", "pop", "()V"⟩, 60) := ⟨⟨by decide +kernel, by decide +kernel⟩, List.mem_of_getElem? (i := 892) (by decide +kernel), List.mem_of_getElem? (i := 1288) (by decide +kernel), List.mem_of_getElem? (i := 1289) (by decide +kernel)⟩
theorem lw_p60 : lw_okq (⟨"CarriageHireModel", "step", "(II)V"⟩, 60) := ⟨⟨by decide +kernel, by decide +kernel⟩, List.mem_of_getElem? (i := 892) (by decide +kernel), List.mem_of_getElem? (i := 1292) (by decide +kernel), List.mem_of_getElem? (i := 1293) (by decide +kernel)⟩
theorem lw_p61 : lw_okq (⟨"CarriageHireModel", "hold", "(I)V"⟩, 60) := ⟨⟨by decide +kernel, by decide +kernel⟩, List.mem_of_getElem? (i := 892) (by decide +kernel), List.mem_of_getElem? (i := 1296) (by decide +kernel), List.mem_of_getElem? (i := 1297) (by decide +kernel)⟩
theorem lw_p62 : lw_okq (⟨"CarriageHireModel", "settleOnes", "(Z)V"⟩, 60) := ⟨⟨by decide +kernel, by decide +kernel⟩, List.mem_of_getElem? (i := 892) (by decide +kernel), List.mem_of_getElem? (i := 1302) (by decide +kernel), List.mem_of_getElem? (i := 1303) (by decide +kernel)⟩
theorem lw_p63 : lw_okq (⟨"CarriageHireModel", "operand", "(I)I"⟩, 60) := ⟨⟨by decide +kernel, by decide +kernel⟩, List.mem_of_getElem? (i := 892) (by decide +kernel), List.mem_of_getElem? (i := 1306) (by decide +kernel), List.mem_of_getElem? (i := 1307) (by decide +kernel)⟩
def lw_privs_4 : List (MethodName × Nat) := [(⟨"CarriageHireModel", "costOf", "(I)I"⟩, 60), (⟨"CarriageHireModel", "rightOf", "(II)I"⟩, 60), (⟨"CarriageHireModel", "four", "(I)V"⟩, 60), (⟨"CarriageHireModel", "next", "()V"⟩, 60), (⟨"CarriageHireModel", "here", "(I)I"⟩, 60), (⟨"CarriageHireModel", "isWord", "(J)Z"⟩, 60), (⟨"CarriageHireModel", "wrong", "(I)V"⟩, 60), (⟨"CarriageHireModel", "readE", "(Z)V"⟩, 60), (⟨"CarriageHireModel", "isOpen", "()Z"⟩, 60), (⟨"CarriageHireModel", "sign", "()I"⟩, 60), (⟨"CarriageHireModel", "settle", "(I)V"⟩, 60), (⟨"CarriageHireModel", "pop", "()V"⟩, 60), (⟨"CarriageHireModel", "step", "(II)V"⟩, 60), (⟨"CarriageHireModel", "hold", "(I)V"⟩, 60), (⟨"CarriageHireModel", "settleOnes", "(Z)V"⟩, 60), (⟨"CarriageHireModel", "operand", "(I)I"⟩, 60)]
theorem lw_r4 : ∀ q ∈ lw_privs_4, lw_okq q := List.forall_mem_cons.mpr ⟨lw_p48, List.forall_mem_cons.mpr ⟨lw_p49, List.forall_mem_cons.mpr ⟨lw_p50, List.forall_mem_cons.mpr ⟨lw_p51, List.forall_mem_cons.mpr ⟨lw_p52, List.forall_mem_cons.mpr ⟨lw_p53, List.forall_mem_cons.mpr ⟨lw_p54, List.forall_mem_cons.mpr ⟨lw_p55, List.forall_mem_cons.mpr ⟨lw_p56, List.forall_mem_cons.mpr ⟨lw_p57, List.forall_mem_cons.mpr ⟨lw_p58, List.forall_mem_cons.mpr ⟨lw_p59, List.forall_mem_cons.mpr ⟨lw_p60, List.forall_mem_cons.mpr ⟨lw_p61, List.forall_mem_cons.mpr ⟨lw_p62, List.forall_mem_cons.mpr ⟨lw_p63, fun _ h => absurd h List.not_mem_nil⟩⟩⟩⟩⟩⟩⟩⟩⟩⟩⟩⟩⟩⟩⟩⟩
theorem lw_p64 : lw_okq (⟨"CarriageHireModel", "named", "()I"⟩, 60) := ⟨⟨by decide +kernel, by decide +kernel⟩, List.mem_of_getElem? (i := 892) (by decide +kernel), List.mem_of_getElem? (i := 1311) (by decide +kernel), List.mem_of_getElem? (i := 1312) (by decide +kernel)⟩
theorem lw_p65 : lw_okq (⟨"CarriageHireModel", "worked", "(III)I"⟩, 60) := ⟨⟨by decide +kernel, by decide +kernel⟩, List.mem_of_getElem? (i := 892) (by decide +kernel), List.mem_of_getElem? (i := 1329) (by decide +kernel), List.mem_of_getElem? (i := 1330) (by decide +kernel)⟩
theorem lw_p66 : lw_okq (⟨"CarriageHireModel", "isWhole", "(III)Z"⟩, 60) := ⟨⟨by decide +kernel, by decide +kernel⟩, List.mem_of_getElem? (i := 892) (by decide +kernel), List.mem_of_getElem? (i := 1345) (by decide +kernel), List.mem_of_getElem? (i := 1346) (by decide +kernel)⟩
def lw_privs_5 : List (MethodName × Nat) := [(⟨"CarriageHireModel", "named", "()I"⟩, 60), (⟨"CarriageHireModel", "worked", "(III)I"⟩, 60), (⟨"CarriageHireModel", "isWhole", "(III)Z"⟩, 60)]
theorem lw_r5 : ∀ q ∈ lw_privs_5, lw_okq q := List.forall_mem_cons.mpr ⟨lw_p64, List.forall_mem_cons.mpr ⟨lw_p65, List.forall_mem_cons.mpr ⟨lw_p66, fun _ h => absurd h List.not_mem_nil⟩⟩⟩
def lw_privs : List (MethodName × Nat) := lw_privs_1 ++ (lw_privs_2 ++ (lw_privs_3 ++ (lw_privs_4 ++ (lw_privs_5))))
def lw_tbl : List Cond := k2_sels lw_privs ++ tables_1
theorem lw_privs_ok : ∀ q ∈ lw_privs, lw_okq q := by
  show ∀ q ∈ lw_privs_1 ++ (lw_privs_2 ++ (lw_privs_3 ++ (lw_privs_4 ++ (lw_privs_5)))), lw_okq q
  exact List.forall_mem_append.mpr ⟨lw_r1, List.forall_mem_append.mpr ⟨lw_r2, List.forall_mem_append.mpr ⟨lw_r3, List.forall_mem_append.mpr ⟨lw_r4, lw_r5⟩⟩⟩⟩
-- ===== end of PART A; then your names; then what follows =====
end
section
def RX0 : String := "CarriageHire$Book"
def TX0 : u_T := fun k => match k with
  | 0 => ("CarriageHire$Book", "carriages", "[I", true)
  | 1 => ("CarriageHire$Book", "froms", "[I", true)
  | 2 => ("CarriageHire$Book", "tos", "[I", true)
  | 3 => ("CarriageHire$Book", "tolds", "[I", true)
  | 4 => ("CarriageHire$Book", "untolds", "[I", true)
  | _ => ("CarriageHire$Book", "count", "I", false)
def tyX0 : Nat → FieldType := fun k => match k with
  | 0 => .array .int
  | 1 => .array .int
  | 2 => .array .int
  | 3 => .array .int
  | 4 => .array .int
  | _ => .int
theorem nmX0 : ∀ a, a < 6 → ∀ b, b < 6 → a ≠ b → (TX0 a).2.1 ≠ (TX0 b).2.1 := by decide +kernel
theorem tyX0_ok : ∀ k, k < 6 → parseFieldDescriptor (TX0 k).2.2.1 = some (tyX0 k) := by decide +kernel
abbrev cX0_init : ByteArray := prog_2_method_1_code
def yX0_init : MethodName := ⟨RX0, "<init>", "()V"⟩
abbrev cX0_enter : ByteArray := prog_2_method_2_code
def yX0_enter : MethodName := ⟨RX0, "enter", "(IIII)I"⟩
abbrev cX0_isCarriage : ByteArray := prog_2_method_3_code
def yX0_isCarriage : MethodName := ⟨RX0, "isCarriage", "(I)Z"⟩
abbrev cX0_takeBack : ByteArray := prog_2_method_4_code
def yX0_takeBack : MethodName := ⟨RX0, "takeBack", "(II)Z"⟩
abbrev cX0_wholeAt : ByteArray := prog_2_method_5_code
def yX0_wholeAt : MethodName := ⟨RX0, "wholeAt", "(III)I"⟩
abbrev cX0_holds : ByteArray := prog_2_method_6_code
def yX0_holds : MethodName := ⟨RX0, "holds", "(III)Z"⟩
abbrev cX0_firstFree : ByteArray := prog_2_method_7_code
def yX0_firstFree : MethodName := ⟨RX0, "firstFree", "(IIII)I"⟩
def RX1 : String := "CarriageHire$Day"
def TX1 : u_T := fun k => match k with
  | 0 => ("CarriageHire$Day", "ways", "[I", true)
  | 1 => ("CarriageHire$Day", "jobs", "[LCarriageHire$Job;", true)
  | 2 => ("CarriageHire$Day", "byBegin", "[I", true)
  | 3 => ("CarriageHire$Day", "count", "I", false)
  | 4 => ("CarriageHire$Day", "carriages", "I", false)
  | _ => ("CarriageHire$Day", "changes", "I", false)
def tyX1 : Nat → FieldType := fun k => match k with
  | 0 => .array .int
  | 1 => .array (.object "CarriageHire$Job")
  | 2 => .array .int
  | 3 => .int
  | 4 => .int
  | _ => .int
theorem nmX1 : ∀ a, a < 6 → ∀ b, b < 6 → a ≠ b → (TX1 a).2.1 ≠ (TX1 b).2.1 := by decide +kernel
theorem tyX1_ok : ∀ k, k < 6 → parseFieldDescriptor (TX1 k).2.2.1 = some (tyX1 k) := by decide +kernel
abbrev cX1_init : ByteArray := prog_3_method_1_code
def yX1_init : MethodName := ⟨RX1, "<init>", "()V"⟩
abbrev cX1_setWay : ByteArray := prog_3_method_2_code
def yX1_setWay : MethodName := ⟨RX1, "setWay", "(III)Z"⟩
abbrev cX1_isPlace : ByteArray := prog_3_method_3_code
def yX1_isPlace : MethodName := ⟨RX1, "isPlace", "(I)Z"⟩
abbrev cX1_minutesBetween : ByteArray := prog_3_method_4_code
def yX1_minutesBetween : MethodName := ⟨RX1, "minutesBetween", "(II)I"⟩
abbrev cX1_setCarriages : ByteArray := prog_3_method_5_code
def yX1_setCarriages : MethodName := ⟨RX1, "setCarriages", "(I)Z"⟩
abbrev cX1_book : ByteArray := prog_3_method_6_code
def yX1_book : MethodName := ⟨RX1, "book", "(IIIIIILCarriageHire$PriceList;)I"⟩
abbrev cX1_putInOrder : ByteArray := prog_3_method_7_code
def yX1_putInOrder : MethodName := ⟨RX1, "putInOrder", "(II)V"⟩
abbrev cX1_cancel : ByteArray := prog_3_method_8_code
def yX1_cancel : MethodName := ⟨RX1, "cancel", "(I)Z"⟩
abbrev cX1_find : ByteArray := prog_3_method_9_code
def yX1_find : MethodName := ⟨RX1, "find", "(I)LCarriageHire$Job;"⟩
abbrev cX1_findKept : ByteArray := prog_3_method_10_code
def yX1_findKept : MethodName := ⟨RX1, "findKept", "(I)LCarriageHire$Job;"⟩
abbrev cX1_numberInOrder : ByteArray := prog_3_method_11_code
def yX1_numberInOrder : MethodName := ⟨RX1, "numberInOrder", "(I)I"⟩
abbrev cX1_keptBits : ByteArray := prog_3_method_12_code
def yX1_keptBits : MethodName := ⟨RX1, "keptBits", "()I"⟩
abbrev cX1_endOf : ByteArray := prog_3_method_13_code
def yX1_endOf : MethodName := ⟨RX1, "endOf", "(LCarriageHire$Job;)I"⟩
abbrev cX1_mayFollow : ByteArray := prog_3_method_14_code
def yX1_mayFollow : MethodName := ⟨RX1, "mayFollow", "(LCarriageHire$Job;LCarriageHire$Job;)Z"⟩
abbrev cX1_costOf : ByteArray := prog_3_method_15_code
def yX1_costOf : MethodName := ⟨RX1, "costOf", "(LCarriageHire$Job;)I"⟩
def RX2 : String := "CarriageHire$Horse"
def TX2 : u_T := fun k => match k with
  | 0 => ("CarriageHire$Horse", "colour", "I", true)
  | 1 => ("CarriageHire$Horse", "height", "I", true)
  | 2 => ("CarriageHire$Horse", "pace", "I", true)
  | 3 => ("CarriageHire$Horse", "strength", "I", true)
  | _ => ("CarriageHire$Horse", "lame", "Z", false)
def tyX2 : Nat → FieldType := fun k => match k with
  | 0 => .int
  | 1 => .int
  | 2 => .int
  | 3 => .int
  | _ => .boolean
theorem nmX2 : ∀ a, a < 5 → ∀ b, b < 5 → a ≠ b → (TX2 a).2.1 ≠ (TX2 b).2.1 := by decide +kernel
theorem tyX2_ok : ∀ k, k < 5 → parseFieldDescriptor (TX2 k).2.2.1 = some (tyX2 k) := by decide +kernel
abbrev cX2_init : ByteArray := prog_4_method_1_code
def yX2_init : MethodName := ⟨RX2, "<init>", "(IIII)V"⟩
def RX3 : String := "CarriageHire$Job"
def TX3 : u_T := fun k => match k with
  | 0 => ("CarriageHire$Job", "kind", "I", true)
  | 1 => ("CarriageHire$Job", "from", "I", true)
  | 2 => ("CarriageHire$Job", "to", "I", true)
  | 3 => ("CarriageHire$Job", "begin", "I", true)
  | 4 => ("CarriageHire$Job", "wait", "I", true)
  | 5 => ("CarriageHire$Job", "horses", "I", true)
  | 6 => ("CarriageHire$Job", "booked", "LCarriageHire$PriceList;", true)
  | 7 => ("CarriageHire$Job", "team", "I", false)
  | _ => ("CarriageHire$Job", "dropped", "Z", false)
def tyX3 : Nat → FieldType := fun k => match k with
  | 0 => .int
  | 1 => .int
  | 2 => .int
  | 3 => .int
  | 4 => .int
  | 5 => .int
  | 6 => .object "CarriageHire$PriceList"
  | 7 => .int
  | _ => .boolean
theorem nmX3 : ∀ a, a < 9 → ∀ b, b < 9 → a ≠ b → (TX3 a).2.1 ≠ (TX3 b).2.1 := by decide +kernel
theorem tyX3_ok : ∀ k, k < 9 → parseFieldDescriptor (TX3 k).2.2.1 = some (tyX3 k) := by decide +kernel
abbrev cX3_init : ByteArray := prog_5_method_1_code
def yX3_init : MethodName := ⟨RX3, "<init>", "(IIIIIILCarriageHire$PriceList;)V"⟩
def RX4 : String := "CarriageHire$Lays"
def TX4 : u_T := fun k => match k with
  | 0 => ("CarriageHire$Lays", "day", "LCarriageHire$Day;", true)
  | 1 => ("CarriageHire$Lays", "chainKeys", "[J", true)
  | 2 => ("CarriageHire$Lays", "layKeys", "[J", true)
  | 3 => ("CarriageHire$Lays", "chainOf", "[I", true)
  | 4 => ("CarriageHire$Lays", "seenChanges", "I", false)
  | 5 => ("CarriageHire$Lays", "minutes", "I", false)
  | _ => ("CarriageHire$Lays", "chainCount", "I", false)
def tyX4 : Nat → FieldType := fun k => match k with
  | 0 => .object "CarriageHire$Day"
  | 1 => .array .long
  | 2 => .array .long
  | 3 => .array .int
  | 4 => .int
  | 5 => .int
  | _ => .int
theorem nmX4 : ∀ a, a < 7 → ∀ b, b < 7 → a ≠ b → (TX4 a).2.1 ≠ (TX4 b).2.1 := by decide +kernel
theorem tyX4_ok : ∀ k, k < 7 → parseFieldDescriptor (TX4 k).2.2.1 = some (tyX4 k) := by decide +kernel
abbrev cX4_init : ByteArray := prog_6_method_1_code
def yX4_init : MethodName := ⟨RX4, "<init>", "(LCarriageHire$Day;)V"⟩
abbrev cX4_chainNumber : ByteArray := prog_6_method_2_code
def yX4_chainNumber : MethodName := ⟨RX4, "chainNumber", "(I)I"⟩
abbrev cX4_refresh : ByteArray := prog_6_method_3_code
def yX4_refresh : MethodName := ⟨RX4, "refresh", "()V"⟩
abbrev cX4_weighChains : ByteArray := prog_6_method_4_code
def yX4_weighChains : MethodName := ⟨RX4, "weighChains", "(I)V"⟩
abbrev cX4_chainKey : ByteArray := prog_6_method_5_code
def yX4_chainKey : MethodName := ⟨RX4, "chainKey", "(I)J"⟩
abbrev cX4_leastJobs : ByteArray := prog_6_method_6_code
def yX4_leastJobs : MethodName := ⟨RX4, "leastJobs", "(I)J"⟩
abbrev cX4_shiftOf : ByteArray := prog_6_method_7_code
def yX4_shiftOf : MethodName := ⟨RX4, "shiftOf", "(I)I"⟩
abbrev cX4_leastLay : ByteArray := prog_6_method_8_code
def yX4_leastLay : MethodName := ⟨RX4, "leastLay", "(II)J"⟩
abbrev cX4_leastSplit : ByteArray := prog_6_method_9_code
def yX4_leastSplit : MethodName := ⟨RX4, "leastSplit", "(I)J"⟩
abbrev cX4_numberChains : ByteArray := prog_6_method_10_code
def yX4_numberChains : MethodName := ⟨RX4, "numberChains", "(JI)V"⟩
def RX5 : String := "CarriageHire$PriceList"
def TX5 : u_T := fun k => match k with
  | 0 => ("CarriageHire$PriceList", "codes", "[I", true)
  | 1 => ("CarriageHire$PriceList", "whenEnds", "[I", true)
  | _ => ("CarriageHire$PriceList", "priceEnds", "[I", true)
def tyX5 : Nat → FieldType := fun k => match k with
  | 0 => .array .int
  | 1 => .array .int
  | _ => .array .int
theorem nmX5 : ∀ a, a < 3 → ∀ b, b < 3 → a ≠ b → (TX5 a).2.1 ≠ (TX5 b).2.1 := by decide +kernel
theorem tyX5_ok : ∀ k, k < 3 → parseFieldDescriptor (TX5 k).2.2.1 = some (tyX5 k) := by decide +kernel
abbrev cX5_init : ByteArray := prog_7_method_1_code
def yX5_init : MethodName := ⟨RX5, "<init>", "([I[I[I)V"⟩
abbrev cX5_countLines : ByteArray := prog_7_method_2_code
def yX5_countLines : MethodName := ⟨RX5, "countLines", "()I"⟩
def RX6 : String := "CarriageHire$PriceReader"
def TX6 : u_T := fun k => match k with
  | 0 => ("CarriageHire$PriceReader", "tape", "LCarriageHire$Tape;", true)
  | 1 => ("CarriageHire$PriceReader", "codes", "[I", true)
  | 2 => ("CarriageHire$PriceReader", "whenEnds", "[I", true)
  | 3 => ("CarriageHire$PriceReader", "priceEnds", "[I", true)
  | 4 => ("CarriageHire$PriceReader", "codeCount", "I", false)
  | 5 => ("CarriageHire$PriceReader", "lines", "I", false)
  | 6 => ("CarriageHire$PriceReader", "operands", "I", false)
  | 7 => ("CarriageHire$PriceReader", "place", "I", false)
  | 8 => ("CarriageHire$PriceReader", "token", "I", false)
  | 9 => ("CarriageHire$PriceReader", "tokenPlace", "I", false)
  | 10 => ("CarriageHire$PriceReader", "tokenCode", "I", false)
  | 11 => ("CarriageHire$PriceReader", "faultKind", "I", false)
  | _ => ("CarriageHire$PriceReader", "faultPlace", "I", false)
def tyX6 : Nat → FieldType := fun k => match k with
  | 0 => .object "CarriageHire$Tape"
  | 1 => .array .int
  | 2 => .array .int
  | 3 => .array .int
  | 4 => .int
  | 5 => .int
  | 6 => .int
  | 7 => .int
  | 8 => .int
  | 9 => .int
  | 10 => .int
  | 11 => .int
  | _ => .int
theorem nmX6 : ∀ a, a < 13 → ∀ b, b < 13 → a ≠ b → (TX6 a).2.1 ≠ (TX6 b).2.1 := by decide +kernel
theorem tyX6_ok : ∀ k, k < 13 → parseFieldDescriptor (TX6 k).2.2.1 = some (tyX6 k) := by decide +kernel
abbrev cX6_init : ByteArray := prog_8_method_1_code
def yX6_init : MethodName := ⟨RX6, "<init>", "(LCarriageHire$Tape;)V"⟩
abbrev cX6_readAll : ByteArray := prog_8_method_2_code
def yX6_readAll : MethodName := ⟨RX6, "readAll", "()LCarriageHire$PriceList;"⟩
abbrev cX6_readLine : ByteArray := prog_8_method_3_code
def yX6_readLine : MethodName := ⟨RX6, "readLine", "()V"⟩
abbrev cX6_readEither : ByteArray := prog_8_method_4_code
def yX6_readEither : MethodName := ⟨RX6, "readEither", "(I)V"⟩
abbrev cX6_readBoth : ByteArray := prog_8_method_5_code
def yX6_readBoth : MethodName := ⟨RX6, "readBoth", "(I)V"⟩
abbrev cX6_readOne : ByteArray := prog_8_method_6_code
def yX6_readOne : MethodName := ⟨RX6, "readOne", "(I)V"⟩
abbrev cX6_readSum : ByteArray := prog_8_method_7_code
def yX6_readSum : MethodName := ⟨RX6, "readSum", "(I)V"⟩
abbrev cX6_readTerm : ByteArray := prog_8_method_8_code
def yX6_readTerm : MethodName := ⟨RX6, "readTerm", "(I)V"⟩
abbrev cX6_readUnit : ByteArray := prog_8_method_9_code
def yX6_readUnit : MethodName := ⟨RX6, "readUnit", "(I)V"⟩
abbrev cX6_readOperand : ByteArray := prog_8_method_10_code
def yX6_readOperand : MethodName := ⟨RX6, "readOperand", "()V"⟩
abbrev cX6_isTooDeep : ByteArray := prog_8_method_11_code
def yX6_isTooDeep : MethodName := ⟨RX6, "isTooDeep", "(I)Z"⟩
abbrev cX6_expect : ByteArray := prog_8_method_12_code
def yX6_expect : MethodName := ⟨RX6, "expect", "(I)V"⟩
abbrev cX6_fail : ByteArray := prog_8_method_13_code
def yX6_fail : MethodName := ⟨RX6, "fail", "(I)V"⟩
abbrev cX6_emit : ByteArray := prog_8_method_14_code
def yX6_emit : MethodName := ⟨RX6, "emit", "(I)V"⟩
abbrev cX6_advance : ByteArray := prog_8_method_15_code
def yX6_advance : MethodName := ⟨RX6, "advance", "()V"⟩
abbrev cX6_takeWord : ByteArray := prog_8_method_16_code
def yX6_takeWord : MethodName := ⟨RX6, "takeWord", "()V"⟩
abbrev cX6_takeNumber : ByteArray := prog_8_method_17_code
def yX6_takeNumber : MethodName := ⟨RX6, "takeNumber", "()V"⟩
abbrev cX6_wordToken : ByteArray := prog_8_method_18_code
def yX6_wordToken : MethodName := ⟨RX6, "wordToken", "(J)I"⟩
abbrev cX6_nameCode : ByteArray := prog_8_method_19_code
def yX6_nameCode : MethodName := ⟨RX6, "nameCode", "(J)I"⟩
abbrev cX6_isBlank : ByteArray := prog_8_method_20_code
def yX6_isBlank : MethodName := ⟨RX6, "isBlank", "(I)Z"⟩
abbrev cX6_isLetter : ByteArray := prog_8_method_21_code
def yX6_isLetter : MethodName := ⟨RX6, "isLetter", "(I)Z"⟩
abbrev cX6_isDigit : ByteArray := prog_8_method_22_code
def yX6_isDigit : MethodName := ⟨RX6, "isDigit", "(I)Z"⟩
abbrev cX6_isSign : ByteArray := prog_8_method_23_code
def yX6_isSign : MethodName := ⟨RX6, "isSign", "(I)Z"⟩
def RX7 : String := "CarriageHire$Pricer"
def TX7 : u_T := fun k => match k with
  | 0 => ("CarriageHire$Pricer", "stack", "[I", true)
  | 1 => ("CarriageHire$Pricer", "names", "[I", true)
  | _ => ("CarriageHire$Pricer", "height", "I", false)
def tyX7 : Nat → FieldType := fun k => match k with
  | 0 => .array .int
  | 1 => .array .int
  | _ => .int
theorem nmX7 : ∀ a, a < 3 → ∀ b, b < 3 → a ≠ b → (TX7 a).2.1 ≠ (TX7 b).2.1 := by decide +kernel
theorem tyX7_ok : ∀ k, k < 3 → parseFieldDescriptor (TX7 k).2.2.1 = some (tyX7 k) := by decide +kernel
abbrev cX7_init : ByteArray := prog_9_method_1_code
def yX7_init : MethodName := ⟨RX7, "<init>", "()V"⟩
abbrev cX7_quote : ByteArray := prog_9_method_2_code
def yX7_quote : MethodName := ⟨RX7, "quote", "(LCarriageHire$Job;II)I"⟩
abbrev cX7_valueOf : ByteArray := prog_9_method_3_code
def yX7_valueOf : MethodName := ⟨RX7, "valueOf", "([III)I"⟩
abbrev cX7_step : ByteArray := prog_9_method_4_code
def yX7_step : MethodName := ⟨RX7, "step", "(I)V"⟩
abbrev cX7_valueOfName : ByteArray := prog_9_method_5_code
def yX7_valueOfName : MethodName := ⟨RX7, "valueOfName", "(I)I"⟩
abbrev cX7_joined : ByteArray := prog_9_method_6_code
def yX7_joined : MethodName := ⟨RX7, "joined", "(III)I"⟩
abbrev cX7_push : ByteArray := prog_9_method_7_code
def yX7_push : MethodName := ⟨RX7, "push", "(I)V"⟩
abbrev cX7_pop : ByteArray := prog_9_method_8_code
def yX7_pop : MethodName := ⟨RX7, "pop", "()I"⟩
def RX8 : String := "CarriageHire$Stable"
def TX8 : u_T := fun k => match k with
  | 0 => ("CarriageHire$Stable", "horses", "[LCarriageHire$Horse;", true)
  | 1 => ("CarriageHire$Stable", "laterMates", "[I", true)
  | 2 => ("CarriageHire$Stable", "count", "I", false)
  | 3 => ("CarriageHire$Stable", "heightSpan", "I", false)
  | _ => ("CarriageHire$Stable", "paceSpan", "I", false)
def tyX8 : Nat → FieldType := fun k => match k with
  | 0 => .array (.object "CarriageHire$Horse")
  | 1 => .array .int
  | 2 => .int
  | 3 => .int
  | _ => .int
theorem nmX8 : ∀ a, a < 5 → ∀ b, b < 5 → a ≠ b → (TX8 a).2.1 ≠ (TX8 b).2.1 := by decide +kernel
theorem tyX8_ok : ∀ k, k < 5 → parseFieldDescriptor (TX8 k).2.2.1 = some (tyX8 k) := by decide +kernel
abbrev cX8_init : ByteArray := prog_10_method_1_code
def yX8_init : MethodName := ⟨RX8, "<init>", "()V"⟩
abbrev cX8_add : ByteArray := prog_10_method_2_code
def yX8_add : MethodName := ⟨RX8, "add", "(IIII)I"⟩
abbrev cX8_has : ByteArray := prog_10_method_3_code
def yX8_has : MethodName := ⟨RX8, "has", "(I)Z"⟩
abbrev cX8_hasAll : ByteArray := prog_10_method_4_code
def yX8_hasAll : MethodName := ⟨RX8, "hasAll", "(I)Z"⟩
abbrev cX8_setLame : ByteArray := prog_10_method_5_code
def yX8_setLame : MethodName := ⟨RX8, "setLame", "(IZ)Z"⟩
abbrev cX8_setSpans : ByteArray := prog_10_method_6_code
def yX8_setSpans : MethodName := ⟨RX8, "setSpans", "(II)Z"⟩
abbrev cX8_firstStrength : ByteArray := prog_10_method_7_code
def yX8_firstStrength : MethodName := ⟨RX8, "firstStrength", "(I)I"⟩
abbrev cX8_difference : ByteArray := prog_10_method_8_code
def yX8_difference : MethodName := ⟨RX8, "difference", "(II)I"⟩
abbrev cX8_anyLame : ByteArray := prog_10_method_9_code
def yX8_anyLame : MethodName := ⟨RX8, "anyLame", "(I)Z"⟩
abbrev cX8_allAlike : ByteArray := prog_10_method_10_code
def yX8_allAlike : MethodName := ⟨RX8, "allAlike", "(I)Z"⟩
abbrev cX8_alike : ByteArray := prog_10_method_11_code
def yX8_alike : MethodName := ⟨RX8, "alike", "(LCarriageHire$Horse;LCarriageHire$Horse;)Z"⟩
abbrev cX8_countSets : ByteArray := prog_10_method_12_code
def yX8_countSets : MethodName := ⟨RX8, "countSets", "(I)I"⟩
abbrev cX8_pairUp : ByteArray := prog_10_method_13_code
def yX8_pairUp : MethodName := ⟨RX8, "pairUp", "()V"⟩
abbrev cX8_countFours : ByteArray := prog_10_method_14_code
def yX8_countFours : MethodName := ⟨RX8, "countFours", "(I)I"⟩
def RX9 : String := "CarriageHire$Tape"
def TX9 : u_T := fun k => match k with
  | 0 => ("CarriageHire$Tape", "bytes", "[B", true)
  | _ => ("CarriageHire$Tape", "length", "I", false)
def tyX9 : Nat → FieldType := fun k => match k with
  | 0 => .array .byte
  | _ => .int
theorem nmX9 : ∀ a, a < 2 → ∀ b, b < 2 → a ≠ b → (TX9 a).2.1 ≠ (TX9 b).2.1 := by decide +kernel
theorem tyX9_ok : ∀ k, k < 2 → parseFieldDescriptor (TX9 k).2.2.1 = some (tyX9 k) := by decide +kernel
abbrev cX9_init : ByteArray := prog_11_method_1_code
def yX9_init : MethodName := ⟨RX9, "<init>", "()V"⟩
abbrev cX9_appendAll : ByteArray := prog_11_method_2_code
def yX9_appendAll : MethodName := ⟨RX9, "appendAll", "(IIIII)I"⟩
abbrev cX9_append : ByteArray := prog_11_method_3_code
def yX9_append : MethodName := ⟨RX9, "append", "(I)V"⟩
abbrev cX9_cutTo : ByteArray := prog_11_method_4_code
def yX9_cutTo : MethodName := ⟨RX9, "cutTo", "(I)I"⟩
abbrev cX9_byteAt : ByteArray := prog_11_method_5_code
def yX9_byteAt : MethodName := ⟨RX9, "byteAt", "(I)I"⟩
def RX10 : String := "CarriageHire$Teams"
def TX10 : u_T := fun k => match k with
  | 0 => ("CarriageHire$Teams", "stable", "LCarriageHire$Stable;", true)
  | 1 => ("CarriageHire$Teams", "day", "LCarriageHire$Day;", true)
  | _ => ("CarriageHire$Teams", "leastStrength", "I", false)
def tyX10 : Nat → FieldType := fun k => match k with
  | 0 => .object "CarriageHire$Stable"
  | 1 => .object "CarriageHire$Day"
  | _ => .int
theorem nmX10 : ∀ a, a < 3 → ∀ b, b < 3 → a ≠ b → (TX10 a).2.1 ≠ (TX10 b).2.1 := by decide +kernel
theorem tyX10_ok : ∀ k, k < 3 → parseFieldDescriptor (TX10 k).2.2.1 = some (tyX10 k) := by decide +kernel
abbrev cX10_init : ByteArray := prog_12_method_1_code
def yX10_init : MethodName := ⟨RX10, "<init>", "(LCarriageHire$Stable;LCarriageHire$Day;)V"⟩
abbrev cX10_setLeast : ByteArray := prog_12_method_2_code
def yX10_setLeast : MethodName := ⟨RX10, "setLeast", "(I)Z"⟩
abbrev cX10_harness : ByteArray := prog_12_method_3_code
def yX10_harness : MethodName := ⟨RX10, "harness", "(II)Z"⟩
abbrev cX10_isHarnessed : ByteArray := prog_12_method_4_code
def yX10_isHarnessed : MethodName := ⟨RX10, "isHarnessed", "(II)Z"⟩
abbrev cX10_standingOf : ByteArray := prog_12_method_5_code
def yX10_standingOf : MethodName := ⟨RX10, "standingOf", "(I)I"⟩
abbrev cX10_flawOf : ByteArray := prog_12_method_6_code
def yX10_flawOf : MethodName := ⟨RX10, "flawOf", "(ILCarriageHire$Job;I)I"⟩
abbrev cX10_isElsewhere : ByteArray := prog_12_method_7_code
def yX10_isElsewhere : MethodName := ⟨RX10, "isElsewhere", "(ILCarriageHire$Job;I)Z"⟩
abbrev cX10_allFresh : ByteArray := prog_12_method_8_code
def yX10_allFresh : MethodName := ⟨RX10, "allFresh", "(ILCarriageHire$Job;I)Z"⟩
abbrev cX10_strengthAt : ByteArray := prog_12_method_9_code
def yX10_strengthAt : MethodName := ⟨RX10, "strengthAt", "(II)I"⟩
abbrev cX10_bestStandIn : ByteArray := prog_12_method_10_code
def yX10_bestStandIn : MethodName := ⟨RX10, "bestStandIn", "(II)I"⟩
def RX11 : String := "CarriageHire"
def TX11 : u_T := fun k => match k with
  | 0 => ("CarriageHire", "stable", "LCarriageHire$Stable;", true)
  | 1 => ("CarriageHire", "day", "LCarriageHire$Day;", true)
  | 2 => ("CarriageHire", "lays", "LCarriageHire$Lays;", true)
  | 3 => ("CarriageHire", "teams", "LCarriageHire$Teams;", true)
  | 4 => ("CarriageHire", "tape", "LCarriageHire$Tape;", true)
  | 5 => ("CarriageHire", "reader", "LCarriageHire$PriceReader;", true)
  | 6 => ("CarriageHire", "pricer", "LCarriageHire$Pricer;", true)
  | 7 => ("CarriageHire", "book", "LCarriageHire$Book;", true)
  | _ => ("CarriageHire", "standing", "LCarriageHire$PriceList;", false)
def tyX11 : Nat → FieldType := fun k => match k with
  | 0 => .object "CarriageHire$Stable"
  | 1 => .object "CarriageHire$Day"
  | 2 => .object "CarriageHire$Lays"
  | 3 => .object "CarriageHire$Teams"
  | 4 => .object "CarriageHire$Tape"
  | 5 => .object "CarriageHire$PriceReader"
  | 6 => .object "CarriageHire$Pricer"
  | 7 => .object "CarriageHire$Book"
  | _ => .object "CarriageHire$PriceList"
theorem nmX11 : ∀ a, a < 9 → ∀ b, b < 9 → a ≠ b → (TX11 a).2.1 ≠ (TX11 b).2.1 := by decide +kernel
theorem tyX11_ok : ∀ k, k < 9 → parseFieldDescriptor (TX11 k).2.2.1 = some (tyX11 k) := by decide +kernel
abbrev cX11_init : ByteArray := prog_1_method_1_code
def yX11_init : MethodName := ⟨RX11, "<init>", "()V"⟩
abbrev cX11_horse : ByteArray := prog_1_method_2_code
def yX11_horse : MethodName := ⟨RX11, "horse", "(IIII)I"⟩
abbrev cX11_lame : ByteArray := prog_1_method_3_code
def yX11_lame : MethodName := ⟨RX11, "lame", "(IZ)Z"⟩
abbrev cX11_spans : ByteArray := prog_1_method_4_code
def yX11_spans : MethodName := ⟨RX11, "spans", "(II)Z"⟩
abbrev cX11_way : ByteArray := prog_1_method_5_code
def yX11_way : MethodName := ⟨RX11, "way", "(III)Z"⟩
abbrev cX11_carriages : ByteArray := prog_1_method_6_code
def yX11_carriages : MethodName := ⟨RX11, "carriages", "(I)Z"⟩
abbrev cX11_need : ByteArray := prog_1_method_7_code
def yX11_need : MethodName := ⟨RX11, "need", "(I)Z"⟩
abbrev cX11_match : ByteArray := prog_1_method_8_code
def yX11_match : MethodName := ⟨RX11, "match", "(I)Z"⟩
abbrev cX11_matches : ByteArray := prog_1_method_9_code
def yX11_matches : MethodName := ⟨RX11, "matches", "(I)I"⟩
abbrev cX11_job : ByteArray := prog_1_method_10_code
def yX11_job : MethodName := ⟨RX11, "job", "(IIIIII)I"⟩
abbrev cX11_drop : ByteArray := prog_1_method_11_code
def yX11_drop : MethodName := ⟨RX11, "drop", "(I)Z"⟩
abbrev cX11_of : ByteArray := prog_1_method_12_code
def yX11_of : MethodName := ⟨RX11, "of", "(II)I"⟩
abbrev cX11_behind : ByteArray := prog_1_method_13_code
def yX11_behind : MethodName := ⟨RX11, "behind", "(II)Z"⟩
abbrev cX11_empty : ByteArray := prog_1_method_14_code
def yX11_empty : MethodName := ⟨RX11, "empty", "()I"⟩
abbrev cX11_chains : ByteArray := prog_1_method_15_code
def yX11_chains : MethodName := ⟨RX11, "chains", "()I"⟩
abbrev cX11_chain : ByteArray := prog_1_method_16_code
def yX11_chain : MethodName := ⟨RX11, "chain", "(I)I"⟩
abbrev cX11_team : ByteArray := prog_1_method_17_code
def yX11_team : MethodName := ⟨RX11, "team", "(II)Z"⟩
abbrev cX11_right : ByteArray := prog_1_method_18_code
def yX11_right : MethodName := ⟨RX11, "right", "(I)I"⟩
abbrev cX11_strength : ByteArray := prog_1_method_19_code
def yX11_strength : MethodName := ⟨RX11, "strength", "(II)I"⟩
abbrev cX11_standIn : ByteArray := prog_1_method_20_code
def yX11_standIn : MethodName := ⟨RX11, "standIn", "(II)I"⟩
abbrev cX11_feed : ByteArray := prog_1_method_21_code
def yX11_feed : MethodName := ⟨RX11, "feed", "(IIIII)I"⟩
abbrev cX11_end : ByteArray := prog_1_method_22_code
def yX11_end : MethodName := ⟨RX11, "end", "(I)I"⟩
abbrev cX11_prices : ByteArray := prog_1_method_23_code
def yX11_prices : MethodName := ⟨RX11, "prices", "()I"⟩
abbrev cX11_fault : ByteArray := prog_1_method_24_code
def yX11_fault : MethodName := ⟨RX11, "fault", "(I)I"⟩
abbrev cX11_price : ByteArray := prog_1_method_25_code
def yX11_price : MethodName := ⟨RX11, "price", "(II)I"⟩
abbrev cX11_broken : ByteArray := prog_1_method_26_code
def yX11_broken : MethodName := ⟨RX11, "broken", "(IIII)I"⟩
abbrev cX11_untell : ByteArray := prog_1_method_27_code
def yX11_untell : MethodName := ⟨RX11, "untell", "(II)Z"⟩
abbrev cX11_whole : ByteArray := prog_1_method_28_code
def yX11_whole : MethodName := ⟨RX11, "whole", "(III)I"⟩
abbrev cX11_free : ByteArray := prog_1_method_29_code
def yX11_free : MethodName := ⟨RX11, "free", "(IIII)I"⟩
abbrev cX11_about : ByteArray := prog_1_method_30_code
def yX11_about : MethodName := ⟨RX11, "about", "(I)I"⟩
abbrev cX11_within : ByteArray := prog_1_method_31_code
def yX11_within : MethodName := ⟨RX11, "within", "(III)Z"⟩
abbrev cX11_hasBit : ByteArray := prog_1_method_32_code
def yX11_hasBit : MethodName := ⟨RX11, "hasBit", "(II)Z"⟩
def RX12 : String := "CarriageHireModel"
def TX12 : u_T := fun k => match k with
  | 0 => ("CarriageHireModel", "horses", "I", false)
  | 1 => ("CarriageHireModel", "heightSpan", "I", false)
  | 2 => ("CarriageHireModel", "paceSpan", "I", false)
  | 3 => ("CarriageHireModel", "carriages", "I", false)
  | 4 => ("CarriageHireModel", "need", "I", false)
  | 5 => ("CarriageHireModel", "colour", "[I", true)
  | 6 => ("CarriageHireModel", "height", "[I", true)
  | 7 => ("CarriageHireModel", "pace", "[I", true)
  | 8 => ("CarriageHireModel", "power", "[I", true)
  | 9 => ("CarriageHireModel", "isLame", "[Z", true)
  | 10 => ("CarriageHireModel", "ways", "[I", true)
  | 11 => ("CarriageHireModel", "jobs", "I", false)
  | 12 => ("CarriageHireModel", "kind", "[I", true)
  | 13 => ("CarriageHireModel", "from", "[I", true)
  | 14 => ("CarriageHireModel", "to", "[I", true)
  | 15 => ("CarriageHireModel", "begin", "[I", true)
  | 16 => ("CarriageHireModel", "wait", "[I", true)
  | 17 => ("CarriageHireModel", "needs", "[I", true)
  | 18 => ("CarriageHireModel", "team", "[I", true)
  | 19 => ("CarriageHireModel", "isDropped", "[Z", true)
  | 20 => ("CarriageHireModel", "steps", "[I", true)
  | 21 => ("CarriageHireModel", "numbers", "[I", true)
  | 22 => ("CarriageHireModel", "lineAt", "[I", true)
  | 23 => ("CarriageHireModel", "lines", "[I", true)
  | 24 => ("CarriageHireModel", "onMany", "I", false)
  | 25 => ("CarriageHireModel", "bestEmpty", "I", false)
  | 26 => ("CarriageHireModel", "bestChains", "I", false)
  | 27 => ("CarriageHireModel", "on", "[I", true)
  | 28 => ("CarriageHireModel", "inOrder", "[I", true)
  | 29 => ("CarriageHireModel", "chainOf", "[I", true)
  | 30 => ("CarriageHireModel", "best", "[I", true)
  | 31 => ("CarriageHireModel", "most", "[I", true)
  | 32 => ("CarriageHireModel", "last", "[I", true)
  | 33 => ("CarriageHireModel", "newSteps", "[I", true)
  | 34 => ("CarriageHireModel", "newNumbers", "[I", true)
  | 35 => ("CarriageHireModel", "newAt", "[I", true)
  | 36 => ("CarriageHireModel", "newLines", "I", false)
  | 37 => ("CarriageHireModel", "newMany", "I", false)
  | 38 => ("CarriageHireModel", "values", "I", false)
  | 39 => ("CarriageHireModel", "tape", "[I", true)
  | 40 => ("CarriageHireModel", "taped", "I", false)
  | 41 => ("CarriageHireModel", "fault", "I", false)
  | 42 => ("CarriageHireModel", "faultPlace", "I", false)
  | 43 => ("CarriageHireModel", "at", "I", false)
  | 44 => ("CarriageHireModel", "size", "I", false)
  | 45 => ("CarriageHireModel", "sort", "I", false)
  | 46 => ("CarriageHireModel", "place", "I", false)
  | 47 => ("CarriageHireModel", "number", "I", false)
  | 48 => ("CarriageHireModel", "word", "J", false)
  | 49 => ("CarriageHireModel", "waits", "[I", true)
  | 50 => ("CarriageHireModel", "waiting", "I", false)
  | 51 => ("CarriageHireModel", "deep", "I", false)
  | 52 => ("CarriageHireModel", "pile", "[I", true)
  | 53 => ("CarriageHireModel", "names", "[I", true)
  | 54 => ("CarriageHireModel", "entries", "I", false)
  | 55 => ("CarriageHireModel", "entryOf", "[I", true)
  | 56 => ("CarriageHireModel", "brokenFrom", "[I", true)
  | 57 => ("CarriageHireModel", "brokenTo", "[I", true)
  | 58 => ("CarriageHireModel", "toldAt", "[I", true)
  | _ => ("CarriageHireModel", "untoldAt", "[I", true)
def tyX12 : Nat → FieldType := fun k => match k with
  | 0 => .int
  | 1 => .int
  | 2 => .int
  | 3 => .int
  | 4 => .int
  | 5 => .array .int
  | 6 => .array .int
  | 7 => .array .int
  | 8 => .array .int
  | 9 => .array .boolean
  | 10 => .array .int
  | 11 => .int
  | 12 => .array .int
  | 13 => .array .int
  | 14 => .array .int
  | 15 => .array .int
  | 16 => .array .int
  | 17 => .array .int
  | 18 => .array .int
  | 19 => .array .boolean
  | 20 => .array .int
  | 21 => .array .int
  | 22 => .array .int
  | 23 => .array .int
  | 24 => .int
  | 25 => .int
  | 26 => .int
  | 27 => .array .int
  | 28 => .array .int
  | 29 => .array .int
  | 30 => .array .int
  | 31 => .array .int
  | 32 => .array .int
  | 33 => .array .int
  | 34 => .array .int
  | 35 => .array .int
  | 36 => .int
  | 37 => .int
  | 38 => .int
  | 39 => .array .int
  | 40 => .int
  | 41 => .int
  | 42 => .int
  | 43 => .int
  | 44 => .int
  | 45 => .int
  | 46 => .int
  | 47 => .int
  | 48 => .long
  | 49 => .array .int
  | 50 => .int
  | 51 => .int
  | 52 => .array .int
  | 53 => .array .int
  | 54 => .int
  | 55 => .array .int
  | 56 => .array .int
  | 57 => .array .int
  | 58 => .array .int
  | _ => .array .int
theorem nmX12 : ∀ a, a < 60 → ∀ b, b < 60 → a ≠ b → (TX12 a).2.1 ≠ (TX12 b).2.1 := by decide +kernel
theorem tyX12_ok : ∀ k, k < 60 → parseFieldDescriptor (TX12 k).2.2.1 = some (tyX12 k) := by decide +kernel
abbrev cX12_init : ByteArray := prog_14_method_1_code
def yX12_init : MethodName := ⟨RX12, "<init>", "()V"⟩
abbrev cX12_isHorse : ByteArray := prog_14_method_2_code
def yX12_isHorse : MethodName := ⟨RX12, "isHorse", "(I)Z"⟩
abbrev cX12_horse : ByteArray := prog_14_method_3_code
def yX12_horse : MethodName := ⟨RX12, "horse", "(IIII)I"⟩
abbrev cX12_lame : ByteArray := prog_14_method_4_code
def yX12_lame : MethodName := ⟨RX12, "lame", "(IZ)Z"⟩
abbrev cX12_spans : ByteArray := prog_14_method_5_code
def yX12_spans : MethodName := ⟨RX12, "spans", "(II)Z"⟩
abbrev cX12_isPlace : ByteArray := prog_14_method_6_code
def yX12_isPlace : MethodName := ⟨RX12, "isPlace", "(I)Z"⟩
abbrev cX12_way : ByteArray := prog_14_method_7_code
def yX12_way : MethodName := ⟨RX12, "way", "(III)Z"⟩
abbrev cX12_wayOf : ByteArray := prog_14_method_8_code
def yX12_wayOf : MethodName := ⟨RX12, "wayOf", "(II)I"⟩
abbrev cX12_carriages : ByteArray := prog_14_method_9_code
def yX12_carriages : MethodName := ⟨RX12, "carriages", "(I)Z"⟩
abbrev cX12_need : ByteArray := prog_14_method_10_code
def yX12_need : MethodName := ⟨RX12, "need", "(I)Z"⟩
abbrev cX12_many : ByteArray := prog_14_method_11_code
def yX12_many : MethodName := ⟨RX12, "many", "(I)I"⟩
abbrev cX12_far : ByteArray := prog_14_method_12_code
def yX12_far : MethodName := ⟨RX12, "far", "(II)I"⟩
abbrev cX12_doMatch : ByteArray := prog_14_method_13_code
def yX12_doMatch : MethodName := ⟨RX12, "doMatch", "(I)Z"⟩
abbrev cX12_isSet : ByteArray := prog_14_method_14_code
def yX12_isSet : MethodName := ⟨RX12, "isSet", "(I)Z"⟩
abbrev cX12_match : ByteArray := prog_14_method_15_code
def yX12_match : MethodName := ⟨RX12, "match", "(I)Z"⟩
abbrev cX12_matches : ByteArray := prog_14_method_16_code
def yX12_matches : MethodName := ⟨RX12, "matches", "(I)I"⟩
abbrev cX12_job : ByteArray := prog_14_method_17_code
def yX12_job : MethodName := ⟨RX12, "job", "(IIIIII)I"⟩
abbrev cX12_copy : ByteArray := prog_14_method_18_code
def yX12_copy : MethodName := ⟨RX12, "copy", "(II)V"⟩
abbrev cX12_isJob : ByteArray := prog_14_method_19_code
def yX12_isJob : MethodName := ⟨RX12, "isJob", "(I)Z"⟩
abbrev cX12_isOn : ByteArray := prog_14_method_20_code
def yX12_isOn : MethodName := ⟨RX12, "isOn", "(I)Z"⟩
abbrev cX12_drop : ByteArray := prog_14_method_21_code
def yX12_drop : MethodName := ⟨RX12, "drop", "(I)Z"⟩
abbrev cX12_drive : ByteArray := prog_14_method_22_code
def yX12_drive : MethodName := ⟨RX12, "drive", "(I)I"⟩
abbrev cX12_endOf : ByteArray := prog_14_method_23_code
def yX12_endOf : MethodName := ⟨RX12, "endOf", "(I)I"⟩
abbrev cX12_of : ByteArray := prog_14_method_24_code
def yX12_of : MethodName := ⟨RX12, "of", "(II)I"⟩
abbrev cX12_isBehind : ByteArray := prog_14_method_25_code
def yX12_isBehind : MethodName := ⟨RX12, "isBehind", "(II)Z"⟩
abbrev cX12_behind : ByteArray := prog_14_method_26_code
def yX12_behind : MethodName := ⟨RX12, "behind", "(II)Z"⟩
abbrev cX12_isAhead : ByteArray := prog_14_method_27_code
def yX12_isAhead : MethodName := ⟨RX12, "isAhead", "(II)Z"⟩
abbrev cX12_lay : ByteArray := prog_14_method_28_code
def yX12_lay : MethodName := ⟨RX12, "lay", "()V"⟩
abbrev cX12_look : ByteArray := prog_14_method_29_code
def yX12_look : MethodName := ⟨RX12, "look", "(I)V"⟩
abbrev cX12_empty : ByteArray := prog_14_method_30_code
def yX12_empty : MethodName := ⟨RX12, "empty", "()I"⟩
abbrev cX12_chains : ByteArray := prog_14_method_31_code
def yX12_chains : MethodName := ⟨RX12, "chains", "()I"⟩
abbrev cX12_chain : ByteArray := prog_14_method_32_code
def yX12_chain : MethodName := ⟨RX12, "chain", "(I)I"⟩
abbrev cX12_team : ByteArray := prog_14_method_33_code
def yX12_team : MethodName := ⟨RX12, "team", "(II)Z"⟩
abbrev cX12_costOf : ByteArray := prog_14_method_34_code
def yX12_costOf : MethodName := ⟨RX12, "costOf", "(I)I"⟩
abbrev cX12_strengthAt : ByteArray := prog_14_method_35_code
def yX12_strengthAt : MethodName := ⟨RX12, "strengthAt", "(II)I"⟩
abbrev cX12_strength : ByteArray := prog_14_method_36_code
def yX12_strength : MethodName := ⟨RX12, "strength", "(II)I"⟩
abbrev cX12_rightOf : ByteArray := prog_14_method_37_code
def yX12_rightOf : MethodName := ⟨RX12, "rightOf", "(II)I"⟩
abbrev cX12_right : ByteArray := prog_14_method_38_code
def yX12_right : MethodName := ⟨RX12, "right", "(I)I"⟩
abbrev cX12_standIn : ByteArray := prog_14_method_39_code
def yX12_standIn : MethodName := ⟨RX12, "standIn", "(II)I"⟩
abbrev cX12_feed : ByteArray := prog_14_method_40_code
def yX12_feed : MethodName := ⟨RX12, "feed", "(IIIII)I"⟩
abbrev cX12_four : ByteArray := prog_14_method_41_code
def yX12_four : MethodName := ⟨RX12, "four", "(I)V"⟩
abbrev cX12_end : ByteArray := prog_14_method_42_code
def yX12_end : MethodName := ⟨RX12, "end", "(I)I"⟩
abbrev cX12_here : ByteArray := prog_14_method_43_code
def yX12_here : MethodName := ⟨RX12, "here", "(I)I"⟩
abbrev cX12_isLetter : ByteArray := prog_14_method_44_code
def yX12_isLetter : MethodName := ⟨RX12, "isLetter", "(I)Z"⟩
abbrev cX12_isDigit : ByteArray := prog_14_method_45_code
def yX12_isDigit : MethodName := ⟨RX12, "isDigit", "(I)Z"⟩
abbrev cX12_isSign : ByteArray := prog_14_method_46_code
def yX12_isSign : MethodName := ⟨RX12, "isSign", "(I)Z"⟩
abbrev cX12_next : ByteArray := prog_14_method_47_code
def yX12_next : MethodName := ⟨RX12, "next", "()V"⟩
abbrev cX12_wrong : ByteArray := prog_14_method_48_code
def yX12_wrong : MethodName := ⟨RX12, "wrong", "(I)V"⟩
abbrev cX12_isWord : ByteArray := prog_14_method_49_code
def yX12_isWord : MethodName := ⟨RX12, "isWord", "(J)Z"⟩
abbrev cX12_named : ByteArray := prog_14_method_50_code
def yX12_named : MethodName := ⟨RX12, "named", "()I"⟩
abbrev cX12_step : ByteArray := prog_14_method_51_code
def yX12_step : MethodName := ⟨RX12, "step", "(II)V"⟩
abbrev cX12_hold : ByteArray := prog_14_method_52_code
def yX12_hold : MethodName := ⟨RX12, "hold", "(I)V"⟩
abbrev cX12_pop : ByteArray := prog_14_method_53_code
def yX12_pop : MethodName := ⟨RX12, "pop", "()V"⟩
abbrev cX12_settle : ByteArray := prog_14_method_54_code
def yX12_settle : MethodName := ⟨RX12, "settle", "(I)V"⟩
abbrev cX12_isOpen : ByteArray := prog_14_method_55_code
def yX12_isOpen : MethodName := ⟨RX12, "isOpen", "()Z"⟩
abbrev cX12_readE : ByteArray := prog_14_method_56_code
def yX12_readE : MethodName := ⟨RX12, "readE", "(Z)V"⟩
abbrev cX12_operand : ByteArray := prog_14_method_57_code
def yX12_operand : MethodName := ⟨RX12, "operand", "(I)I"⟩
abbrev cX12_sign : ByteArray := prog_14_method_58_code
def yX12_sign : MethodName := ⟨RX12, "sign", "()I"⟩
abbrev cX12_settleOnes : ByteArray := prog_14_method_59_code
def yX12_settleOnes : MethodName := ⟨RX12, "settleOnes", "(Z)V"⟩
abbrev cX12_prices : ByteArray := prog_14_method_60_code
def yX12_prices : MethodName := ⟨RX12, "prices", "()I"⟩
abbrev cX12_fault : ByteArray := prog_14_method_61_code
def yX12_fault : MethodName := ⟨RX12, "fault", "(I)I"⟩
abbrev cX12_worked : ByteArray := prog_14_method_62_code
def yX12_worked : MethodName := ⟨RX12, "worked", "(III)I"⟩
abbrev cX12_price : ByteArray := prog_14_method_63_code
def yX12_price : MethodName := ⟨RX12, "price", "(II)I"⟩
abbrev cX12_broken : ByteArray := prog_14_method_64_code
def yX12_broken : MethodName := ⟨RX12, "broken", "(IIII)I"⟩
abbrev cX12_untell : ByteArray := prog_14_method_65_code
def yX12_untell : MethodName := ⟨RX12, "untell", "(II)Z"⟩
abbrev cX12_isWhole : ByteArray := prog_14_method_66_code
def yX12_isWhole : MethodName := ⟨RX12, "isWhole", "(III)Z"⟩
abbrev cX12_whole : ByteArray := prog_14_method_67_code
def yX12_whole : MethodName := ⟨RX12, "whole", "(III)I"⟩
abbrev cX12_free : ByteArray := prog_14_method_68_code
def yX12_free : MethodName := ⟨RX12, "free", "(IIII)I"⟩
abbrev cX12_about : ByteArray := prog_14_method_69_code
def yX12_about : MethodName := ⟨RX12, "about", "(I)I"⟩
def RJx8e188 : String := "java/lang/Cloneable"
def RJ6 : String := "java/lang/Integer"
abbrev cJ6_bitCount_0f7a4 : ByteArray := prog_16_method_49_code
def yJ6_bitCount_0f7a4 : MethodName := ⟨RJ6, "bitCount", "(I)I"⟩
def RJ9 : String := "java/lang/Math"
abbrev cJ9_abs_0f7a4 : ByteArray := prog_17_method_59_code
def yJ9_abs_0f7a4 : MethodName := ⟨RJ9, "abs", "(I)I"⟩
abbrev cJ9_max_7cf53 : ByteArray := prog_17_method_65_code
def yJ9_max_7cf53 : MethodName := ⟨RJ9, "max", "(II)I"⟩
abbrev cJ9_min_7cf53 : ByteArray := prog_17_method_69_code
def yJ9_min_7cf53 : MethodName := ⟨RJ9, "min", "(II)I"⟩
abbrev cJ9_min_f86c9 : ByteArray := prog_17_method_70_code
def yJ9_min_f86c9 : MethodName := ⟨RJ9, "min", "(JJ)J"⟩
def RJ10 : String := "java/lang/System"
def RJ7 : String := "java/util/Arrays"
abbrev cJ7_fill_53178 : ByteArray := prog_19_method_103_code
def yJ7_fill_53178 : MethodName := ⟨RJ7, "fill", "([II)V"⟩
abbrev cJ7_copyOf_59c91 : ByteArray := prog_19_method_123_code
def yJ7_copyOf_59c91 : MethodName := ⟨RJ7, "copyOf", "([II)[I"⟩
def RL : String := "CarriageHireLaw"
abbrev cL_law : ByteArray := code
def yL_law : MethodName := ⟨RL, "law", "([I)Z"⟩
abbrev vwCl : List vw_C := [(RX0, TX0, 6), (RX1, TX1, 6), (RX2, TX2, 5), (RX3, TX3, 9), (RX4, TX4, 7), (RX5, TX5, 3), (RX6, TX6, 13), (RX7, TX7, 3), (RX8, TX8, 5), (RX9, TX9, 2), (RX10, TX10, 3), (RX11, TX11, 9), (RX12, TX12, 60)]
end
section
/-! ===== the pure heap: cells are numbered 1, 2, .. in the order in which they were made; 0 is the script ===== -/
/-- how many cells; kind and length of each; ints; longs; references -/
abbrev PH : Type := Nat × (Nat → Nat × Nat) × (Nat → Nat → Int32) × (Nat → Nat → Int64) × (Nat → Nat → Option Nat)
def hN (H : PH) : Nat := H.1
def hK (H : PH) : Nat → Nat × Nat := H.2.1
def hI (H : PH) : Nat → Nat → Int32 := H.2.2.1
def hL (H : PH) : Nat → Nat → Int64 := H.2.2.2.1
def hR (H : PH) : Nat → Nat → Option Nat := H.2.2.2.2
def u2 {α : Type} (f : Nat → Nat → α) (a k : Nat) (v : α) : Nat → Nat → α := fun a' k' => if a' = a ∧ k' = k then v else f a' k'
def u1 {α : Type} (f : Nat → α) (a : Nat) (v : α) : Nat → α := fun a' => if a' = a then v else f a'
def sI (H : PH) (a k : Nat) (v : Int32) : PH := (H.1, H.2.1, u2 H.2.2.1 a k v, H.2.2.2.1, H.2.2.2.2)
def sL (H : PH) (a k : Nat) (v : Int64) : PH := (H.1, H.2.1, H.2.2.1, u2 H.2.2.2.1 a k v, H.2.2.2.2)
def sR (H : PH) (a k : Nat) (v : Option Nat) : PH := (H.1, H.2.1, H.2.2.1, H.2.2.2.1, u2 H.2.2.2.2 a k v)
/-- a new cell of a kind and a length, all of it 0 -/
def nC (H : PH) (k n : Nat) : PH := (H.1 + 1, u1 H.2.1 (H.1 + 1) (k, n), u1 H.2.2.1 (H.1 + 1) (fun _ => 0), u1 H.2.2.2.1 (H.1 + 1) (fun _ => 0), u1 H.2.2.2.2 (H.1 + 1) (fun _ => none))
/-- a row of ints as a whole -/
def sRow (H : PH) (a : Nat) (f : Nat → Int32) : PH := (H.1, H.2.1, u1 H.2.2.1 a f, H.2.2.2.1, H.2.2.2.2)
theorem hN_sI (H : PH) (a k : Nat) (v : Int32) : hN (sI H a k v) = hN H := rfl
theorem hK_sI (H : PH) (a k : Nat) (v : Int32) : hK (sI H a k v) = hK H := rfl
theorem hI_sI (H : PH) (a k : Nat) (v : Int32) : hI (sI H a k v) = u2 (hI H) a k v := rfl
theorem hL_sI (H : PH) (a k : Nat) (v : Int32) : hL (sI H a k v) = hL H := rfl
theorem hR_sI (H : PH) (a k : Nat) (v : Int32) : hR (sI H a k v) = hR H := rfl
theorem hN_sL (H : PH) (a k : Nat) (v : Int64) : hN (sL H a k v) = hN H := rfl
theorem hK_sL (H : PH) (a k : Nat) (v : Int64) : hK (sL H a k v) = hK H := rfl
theorem hI_sL (H : PH) (a k : Nat) (v : Int64) : hI (sL H a k v) = hI H := rfl
theorem hL_sL (H : PH) (a k : Nat) (v : Int64) : hL (sL H a k v) = u2 (hL H) a k v := rfl
theorem hR_sL (H : PH) (a k : Nat) (v : Int64) : hR (sL H a k v) = hR H := rfl
theorem hN_sR (H : PH) (a k : Nat) (v : Option Nat) : hN (sR H a k v) = hN H := rfl
theorem hK_sR (H : PH) (a k : Nat) (v : Option Nat) : hK (sR H a k v) = hK H := rfl
theorem hI_sR (H : PH) (a k : Nat) (v : Option Nat) : hI (sR H a k v) = hI H := rfl
theorem hL_sR (H : PH) (a k : Nat) (v : Option Nat) : hL (sR H a k v) = hL H := rfl
theorem hR_sR (H : PH) (a k : Nat) (v : Option Nat) : hR (sR H a k v) = u2 (hR H) a k v := rfl
theorem hN_nC (H : PH) (k n : Nat) : hN (nC H k n) = hN H + 1 := rfl
theorem hK_nC (H : PH) (k n : Nat) : hK (nC H k n) = u1 (hK H) (hN H + 1) (k, n) := rfl
theorem hI_nC (H : PH) (k n : Nat) : hI (nC H k n) = u1 (hI H) (hN H + 1) (fun _ => 0) := rfl
theorem hL_nC (H : PH) (k n : Nat) : hL (nC H k n) = u1 (hL H) (hN H + 1) (fun _ => 0) := rfl
theorem hR_nC (H : PH) (k n : Nat) : hR (nC H k n) = u1 (hR H) (hN H + 1) (fun _ => none) := rfl
theorem hN_sRow (H : PH) (a : Nat) (f : Nat → Int32) : hN (sRow H a f) = hN H := rfl
theorem hK_sRow (H : PH) (a : Nat) (f : Nat → Int32) : hK (sRow H a f) = hK H := rfl
theorem hI_sRow (H : PH) (a : Nat) (f : Nat → Int32) : hI (sRow H a f) = u1 (hI H) a f := rfl
theorem hL_sRow (H : PH) (a : Nat) (f : Nat → Int32) : hL (sRow H a f) = hL H := rfl
theorem hR_sRow (H : PH) (a : Nat) (f : Nat → Int32) : hR (sRow H a f) = hR H := rfl
theorem u2_eq {α : Type} (f : Nat → Nat → α) (a k : Nat) (v : α) : u2 f a k v a k = v := by simp [u2]
theorem u2_ne1 {α : Type} {f : Nat → Nat → α} {a k a' k' : Nat} {v : α} (h : a' ≠ a) : u2 f a k v a' k' = f a' k' := by simp [u2, h]
theorem u2_ne2 {α : Type} {f : Nat → Nat → α} {a k a' k' : Nat} {v : α} (h : k' ≠ k) : u2 f a k v a' k' = f a' k' := by simp [u2, h]
theorem u2_row {α : Type} {f : Nat → Nat → α} {a k a' : Nat} {v : α} (h : a' ≠ a) : u2 f a k v a' = f a' := by funext k'; simp [u2, h]
theorem u1_eq {α : Type} (f : Nat → α) (a : Nat) (v : α) : u1 f a v a = v := by simp [u1]
theorem u1_ne {α : Type} {f : Nat → α} {a a' : Nat} {v : α} (h : a' ≠ a) : u1 f a v a' = f a' := by simp [u1, h]
/-! ===== the machine's heap that a pure heap stands for ===== -/
def shA (b o a : Nat) : Nat := if a = 0 then b else o + a
def shV (b o : Nat) : Value → Value
  | .ref a => .ref (shA b o a)
  | v => v
theorem shA_pos {b o a : Nat} (h : a ≠ 0) : shA b o a = o + a := by simp [shA, h]
theorem shV_cat (b o : Nat) (v : Value) : (shV b o v).category = v.category := by cases v <;> rfl
theorem shV_rf (b o : Nat) (r : Option Nat) : shV b o (va_rf r) = va_rf (r.map (shA b o)) := by cases r <;> rfl
def tyOf (ci : Nat) : Nat → FieldType := match ci with
  | 0 => tyX0 | 1 => tyX1 | 2 => tyX2 | 3 => tyX3 | 4 => tyX4 | 5 => tyX5 | 6 => tyX6 | 7 => tyX7 | 8 => tyX8 | 9 => tyX9 | 10 => tyX10 | 11 => tyX11 | _ => tyX12
/-- 0: an int, 1: a long, 2: a reference -/
def fso (t : FieldType) : Nat := match t with
  | .long => 1 | .object _ => 2 | .array _ => 2 | _ => 0
def fval (b o : Nat) (H : PH) (a ci k : Nat) : Value := if fso (tyOf ci k) = 1 then .long (hL H a k) else if fso (tyOf ci k) = 2 then va_rf ((hR H a k).map (shA b o)) else .int (hI H a k)
def cellE (aC : Nat → ClassId) (b o : Nat) (H : PH) (a : Nat) : va_E :=
  if (hK H a).1 = 20 then .inl (aC 20, (hK H a).2, .inl (hI H a))
  else if (hK H a).1 = 21 then .inl (aC 21, (hK H a).2, .inl (hI H a))
  else if (hK H a).1 = 22 then .inl (aC 22, (hK H a).2, .inl (hI H a))
  else if (hK H a).1 = 23 then .inl (aC 23, (hK H a).2, .inr (.inl (hL H a)))
  else if (hK H a).1 = 24 then .inl (aC 24, (hK H a).2, .inr (.inr (.inr (.inr (fun j => (hR H a j).map (shA b o))))))
  else if (hK H a).1 = 25 then .inl (aC 25, (hK H a).2, .inr (.inr (.inr (.inr (fun j => (hR H a j).map (shA b o))))))
  else .inr ((hK H a).1 - 1, (List.range 60).map (fval b o H a ((hK H a).1 - 1)))
def hw (aC : Nat → ClassId) (b o : Nat) (H : PH) : va_W := (List.range (hN H)).map (fun i => (o + (i + 1), cellE aC b o H (i + 1)))
theorem hw_len (aC : Nat → ClassId) (b o : Nat) (H : PH) : (hw aC b o H).length = hN H := by simp [hw]
theorem hw_get {aC : Nat → ClassId} {b o : Nat} {H : PH} {a : Nat} (h0 : a ≠ 0) (h : a ≤ hN H) : (hw aC b o H)[a - 1]? = some (shA b o a, cellE aC b o H a) := by
  have e : a - 1 + 1 = a := by omega
  rw [hw, List.getElem?_map, List.getElem?_range (by omega)]
  simp [shA, h0, e]
theorem hw_D (aC : Nat → ClassId) (b o : Nat) (H : PH) : va_D (fun q => o + 1 ≤ q) (hw aC b o H) := by
  refine ⟨fun i j p q hi hj e => ?_, fun k q hk => ?_⟩
  · have li := (List.getElem?_eq_some_iff.mp hi).1
    have lj := (List.getElem?_eq_some_iff.mp hj).1
    rw [hw_len] at li lj
    rw [hw, List.getElem?_map, List.getElem?_range li] at hi
    rw [hw, List.getElem?_map, List.getElem?_range lj] at hj
    simp at hi hj
    rw [← hi, ← hj] at e
    simp at e
    omega
  · have lk := (List.getElem?_eq_some_iff.mp hk).1
    rw [hw_len] at lk
    rw [hw, List.getElem?_map, List.getElem?_range lk] at hk
    simp at hk
    rw [← hk]
    simp
theorem hw_set {aC : Nat → ClassId} {b o : Nat} {H H' : PH} {a : Nat} {e : va_E} (h0 : a ≠ 0) (hn : hN H' = hN H) (he : cellE aC b o H' a = e) (ho : ∀ a', a' ≠ a → cellE aC b o H' a' = cellE aC b o H a') : (hw aC b o H).set (a - 1) (shA b o a, e) = hw aC b o H' := by
  apply List.ext_getElem?
  intro i
  by_cases hi : i = a - 1
  · subst hi
    by_cases hl : a - 1 < hN H
    · rw [List.getElem?_set_self (by rw [hw_len]; exact hl), hw_get h0 (by omega), he]
    · rw [List.getElem?_eq_none (by rw [List.length_set, hw_len]; omega), List.getElem?_eq_none (by rw [hw_len]; omega)]
  · rw [List.getElem?_set_ne (by omega)]
    by_cases hl : i < hN H
    · have g1 := hw_get (aC := aC) (b := b) (o := o) (H := H) (a := i + 1) (by omega) (by omega)
      have g2 := hw_get (aC := aC) (b := b) (o := o) (H := H') (a := i + 1) (by omega) (by omega)
      rw [Nat.add_sub_cancel] at g1 g2
      rw [g1, g2, ho (i + 1) (by omega)]
    · rw [List.getElem?_eq_none (by rw [hw_len]; omega), List.getElem?_eq_none (by rw [hw_len]; omega)]
theorem hw_push {aC : Nat → ClassId} {b o : Nat} {H H' : PH} {e : va_E} (hn : hN H' = hN H + 1) (he : cellE aC b o H' (hN H + 1) = e) (ho : ∀ a', a' ≠ hN H + 1 → cellE aC b o H' a' = cellE aC b o H a') : hw aC b o H ++ [(o + (hN H + 1), e)] = hw aC b o H' := by
  rw [hw, hw, hn, List.range_succ, List.map_append]
  congr 1
  · apply List.map_congr_left
    intro i hi
    rw [ho (i + 1) (by have := List.mem_range.mp hi; omega)]
  · simp [he]
/-- what a cell is depends on its own rows alone -/
theorem cellE_eq {aC : Nat → ClassId} {b o : Nat} {H H' : PH} {a : Nat} (h1 : hK H' a = hK H a) (h2 : hI H' a = hI H a) (h3 : hL H' a = hL H a) (h4 : hR H' a = hR H a) : cellE aC b o H' a = cellE aC b o H a := by
  have hf : ∀ ci, fval b o H' a ci = fval b o H a ci := fun ci => by funext k; simp only [fval, h2, h3, h4]
  simp only [cellE, h1, h2, h3, h4, hf]
/-! ===== a method; what stands around its frame ===== -/
abbrev MD : Type := MethodName × ByteArray × Nat × Option FieldType
/-- the words that go from state to state -/
def gw : List Cond := lw_tbl.filter goodWord
def isNest : Cond → Bool
  | .methodLinkNest _ _ _ _ => true
  | .fieldLinkNest _ _ _ _ _ _ => true
  | _ => false
def nw : List Cond := lw_tbl.filter isNest
def tys (aC : Nat → ClassId) : List (ClassId × FieldType) := [(aC 20, .int), (aC 21, .byte), (aC 22, .boolean), (aC 23, .long), (aC 24, .object "CarriageHire$Horse"), (aC 25, .object "CarriageHire$Job")]
/-- of a state: the tables, the script -/
def Env0 (b o L : Nat) (xs : Nat → Int32) (dC : Nat → ClassId) (dI : Nat → Nat → Nat) (aC : Nat → ClassId) (U : State) : Prop :=
  va_K (dC, dI) vwCl (tys aC) U ∧ (∀ w ∈ nw, va_Nw w U) ∧ va_X b L xs U U.heap ∧ b ≤ o ∧ o + 1 ≤ U.heap.size ∧ va_AO "CarriageHire$Horse" U ∧ va_AO "CarriageHire$Job" U
/-- the pure heap H is the heap Hm -/
def Wd (b o L : Nat) (xs : Nat → Int32) (dC : Nat → ClassId) (dI : Nat → Nat → Nat) (aC : Nat → ClassId) (H : PH) (Hm : Heap) : Prop :=
  va_P (dC, dI) vwCl (hw aC b o H) Hm ∧ Hm.size = o + (hN H + 1) ∧ hK H 0 = (99, L) ∧ (∀ a, hN H < a → hK H a = (0, 0)) ∧ ∀ j, j < L → hI H 0 j = xs j
def Ctx (y : MD) (b o L : Nat) (xs : Nat → Int32) (dC : Nat → ClassId) (dI : Nat → Nat → Nat) (aC : Nat → ClassId) (p : Program) (s : State) (m : MethodId) (args : Array Value) (meth : Method) (c : Code) : Prop :=
  p.tables.exec = Jvm.exec ∧ c.code = y.2.1 ∧ c.maxLocals = y.2.2.1 ∧ s.vm.findClass y.1.cls = some m.cls ∧ (y.1.name = "<init>" → meth.name = "<init>") ∧ (∀ w ∈ gw, w.before args s = true) ∧ Env0 b o L xs dC dI aC s
/-- the locals: what is known of each, by its number -/
def lo_ok (b o : Nat) (ls : Array Slot) (nL : Nat) (lo : List (Option Value)) : Prop := ls.size = nL ∧ lv_wf ls ∧ ∀ (i : Nat) (v : Value), lo[i]? = some (some v) → ls[i]? = some (.val (shV b o v))
/-- the instruction that gives this answer back -/
def retI (y : MD) (v : Option Value) (i : Instr) : Prop :=
  (y.2.2.2 = none ∧ v = none ∧ i = .return_) ∨ (∃ x, y.2.2.2 = some .int ∧ v = some (.int x) ∧ i = .ireturn) ∨ (∃ x, y.2.2.2 = some .boolean ∧ (x = 0 ∨ x = 1) ∧ v = some (.int x) ∧ i = .ireturn) ∨ (∃ x, y.2.2.2 = some .long ∧ v = some (.long x) ∧ i = .lreturn) ∨ (∃ r t, y.2.2.2 = some t ∧ ((∃ n, t = .object n) ∨ ∃ u, t = .array u) ∧ v = some (va_rf r) ∧ i = .areturn)
/-- from the frame at pc, with these locals, this stack, this heap: method y comes to its end with an answer and a heap of which Q holds; d calls deep at most, kc cells of ks slots new at most -/
def Wp (y : MD) (d kc ks pc : Nat) (lo : List (Option Value)) (st : List Value) (H : PH) (Q : Option Value → PH → Prop) : Prop :=
  ∀ (b o L : Nat) (xs : Nat → Int32) (dC : Nat → ClassId) (dI : Nat → Nat → Nat) (aC : Nat → ClassId) (p : Program) (l : Launch) (e : Env) (R : Room) (s : State) (m : MethodId) (args : Array Value) (below : List Frame) (meth : Method) (c : Code) (Hm : Heap) (locs : List Loc) (cells slots : Nat) (Qm : State → Prop) (ls : Array Slot),
    Ctx y b o L xs dC dI aC p s m args meth c → Wd b o L xs dC dI aC H Hm → va_S (fun q => o + 1 ≤ q) s.heap Hm locs → lo_ok b o ls y.2.2.1 lo → d ≤ R.frames → 64 * d ≤ R.locals → cells + kc ≤ R.cells → slots + ks ≤ R.slots →
    (∀ (v : Option Value) (H' : PH) (Hm' : Heap) (locs' : List Loc) (pc' : Nat) (ls' : Array Slot) (i : Instr), Q v H' → Wd b o L xs dC dI aC H' Hm' → va_S (fun q => o + 1 ≤ q) s.heap Hm' locs' → retI y v i → decode y.2.1 pc' = .ok (i, 1) →
      W p l e R s m args below meth c Hm' locs' (cells + kc) (slots + ks) Qm (F0 m pc' ls' (v.toList.map (shV b o)))) →
    W p l e R s m args below meth c Hm locs cells slots Qm (F0 m pc ls (st.map (shV b o)))
end
section
/-! locals: a new value at a place -/
def lset : List (Option Value) → Nat → Value → List (Option Value)
  | [], _, _ => []
  | _ :: t, 0, v => some v :: t
  | some (.long _) :: t, 1, v => none :: lset t 0 v
  | some (.double _) :: t, 1, v => none :: lset t 0 v
  | x :: t, 1, v => x :: lset t 0 v
  | x :: t, i + 2, v => x :: lset t (i + 1) v
def lset2 : List (Option Value) → Nat → Value → List (Option Value)
  | [], _, _ => []
  | [_], 0, _ => []
  | _ :: _ :: t, 0, v => some v :: none :: t
  | some (.long _) :: t, 1, v => none :: lset2 t 0 v
  | some (.double _) :: t, 1, v => none :: lset2 t 0 v
  | x :: t, 1, v => x :: lset2 t 0 v
  | x :: t, i + 2, v => x :: lset2 t (i + 1) v
theorem lset_get (v w : Value) : ∀ (lo : List (Option Value)) (i j : Nat), (lset lo i v)[j]? = some (some w) → (j = i ∧ w = v) ∨ (j ≠ i ∧ lo[j]? = some (some w) ∧ ¬ (j + 1 = i ∧ w.category = 2))
  | [], i, j, h => by cases i <;> simp [lset] at h
  | x :: t, 0, j, h => by
    cases j with
    | zero => simp [lset] at h; exact Or.inl ⟨rfl, h.symm⟩
    | succ j => simp [lset] at h; exact Or.inr ⟨by omega, by simpa using h, by omega⟩
  | x :: t, 1, j, h => by
    cases j with
    | zero =>
      right
      refine ⟨by omega, ?_, ?_⟩
      · rcases x with _ | (x | x | x | x | _ | x | x) <;> simp [lset] at h <;> simp [h]
      · rcases x with _ | (x | x | x | x | _ | x | x) <;> simp [lset] at h <;> rw [← h] <;> simp [Value.category]
    | succ j =>
      have h' : (lset t 0 v)[j]? = some (some w) := by rcases x with _ | (x | x | x | x | _ | x | x) <;> simpa [lset] using h
      rcases lset_get v w t 0 j h' with ⟨a, b⟩ | ⟨a, b, c⟩
      · exact Or.inl ⟨by omega, b⟩
      · exact Or.inr ⟨by omega, by simpa using b, by omega⟩
  | x :: t, i + 2, j, h => by
    cases j with
    | zero => 
      have h' : some (some w) = some x := by rcases x with _ | (x | x | x | x | _ | x | x) <;> simp [lset] at h <;> simp [h]
      exact Or.inr ⟨by omega, by simpa using h'.symm, by omega⟩
    | succ j =>
      have h' : (lset t (i + 1) v)[j]? = some (some w) := by rcases x with _ | (x | x | x | x | _ | x | x) <;> simpa [lset] using h
      rcases lset_get v w t (i + 1) j h' with ⟨a, b⟩ | ⟨a, b, c⟩
      · exact Or.inl ⟨by omega, b⟩
      · exact Or.inr ⟨by omega, by simpa using b, fun q => c ⟨by omega, q.2⟩⟩
theorem lset2_get (v w : Value) : ∀ (lo : List (Option Value)) (i j : Nat), (lset2 lo i v)[j]? = some (some w) → (j = i ∧ w = v) ∨ (j ≠ i ∧ j ≠ i + 1 ∧ lo[j]? = some (some w) ∧ ¬ (j + 1 = i ∧ w.category = 2))
  | [], i, j, h => by cases i <;> simp [lset2] at h
  | [x], 0, j, h => by simp [lset2] at h
  | x :: x2 :: t, 0, j, h => by
    match j with
    | 0 => simp [lset2] at h; exact Or.inl ⟨rfl, h.symm⟩
    | 1 => simp [lset2] at h
    | j + 2 => simp [lset2] at h; exact Or.inr ⟨by omega, by omega, by simpa using h, by omega⟩
  | x :: t, 1, j, h => by
    cases j with
    | zero =>
      right
      refine ⟨by omega, by omega, ?_, ?_⟩
      · rcases x with _ | (x | x | x | x | _ | x | x) <;> simp [lset2] at h <;> simp [h]
      · rcases x with _ | (x | x | x | x | _ | x | x) <;> simp [lset2] at h <;> rw [← h] <;> simp [Value.category]
    | succ j =>
      have h' : (lset2 t 0 v)[j]? = some (some w) := by rcases x with _ | (x | x | x | x | _ | x | x) <;> simpa [lset2] using h
      rcases lset2_get v w t 0 j h' with ⟨a, b⟩ | ⟨a, a2, b, c⟩
      · exact Or.inl ⟨by omega, b⟩
      · exact Or.inr ⟨by omega, by omega, by simpa using b, by omega⟩
  | x :: t, i + 2, j, h => by
    cases j with
    | zero => 
      have h' : some (some w) = some x := by rcases x with _ | (x | x | x | x | _ | x | x) <;> simp [lset2] at h <;> simp [h]
      exact Or.inr ⟨by omega, by omega, by simpa using h'.symm, by omega⟩
    | succ j =>
      have h' : (lset2 t (i + 1) v)[j]? = some (some w) := by rcases x with _ | (x | x | x | x | _ | x | x) <;> simpa [lset2] using h
      rcases lset2_get v w t (i + 1) j h' with ⟨a, b⟩ | ⟨a, a2, b, c⟩
      · exact Or.inl ⟨by omega, b⟩
      · exact Or.inr ⟨by omega, by omega, by simpa using b, fun q => c ⟨by omega, q.2⟩⟩
/-- the known locals as a list of pairs -/
def lpairs (b o : Nat) (lo : List (Option Value)) : List (Nat × Value) := (List.range lo.length).filterMap (fun i => (lo.getD i none).map (fun v => (i, shV b o v)))
theorem lo_mem {b o : Nat} {lo : List (Option Value)} {i : Nat} {v : Value} (h : lo[i]? = some (some v)) : (i, shV b o v) ∈ lpairs b o lo := by
  have hl := (List.getElem?_eq_some_iff.mp h).1
  refine List.mem_filterMap.mpr ⟨i, List.mem_range.mpr hl, ?_⟩
  rw [List.getD_eq_getElem?_getD, h]
  rfl
theorem lo_has {b o nL : Nat} {ls : Array Slot} {lo : List (Option Value)} (h : lo_ok b o ls nL lo) : lv_has ls nL (lpairs b o lo) := by
  refine ⟨h.1, h.2.1, fun q hq => ?_⟩
  obtain ⟨i, -, hi⟩ := List.mem_filterMap.mp hq
  rw [List.getD_eq_getElem?_getD] at hi
  rcases hx : lo[i]? with _ | (_ | v)
  · rw [hx] at hi; simp at hi
  · rw [hx] at hi; simp at hi
  · rw [hx] at hi
    simp at hi
    rw [← hi]
    exact h.2.2 i v hx
theorem lo_store1 {b o nL i : Nat} {ls' : Array Slot} {lo : List (Option Value)} {v : Value} (h : lv_has ls' nL ((i, shV b o v) :: (lpairs b o lo).filter (fun q => !(q.1 == i) && !(q.1 + 1 == i && q.2.category == 2)))) : lo_ok b o ls' nL (lset lo i v) := by
  refine ⟨h.1, h.2.1, fun j w hj => ?_⟩
  rcases lset_get v w lo i j hj with ⟨a, e⟩ | ⟨a, e, n⟩
  · subst a; subst e
    exact h.2.2 _ List.mem_cons_self
  · refine h.2.2 (j, shV b o w) (List.mem_cons_of_mem _ (List.mem_filter.mpr ⟨lo_mem e, ?_⟩))
    simp [shV_cat, a]
    exact Decidable.not_and_iff_or_not.mp n
theorem lo_store2 {b o nL i : Nat} {ls' : Array Slot} {lo : List (Option Value)} {v : Value} (h : lv_has ls' nL ((i, shV b o v) :: (lpairs b o lo).filter (fun q => !(q.1 == i) && (!(q.1 == i + 1) && !(q.1 + 1 == i && q.2.category == 2))))) : lo_ok b o ls' nL (lset2 lo i v) := by
  refine ⟨h.1, h.2.1, fun j w hj => ?_⟩
  rcases lset2_get v w lo i j hj with ⟨a, e⟩ | ⟨a, a2, e, n⟩
  · subst a; subst e
    exact h.2.2 _ List.mem_cons_self
  · refine h.2.2 (j, shV b o w) (List.mem_cons_of_mem _ (List.mem_filter.mpr ⟨lo_mem e, ?_⟩))
    simp [shV_cat, a, a2]
    exact Decidable.not_and_iff_or_not.mp n
section Rules
variable {y : MD} {d kc ks pc : Nat} {lo : List (Option Value)} {st : List Value} {H : PH} {Q : Option Value → PH → Prop}

theorem wp_iadd {x : Int32} {z : Int32} (hd : decode y.2.1 pc = .ok (.iadd, 1)) (k : Wp y d kc ks (pc + 1) lo (.int (x + z) :: st) H Q) : Wp y d kc ks pc lo (.int z :: .int x :: st) H Q := by
  intro b o L xs dC dI aC p l e R s m args below meth c Hm locs cells slots Qm ls hC hW hS hl h1 h2 h3 h4 hr
  exact lv_iadd hC.1 hC.2.1 hd (k b o L xs dC dI aC p l e R s m args below meth c Hm locs cells slots Qm ls hC hW hS hl h1 h2 h3 h4 hr)
theorem wp_isub {x : Int32} {z : Int32} (hd : decode y.2.1 pc = .ok (.isub, 1)) (k : Wp y d kc ks (pc + 1) lo (.int (x - z) :: st) H Q) : Wp y d kc ks pc lo (.int z :: .int x :: st) H Q := by
  intro b o L xs dC dI aC p l e R s m args below meth c Hm locs cells slots Qm ls hC hW hS hl h1 h2 h3 h4 hr
  exact lv_isub hC.1 hC.2.1 hd (k b o L xs dC dI aC p l e R s m args below meth c Hm locs cells slots Qm ls hC hW hS hl h1 h2 h3 h4 hr)
theorem wp_imul {x : Int32} {z : Int32} (hd : decode y.2.1 pc = .ok (.imul, 1)) (k : Wp y d kc ks (pc + 1) lo (.int (x * z) :: st) H Q) : Wp y d kc ks pc lo (.int z :: .int x :: st) H Q := by
  intro b o L xs dC dI aC p l e R s m args below meth c Hm locs cells slots Qm ls hC hW hS hl h1 h2 h3 h4 hr
  exact lv_imul hC.1 hC.2.1 hd (k b o L xs dC dI aC p l e R s m args below meth c Hm locs cells slots Qm ls hC hW hS hl h1 h2 h3 h4 hr)
theorem wp_iand {x : Int32} {z : Int32} (hd : decode y.2.1 pc = .ok (.iand, 1)) (k : Wp y d kc ks (pc + 1) lo (.int (x &&& z) :: st) H Q) : Wp y d kc ks pc lo (.int z :: .int x :: st) H Q := by
  intro b o L xs dC dI aC p l e R s m args below meth c Hm locs cells slots Qm ls hC hW hS hl h1 h2 h3 h4 hr
  exact lv_iand hC.1 hC.2.1 hd (k b o L xs dC dI aC p l e R s m args below meth c Hm locs cells slots Qm ls hC hW hS hl h1 h2 h3 h4 hr)
theorem wp_ior {x : Int32} {z : Int32} (hd : decode y.2.1 pc = .ok (.ior, 1)) (k : Wp y d kc ks (pc + 1) lo (.int (x ||| z) :: st) H Q) : Wp y d kc ks pc lo (.int z :: .int x :: st) H Q := by
  intro b o L xs dC dI aC p l e R s m args below meth c Hm locs cells slots Qm ls hC hW hS hl h1 h2 h3 h4 hr
  exact lv_ior hC.1 hC.2.1 hd (k b o L xs dC dI aC p l e R s m args below meth c Hm locs cells slots Qm ls hC hW hS hl h1 h2 h3 h4 hr)
theorem wp_ixor {x : Int32} {z : Int32} (hd : decode y.2.1 pc = .ok (.ixor, 1)) (k : Wp y d kc ks (pc + 1) lo (.int (x ^^^ z) :: st) H Q) : Wp y d kc ks pc lo (.int z :: .int x :: st) H Q := by
  intro b o L xs dC dI aC p l e R s m args below meth c Hm locs cells slots Qm ls hC hW hS hl h1 h2 h3 h4 hr
  exact lv_ixor hC.1 hC.2.1 hd (k b o L xs dC dI aC p l e R s m args below meth c Hm locs cells slots Qm ls hC hW hS hl h1 h2 h3 h4 hr)
theorem wp_ishl {x : Int32} {z : Int32} (hd : decode y.2.1 pc = .ok (.ishl, 1)) (k : Wp y d kc ks (pc + 1) lo (.int (x <<< (z &&& 31)) :: st) H Q) : Wp y d kc ks pc lo (.int z :: .int x :: st) H Q := by
  intro b o L xs dC dI aC p l e R s m args below meth c Hm locs cells slots Qm ls hC hW hS hl h1 h2 h3 h4 hr
  exact lv_ishl hC.1 hC.2.1 hd (k b o L xs dC dI aC p l e R s m args below meth c Hm locs cells slots Qm ls hC hW hS hl h1 h2 h3 h4 hr)
theorem wp_ishr {x : Int32} {z : Int32} (hd : decode y.2.1 pc = .ok (.ishr, 1)) (k : Wp y d kc ks (pc + 1) lo (.int (x >>> (z &&& 31)) :: st) H Q) : Wp y d kc ks pc lo (.int z :: .int x :: st) H Q := by
  intro b o L xs dC dI aC p l e R s m args below meth c Hm locs cells slots Qm ls hC hW hS hl h1 h2 h3 h4 hr
  exact lv_ishr hC.1 hC.2.1 hd (k b o L xs dC dI aC p l e R s m args below meth c Hm locs cells slots Qm ls hC hW hS hl h1 h2 h3 h4 hr)
theorem wp_iushr {x : Int32} {z : Int32} (hd : decode y.2.1 pc = .ok (.iushr, 1)) (k : Wp y d kc ks (pc + 1) lo (.int ((x.toUInt32 >>> (z.toUInt32 &&& Int32.toUInt32 31)).toInt32) :: st) H Q) : Wp y d kc ks pc lo (.int z :: .int x :: st) H Q := by
  intro b o L xs dC dI aC p l e R s m args below meth c Hm locs cells slots Qm ls hC hW hS hl h1 h2 h3 h4 hr
  exact lv_iushr hC.1 hC.2.1 hd rfl (k b o L xs dC dI aC p l e R s m args below meth c Hm locs cells slots Qm ls hC hW hS hl h1 h2 h3 h4 hr)
theorem wp_ladd {x : Int64} {z : Int64} (hd : decode y.2.1 pc = .ok (.ladd, 1)) (k : Wp y d kc ks (pc + 1) lo (.long (x + z) :: st) H Q) : Wp y d kc ks pc lo (.long z :: .long x :: st) H Q := by
  intro b o L xs dC dI aC p l e R s m args below meth c Hm locs cells slots Qm ls hC hW hS hl h1 h2 h3 h4 hr
  exact lv_ladd hC.1 hC.2.1 hd (k b o L xs dC dI aC p l e R s m args below meth c Hm locs cells slots Qm ls hC hW hS hl h1 h2 h3 h4 hr)
theorem wp_lor {x : Int64} {z : Int64} (hd : decode y.2.1 pc = .ok (.lor, 1)) (k : Wp y d kc ks (pc + 1) lo (.long (x ||| z) :: st) H Q) : Wp y d kc ks pc lo (.long z :: .long x :: st) H Q := by
  intro b o L xs dC dI aC p l e R s m args below meth c Hm locs cells slots Qm ls hC hW hS hl h1 h2 h3 h4 hr
  exact lv_lor hC.1 hC.2.1 hd (k b o L xs dC dI aC p l e R s m args below meth c Hm locs cells slots Qm ls hC hW hS hl h1 h2 h3 h4 hr)
theorem wp_lshl {x : Int64} {z : Int32} (hd : decode y.2.1 pc = .ok (.lshl, 1)) (k : Wp y d kc ks (pc + 1) lo (.long (x <<< (z.toInt64 &&& 63)) :: st) H Q) : Wp y d kc ks pc lo (.int z :: .long x :: st) H Q := by
  intro b o L xs dC dI aC p l e R s m args below meth c Hm locs cells slots Qm ls hC hW hS hl h1 h2 h3 h4 hr
  exact lv_lshl hC.1 hC.2.1 hd rfl (k b o L xs dC dI aC p l e R s m args below meth c Hm locs cells slots Qm ls hC hW hS hl h1 h2 h3 h4 hr)
theorem wp_lushr {x : Int64} {z : Int32} (hd : decode y.2.1 pc = .ok (.lushr, 1)) (k : Wp y d kc ks (pc + 1) lo (.long ((x.toUInt64 >>> (z.toInt64.toUInt64 &&& Int64.toUInt64 63)).toInt64) :: st) H Q) : Wp y d kc ks pc lo (.int z :: .long x :: st) H Q := by
  intro b o L xs dC dI aC p l e R s m args below meth c Hm locs cells slots Qm ls hC hW hS hl h1 h2 h3 h4 hr
  exact lv_lushr hC.1 hC.2.1 hd rfl (k b o L xs dC dI aC p l e R s m args below meth c Hm locs cells slots Qm ls hC hW hS hl h1 h2 h3 h4 hr)
theorem wp_ineg {x : Int32} (hd : decode y.2.1 pc = .ok (.ineg, 1)) (k : Wp y d kc ks (pc + 1) lo (.int (-x) :: st) H Q) : Wp y d kc ks pc lo (.int x :: st) H Q := by
  intro b o L xs dC dI aC p l e R s m args below meth c Hm locs cells slots Qm ls hC hW hS hl h1 h2 h3 h4 hr
  exact lv_ineg hC.1 hC.2.1 hd (k b o L xs dC dI aC p l e R s m args below meth c Hm locs cells slots Qm ls hC hW hS hl h1 h2 h3 h4 hr)
theorem wp_i2l {x : Int32} (hd : decode y.2.1 pc = .ok (.i2l, 1)) (k : Wp y d kc ks (pc + 1) lo (.long (x.toInt64) :: st) H Q) : Wp y d kc ks pc lo (.int x :: st) H Q := by
  intro b o L xs dC dI aC p l e R s m args below meth c Hm locs cells slots Qm ls hC hW hS hl h1 h2 h3 h4 hr
  exact lv_i2l hC.1 hC.2.1 hd rfl (k b o L xs dC dI aC p l e R s m args below meth c Hm locs cells slots Qm ls hC hW hS hl h1 h2 h3 h4 hr)
theorem wp_l2i {x : Int64} (hd : decode y.2.1 pc = .ok (.l2i, 1)) (k : Wp y d kc ks (pc + 1) lo (.int (x.toInt32) :: st) H Q) : Wp y d kc ks pc lo (.long x :: st) H Q := by
  intro b o L xs dC dI aC p l e R s m args below meth c Hm locs cells slots Qm ls hC hW hS hl h1 h2 h3 h4 hr
  exact lv_l2i hC.1 hC.2.1 hd rfl (k b o L xs dC dI aC p l e R s m args below meth c Hm locs cells slots Qm ls hC hW hS hl h1 h2 h3 h4 hr)
theorem wp_i2b {x : Int32} (hd : decode y.2.1 pc = .ok (.i2b, 1)) (k : Wp y d kc ks (pc + 1) lo (.int (x.toInt8.toInt32) :: st) H Q) : Wp y d kc ks pc lo (.int x :: st) H Q := by
  intro b o L xs dC dI aC p l e R s m args below meth c Hm locs cells slots Qm ls hC hW hS hl h1 h2 h3 h4 hr
  exact lv_i2b hC.1 hC.2.1 hd rfl (k b o L xs dC dI aC p l e R s m args below meth c Hm locs cells slots Qm ls hC hW hS hl h1 h2 h3 h4 hr)
theorem wp_idiv {x z : Int32} (hd : decode y.2.1 pc = .ok (.idiv, 1)) (hz : ¬ z = 0) (k : Wp y d kc ks (pc + 1) lo (.int (x / z) :: st) H Q) : Wp y d kc ks pc lo (.int z :: .int x :: st) H Q := by
  intro b o L xs dC dI aC p l e R s m args below meth c Hm locs cells slots Qm ls hC hW hS hl h1 h2 h3 h4 hr
  exact lv_idiv hC.1 hC.2.1 hd hz (k b o L xs dC dI aC p l e R s m args below meth c Hm locs cells slots Qm ls hC hW hS hl h1 h2 h3 h4 hr)
theorem wp_lcmp {x z : Int64} (hd : decode y.2.1 pc = .ok (.lcmp, 1)) (k : Wp y d kc ks (pc + 1) lo (.int (lg_cmp x z) :: st) H Q) : Wp y d kc ks pc lo (.long z :: .long x :: st) H Q := by
  intro b o L xs dC dI aC p l e R s m args below meth c Hm locs cells slots Qm ls hC hW hS hl h1 h2 h3 h4 hr
  exact W.lcmp hC.1 hC.2.1 hd (k b o L xs dC dI aC p l e R s m args below meth c Hm locs cells slots Qm ls hC hW hS hl h1 h2 h3 h4 hr)
theorem wp_iconst {n : Int} {v : Int32} (hd : decode y.2.1 pc = .ok (.iconst n, 1)) (hv : Int32.ofInt n = v) (k : Wp y d kc ks (pc + 1) lo (.int v :: st) H Q) : Wp y d kc ks pc lo st H Q := by
  intro b o L xs dC dI aC p l e R s m args below meth c Hm locs cells slots Qm ls hC hW hS hl h1 h2 h3 h4 hr
  exact lv_iconst hC.1 hC.2.1 hd hv (k b o L xs dC dI aC p l e R s m args below meth c Hm locs cells slots Qm ls hC hW hS hl h1 h2 h3 h4 hr)
theorem wp_bipush {n : Int} {v : Int32} (hd : decode y.2.1 pc = .ok (.bipush n, 2)) (hv : (Int8.ofInt n).toInt32 = v) (k : Wp y d kc ks (pc + 2) lo (.int v :: st) H Q) : Wp y d kc ks pc lo st H Q := by
  intro b o L xs dC dI aC p l e R s m args below meth c Hm locs cells slots Qm ls hC hW hS hl h1 h2 h3 h4 hr
  exact lv_bipush hC.1 hC.2.1 hd hv (k b o L xs dC dI aC p l e R s m args below meth c Hm locs cells slots Qm ls hC hW hS hl h1 h2 h3 h4 hr)
theorem wp_sipush {n : Int} {v : Int32} (hd : decode y.2.1 pc = .ok (.sipush n, 3)) (hv : (Int16.ofInt n).toInt32 = v) (k : Wp y d kc ks (pc + 3) lo (.int v :: st) H Q) : Wp y d kc ks pc lo st H Q := by
  intro b o L xs dC dI aC p l e R s m args below meth c Hm locs cells slots Qm ls hC hW hS hl h1 h2 h3 h4 hr
  exact lv_sipush hC.1 hC.2.1 hd hv (k b o L xs dC dI aC p l e R s m args below meth c Hm locs cells slots Qm ls hC hW hS hl h1 h2 h3 h4 hr)
theorem wp_lconst {n : Fin 2} {v : Int64} (hd : decode y.2.1 pc = .ok (.lconst n, 1)) (hv : Int64.ofNat (n : Nat) = v) (k : Wp y d kc ks (pc + 1) lo (.long v :: st) H Q) : Wp y d kc ks pc lo st H Q := by
  intro b o L xs dC dI aC p l e R s m args below meth c Hm locs cells slots Qm ls hC hW hS hl h1 h2 h3 h4 hr
  exact lv_lconst hC.1 hC.2.1 hd hv (k b o L xs dC dI aC p l e R s m args below meth c Hm locs cells slots Qm ls hC hW hS hl h1 h2 h3 h4 hr)
theorem wp_aconst_null  (hd : decode y.2.1 pc = .ok (.aconst_null, 1)) (k : Wp y d kc ks (pc + 1) lo (.null :: st) H Q) : Wp y d kc ks pc lo st H Q := by
  intro b o L xs dC dI aC p l e R s m args below meth c Hm locs cells slots Qm ls hC hW hS hl h1 h2 h3 h4 hr
  exact lv_null hC.1 hC.2.1 hd (k b o L xs dC dI aC p l e R s m args below meth c Hm locs cells slots Qm ls hC hW hS hl h1 h2 h3 h4 hr)
theorem wp_ldc2_w {ix : Nat} {v : Int64} (hd : decode y.2.1 pc = .ok (.ldc2_w ix, 3)) (hw : Cond.constantLong y.1.cls ix v ∈ gw) (k : Wp y d kc ks (pc + 3) lo (.long v :: st) H Q) : Wp y d kc ks pc lo st H Q := by
  intro b o L xs dC dI aC p l e R s m args below meth c Hm locs cells slots Qm ls hC hW hS hl h1 h2 h3 h4 hr
  exact lv_ldc2 hC.1 hC.2.1 hC.2.2.2.1 (hC.2.2.2.2.2.1 _ hw) hd (k b o L xs dC dI aC p l e R s m args below meth c Hm locs cells slots Qm ls hC hW hS hl h1 h2 h3 h4 hr)
theorem wp_ldc_w {ix : Nat} {v : Int32} (hd : decode y.2.1 pc = .ok (.ldc_w ix, 3)) (hw : Cond.constant y.1.cls ix v ∈ gw) (k : Wp y d kc ks (pc + 3) lo (.int v :: st) H Q) : Wp y d kc ks pc lo st H Q := by
  intro b o L xs dC dI aC p l e R s m args below meth c Hm locs cells slots Qm ls hC hW hS hl h1 h2 h3 h4 hr
  exact lv_ldcw hC.1 hC.2.1 hC.2.2.2.1 (hC.2.2.2.2.2.1 _ hw) hd (k b o L xs dC dI aC p l e R s m args below meth c Hm locs cells slots Qm ls hC hW hS hl h1 h2 h3 h4 hr)
theorem wp_ldc {ix : Nat} {v : Int32} (hd : decode y.2.1 pc = .ok (.ldc ix, 2)) (hw : Cond.constant y.1.cls ix v ∈ gw) (k : Wp y d kc ks (pc + 2) lo (.int v :: st) H Q) : Wp y d kc ks pc lo st H Q := by
  intro b o L xs dC dI aC p l e R s m args below meth c Hm locs cells slots Qm ls hC hW hS hl h1 h2 h3 h4 hr
  exact lv_ldc hC.1 hC.2.1 hC.2.2.2.1 (hC.2.2.2.2.2.1 _ hw) hd (k b o L xs dC dI aC p l e R s m args below meth c Hm locs cells slots Qm ls hC hW hS hl h1 h2 h3 h4 hr)
theorem wp_iload_n {i : Fin 4} {x : Int32} (hd : decode y.2.1 pc = .ok (.iload_n i, 1)) (hl0 : lo[(i : Nat)]? = some (some (.int x))) (k : Wp y d kc ks (pc + 1) lo (.int x :: st) H Q) : Wp y d kc ks pc lo st H Q := by
  intro b o L xs dC dI aC p l e R s m args below meth c Hm locs cells slots Qm ls hC hW hS hl h1 h2 h3 h4 hr
  exact lv_iload_n hC.1 hC.2.1 hd rfl (hl.2.2 _ _ hl0) (k b o L xs dC dI aC p l e R s m args below meth c Hm locs cells slots Qm ls hC hW hS hl h1 h2 h3 h4 hr)
theorem wp_iload {i : Nat} {x : Int32} (hd : decode y.2.1 pc = .ok (.iload i, 2)) (hl0 : lo[i]? = some (some (.int x))) (k : Wp y d kc ks (pc + 2) lo (.int x :: st) H Q) : Wp y d kc ks pc lo st H Q := by
  intro b o L xs dC dI aC p l e R s m args below meth c Hm locs cells slots Qm ls hC hW hS hl h1 h2 h3 h4 hr
  exact lv_iload hC.1 hC.2.1 hd (hl.2.2 _ _ hl0) (k b o L xs dC dI aC p l e R s m args below meth c Hm locs cells slots Qm ls hC hW hS hl h1 h2 h3 h4 hr)
theorem wp_lload_n {i : Fin 4} {x : Int64} (hd : decode y.2.1 pc = .ok (.lload_n i, 1)) (hl0 : lo[(i : Nat)]? = some (some (.long x))) (k : Wp y d kc ks (pc + 1) lo (.long x :: st) H Q) : Wp y d kc ks pc lo st H Q := by
  intro b o L xs dC dI aC p l e R s m args below meth c Hm locs cells slots Qm ls hC hW hS hl h1 h2 h3 h4 hr
  exact lv_lload_n hC.1 hC.2.1 hd rfl (hl.2.2 _ _ hl0) (k b o L xs dC dI aC p l e R s m args below meth c Hm locs cells slots Qm ls hC hW hS hl h1 h2 h3 h4 hr)
theorem wp_lload {i : Nat} {x : Int64} (hd : decode y.2.1 pc = .ok (.lload i, 2)) (hl0 : lo[i]? = some (some (.long x))) (k : Wp y d kc ks (pc + 2) lo (.long x :: st) H Q) : Wp y d kc ks pc lo st H Q := by
  intro b o L xs dC dI aC p l e R s m args below meth c Hm locs cells slots Qm ls hC hW hS hl h1 h2 h3 h4 hr
  exact lv_lload hC.1 hC.2.1 hd (hl.2.2 _ _ hl0) (k b o L xs dC dI aC p l e R s m args below meth c Hm locs cells slots Qm ls hC hW hS hl h1 h2 h3 h4 hr)
theorem wp_aload_n {i : Fin 4} {a : Nat} (hd : decode y.2.1 pc = .ok (.aload_n i, 1)) (hl0 : lo[(i : Nat)]? = some (some (.ref a))) (k : Wp y d kc ks (pc + 1) lo (.ref a :: st) H Q) : Wp y d kc ks pc lo st H Q := by
  intro b o L xs dC dI aC p l e R s m args below meth c Hm locs cells slots Qm ls hC hW hS hl h1 h2 h3 h4 hr
  exact lv_aload_n hC.1 hC.2.1 hd rfl (hl.2.2 _ _ hl0) (k b o L xs dC dI aC p l e R s m args below meth c Hm locs cells slots Qm ls hC hW hS hl h1 h2 h3 h4 hr)
theorem wp_aload_nN {i : Fin 4} (hd : decode y.2.1 pc = .ok (.aload_n i, 1)) (hl0 : lo[(i : Nat)]? = some (some .null)) (k : Wp y d kc ks (pc + 1) lo (.null :: st) H Q) : Wp y d kc ks pc lo st H Q := by
  intro b o L xs dC dI aC p l e R s m args below meth c Hm locs cells slots Qm ls hC hW hS hl h1 h2 h3 h4 hr
  exact lv_aload_nN hC.1 hC.2.1 hd rfl (hl.2.2 _ _ hl0) (k b o L xs dC dI aC p l e R s m args below meth c Hm locs cells slots Qm ls hC hW hS hl h1 h2 h3 h4 hr)
theorem wp_aload_nQ {i : Fin 4} {r : Option Nat} (hd : decode y.2.1 pc = .ok (.aload_n i, 1)) (hl0 : lo[(i : Nat)]? = some (some (va_rf r))) (k : Wp y d kc ks (pc + 1) lo (va_rf r :: st) H Q) : Wp y d kc ks pc lo st H Q := by
  cases r with
  | none => exact wp_aload_nN hd hl0 k
  | some a => exact wp_aload_n hd hl0 k
theorem wp_aload {i : Nat} {a : Nat} (hd : decode y.2.1 pc = .ok (.aload i, 2)) (hl0 : lo[i]? = some (some (.ref a))) (k : Wp y d kc ks (pc + 2) lo (.ref a :: st) H Q) : Wp y d kc ks pc lo st H Q := by
  intro b o L xs dC dI aC p l e R s m args below meth c Hm locs cells slots Qm ls hC hW hS hl h1 h2 h3 h4 hr
  exact lv_aload hC.1 hC.2.1 hd (hl.2.2 _ _ hl0) (k b o L xs dC dI aC p l e R s m args below meth c Hm locs cells slots Qm ls hC hW hS hl h1 h2 h3 h4 hr)
theorem wp_aloadN {i : Nat} (hd : decode y.2.1 pc = .ok (.aload i, 2)) (hl0 : lo[i]? = some (some .null)) (k : Wp y d kc ks (pc + 2) lo (.null :: st) H Q) : Wp y d kc ks pc lo st H Q := by
  intro b o L xs dC dI aC p l e R s m args below meth c Hm locs cells slots Qm ls hC hW hS hl h1 h2 h3 h4 hr
  exact lv_aloadN hC.1 hC.2.1 hd (hl.2.2 _ _ hl0) (k b o L xs dC dI aC p l e R s m args below meth c Hm locs cells slots Qm ls hC hW hS hl h1 h2 h3 h4 hr)
theorem wp_aloadQ {i : Nat} {r : Option Nat} (hd : decode y.2.1 pc = .ok (.aload i, 2)) (hl0 : lo[i]? = some (some (va_rf r))) (k : Wp y d kc ks (pc + 2) lo (va_rf r :: st) H Q) : Wp y d kc ks pc lo st H Q := by
  cases r with
  | none => exact wp_aloadN hd hl0 k
  | some a => exact wp_aload hd hl0 k
theorem wp_istore_n {i : Fin 4} {x : Int32} (hd : decode y.2.1 pc = .ok (.istore_n i, 1)) (hn : (i : Nat) < y.2.2.1) (k : Wp y d kc ks (pc + 1) (lset lo (i : Nat) (.int x)) st H Q) : Wp y d kc ks pc lo (.int x :: st) H Q := by
  intro b o L xs dC dI aC p l e R s m args below meth c Hm locs cells slots Qm ls hC hW hS hl h1 h2 h3 h4 hr
  refine lv_istore_n hC.1 hC.2.1 hd rfl (lo_has hl) hn rfl (fun ls' hl' => ?_)
  exact k b o L xs dC dI aC p l e R s m args below meth c Hm locs cells slots Qm ls' hC hW hS (lo_store1 hl') h1 h2 h3 h4 hr
theorem wp_astore_n {i : Fin 4} {a : Nat} (hd : decode y.2.1 pc = .ok (.astore_n i, 1)) (hn : (i : Nat) < y.2.2.1) (k : Wp y d kc ks (pc + 1) (lset lo (i : Nat) (.ref a)) st H Q) : Wp y d kc ks pc lo (.ref a :: st) H Q := by
  intro b o L xs dC dI aC p l e R s m args below meth c Hm locs cells slots Qm ls hC hW hS hl h1 h2 h3 h4 hr
  refine lv_astore_n hC.1 hC.2.1 hd rfl (lo_has hl) hn rfl (fun ls' hl' => ?_)
  exact k b o L xs dC dI aC p l e R s m args below meth c Hm locs cells slots Qm ls' hC hW hS (lo_store1 hl') h1 h2 h3 h4 hr
theorem wp_astore_nN {i : Fin 4}  (hd : decode y.2.1 pc = .ok (.astore_n i, 1)) (hn : (i : Nat) < y.2.2.1) (k : Wp y d kc ks (pc + 1) (lset lo (i : Nat) .null) st H Q) : Wp y d kc ks pc lo (.null :: st) H Q := by
  intro b o L xs dC dI aC p l e R s m args below meth c Hm locs cells slots Qm ls hC hW hS hl h1 h2 h3 h4 hr
  refine lv_astore_nN hC.1 hC.2.1 hd rfl (lo_has hl) hn rfl (fun ls' hl' => ?_)
  exact k b o L xs dC dI aC p l e R s m args below meth c Hm locs cells slots Qm ls' hC hW hS (lo_store1 hl') h1 h2 h3 h4 hr
theorem wp_astore_nQ {i : Fin 4} {r : Option Nat} (hd : decode y.2.1 pc = .ok (.astore_n i, 1)) (hn : (i : Nat) < y.2.2.1) (k : Wp y d kc ks (pc + 1) (lset lo (i : Nat) (va_rf r)) st H Q) : Wp y d kc ks pc lo (va_rf r :: st) H Q := by
  cases r with
  | none => exact wp_astore_nN hd hn k
  | some a => exact wp_astore_n hd hn k
theorem wp_lstore_n {i : Fin 4} {x : Int64} (hd : decode y.2.1 pc = .ok (.lstore_n i, 1)) (hn : (i : Nat) + 1 < y.2.2.1) (k : Wp y d kc ks (pc + 1) (lset2 lo (i : Nat) (.long x)) st H Q) : Wp y d kc ks pc lo (.long x :: st) H Q := by
  intro b o L xs dC dI aC p l e R s m args below meth c Hm locs cells slots Qm ls hC hW hS hl h1 h2 h3 h4 hr
  refine lv_lstore_n hC.1 hC.2.1 hd rfl (lo_has hl) hn rfl (fun ls' hl' => ?_)
  exact k b o L xs dC dI aC p l e R s m args below meth c Hm locs cells slots Qm ls' hC hW hS (lo_store2 hl') h1 h2 h3 h4 hr
theorem wp_istore {i : Nat} {x : Int32} (hd : decode y.2.1 pc = .ok (.istore i, 2)) (hn : i < y.2.2.1) (k : Wp y d kc ks (pc + 2) (lset lo i (.int x)) st H Q) : Wp y d kc ks pc lo (.int x :: st) H Q := by
  intro b o L xs dC dI aC p l e R s m args below meth c Hm locs cells slots Qm ls hC hW hS hl h1 h2 h3 h4 hr
  refine lv_istore hC.1 hC.2.1 hd (lo_has hl) hn rfl (fun ls' hl' => ?_)
  exact k b o L xs dC dI aC p l e R s m args below meth c Hm locs cells slots Qm ls' hC hW hS (lo_store1 hl') h1 h2 h3 h4 hr
theorem wp_astore {i : Nat} {a : Nat} (hd : decode y.2.1 pc = .ok (.astore i, 2)) (hn : i < y.2.2.1) (k : Wp y d kc ks (pc + 2) (lset lo i (.ref a)) st H Q) : Wp y d kc ks pc lo (.ref a :: st) H Q := by
  intro b o L xs dC dI aC p l e R s m args below meth c Hm locs cells slots Qm ls hC hW hS hl h1 h2 h3 h4 hr
  refine lv_astore hC.1 hC.2.1 hd (lo_has hl) hn rfl (fun ls' hl' => ?_)
  exact k b o L xs dC dI aC p l e R s m args below meth c Hm locs cells slots Qm ls' hC hW hS (lo_store1 hl') h1 h2 h3 h4 hr
theorem wp_astoreN {i : Nat}  (hd : decode y.2.1 pc = .ok (.astore i, 2)) (hn : i < y.2.2.1) (k : Wp y d kc ks (pc + 2) (lset lo i .null) st H Q) : Wp y d kc ks pc lo (.null :: st) H Q := by
  intro b o L xs dC dI aC p l e R s m args below meth c Hm locs cells slots Qm ls hC hW hS hl h1 h2 h3 h4 hr
  refine lv_astoreN hC.1 hC.2.1 hd (lo_has hl) hn rfl (fun ls' hl' => ?_)
  exact k b o L xs dC dI aC p l e R s m args below meth c Hm locs cells slots Qm ls' hC hW hS (lo_store1 hl') h1 h2 h3 h4 hr
theorem wp_astoreQ {i : Nat} {r : Option Nat} (hd : decode y.2.1 pc = .ok (.astore i, 2)) (hn : i < y.2.2.1) (k : Wp y d kc ks (pc + 2) (lset lo i (va_rf r)) st H Q) : Wp y d kc ks pc lo (va_rf r :: st) H Q := by
  cases r with
  | none => exact wp_astoreN hd hn k
  | some a => exact wp_astore hd hn k
theorem wp_lstore {i : Nat} {x : Int64} (hd : decode y.2.1 pc = .ok (.lstore i, 2)) (hn : i + 1 < y.2.2.1) (k : Wp y d kc ks (pc + 2) (lset2 lo i (.long x)) st H Q) : Wp y d kc ks pc lo (.long x :: st) H Q := by
  intro b o L xs dC dI aC p l e R s m args below meth c Hm locs cells slots Qm ls hC hW hS hl h1 h2 h3 h4 hr
  refine lv_lstore hC.1 hC.2.1 hd (lo_has hl) hn rfl (fun ls' hl' => ?_)
  exact k b o L xs dC dI aC p l e R s m args below meth c Hm locs cells slots Qm ls' hC hW hS (lo_store2 hl') h1 h2 h3 h4 hr
theorem wp_iinc {i : Nat} {n : Int} {x v : Int32} (hd : decode y.2.1 pc = .ok (.iinc i n, 3)) (hl0 : lo[i]? = some (some (.int x))) (hv : x + Int32.ofInt n = v) (hn : i < y.2.2.1) (k : Wp y d kc ks (pc + 3) (lset lo i (.int v)) st H Q) : Wp y d kc ks pc lo st H Q := by
  intro b o L xs dC dI aC p l e R s m args below meth c Hm locs cells slots Qm ls hC hW hS hl h1 h2 h3 h4 hr
  obtain ⟨kk, hkk⟩ := List.mem_iff_getElem?.mp (lo_mem (b := b) (o := o) hl0)
  refine lv_iinc hC.1 hC.2.1 hd (lo_has hl) (k := kk) hkk hv hn rfl (fun ls' hl' => ?_)
  exact k b o L xs dC dI aC p l e R s m args below meth c Hm locs cells slots Qm ls' hC hW hS (lo_store1 hl') h1 h2 h3 h4 hr
theorem wp_dup {v : Value} (hd : decode y.2.1 pc = .ok (.dup, 1)) (hv : v.category = 1) (k : Wp y d kc ks (pc + 1) lo (v :: v :: st) H Q) : Wp y d kc ks pc lo (v :: st) H Q := by
  intro b o L xs dC dI aC p l e R s m args below meth c Hm locs cells slots Qm ls hC hW hS hl h1 h2 h3 h4 hr
  exact lv_dup hC.1 hC.2.1 hd ((shV_cat _ _ _).trans hv) (k b o L xs dC dI aC p l e R s m args below meth c Hm locs cells slots Qm ls hC hW hS hl h1 h2 h3 h4 hr)
theorem wp_dup2 {v w : Value} (hd : decode y.2.1 pc = .ok (.dup2, 1)) (hv : v.category = 1) (hw : w.category = 1) (k : Wp y d kc ks (pc + 1) lo (v :: w :: v :: w :: st) H Q) : Wp y d kc ks pc lo (v :: w :: st) H Q := by
  intro b o L xs dC dI aC p l e R s m args below meth c Hm locs cells slots Qm ls hC hW hS hl h1 h2 h3 h4 hr
  exact lv_dup2_11 hC.1 hC.2.1 hd ((shV_cat _ _ _).trans hv) ((shV_cat _ _ _).trans hw) (k b o L xs dC dI aC p l e R s m args below meth c Hm locs cells slots Qm ls hC hW hS hl h1 h2 h3 h4 hr)
theorem wp_pop {v : Value} (hd : decode y.2.1 pc = .ok (.pop, 1)) (hv : v.category = 1) (k : Wp y d kc ks (pc + 1) lo st H Q) : Wp y d kc ks pc lo (v :: st) H Q := by
  intro b o L xs dC dI aC p l e R s m args below meth c Hm locs cells slots Qm ls hC hW hS hl h1 h2 h3 h4 hr
  exact lv_pop hC.1 hC.2.1 hd ((shV_cat _ _ _).trans hv) (k b o L xs dC dI aC p l e R s m args below meth c Hm locs cells slots Qm ls hC hW hS hl h1 h2 h3 h4 hr)
theorem wp_if_eq {x : Int32} {off : Int} {tgt : Nat} (hd : decode y.2.1 pc = .ok (.ifCond .eq off, 3)) (ht : (pc : Int) + off = (tgt : Int)) (kt : x = 0 → Wp y d kc ks tgt lo st H Q) (kf : ¬ x = 0 → Wp y d kc ks (pc + 3) lo st H Q) : Wp y d kc ks pc lo (.int x :: st) H Q := by
  intro b o L xs dC dI aC p l e R s m args below meth c Hm locs cells slots Qm ls hC hW hS hl h1 h2 h3 h4 hr
  exact lv_if_eq hC.1 hC.2.1 hd ht (fun q => kt q b o L xs dC dI aC p l e R s m args below meth c Hm locs cells slots Qm ls hC hW hS hl h1 h2 h3 h4 hr) (fun q => kf q b o L xs dC dI aC p l e R s m args below meth c Hm locs cells slots Qm ls hC hW hS hl h1 h2 h3 h4 hr)
theorem wp_icmp_eq {x z : Int32} {off : Int} {tgt : Nat} (hd : decode y.2.1 pc = .ok (.if_icmp .eq off, 3)) (ht : (pc : Int) + off = (tgt : Int)) (kt : x = z → Wp y d kc ks tgt lo st H Q) (kf : ¬ x = z → Wp y d kc ks (pc + 3) lo st H Q) : Wp y d kc ks pc lo (.int z :: .int x :: st) H Q := by
  intro b o L xs dC dI aC p l e R s m args below meth c Hm locs cells slots Qm ls hC hW hS hl h1 h2 h3 h4 hr
  exact lv_icmp_eq hC.1 hC.2.1 hd ht (fun q => kt q b o L xs dC dI aC p l e R s m args below meth c Hm locs cells slots Qm ls hC hW hS hl h1 h2 h3 h4 hr) (fun q => kf q b o L xs dC dI aC p l e R s m args below meth c Hm locs cells slots Qm ls hC hW hS hl h1 h2 h3 h4 hr)
theorem wp_if_ne {x : Int32} {off : Int} {tgt : Nat} (hd : decode y.2.1 pc = .ok (.ifCond .ne off, 3)) (ht : (pc : Int) + off = (tgt : Int)) (kt : ¬ x = 0 → Wp y d kc ks tgt lo st H Q) (kf : x = 0 → Wp y d kc ks (pc + 3) lo st H Q) : Wp y d kc ks pc lo (.int x :: st) H Q := by
  intro b o L xs dC dI aC p l e R s m args below meth c Hm locs cells slots Qm ls hC hW hS hl h1 h2 h3 h4 hr
  exact lv_if_ne hC.1 hC.2.1 hd ht (fun q => kt q b o L xs dC dI aC p l e R s m args below meth c Hm locs cells slots Qm ls hC hW hS hl h1 h2 h3 h4 hr) (fun q => kf q b o L xs dC dI aC p l e R s m args below meth c Hm locs cells slots Qm ls hC hW hS hl h1 h2 h3 h4 hr)
theorem wp_icmp_ne {x z : Int32} {off : Int} {tgt : Nat} (hd : decode y.2.1 pc = .ok (.if_icmp .ne off, 3)) (ht : (pc : Int) + off = (tgt : Int)) (kt : ¬ x = z → Wp y d kc ks tgt lo st H Q) (kf : x = z → Wp y d kc ks (pc + 3) lo st H Q) : Wp y d kc ks pc lo (.int z :: .int x :: st) H Q := by
  intro b o L xs dC dI aC p l e R s m args below meth c Hm locs cells slots Qm ls hC hW hS hl h1 h2 h3 h4 hr
  exact lv_icmp_ne hC.1 hC.2.1 hd ht (fun q => kt q b o L xs dC dI aC p l e R s m args below meth c Hm locs cells slots Qm ls hC hW hS hl h1 h2 h3 h4 hr) (fun q => kf q b o L xs dC dI aC p l e R s m args below meth c Hm locs cells slots Qm ls hC hW hS hl h1 h2 h3 h4 hr)
theorem wp_if_lt {x : Int32} {off : Int} {tgt : Nat} (hd : decode y.2.1 pc = .ok (.ifCond .lt off, 3)) (ht : (pc : Int) + off = (tgt : Int)) (kt : x < 0 → Wp y d kc ks tgt lo st H Q) (kf : ¬ x < 0 → Wp y d kc ks (pc + 3) lo st H Q) : Wp y d kc ks pc lo (.int x :: st) H Q := by
  intro b o L xs dC dI aC p l e R s m args below meth c Hm locs cells slots Qm ls hC hW hS hl h1 h2 h3 h4 hr
  exact lv_if_lt hC.1 hC.2.1 hd ht (fun q => kt q b o L xs dC dI aC p l e R s m args below meth c Hm locs cells slots Qm ls hC hW hS hl h1 h2 h3 h4 hr) (fun q => kf q b o L xs dC dI aC p l e R s m args below meth c Hm locs cells slots Qm ls hC hW hS hl h1 h2 h3 h4 hr)
theorem wp_icmp_lt {x z : Int32} {off : Int} {tgt : Nat} (hd : decode y.2.1 pc = .ok (.if_icmp .lt off, 3)) (ht : (pc : Int) + off = (tgt : Int)) (kt : x < z → Wp y d kc ks tgt lo st H Q) (kf : ¬ x < z → Wp y d kc ks (pc + 3) lo st H Q) : Wp y d kc ks pc lo (.int z :: .int x :: st) H Q := by
  intro b o L xs dC dI aC p l e R s m args below meth c Hm locs cells slots Qm ls hC hW hS hl h1 h2 h3 h4 hr
  exact lv_icmp_lt hC.1 hC.2.1 hd ht (fun q => kt q b o L xs dC dI aC p l e R s m args below meth c Hm locs cells slots Qm ls hC hW hS hl h1 h2 h3 h4 hr) (fun q => kf q b o L xs dC dI aC p l e R s m args below meth c Hm locs cells slots Qm ls hC hW hS hl h1 h2 h3 h4 hr)
theorem wp_if_ge {x : Int32} {off : Int} {tgt : Nat} (hd : decode y.2.1 pc = .ok (.ifCond .ge off, 3)) (ht : (pc : Int) + off = (tgt : Int)) (kt : 0 ≤ x → Wp y d kc ks tgt lo st H Q) (kf : ¬ 0 ≤ x → Wp y d kc ks (pc + 3) lo st H Q) : Wp y d kc ks pc lo (.int x :: st) H Q := by
  intro b o L xs dC dI aC p l e R s m args below meth c Hm locs cells slots Qm ls hC hW hS hl h1 h2 h3 h4 hr
  exact lv_if_ge hC.1 hC.2.1 hd ht (fun q => kt q b o L xs dC dI aC p l e R s m args below meth c Hm locs cells slots Qm ls hC hW hS hl h1 h2 h3 h4 hr) (fun q => kf q b o L xs dC dI aC p l e R s m args below meth c Hm locs cells slots Qm ls hC hW hS hl h1 h2 h3 h4 hr)
theorem wp_icmp_ge {x z : Int32} {off : Int} {tgt : Nat} (hd : decode y.2.1 pc = .ok (.if_icmp .ge off, 3)) (ht : (pc : Int) + off = (tgt : Int)) (kt : z ≤ x → Wp y d kc ks tgt lo st H Q) (kf : ¬ z ≤ x → Wp y d kc ks (pc + 3) lo st H Q) : Wp y d kc ks pc lo (.int z :: .int x :: st) H Q := by
  intro b o L xs dC dI aC p l e R s m args below meth c Hm locs cells slots Qm ls hC hW hS hl h1 h2 h3 h4 hr
  exact lv_icmp_ge hC.1 hC.2.1 hd ht (fun q => kt q b o L xs dC dI aC p l e R s m args below meth c Hm locs cells slots Qm ls hC hW hS hl h1 h2 h3 h4 hr) (fun q => kf q b o L xs dC dI aC p l e R s m args below meth c Hm locs cells slots Qm ls hC hW hS hl h1 h2 h3 h4 hr)
theorem wp_if_gt {x : Int32} {off : Int} {tgt : Nat} (hd : decode y.2.1 pc = .ok (.ifCond .gt off, 3)) (ht : (pc : Int) + off = (tgt : Int)) (kt : 0 < x → Wp y d kc ks tgt lo st H Q) (kf : ¬ 0 < x → Wp y d kc ks (pc + 3) lo st H Q) : Wp y d kc ks pc lo (.int x :: st) H Q := by
  intro b o L xs dC dI aC p l e R s m args below meth c Hm locs cells slots Qm ls hC hW hS hl h1 h2 h3 h4 hr
  exact lv_if_gt hC.1 hC.2.1 hd ht (fun q => kt q b o L xs dC dI aC p l e R s m args below meth c Hm locs cells slots Qm ls hC hW hS hl h1 h2 h3 h4 hr) (fun q => kf q b o L xs dC dI aC p l e R s m args below meth c Hm locs cells slots Qm ls hC hW hS hl h1 h2 h3 h4 hr)
theorem wp_icmp_gt {x z : Int32} {off : Int} {tgt : Nat} (hd : decode y.2.1 pc = .ok (.if_icmp .gt off, 3)) (ht : (pc : Int) + off = (tgt : Int)) (kt : z < x → Wp y d kc ks tgt lo st H Q) (kf : ¬ z < x → Wp y d kc ks (pc + 3) lo st H Q) : Wp y d kc ks pc lo (.int z :: .int x :: st) H Q := by
  intro b o L xs dC dI aC p l e R s m args below meth c Hm locs cells slots Qm ls hC hW hS hl h1 h2 h3 h4 hr
  exact lv_icmp_gt hC.1 hC.2.1 hd ht (fun q => kt q b o L xs dC dI aC p l e R s m args below meth c Hm locs cells slots Qm ls hC hW hS hl h1 h2 h3 h4 hr) (fun q => kf q b o L xs dC dI aC p l e R s m args below meth c Hm locs cells slots Qm ls hC hW hS hl h1 h2 h3 h4 hr)
theorem wp_if_le {x : Int32} {off : Int} {tgt : Nat} (hd : decode y.2.1 pc = .ok (.ifCond .le off, 3)) (ht : (pc : Int) + off = (tgt : Int)) (kt : x ≤ 0 → Wp y d kc ks tgt lo st H Q) (kf : ¬ x ≤ 0 → Wp y d kc ks (pc + 3) lo st H Q) : Wp y d kc ks pc lo (.int x :: st) H Q := by
  intro b o L xs dC dI aC p l e R s m args below meth c Hm locs cells slots Qm ls hC hW hS hl h1 h2 h3 h4 hr
  exact lv_if_le hC.1 hC.2.1 hd ht (fun q => kt q b o L xs dC dI aC p l e R s m args below meth c Hm locs cells slots Qm ls hC hW hS hl h1 h2 h3 h4 hr) (fun q => kf q b o L xs dC dI aC p l e R s m args below meth c Hm locs cells slots Qm ls hC hW hS hl h1 h2 h3 h4 hr)
theorem wp_icmp_le {x z : Int32} {off : Int} {tgt : Nat} (hd : decode y.2.1 pc = .ok (.if_icmp .le off, 3)) (ht : (pc : Int) + off = (tgt : Int)) (kt : x ≤ z → Wp y d kc ks tgt lo st H Q) (kf : ¬ x ≤ z → Wp y d kc ks (pc + 3) lo st H Q) : Wp y d kc ks pc lo (.int z :: .int x :: st) H Q := by
  intro b o L xs dC dI aC p l e R s m args below meth c Hm locs cells slots Qm ls hC hW hS hl h1 h2 h3 h4 hr
  exact lv_icmp_le hC.1 hC.2.1 hd ht (fun q => kt q b o L xs dC dI aC p l e R s m args below meth c Hm locs cells slots Qm ls hC hW hS hl h1 h2 h3 h4 hr) (fun q => kf q b o L xs dC dI aC p l e R s m args below meth c Hm locs cells slots Qm ls hC hW hS hl h1 h2 h3 h4 hr)
theorem wp_goto {off : Int} {tgt : Nat} (hd : decode y.2.1 pc = .ok (.goto off, 3)) (ht : (pc : Int) + off = (tgt : Int)) (k : Wp y d kc ks tgt lo st H Q) : Wp y d kc ks pc lo st H Q := by
  intro b o L xs dC dI aC p l e R s m args below meth c Hm locs cells slots Qm ls hC hW hS hl h1 h2 h3 h4 hr
  exact lv_goto hC.1 hC.2.1 hd ht (k b o L xs dC dI aC p l e R s m args below meth c Hm locs cells slots Qm ls hC hW hS hl h1 h2 h3 h4 hr)
theorem wp_ifnull {r : Option Nat} {off : Int} {tgt : Nat} (hd : decode y.2.1 pc = .ok (.ifnull off, 3)) (ht : (pc : Int) + off = (tgt : Int)) (kn : r = none → Wp y d kc ks tgt lo st H Q) (ks' : ∀ a, r = some a → Wp y d kc ks (pc + 3) lo st H Q) : Wp y d kc ks pc lo (va_rf r :: st) H Q := by
  cases r with
  | none =>
    intro b o L xs dC dI aC p l e R s m args below meth c Hm locs cells slots Qm ls hC hW hS hl h1 h2 h3 h4 hr
    exact lv_ifnullN hC.1 hC.2.1 hd ht (kn rfl b o L xs dC dI aC p l e R s m args below meth c Hm locs cells slots Qm ls hC hW hS hl h1 h2 h3 h4 hr)
  | some a =>
    intro b o L xs dC dI aC p l e R s m args below meth c Hm locs cells slots Qm ls hC hW hS hl h1 h2 h3 h4 hr
    exact lv_ifnull hC.1 hC.2.1 hd (ks' a rfl b o L xs dC dI aC p l e R s m args below meth c Hm locs cells slots Qm ls hC hW hS hl h1 h2 h3 h4 hr)
theorem wp_ifnonnull {r : Option Nat} {off : Int} {tgt : Nat} (hd : decode y.2.1 pc = .ok (.ifnonnull off, 3)) (ht : (pc : Int) + off = (tgt : Int)) (kn : r = none → Wp y d kc ks (pc + 3) lo st H Q) (ks' : ∀ a, r = some a → Wp y d kc ks tgt lo st H Q) : Wp y d kc ks pc lo (va_rf r :: st) H Q := by
  cases r with
  | none =>
    intro b o L xs dC dI aC p l e R s m args below meth c Hm locs cells slots Qm ls hC hW hS hl h1 h2 h3 h4 hr
    exact lv_ifnonnullN hC.1 hC.2.1 hd (kn rfl b o L xs dC dI aC p l e R s m args below meth c Hm locs cells slots Qm ls hC hW hS hl h1 h2 h3 h4 hr)
  | some a =>
    intro b o L xs dC dI aC p l e R s m args below meth c Hm locs cells slots Qm ls hC hW hS hl h1 h2 h3 h4 hr
    exact lv_ifnonnull hC.1 hC.2.1 hd ht (ks' a rfl b o L xs dC dI aC p l e R s m args below meth c Hm locs cells slots Qm ls hC hW hS hl h1 h2 h3 h4 hr)
theorem wp_tableIn {dflt lo' hi : Int} {offs : Array Int} {len : Nat} {x : Int32} {off : Int} {tgt : Nat} (hd : decode y.2.1 pc = .ok (.tableswitch dflt lo' hi offs, len)) (q1 : ¬ x.toInt < lo') (q2 : ¬ hi < x.toInt) (ho : offs[(x.toInt - lo').toNat]? = some off) (ht : (pc : Int) + off = (tgt : Int)) (k : Wp y d kc ks tgt lo st H Q) : Wp y d kc ks pc lo (.int x :: st) H Q := by
  intro b o L xs dC dI aC p l e R s m args below meth c Hm locs cells slots Qm ls hC hW hS hl h1 h2 h3 h4 hr
  exact lv_tableIn hC.1 hC.2.1 hd q1 q2 ho ht (k b o L xs dC dI aC p l e R s m args below meth c Hm locs cells slots Qm ls hC hW hS hl h1 h2 h3 h4 hr)
theorem wp_tableOut {dflt lo' hi : Int} {offs : Array Int} {len : Nat} {x : Int32} {tgt : Nat} (hd : decode y.2.1 pc = .ok (.tableswitch dflt lo' hi offs, len)) (q1 : x.toInt < lo' ∨ hi < x.toInt) (ht : (pc : Int) + dflt = (tgt : Int)) (k : Wp y d kc ks tgt lo st H Q) : Wp y d kc ks pc lo (.int x :: st) H Q := by
  intro b o L xs dC dI aC p l e R s m args below meth c Hm locs cells slots Qm ls hC hW hS hl h1 h2 h3 h4 hr
  exact lv_tableOut hC.1 hC.2.1 hd q1 ht (k b o L xs dC dI aC p l e R s m args below meth c Hm locs cells slots Qm ls hC hW hS hl h1 h2 h3 h4 hr)
theorem wp_lookup {dflt : Int} {ps : Array (Int × Int)} {len : Nat} {x : Int32} {off : Int} {tgt : Nat} (hd : decode y.2.1 pc = .ok (.lookupswitch dflt ps, len)) (hp : (ps.toList.zip (ps.toList.drop 1)).all (fun (a, next) => a.1 < next.1) = true) (ho : Op.lookupswitch.offset ps.toList dflt x.toInt = off) (ht : (pc : Int) + off = (tgt : Int)) (k : Wp y d kc ks tgt lo st H Q) : Wp y d kc ks pc lo (.int x :: st) H Q := by
  intro b o L xs dC dI aC p l e R s m args below meth c Hm locs cells slots Qm ls hC hW hS hl h1 h2 h3 h4 hr
  exact lv_lookup hC.1 hC.2.1 hd hp ho ht (k b o L xs dC dI aC p l e R s m args below meth c Hm locs cells slots Qm ls hC hW hS hl h1 h2 h3 h4 hr)
theorem wp_return  (hy : y.2.2.2 = none) (hd : decode y.2.1 pc = .ok (.return_, 1)) (k : Q none H) : Wp y d kc ks pc lo [] H Q := by
  intro b o L xs dC dI aC p l e R s m args below meth c Hm locs cells slots Qm ls hC hW hS hl h1 h2 h3 h4 hr
  exact W.widen (k := cells + kc) (n := slots + ks) (Nat.le_add_right _ _) (Nat.le_add_right _ _) (hr _ _ _ _ _ _ _ k hW hS (Or.inl ⟨hy, rfl, rfl⟩) hd)
theorem wp_ireturn {x : Int32} (hy : y.2.2.2 = some .int) (hd : decode y.2.1 pc = .ok (.ireturn, 1)) (k : Q (some (.int x)) H) : Wp y d kc ks pc lo [.int x] H Q := by
  intro b o L xs dC dI aC p l e R s m args below meth c Hm locs cells slots Qm ls hC hW hS hl h1 h2 h3 h4 hr
  exact W.widen (k := cells + kc) (n := slots + ks) (Nat.le_add_right _ _) (Nat.le_add_right _ _) (hr _ _ _ _ _ _ _ k hW hS (Or.inr (Or.inl ⟨_, hy, rfl, rfl⟩)) hd)
theorem wp_zreturn {x : Int32} (hy : y.2.2.2 = some .boolean) (hb : x = 0 ∨ x = 1) (hd : decode y.2.1 pc = .ok (.ireturn, 1)) (k : Q (some (.int x)) H) : Wp y d kc ks pc lo [.int x] H Q := by
  intro b o L xs dC dI aC p l e R s m args below meth c Hm locs cells slots Qm ls hC hW hS hl h1 h2 h3 h4 hr
  exact W.widen (k := cells + kc) (n := slots + ks) (Nat.le_add_right _ _) (Nat.le_add_right _ _) (hr _ _ _ _ _ _ _ k hW hS (Or.inr (Or.inr (Or.inl ⟨_, hy, hb, rfl, rfl⟩))) hd)
theorem wp_lreturn {x : Int64} (hy : y.2.2.2 = some .long) (hd : decode y.2.1 pc = .ok (.lreturn, 1)) (k : Q (some (.long x)) H) : Wp y d kc ks pc lo [.long x] H Q := by
  intro b o L xs dC dI aC p l e R s m args below meth c Hm locs cells slots Qm ls hC hW hS hl h1 h2 h3 h4 hr
  exact W.widen (k := cells + kc) (n := slots + ks) (Nat.le_add_right _ _) (Nat.le_add_right _ _) (hr _ _ _ _ _ _ _ k hW hS (Or.inr (Or.inr (Or.inr (Or.inl ⟨_, hy, rfl, rfl⟩)))) hd)
theorem wp_areturn {r : Option Nat} {t : FieldType} (hy : y.2.2.2 = some t) (ht : (∃ n, t = .object n) ∨ ∃ u, t = .array u) (hd : decode y.2.1 pc = .ok (.areturn, 1)) (k : Q (some (va_rf r)) H) : Wp y d kc ks pc lo [va_rf r] H Q := by
  intro b o L xs dC dI aC p l e R s m args below meth c Hm locs cells slots Qm ls hC hW hS hl h1 h2 h3 h4 hr
  exact W.widen (k := cells + kc) (n := slots + ks) (Nat.le_add_right _ _) (Nat.le_add_right _ _) (hr _ _ _ _ _ _ _ k hW hS (Or.inr (Or.inr (Or.inr (Or.inr ⟨_, _, hy, ht, rfl, rfl⟩)))) hd)
theorem wp_post {Q' : Option Value → PH → Prop} (hq : ∀ v H', Q v H' → Q' v H') (k : Wp y d kc ks pc lo st H Q) : Wp y d kc ks pc lo st H Q' := by
  intro b o L xs dC dI aC p l e R s m args below meth c Hm locs cells slots Qm ls hC hW hS hl h1 h2 h3 h4 hr
  exact k b o L xs dC dI aC p l e R s m args below meth c Hm locs cells slots Qm ls hC hW hS hl h1 h2 h3 h4 (fun v H' Hm' locs' pc' ls' i q => hr v H' Hm' locs' pc' ls' i (hq v H' q))
theorem wp_deep {d' : Nat} (hd : d ≤ d') (k : Wp y d kc ks pc lo st H Q) : Wp y d' kc ks pc lo st H Q := by
  intro b o L xs dC dI aC p l e R s m args below meth c Hm locs cells slots Qm ls hC hW hS hl h1 h2 h3 h4 hr
  exact k b o L xs dC dI aC p l e R s m args below meth c Hm locs cells slots Qm ls hC hW hS hl (Nat.le_trans hd h1) (Nat.le_trans (Nat.mul_le_mul_left 64 hd) h2) h3 h4 hr
theorem wp_room {kc' ks' : Nat} (hc : kc ≤ kc') (hs : ks ≤ ks') (k : Wp y d kc ks pc lo st H Q) : Wp y d kc' ks' pc lo st H Q := by
  intro b o L xs dC dI aC p l e R s m args below meth c Hm locs cells slots Qm ls hC hW hS hl h1 h2 h3 h4 hr
  exact k b o L xs dC dI aC p l e R s m args below meth c Hm locs cells slots Qm ls hC hW hS hl h1 h2 (by omega) (by omega) (fun v H' Hm' locs' pc' ls' i q w1 w2 w3 w4 => W.widen (k := cells + kc') (n := slots + ks') (by omega) (by omega) (hr v H' Hm' locs' pc' ls' i q w1 w2 w3 w4))
theorem wp_locals {lo' : List (Option Value)} (h : ∀ (i : Nat) (v : Value), lo'[i]? = some (some v) → lo[i]? = some (some v)) (k : Wp y d kc ks pc lo' st H Q) : Wp y d kc ks pc lo st H Q := by
  intro b o L xs dC dI aC p l e R s m args below meth c Hm locs cells slots Qm ls hC hW hS hl h1 h2 h3 h4 hr
  exact k b o L xs dC dI aC p l e R s m args below meth c Hm locs cells slots Qm ls hC hW hS ⟨hl.1, hl.2.1, fun i v q => hl.2.2 i v (h i v q)⟩ h1 h2 h3 h4 hr
end Rules
end
section
/-! ===== fields, arrays, new cells ===== -/
/-- what the tables say of each class -/
def ClOk (ci : Nat) (q : vw_C) : Prop := (∀ w ∈ u_ws q.1 q.2.1 q.2.2, w ∈ gw) ∧ (∀ k, k < q.2.2 → parseFieldDescriptor (q.2.1 k).2.2.1 = some (tyOf ci k)) ∧ (∀ a, a < q.2.2 → ∀ b, b < q.2.2 → a ≠ b → (q.2.1 a).2.1 ≠ (q.2.1 b).2.1) ∧ Cond.instantiable q.1 q.2.2 ∈ gw ∧ Cond.initialized q.1 ∈ gw ∧ q.2.2 ≤ 60
theorem in_gw {w : Cond} (h : (lw_tbl.contains w && goodWord w) = true) : w ∈ gw := by
  rw [Bool.and_eq_true] at h
  exact List.mem_filter.mpr ⟨by simpa using h.1, h.2⟩
theorem all_gw {ws : List Cond} (h : (ws.all fun w => lw_tbl.contains w && goodWord w) = true) : ∀ w ∈ ws, w ∈ gw := fun w hw => in_gw (List.all_eq_true.mp h w hw)
set_option maxRecDepth 100000 in
theorem ok0 : ClOk 0 (RX0, TX0, 6) := ⟨all_gw (by decide +kernel), tyX0_ok, nmX0, in_gw (by decide +kernel), in_gw (by decide +kernel), by decide⟩
set_option maxRecDepth 100000 in
theorem ok1 : ClOk 1 (RX1, TX1, 6) := ⟨all_gw (by decide +kernel), tyX1_ok, nmX1, in_gw (by decide +kernel), in_gw (by decide +kernel), by decide⟩
set_option maxRecDepth 100000 in
theorem ok2 : ClOk 2 (RX2, TX2, 5) := ⟨all_gw (by decide +kernel), tyX2_ok, nmX2, in_gw (by decide +kernel), in_gw (by decide +kernel), by decide⟩
set_option maxRecDepth 100000 in
theorem ok3 : ClOk 3 (RX3, TX3, 9) := ⟨all_gw (by decide +kernel), tyX3_ok, nmX3, in_gw (by decide +kernel), in_gw (by decide +kernel), by decide⟩
set_option maxRecDepth 100000 in
theorem ok4 : ClOk 4 (RX4, TX4, 7) := ⟨all_gw (by decide +kernel), tyX4_ok, nmX4, in_gw (by decide +kernel), in_gw (by decide +kernel), by decide⟩
set_option maxRecDepth 100000 in
theorem ok5 : ClOk 5 (RX5, TX5, 3) := ⟨all_gw (by decide +kernel), tyX5_ok, nmX5, in_gw (by decide +kernel), in_gw (by decide +kernel), by decide⟩
set_option maxRecDepth 100000 in
theorem ok6 : ClOk 6 (RX6, TX6, 13) := ⟨all_gw (by decide +kernel), tyX6_ok, nmX6, in_gw (by decide +kernel), in_gw (by decide +kernel), by decide⟩
set_option maxRecDepth 100000 in
theorem ok7 : ClOk 7 (RX7, TX7, 3) := ⟨all_gw (by decide +kernel), tyX7_ok, nmX7, in_gw (by decide +kernel), in_gw (by decide +kernel), by decide⟩
set_option maxRecDepth 100000 in
theorem ok8 : ClOk 8 (RX8, TX8, 5) := ⟨all_gw (by decide +kernel), tyX8_ok, nmX8, in_gw (by decide +kernel), in_gw (by decide +kernel), by decide⟩
set_option maxRecDepth 100000 in
theorem ok9 : ClOk 9 (RX9, TX9, 2) := ⟨all_gw (by decide +kernel), tyX9_ok, nmX9, in_gw (by decide +kernel), in_gw (by decide +kernel), by decide⟩
set_option maxRecDepth 100000 in
theorem ok10 : ClOk 10 (RX10, TX10, 3) := ⟨all_gw (by decide +kernel), tyX10_ok, nmX10, in_gw (by decide +kernel), in_gw (by decide +kernel), by decide⟩
set_option maxRecDepth 100000 in
theorem ok11 : ClOk 11 (RX11, TX11, 9) := ⟨all_gw (by decide +kernel), tyX11_ok, nmX11, in_gw (by decide +kernel), in_gw (by decide +kernel), by decide⟩
set_option maxRecDepth 100000 in
theorem ok12 : ClOk 12 (RX12, TX12, 60) := ⟨all_gw (by decide +kernel), tyX12_ok, nmX12, in_gw (by decide +kernel), in_gw (by decide +kernel), by decide⟩
theorem clOk : ∀ (ci : Nat) (q : vw_C), vwCl[ci]? = some q → ClOk ci q := by
  intro ci q h
  match ci, h with
  | 0, h => cases h; exact ok0
  | 1, h => cases h; exact ok1
  | 2, h => cases h; exact ok2
  | 3, h => cases h; exact ok3
  | 4, h => cases h; exact ok4
  | 5, h => cases h; exact ok5
  | 6, h => cases h; exact ok6
  | 7, h => cases h; exact ok7
  | 8, h => cases h; exact ok8
  | 9, h => cases h; exact ok9
  | 10, h => cases h; exact ok10
  | 11, h => cases h; exact ok11
  | 12, h => cases h; exact ok12
  | k + 13, h => simp [vwCl] at h
end
section
/-! ===== fields ===== -/
/-- the constant pool's entry idx of class own is field k of class ci -/
def FL (own : String) (idx ci k : Nat) : Prop := ∃ q : vw_C, vwCl[ci]? = some q ∧ k < q.2.2 ∧ (Cond.fieldLink own idx (q.2.1 k).1 (q.2.1 k).2.1 (q.2.1 k).2.2.1 ∈ gw ∨ ∃ host, Cond.fieldLinkNest own idx (q.2.1 k).1 (q.2.1 k).2.1 (q.2.1 k).2.2.1 host ∈ nw)
theorem in_nw {w : Cond} (h : (lw_tbl.contains w && isNest w) = true) : w ∈ nw := by
  rw [Bool.and_eq_true] at h
  exact List.mem_filter.mpr ⟨by simpa using h.1, h.2⟩
theorem Wd.pos {b o L : Nat} {xs : Nat → Int32} {dC : Nat → ClassId} {dI : Nat → Nat → Nat} {aC : Nat → ClassId} {H : PH} {Hm : Heap} (h : Wd b o L xs dC dI aC H Hm) {a k n : Nat} (hk : hK H a = (k, n)) (h0 : k ≠ 0) (h9 : k ≠ 99) : a ≠ 0 ∧ a ≤ hN H := by
  obtain ⟨-, -, z1, z2, -⟩ := h
  refine ⟨fun e => ?_, ?_⟩
  · subst e; rw [z1] at hk; exact h9 (by cases hk; rfl)
  · rcases Nat.lt_or_ge (hN H) a with q | q
    · rw [z2 a q] at hk; exact absurd (by cases hk; rfl) h0
    · exact q
theorem cellE_obj {aC : Nat → ClassId} {b o : Nat} {H : PH} {a ci n : Nat} (hk : hK H a = (ci + 1, n)) (hc : ci < 13) : cellE aC b o H a = .inr (ci, (List.range 60).map (fval b o H a ci)) := by
  have e : ci + 1 - 1 = ci := by omega
  unfold cellE
  rw [hk]
  simp only [e]
  rw [if_neg (by omega), if_neg (by omega), if_neg (by omega), if_neg (by omega), if_neg (by omega), if_neg (by omega)]
theorem fs_get {b o : Nat} {H : PH} {a ci k : Nat} (hk : k < 60) : ((List.range 60).map (fval b o H a ci))[k]? = some (fval b o H a ci k) := by
  rw [List.getElem?_map, List.getElem?_range hk]; rfl
theorem fs_set {b o : Nat} {H H' : PH} {a ci k : Nat} (v : Value) (hv : fval b o H' a ci k = v) (ho : ∀ j, j ≠ k → fval b o H' a ci j = fval b o H a ci j) : ((List.range 60).map (fval b o H a ci)).set k v = (List.range 60).map (fval b o H' a ci) := by
  apply List.ext_getElem?
  intro i
  by_cases hi : i = k
  · subst hi
    by_cases hl : i < 60
    · rw [List.getElem?_set_self (by simpa using hl), fs_get hl, hv]
    · rw [List.getElem?_eq_none (by simp; omega), List.getElem?_eq_none (by simp; omega)]
  · rw [List.getElem?_set_ne (by omega)]
    by_cases hl : i < 60
    · rw [fs_get hl, fs_get hl, ho i hi]
    · rw [List.getElem?_eq_none (by simp; omega), List.getElem?_eq_none (by simp; omega)]
theorem Wd.put {b o L : Nat} {xs : Nat → Int32} {dC : Nat → ClassId} {dI : Nat → Nat → Nat} {aC : Nat → ClassId} {H H' : PH} {Hm Hm' : Heap} {a : Nat} {e : va_E} (h : Wd b o L xs dC dI aC H Hm) (h0 : a ≠ 0) (hn : hN H' = hN H) (hk : hK H' = hK H) (hi : hI H' 0 = hI H 0) (he : cellE aC b o H' a = e) (ho : ∀ a', a' ≠ a → cellE aC b o H' a' = cellE aC b o H a') (hP : va_P (dC, dI) vwCl ((hw aC b o H).set (a - 1) (shA b o a, e)) Hm') (hz : Hm'.size = Hm.size) : Wd b o L xs dC dI aC H' Hm' := by
  obtain ⟨-, z, z1, z2, z3⟩ := h
  rw [hw_set h0 hn he ho] at hP
  exact ⟨hP, by rw [hz, z, hn], by rw [hk]; exact z1, by rw [hk, hn]; exact z2, by rw [hi]; exact z3⟩
section HeapRules
variable {y : MD} {d kc ks pc : Nat} {lo : List (Option Value)} {st : List Value} {H : PH} {Q : Option Value → PH → Prop}
theorem wp_getv {idx ci k a n : Nat} {v : Value} (hd : decode y.2.1 pc = .ok (.getfield idx, 3)) (hf : FL y.1.cls idx ci k) (hk : hK H a = (ci + 1, n)) (hv : ∀ b o, fval b o H a ci k = shV b o v) (kk : Wp y d kc ks (pc + 3) lo (v :: st) H Q) : Wp y d kc ks pc lo (.ref a :: st) H Q := by
  intro b o L xs dC dI aC p l e R s m args below meth c Hm locs cells slots Qm ls hC hW hS hl h1 h2 h3 h4 hr
  obtain ⟨q, hq, hkq, hlink⟩ := hf
  have hci : ci < 13 := (List.getElem?_eq_some_iff.mp hq).1
  obtain ⟨p0, p1⟩ := hW.pos hk (by omega) (by omega)
  obtain ⟨k1, k2, k3, k4, k5, k6⟩ := clOk ci q hq
  have hg := hw_get (aC := aC) (b := b) (o := o) p0 p1
  rw [cellE_obj hk hci] at hg
  have hfin := kk b o L xs dC dI aC p l e R s m args below meth c Hm locs cells slots Qm ls hC hW hS hl h1 h2 h3 h4 hr
  rcases hlink with hlink | ⟨host, hlink⟩
  · exact va_get (ci := ci) (C := q.1) (T := q.2.1) (N := q.2.2) (v := shV b o v) hC.1 hC.2.1 hC.2.2.2.2.2.1 k1 hC.2.2.2.1 hC.2.2.2.2.2.2.1 hW.1 (a - 1) hg hq k hkq (hC.2.2.2.2.2.1 _ hlink) (fun _ h => h) (by rw [fs_get (by omega), hv b o]) hd hfin
  · exact va_getN (ci := ci) (C := q.1) (T := q.2.1) (N := q.2.2) (v := shV b o v) hC.1 hC.2.1 hC.2.2.2.2.2.1 k1 hC.2.2.2.1 hC.2.2.2.2.2.2.1 hW.1 (a - 1) hg hq k hkq (va_Nw.use rfl (hC.2.2.2.2.2.2.2.1 _ hlink)) (fun _ h => h) (by rw [fs_get (by omega), hv b o]) hd hfin
theorem wp_geti {idx ci k a n : Nat} (hd : decode y.2.1 pc = .ok (.getfield idx, 3)) (hf : FL y.1.cls idx ci k) (ht : fso (tyOf ci k) = 0) (hk : hK H a = (ci + 1, n)) (kk : Wp y d kc ks (pc + 3) lo (.int (hI H a k) :: st) H Q) : Wp y d kc ks pc lo (.ref a :: st) H Q :=
  wp_getv hd hf hk (fun b o => by simp [fval, ht, shV]) kk
theorem wp_getl {idx ci k a n : Nat} (hd : decode y.2.1 pc = .ok (.getfield idx, 3)) (hf : FL y.1.cls idx ci k) (ht : fso (tyOf ci k) = 1) (hk : hK H a = (ci + 1, n)) (kk : Wp y d kc ks (pc + 3) lo (.long (hL H a k) :: st) H Q) : Wp y d kc ks pc lo (.ref a :: st) H Q :=
  wp_getv hd hf hk (fun b o => by simp [fval, ht, shV]) kk
theorem wp_getr {idx ci k a n : Nat} (hd : decode y.2.1 pc = .ok (.getfield idx, 3)) (hf : FL y.1.cls idx ci k) (ht : fso (tyOf ci k) = 2) (hk : hK H a = (ci + 1, n)) (kk : Wp y d kc ks (pc + 3) lo (va_rf (hR H a k) :: st) H Q) : Wp y d kc ks pc lo (.ref a :: st) H Q :=
  wp_getv hd hf hk (fun b o => by rw [shV_rf]; simp [fval, ht]) kk
theorem wp_geta {idx ci k a n q : Nat} (hd : decode y.2.1 pc = .ok (.getfield idx, 3)) (hf : FL y.1.cls idx ci k) (ht : fso (tyOf ci k) = 2) (hk : hK H a = (ci + 1, n)) (hr : hR H a k = some q) (kk : Wp y d kc ks (pc + 3) lo (.ref q :: st) H Q) : Wp y d kc ks pc lo (.ref a :: st) H Q :=
  wp_getr hd hf ht hk (by rw [hr]; exact kk)
/-- a field is written: the new heap differs there alone -/
theorem wp_putv {idx ci k a n : Nat} {v : Value} {H' : PH} (hd : decode y.2.1 pc = .ok (.putfield idx, 3)) (hf : FL y.1.cls idx ci k) (hk : hK H a = (ci + 1, n)) (hfn : ∀ q : vw_C, vwCl[ci]? = some q → (q.2.1 k).2.2.2 = false ∨ (y.1.name = "<init>" ∧ (q.2.1 k).1 = y.1.cls ∧ (q.2.1 k).2.2.2 = true ∧ Cond.fieldLink y.1.cls idx (q.2.1 k).1 (q.2.1 k).2.1 (q.2.1 k).2.2.1 ∈ gw))
    (hna : ∀ b o, narrow (tyOf ci k) (shV b o v) = shV b o v) (hfi : ∀ b o, fits (tyOf ci k) (shV b o v) = true) (hn : hN H' = hN H) (hkk : hK H' = hK H) (hv : ∀ b o, fval b o H' a ci k = shV b o v) (ho : ∀ b o j, j ≠ k → fval b o H' a ci j = fval b o H a ci j) (hoo : ∀ a', a' ≠ a → hI H' a' = hI H a' ∧ hL H' a' = hL H a' ∧ hR H' a' = hR H a')
    (kk : Wp y d kc ks (pc + 3) lo st H' Q) : Wp y d kc ks pc lo (v :: .ref a :: st) H Q := by
  intro b o L xs dC dI aC p l e R s m args below meth c Hm locs cells slots Qm ls hC hW hS hl h1 h2 h3 h4 hr
  obtain ⟨q, hq, hkq, hlink⟩ := hf
  have hci : ci < 13 := (List.getElem?_eq_some_iff.mp hq).1
  obtain ⟨p0, p1⟩ := hW.pos hk (by omega) (by omega)
  obtain ⟨k1, k2, k3, k4, k5, k6⟩ := clOk ci q hq
  have hg := hw_get (aC := aC) (b := b) (o := o) p0 p1
  rw [cellE_obj hk hci] at hg
  have he : cellE aC b o H' a = .inr (ci, ((List.range 60).map (fval b o H a ci)).set k (shV b o v)) := by
    rw [cellE_obj (n := n) (by rw [hkk]; exact hk) hci, fs_set (H' := H') _ (hv b o) (ho b o)]
  have hap := va_apart (own := y.1.cls) hC.2.2.2.2.2.1 k1 (tyOf ci) k2 k3 hC.2.2.2.2.2.2.1 hq
  obtain ⟨r, hr1, cell, g1, g2, g3, g4⟩ := hW.1 (a - 1) _ hg
  have hre : r = q := Option.some.inj (hr1.symm.trans hq)
  subst hre
  obtain ⟨hS9, hfc, kC, hkC, hkind⟩ := hC.2.2.2.2.2.2.1.1 ci _ hq
  obtain ⟨cf, kf, fi, f, hi, hsl⟩ := hS9 k hkq
  have hst := (u_facts hfc hkC (u_lays hC.2.2.2.2.2.1 k1 hkq) hi).1
  have hlay := hC.2.2.2.2.2.1 _ (k1 _ (u_in_lay hkq))
  have hgo : ∀ (H1 : Heap), H1[shA b o a]? = some (cell.setSlot f.slot (shV b o v)) → H1.size = Hm.size → (∀ q, q ≠ shA b o a → H1[q]? = Hm[q]?) → W p l e R s m args below meth c H1 (locs ++ [⟨shA b o a, f.slot⟩]) cells slots Qm (F0 m (pc + 3) ls (st.map (shV b o))) := fun H1 e1 e2 e3 => by
    rw [hsl] at e1
    have hP1 := hW.1.set (hw_D aC b o H) hg (e := .inr (ci, ((List.range 60).map (fval b o H a ci)).set k (shV b o v))) ⟨_, hq, t_OB.to (V := updV (vp_V ((List.range 60).map (fval b o H a ci))) k (shV b o v)) ⟨_, e1, g2, g3, t_set g4 hap hkq (shV b o v)⟩ (fun j _ => vp_updV_set (by simp; omega) (shV b o v) j)⟩ e3
    exact kk b o L xs dC dI aC p l e R s m args below meth c H1 _ cells slots Qm ls hC (hW.put p0 hn hkk (hoo 0 (Ne.symm p0)).1 he (fun a' ha => cellE_eq (by rw [hkk]) (hoo a' ha).1 (hoo a' ha).2.1 (hoo a' ha).2.2) hP1 e2) (hS.put e2 e3 (by rw [shA_pos p0]; show o + 1 ≤ o + a; omega)) hl h1 h2 h3 h4 hr
  have hss : k < r.2.2 := hkq
  rcases hfn _ hq with hfin | ⟨hin, hdecl, hfin, hlk⟩
  · unfold u_lay at hlay
    rw [if_neg (by rw [hfin]; decide)] at hlay
    have h6 := u_store hfc hkC hkind hlay hi (k2 k hkq) (hna b o) (hfi b o)
    rcases hlink with hlink | ⟨host, hlink⟩
    · exact W.putK hC.1 hC.2.1 (f := f) ⟨hC.2.2.2.1, hC.2.2.2.2.2.1 _ hlink, ⟨_, _, _, hi⟩, hst⟩ (by rw [g2]; exact h6) g1 g3 (by rw [hsl]; exact k2_hasslot (g4 k hkq)) rfl rfl hd hgo
    · exact va_WputK hC.1 hC.2.1 (f := f) hC.2.2.2.1 (va_Nw.use rfl (hC.2.2.2.2.2.2.2.1 _ hlink)) hi hst (by rw [g2]; exact h6) g1 g3 (by rw [hsl]; exact k2_hasslot (g4 k hkq)) rfl rfl hd hgo
  · unfold u_lay at hlay
    rw [if_pos hfin] at hlay
    have hcf : m.cls = cf := by
      obtain ⟨_, _, c', _, _, _, -, -, hf', -, -, -, hown2, -⟩ := Cond.laysFinal_spec hlay
      have e1 : c' = cf := by have := hi.symm.trans hf'; simp at this; exact this.1.symm
      rw [hdecl] at hown2
      rw [← e1]; exact Option.some.inj (hC.2.2.2.1.symm.trans hown2)
    have h6 := u_fits hfc hkC hkind (Or.inr hlay) hi (k2 k hkq) (hna b o) (hfi b o)
    exact W.putFinK hC.1 hC.2.1 hC.2.2.2.1 (hC.2.2.2.2.2.1 _ hlk) hi hst hcf (hC.2.2.2.2.1 hin) (by rw [g2]; exact h6) g1 g3 (by rw [hsl]; exact k2_hasslot (g4 k hkq)) rfl rfl hd hgo
/-- a field that may be written here: not final, or in its own class's constructor -/
def MayPut (y : MD) (idx ci k : Nat) : Prop := ∀ q : vw_C, vwCl[ci]? = some q → (q.2.1 k).2.2.2 = false ∨ (y.1.name = "<init>" ∧ (q.2.1 k).1 = y.1.cls ∧ (q.2.1 k).2.2.2 = true ∧ Cond.fieldLink y.1.cls idx (q.2.1 k).1 (q.2.1 k).2.1 (q.2.1 k).2.2.1 ∈ gw)
theorem wp_puti {idx ci k a n : Nat} {x : Int32} (hd : decode y.2.1 pc = .ok (.putfield idx, 3)) (hf : FL y.1.cls idx ci k) (hm : MayPut y idx ci k) (ht : tyOf ci k = .int) (hk : hK H a = (ci + 1, n)) (kk : Wp y d kc ks (pc + 3) lo st (sI H a k x) Q) : Wp y d kc ks pc lo (.int x :: .ref a :: st) H Q := by
  refine wp_putv (H' := sI H a k x) hd hf hk hm (fun b o => by rw [ht]; rfl) (fun b o => by rw [ht]; rfl) rfl rfl (fun b o => by simp [fval, ht, fso, hI_sI, u2_eq, shV]) (fun b o j hj => by simp only [fval, hI_sI, hL_sI, hR_sI, u2_ne2 hj]) (fun a' ha => ⟨by rw [hI_sI, u2_row ha], rfl, rfl⟩) kk
theorem wp_putz {idx ci k a n : Nat} {x : Int32} (hd : decode y.2.1 pc = .ok (.putfield idx, 3)) (hf : FL y.1.cls idx ci k) (hm : MayPut y idx ci k) (ht : tyOf ci k = .boolean) (hx : x = 0 ∨ x = 1) (hk : hK H a = (ci + 1, n)) (kk : Wp y d kc ks (pc + 3) lo st (sI H a k x) Q) : Wp y d kc ks pc lo (.int x :: .ref a :: st) H Q := by
  refine wp_putv (H' := sI H a k x) hd hf hk hm (fun b o => by rw [ht]; rcases hx with rfl | rfl <;> rfl) (fun b o => by rw [ht]; rcases hx with rfl | rfl <;> rfl) rfl rfl (fun b o => by simp [fval, ht, fso, hI_sI, u2_eq, shV]) (fun b o j hj => by simp only [fval, hI_sI, hL_sI, hR_sI, u2_ne2 hj]) (fun a' ha => ⟨by rw [hI_sI, u2_row ha], rfl, rfl⟩) kk
theorem wp_putl {idx ci k a n : Nat} {x : Int64} (hd : decode y.2.1 pc = .ok (.putfield idx, 3)) (hf : FL y.1.cls idx ci k) (hm : MayPut y idx ci k) (ht : tyOf ci k = .long) (hk : hK H a = (ci + 1, n)) (kk : Wp y d kc ks (pc + 3) lo st (sL H a k x) Q) : Wp y d kc ks pc lo (.long x :: .ref a :: st) H Q := by
  refine wp_putv (H' := sL H a k x) hd hf hk hm (fun b o => by rw [ht]; rfl) (fun b o => by rw [ht]; rfl) rfl rfl (fun b o => by simp [fval, ht, fso, hL_sL, u2_eq, shV]) (fun b o j hj => by simp only [fval, hI_sL, hL_sL, hR_sL, u2_ne2 hj]) (fun a' ha => ⟨rfl, by rw [hL_sL, u2_row ha], rfl⟩) kk
theorem wp_putr {idx ci k a n : Nat} {r : Option Nat} (hd : decode y.2.1 pc = .ok (.putfield idx, 3)) (hf : FL y.1.cls idx ci k) (hm : MayPut y idx ci k) (ht : fso (tyOf ci k) = 2) (hk : hK H a = (ci + 1, n)) (kk : Wp y d kc ks (pc + 3) lo st (sR H a k r) Q) : Wp y d kc ks pc lo (va_rf r :: .ref a :: st) H Q := by
  have hna : ∀ t : FieldType, fso t = 2 → ∀ r : Option Nat, narrow t (va_rf r) = va_rf r ∧ fits t (va_rf r) = true := by
    intro t h r; cases t <;> simp [fso] at h <;> cases r <;> exact ⟨rfl, rfl⟩
  refine wp_putv (H' := sR H a k r) hd hf hk hm (fun b o => by rw [shV_rf]; exact (hna _ ht _).1) (fun b o => by rw [shV_rf]; exact (hna _ ht _).2) rfl rfl (fun b o => by rw [shV_rf]; simp [fval, ht, hR_sR, u2_eq]) (fun b o j hj => by simp only [fval, hI_sR, hL_sR, hR_sR, u2_ne2 hj]) (fun a' ha => ⟨rfl, rfl, by rw [hR_sR, u2_row ha]⟩) kk
theorem wp_puta {idx ci k a n q : Nat} (hd : decode y.2.1 pc = .ok (.putfield idx, 3)) (hf : FL y.1.cls idx ci k) (hm : MayPut y idx ci k) (ht : fso (tyOf ci k) = 2) (hk : hK H a = (ci + 1, n)) (kk : Wp y d kc ks (pc + 3) lo st (sR H a k (some q)) Q) : Wp y d kc ks pc lo (.ref q :: .ref a :: st) H Q := wp_putr (r := some q) hd hf hm ht hk kk
end HeapRules
end
section
/-! ===== arrays, new cells ===== -/
def isIA (k : Nat) : Prop := k = 20 ∨ k = 21 ∨ k = 22
theorem cellE_i {aC : Nat → ClassId} {b o : Nat} {H : PH} {a k n : Nat} (hk : hK H a = (k, n)) (h : isIA k) : cellE aC b o H a = .inl (aC k, n, .inl (hI H a)) := by
  unfold cellE
  rw [hk]
  rcases h with rfl | rfl | rfl <;> simp
theorem cellE_l {aC : Nat → ClassId} {b o : Nat} {H : PH} {a n : Nat} (hk : hK H a = (23, n)) : cellE aC b o H a = .inl (aC 23, n, .inr (.inl (hL H a))) := by
  unfold cellE
  rw [hk]
  simp
theorem cellE_q {aC : Nat → ClassId} {b o : Nat} {H : PH} {a k n : Nat} (hk : hK H a = (k, n)) (h : k = 24 ∨ k = 25) : cellE aC b o H a = .inl (aC k, n, .inr (.inr (.inr (.inr (fun j => (hR H a j).map (shA b o)))))) := by
  unfold cellE
  rw [hk]
  rcases h with rfl | rfl <;> simp
def nofl (t : FieldType) : Bool := match t with | .float => false | .double => false | _ => true
theorem ty_nf : ∀ ci, ci < 13 → ∀ j, j < 60 → nofl (tyOf ci j) = true := by decide +kernel
section ArrRules
variable {y : MD} {d kc ks pc : Nat} {lo : List (Option Value)} {st : List Value} {H : PH} {Q : Option Value → PH → Prop}
theorem wp_iaload {a n : Nat} {i : Int32} (hd : decode y.2.1 pc = .ok (.iaload, 1)) (hk : hK H a = (20, n)) (hi : vp_in i n) (kk : Wp y d kc ks (pc + 1) lo (.int (hI H a i.toNatClampNeg) :: st) H Q) : Wp y d kc ks pc lo (.int i :: .ref a :: st) H Q := by
  intro b o L xs dC dI aC p l e R s m args below meth c Hm locs cells slots Qm ls hC hW hS hl h1 h2 h3 h4 hr
  obtain ⟨p0, p1⟩ := hW.pos hk (by omega) (by omega)
  have hg := hw_get (aC := aC) (b := b) (o := o) p0 p1
  rw [cellE_i hk (by simp [isIA])] at hg
  exact va_iald hC.1 hC.2.1 hC.2.2.2.2.2.2.1 hW.1 (a - 1) 0 hg rfl hi hd (kk b o L xs dC dI aC p l e R s m args below meth c Hm locs cells slots Qm ls hC hW hS hl h1 h2 h3 h4 hr)
theorem wp_baload {a n k : Nat} {i : Int32} (hd : decode y.2.1 pc = .ok (.baload, 1)) (hk : hK H a = (k, n)) (hkk : k = 21 ∨ k = 22) (hi : vp_in i n) (kk : Wp y d kc ks (pc + 1) lo (.int (hI H a i.toNatClampNeg) :: st) H Q) : Wp y d kc ks pc lo (.int i :: .ref a :: st) H Q := by
  intro b o L xs dC dI aC p l e R s m args below meth c Hm locs cells slots Qm ls hC hW hS hl h1 h2 h3 h4 hr
  obtain ⟨p0, p1⟩ := hW.pos hk (by omega) (by omega)
  have hg := hw_get (aC := aC) (b := b) (o := o) p0 p1
  rw [cellE_i hk (Or.inr hkk)] at hg
  rcases hkk with rfl | rfl
  · exact va_bald hC.1 hC.2.1 hC.2.2.2.2.2.2.1 hW.1 (a - 1) 1 hg rfl hi hd (kk b o L xs dC dI aC p l e R s m args below meth c Hm locs cells slots Qm ls hC hW hS hl h1 h2 h3 h4 hr)
  · exact va_zald hC.1 hC.2.1 hC.2.2.2.2.2.2.1 hW.1 (a - 1) 2 hg rfl hi hd (kk b o L xs dC dI aC p l e R s m args below meth c Hm locs cells slots Qm ls hC hW hS hl h1 h2 h3 h4 hr)
theorem wp_laload {a n : Nat} {i : Int32} (hd : decode y.2.1 pc = .ok (.laload, 1)) (hk : hK H a = (23, n)) (hi : vp_in i n) (kk : Wp y d kc ks (pc + 1) lo (.long (hL H a i.toNatClampNeg) :: st) H Q) : Wp y d kc ks pc lo (.int i :: .ref a :: st) H Q := by
  intro b o L xs dC dI aC p l e R s m args below meth c Hm locs cells slots Qm ls hC hW hS hl h1 h2 h3 h4 hr
  obtain ⟨p0, p1⟩ := hW.pos hk (by omega) (by omega)
  have hg := hw_get (aC := aC) (b := b) (o := o) p0 p1
  rw [cellE_l hk] at hg
  exact va_lald hC.1 hC.2.1 hC.2.2.2.2.2.2.1 hW.1 (a - 1) 3 hg rfl hi hd (kk b o L xs dC dI aC p l e R s m args below meth c Hm locs cells slots Qm ls hC hW hS hl h1 h2 h3 h4 hr)
theorem wp_aaload {a n k : Nat} {i : Int32} (hd : decode y.2.1 pc = .ok (.aaload, 1)) (hk : hK H a = (k, n)) (hkk : k = 24 ∨ k = 25) (hi : vp_in i n) (kk : Wp y d kc ks (pc + 1) lo (va_rf (hR H a i.toNatClampNeg) :: st) H Q) : Wp y d kc ks pc lo (.int i :: .ref a :: st) H Q := by
  intro b o L xs dC dI aC p l e R s m args below meth c Hm locs cells slots Qm ls hC hW hS hl h1 h2 h3 h4 hr
  obtain ⟨p0, p1⟩ := hW.pos hk (by omega) (by omega)
  have hg := hw_get (aC := aC) (b := b) (o := o) p0 p1
  rw [cellE_q hk hkk] at hg
  have hfin := kk b o L xs dC dI aC p l e R s m args below meth c Hm locs cells slots Qm ls hC hW hS hl h1 h2 h3 h4 hr
  rw [List.map_cons, shV_rf] at hfin
  rcases hkk with rfl | rfl
  · exact va_aldq hC.1 hC.2.1 hC.2.2.2.2.2.2.1 hW.1 (a - 1) 4 hg rfl hi hd hfin
  · exact va_aldq hC.1 hC.2.1 hC.2.2.2.2.2.2.1 hW.1 (a - 1) 5 hg rfl hi hd hfin
/-- an element of the script -/
theorem wp_script {n : Nat} {i : Int32} (hd : decode y.2.1 pc = .ok (.iaload, 1)) (hk : hK H 0 = (99, n)) (hi : vp_in i n) (kk : Wp y d kc ks (pc + 1) lo (.int (hI H 0 i.toNatClampNeg) :: st) H Q) : Wp y d kc ks pc lo (.int i :: .ref 0 :: st) H Q := by
  intro b o L xs dC dI aC p l e R s m args below meth c Hm locs cells slots Qm ls hC hW hS hl h1 h2 h3 h4 hr
  have hL : n = L := by have := hk.symm.trans hW.2.2.1; cases this; rfl
  subst hL
  have hlt : i.toNatClampNeg < n := Nat.not_le.mp fun q => hi (Or.inr q)
  have hfin := kk b o n xs dC dI aC p l e R s m args below meth c Hm locs cells slots Qm ls hC hW hS hl h1 h2 h3 h4 hr
  rw [hW.2.2.2.2 _ hlt] at hfin
  obtain ⟨-, -, hX, hb1, hb2, -⟩ := hC.2.2.2.2.2.2
  have h9 := va_sld (b := b) (rest := st.map (shV b o)) hC.1 hC.2.1 hX (by omega) (show ¬ o + 1 ≤ b by omega) hS hi hd hfin
  exact h9
theorem wp_alen {a n k : Nat} (hd : decode y.2.1 pc = .ok (.arraylength, 1)) (hk : hK H a = (k, n)) (hkk : k = 20 ∨ k = 21 ∨ k = 22 ∨ k = 23 ∨ k = 24 ∨ k = 25 ∨ (k = 99 ∧ a = 0)) (kk : Wp y d kc ks (pc + 1) lo (.int (Int32.ofNat n) :: st) H Q) : Wp y d kc ks pc lo (.ref a :: st) H Q := by
  intro b o L xs dC dI aC p l e R s m args below meth c Hm locs cells slots Qm ls hC hW hS hl h1 h2 h3 h4 hr
  have hfin := kk b o L xs dC dI aC p l e R s m args below meth c Hm locs cells slots Qm ls hC hW hS hl h1 h2 h3 h4 hr
  by_cases h9 : k = 99
  · subst h9
    have ha : a = 0 := by omega
    subst ha
    have hL : n = L := by have := hk.symm.trans hW.2.2.1; cases this; rfl
    subst hL
    obtain ⟨-, -, hX, hb1, hb2, -⟩ := hC.2.2.2.2.2.2
    have h9 := va_slen (b := b) (rest := st.map (shV b o)) hC.1 hC.2.1 hX (by omega) (show ¬ o + 1 ≤ b by omega) hS hd hfin
    exact h9
  · obtain ⟨p0, p1⟩ := hW.pos hk (by omega) (by omega)
    have hg := hw_get (aC := aC) (b := b) (o := o) p0 p1
    rcases hkk with rfl | rfl | rfl | rfl | rfl | rfl | ⟨rfl, -⟩
    · rw [cellE_i hk (by simp [isIA])] at hg
      exact va_alen hC.1 hC.2.1 hC.2.2.2.2.2.2.1 hW.1 (a - 1) 0 hg (ty := .int) rfl rfl hd hfin
    · rw [cellE_i hk (by simp [isIA])] at hg
      exact va_alen hC.1 hC.2.1 hC.2.2.2.2.2.2.1 hW.1 (a - 1) 1 hg (ty := .byte) rfl rfl hd hfin
    · rw [cellE_i hk (by simp [isIA])] at hg
      exact va_alen hC.1 hC.2.1 hC.2.2.2.2.2.2.1 hW.1 (a - 1) 2 hg (ty := .boolean) rfl rfl hd hfin
    · rw [cellE_l hk] at hg
      exact va_alen hC.1 hC.2.1 hC.2.2.2.2.2.2.1 hW.1 (a - 1) 3 hg (ty := .long) rfl rfl hd hfin
    · rw [cellE_q hk (by simp)] at hg
      exact va_alen hC.1 hC.2.1 hC.2.2.2.2.2.2.1 hW.1 (a - 1) 4 hg rfl rfl hd hfin
    · rw [cellE_q hk (by simp)] at hg
      exact va_alen hC.1 hC.2.1 hC.2.2.2.2.2.2.1 hW.1 (a - 1) 5 hg rfl rfl hd hfin
    · exact absurd rfl h9
theorem arr_up (cA : ClassId) (n : Nat) (f : Nat → Int32) (i : Nat) (x : Int32) : (vp_cell cA (n, .inl f)).setSlot i (.int x) = vp_cell cA (n, .inl (fun j => if j = i then x else f j)) := by
  rw [vp_cell_i, vp_cell_i, arrV_store]
  congr 1
  funext q
  by_cases hq : q = i
  · subst hq; simp [updV]
  · simp [updV, hq]
theorem arr_upL (cA : ClassId) (n : Nat) (f : Nat → Int64) (i : Nat) (x : Int64) : (vp_cell cA (n, .inr (.inl f))).setSlot i (.long x) = vp_cell cA (n, .inr (.inl (fun j => if j = i then x else f j))) := by
  rw [vp_cell_l, vp_cell_l, arrV_store]
  congr 1
  funext q
  by_cases hq : q = i
  · subst hq; simp [updV]
  · simp [updV, hq]
theorem u2_self {α : Type} (f : Nat → Nat → α) (a k : Nat) (v : α) : u2 f a k v a = fun j => if j = k then v else f a j := by funext j; simp [u2]
/-- what stands behind a write of an int into a row -/
theorem arr_go {a k n i : Nat} {x : Int32} {b o L : Nat} {xs : Nat → Int32} {dC : Nat → ClassId} {dI : Nat → Nat → Nat} {aC : Nat → ClassId} {Hm H1 : Heap} (hW : Wd b o L xs dC dI aC H Hm) (hk : hK H a = (k, n)) (hkk : isIA k) (e1 : H1[shA b o a]? = some ((vp_cell (aC k) (n, .inl (hI H a))).setSlot i (.int x))) (e2 : H1.size = Hm.size) (e3 : ∀ q, q ≠ shA b o a → H1[q]? = Hm[q]?) : Wd b o L xs dC dI aC (sI H a i x) H1 := by
  obtain ⟨p0, p1⟩ := hW.pos hk (by rcases hkk with h | h | h <;> omega) (by rcases hkk with h | h | h <;> omega)
  have hg := hw_get (aC := aC) (b := b) (o := o) p0 p1
  rw [cellE_i hk hkk] at hg
  rw [arr_up] at e1
  have hP1 := hW.1.set (hw_D aC b o H) hg (e := .inl (aC k, n, .inl (fun j => if j = i then x else hI H a j))) e1 e3
  refine hW.put p0 rfl rfl (by rw [hI_sI, u2_row (Ne.symm p0)]) ?_ (fun a' ha => cellE_eq rfl (by rw [hI_sI, u2_row ha]) rfl rfl) hP1 e2
  rw [cellE_i (H := sI H a i x) (k := k) (n := n) hk hkk, hI_sI, u2_self]
theorem wp_iastore {a n : Nat} {i x : Int32} (hd : decode y.2.1 pc = .ok (.iastore, 1)) (hk : hK H a = (20, n)) (hi : vp_in i n) (kk : Wp y d kc ks (pc + 1) lo st (sI H a i.toNatClampNeg x) Q) : Wp y d kc ks pc lo (.int x :: .int i :: .ref a :: st) H Q := by
  intro b o L xs dC dI aC p l e R s m args below meth c Hm locs cells slots Qm ls hC hW hS hl h1 h2 h3 h4 hr
  obtain ⟨p0, p1⟩ := hW.pos hk (by omega) (by omega)
  have hg := hw_get (aC := aC) (b := b) (o := o) p0 p1
  rw [cellE_i hk (by simp [isIA])] at hg
  refine W.iast hC.1 hC.2.1 (hW.1 (a - 1) _ hg) ((hC.2.2.2.2.2.2.1.2 0 _ rfl).1 n (fun j => .int (hI H a j))) (fun q => by cases q) (by show ¬ (i < 0 ∨ (arrV _ _ _).slots.size ≤ _); rw [arrV_size]; exact hi) rfl rfl hd fun H1 e1 e2 e3 => ?_
  exact kk b o L xs dC dI aC p l e R s m args below meth c H1 _ cells slots Qm ls hC (arr_go hW hk (by simp [isIA]) e1 e2 e3) (hS.put e2 e3 (by rw [shA_pos p0]; show o + 1 ≤ o + a; omega)) hl h1 h2 h3 h4 hr
theorem wp_bastore {a n : Nat} {i x : Int32} (hd : decode y.2.1 pc = .ok (.bastore, 1)) (hk : hK H a = (21, n)) (hi : vp_in i n) (kk : Wp y d kc ks (pc + 1) lo st (sI H a i.toNatClampNeg (x.toInt8.toInt32)) Q) : Wp y d kc ks pc lo (.int x :: .int i :: .ref a :: st) H Q := by
  intro b o L xs dC dI aC p l e R s m args below meth c Hm locs cells slots Qm ls hC hW hS hl h1 h2 h3 h4 hr
  obtain ⟨p0, p1⟩ := hW.pos hk (by omega) (by omega)
  have hg := hw_get (aC := aC) (b := b) (o := o) p0 p1
  rw [cellE_i hk (by simp [isIA])] at hg
  refine W.bast hC.1 hC.2.1 (hW.1 (a - 1) _ hg) ((hC.2.2.2.2.2.2.1.2 1 _ rfl).1 n (fun j => .int (hI H a j))) (fun q => by cases q) (by show ¬ (i < 0 ∨ (arrV _ _ _).slots.size ≤ _); rw [arrV_size]; exact hi) rfl rfl hd fun H1 e1 e2 e3 => ?_
  exact kk b o L xs dC dI aC p l e R s m args below meth c H1 _ cells slots Qm ls hC (arr_go hW hk (by simp [isIA]) e1 e2 e3) (hS.put e2 e3 (by rw [shA_pos p0]; show o + 1 ≤ o + a; omega)) hl h1 h2 h3 h4 hr
theorem wp_zastore {a n : Nat} {i x : Int32} (hd : decode y.2.1 pc = .ok (.bastore, 1)) (hk : hK H a = (22, n)) (hx : x = 0 ∨ x = 1) (hi : vp_in i n) (kk : Wp y d kc ks (pc + 1) lo st (sI H a i.toNatClampNeg x) Q) : Wp y d kc ks pc lo (.int x :: .int i :: .ref a :: st) H Q := by
  intro b o L xs dC dI aC p l e R s m args below meth c Hm locs cells slots Qm ls hC hW hS hl h1 h2 h3 h4 hr
  obtain ⟨p0, p1⟩ := hW.pos hk (by omega) (by omega)
  have hg := hw_get (aC := aC) (b := b) (o := o) p0 p1
  rw [cellE_i hk (by simp [isIA])] at hg
  refine W.zast hC.1 hC.2.1 (hW.1 (a - 1) _ hg) ((hC.2.2.2.2.2.2.1.2 2 _ rfl).1 n (fun j => .int (hI H a j))) (fun q => by cases q) (by show ¬ (i < 0 ∨ (arrV _ _ _).slots.size ≤ _); rw [arrV_size]; exact hi) rfl rfl hd fun H1 e1 e2 e3 => ?_
  have hnx : narrow .boolean (.int x) = .int x := by rcases hx with rfl | rfl <;> rfl
  rw [hnx] at e1
  exact kk b o L xs dC dI aC p l e R s m args below meth c H1 _ cells slots Qm ls hC (arr_go hW hk (by simp [isIA]) e1 e2 e3) (hS.put e2 e3 (by rw [shA_pos p0]; show o + 1 ≤ o + a; omega)) hl h1 h2 h3 h4 hr
theorem wp_lastore {a n : Nat} {i : Int32} {x : Int64} (hd : decode y.2.1 pc = .ok (.lastore, 1)) (hk : hK H a = (23, n)) (hi : vp_in i n) (kk : Wp y d kc ks (pc + 1) lo st (sL H a i.toNatClampNeg x) Q) : Wp y d kc ks pc lo (.long x :: .int i :: .ref a :: st) H Q := by
  intro b o L xs dC dI aC p l e R s m args below meth c Hm locs cells slots Qm ls hC hW hS hl h1 h2 h3 h4 hr
  obtain ⟨p0, p1⟩ := hW.pos hk (by omega) (by omega)
  have hg := hw_get (aC := aC) (b := b) (o := o) p0 p1
  rw [cellE_l hk] at hg
  refine W.last hC.1 hC.2.1 (hW.1 (a - 1) _ hg) ((hC.2.2.2.2.2.2.1.2 3 _ rfl).1 n (fun j => .long (hL H a j))) (fun q => by cases q) (by show ¬ (i < 0 ∨ (arrV _ _ _).slots.size ≤ _); rw [arrV_size]; exact hi) rfl rfl hd fun H1 e1 e2 e3 => ?_
  rw [arr_upL] at e1
  have hP1 := hW.1.set (hw_D aC b o H) hg (e := .inl (aC 23, n, .inr (.inl (fun j => if j = i.toNatClampNeg then x else hL H a j)))) e1 e3
  exact kk b o L xs dC dI aC p l e R s m args below meth c H1 _ cells slots Qm ls hC (hW.put p0 rfl rfl rfl (by rw [cellE_l (H := sL H a i.toNatClampNeg x) (n := n) hk, hL_sL, u2_self]) (fun a' ha => cellE_eq rfl rfl (by rw [hL_sL, u2_row ha]) rfl) hP1 e2) (hS.put e2 e3 (by rw [shA_pos p0]; show o + 1 ≤ o + a; omega)) hl h1 h2 h3 h4 hr
theorem arr_upQ (cA : ClassId) (n : Nat) (f : Nat → Option Nat) (i : Nat) (x : Nat) : (vp_cell cA (n, .inr (.inr (.inr (.inr f))))).setSlot i (.ref x) = vp_cell cA (n, .inr (.inr (.inr (.inr (fun j => if j = i then some x else f j))))) := by
  rw [vp_cell_q, vp_cell_q, arrV_store]
  congr 1
  funext q
  by_cases hq : q = i
  · subst hq; simp [updV, va_rf]
  · simp [updV, hq]
theorem wp_aastore {a n k v nv ci : Nat} {i : Int32} (hd : decode y.2.1 pc = .ok (.aastore, 1)) (hk : hK H a = (k, n)) (hkk : (k = 24 ∧ ci = 2) ∨ (k = 25 ∧ ci = 3)) (hv : hK H v = (ci + 1, nv)) (hi : vp_in i n) (kk : Wp y d kc ks (pc + 1) lo st (sR H a i.toNatClampNeg (some v)) Q) : Wp y d kc ks pc lo (.ref v :: .int i :: .ref a :: st) H Q := by
  intro b o L xs dC dI aC p l e R s m args below meth c Hm locs cells slots Qm ls hC hW hS hl h1 h2 h3 h4 hr
  have hci : ci < 13 := by omega
  obtain ⟨p0, p1⟩ := hW.pos hk (by omega) (by omega)
  obtain ⟨v0, v1⟩ := hW.pos hv (by omega) (by omega)
  have hg := hw_get (aC := aC) (b := b) (o := o) p0 p1
  rw [cellE_q hk (by omega)] at hg
  have hgv := hw_get (aC := aC) (b := b) (o := o) v0 v1
  rw [cellE_obj hv hci] at hgv
  have hq : ∃ (r : vw_C) (t0 : Nat), vwCl[ci]? = some r ∧ (tys aC)[t0]? = some (aC k, .object r.1) := by
    rcases hkk with ⟨rfl, rfl⟩ | ⟨rfl, rfl⟩
    · exact ⟨(RX2, TX2, 5), 4, rfl, rfl⟩
    · exact ⟨(RX3, TX3, 9), 5, rfl, rfl⟩
  obtain ⟨r, t0, hc, ht⟩ := hq
  have hlt : i.toNatClampNeg < n := Nat.not_le.mp fun q => hi (Or.inr q)
  have h0 : ¬ i < 0 := fun q => hi (Or.inl q)
  obtain ⟨r', hr', cellV, g1, g2, g3, -⟩ := hW.1 (v - 1) _ hgv
  have hcls := (hC.2.2.2.2.2.2.1.1 ci r hc).2
  obtain ⟨kA, comp, k1, k2, k3, -⟩ := (hC.2.2.2.2.2.2.1.2 t0 _ ht).2
  have hcomp : comp = dC ci := Option.some.inj (k3.symm.trans hcls.1)
  subst hcomp
  obtain ⟨kC, hkC, -⟩ := hcls.2
  refine W.aast hC.1 hC.2.1 (hW.1 (a - 1) _ hg) (fun q h => by cases h) (fun h => by cases h) k1 k2 rfl hkC ⟨h0, by show _ < (arrV _ _ _).slots.size; rw [arrV_size]; exact hlt⟩ g1 (fun q h => by rw [g3] at h; cases h) (by rw [g2]; exact hkC) (by rw [g2]; exact va_assign hcls) rfl rfl hd fun H1 e1 e2 e3 => ?_
  rw [arr_upQ] at e1
  have hP1 := hW.1.set (hw_D aC b o H) hg (e := .inl (aC k, n, .inr (.inr (.inr (.inr (fun j => if j = i.toNatClampNeg then some (shA b o v) else (hR H a j).map (shA b o))))))) e1 e3
  refine kk b o L xs dC dI aC p l e R s m args below meth c H1 _ cells slots Qm ls hC (hW.put p0 rfl rfl rfl ?_ (fun a' ha => cellE_eq rfl rfl rfl (by rw [hR_sR, u2_row ha])) hP1 e2) (hS.put e2 e3 (by rw [shA_pos p0]; show o + 1 ≤ o + a; omega)) hl h1 h2 h3 h4 hr
  rw [cellE_q (H := sR H a i.toNatClampNeg (some v)) (n := n) hk (by omega), hR_sR, u2_self]
  congr 7
  funext j
  by_cases hj : j = i.toNatClampNeg <;> simp [hj]
/-- the world with a new cell behind it -/
theorem Wd.new {b o L : Nat} {xs : Nat → Int32} {dC : Nat → ClassId} {dI : Nat → Nat → Nat} {aC : Nat → ClassId} {H : PH} {Hm H1 : Heap} {k n : Nat} (h : Wd b o L xs dC dI aC H Hm) (hat : va_at (dC, dI) vwCl (o + (hN H + 1), cellE aC b o (nC H k n) (hN H + 1)) H1) (hz : H1.size = Hm.size + 1) (ho : ∀ q, q < Hm.size → H1[q]? = Hm[q]?) : Wd b o L xs dC dI aC (nC H k n) H1 := by
  obtain ⟨z0, z, z1, z2, z3⟩ := h
  have hk : ∀ (k : Nat) (x : Nat × va_E), (hw aC b o H)[k]? = some x → H1[x.1]? = Hm[x.1]? := fun k x hx => ho x.1 ((z0 k x hx).lt)
  refine ⟨?_, by rw [hz, z, hN_nC]; omega, ?_, fun a ha => ?_, fun j hj => ?_⟩
  · rw [← hw_push (H := H) (H' := nC H k n) (e := cellE aC b o (nC H k n) (hN H + 1)) rfl rfl (fun a' ha => cellE_eq (by rw [hK_nC, u1_ne ha]) (by rw [hI_nC, u1_ne ha]) (by rw [hL_nC, u1_ne ha]) (by rw [hR_nC, u1_ne ha]))]
    refine (z0.kept hk).app (fun k x hx => ?_)
    have hz : k < 1 := (List.getElem?_eq_some_iff.mp hx).1
    rw [show k = 0 by omega] at hx
    cases hx
    exact hat
  · rw [hK_nC, u1_ne (by omega)]; exact z1
  · rw [hK_nC, u1_ne (by rw [hN_nC] at ha; omega)]; exact z2 a (by rw [hN_nC] at ha; omega)
  · rw [hI_nC, u1_ne (by omega)]; exact z3 j hj
theorem S_new {o : Nat} {H0 Hm H1 : Heap} {locs : List Loc} (hS : va_S (fun q => o + 1 ≤ q) H0 Hm locs) (hz : H1.size = Hm.size + 1) (ho : ∀ q, q < Hm.size → H1[q]? = Hm[q]?) : va_S (fun q => o + 1 ≤ q) H0 H1 locs :=
  ⟨Nat.le_trans hS.1 (by omega), fun x h1 h2 => (ho x (Nat.lt_of_lt_of_le h1 hS.1)).trans (hS.2.1 x h1 h2), hS.2.2⟩
theorem wp_new {idx ci : Nat} {q : vw_C} (hd : decode y.2.1 pc = .ok (.new idx, 3)) (hq : vwCl[ci]? = some q) (hc : Cond.classLink y.1.cls idx q.1 ∈ gw) (kk : Wp y d kc ks (pc + 3) lo (.ref (hN H + 1) :: st) (nC H (ci + 1) q.2.2) Q) : Wp y d (kc + 1) (ks + q.2.2) pc lo st H Q := by
  intro b o L xs dC dI aC p l e R s m args below meth c Hm locs cells slots Qm ls hC hW hS hl h1 h2 h3 h4 hr
  have hci : ci < 13 := (List.getElem?_eq_some_iff.mp hq).1
  obtain ⟨k1, k2, k3, k4, k5, k6⟩ := clOk ci q hq
  have hKn := hC.2.2.2.2.2.2.1.1 ci _ hq
  have hz0 := hW.2.1
  refine W.newcK hC.1 hC.2.1 hC.2.2.2.1 (hC.2.2.2.2.2.1 _ hc) (hC.2.2.2.2.2.1 _ k4) (hC.2.2.2.2.2.1 _ k5) rfl hd (by omega) (by omega) hKn.2.1 hz0 fun H1 kC hkC e1 z1 o1 => ?_
  have hW1 : Wd b o L xs dC dI aC (nC H (ci + 1) q.2.2) H1 := hW.new (k := ci + 1) (n := q.2.2) (by
    rw [cellE_obj (ci := ci) (n := q.2.2) (by rw [hK_nC, u1_eq]) hci]
    refine ⟨_, hq, (u_born (tyOf ci) hC.2.2.2.2.2.1 k1 hKn hkC e1 k2).to (fun j hj => ?_)⟩
    have hj6 : j < 60 := by omega
    have e5 : vp_V ((List.range 60).map (fval b o (nC H (ci + 1) q.2.2) (hN H + 1) ci)) j = fval b o (nC H (ci + 1) q.2.2) (hN H + 1) ci j := by
      rw [vp_V, List.getD_eq_getElem?_getD, fs_get hj6]; rfl
    show _ = vp_V ((List.range 60).map (fval b o (nC H (ci + 1) q.2.2) (hN H + 1) ci)) j
    rw [e5, fval, hL_nC, hR_nC, hI_nC, u1_eq, u1_eq, u1_eq]
    have hnf := ty_nf ci hci j hj6
    generalize tyOf ci j = t at hnf
    cases t <;> first | (simp [fso, defaultValue, va_rf]; done) | exact absurd hnf (by decide)) (by rw [z1, hz0]) (fun q hq => o1 q (by rw [← hz0]; exact hq))
  have hfin := kk b o L xs dC dI aC p l e R s m args below meth c H1 locs (cells + 1) (slots + q.2.2) Qm ls hC hW1 (S_new hS (by rw [z1, hz0]) (fun q hq => o1 q (by rw [← hz0]; exact hq))) hl h1 h2 (by omega) (by omega) (by
    rw [show cells + 1 + kc = cells + (kc + 1) by omega, show slots + q.2.2 + ks = slots + (ks + q.2.2) by omega]; exact hr)
  rw [List.map_cons, shV, shA_pos (by omega)] at hfin
  exact hfin
theorem wp_newarray {at' : ArrayType} {k : Nat} {n : Int32} (hd : decode y.2.1 pc = .ok (.newarray at', 2)) (hk : (at' = .int ∧ k = 20) ∨ (at' = .byte ∧ k = 21) ∨ (at' = .boolean ∧ k = 22) ∨ (at' = .long ∧ k = 23)) (hc : Cond.arrayClass (newarray.typeOf at') ∈ gw) (hn : ¬ n < 0) (hb : n.toNatClampNeg ≤ 60000) (kk : Wp y d kc ks (pc + 2) lo (.ref (hN H + 1) :: st) (nC H k n.toNatClampNeg) Q) : Wp y d (kc + 1) (ks + n.toNatClampNeg) pc lo (.int n :: st) H Q := by
  intro b o L xs dC dI aC p l e R s m args below meth c Hm locs cells slots Qm ls hC hW hS hl h1 h2 h3 h4 hr
  have hz0 := hW.2.1
  have hcb : n.toNatClampNeg * componentBytes (newarray.typeOf at') ≤ 536870912 := by
    have : componentBytes (newarray.typeOf at') ≤ 8 := by rcases hk with ⟨rfl, -⟩ | ⟨rfl, -⟩ | ⟨rfl, -⟩ | ⟨rfl, -⟩ <;> decide
    exact Nat.le_trans (Nat.mul_le_mul hb this) (by decide)
  refine va_newaK hC.1 hC.2.1 (hC.2.2.2.2.2.1 _ hc) rfl hd rfl hn rfl hcb (by omega) (by omega) hz0 fun H1 cA e1 z1 o1 hAr hNm => ?_
  have hcA : cA = aC k := by
    rcases hk with ⟨rfl, rfl⟩ | ⟨rfl, rfl⟩ | ⟨rfl, rfl⟩ | ⟨rfl, rfl⟩
    · exact Option.some.inj (hNm.symm.trans (hC.2.2.2.2.2.2.1.2 0 _ rfl).2)
    · exact Option.some.inj (hNm.symm.trans (hC.2.2.2.2.2.2.1.2 1 _ rfl).2)
    · exact Option.some.inj (hNm.symm.trans (hC.2.2.2.2.2.2.1.2 2 _ rfl).2)
    · exact Option.some.inj (hNm.symm.trans (hC.2.2.2.2.2.2.1.2 3 _ rfl).2)
  subst hcA
  have hW1 : Wd b o L xs dC dI aC (nC H k n.toNatClampNeg) H1 := hW.new (k := k) (n := n.toNatClampNeg) (by
    rcases hk with ⟨rfl, rfl⟩ | ⟨rfl, rfl⟩ | ⟨rfl, rfl⟩ | ⟨rfl, rfl⟩
    · rw [cellE_i (H := nC H 20 n.toNatClampNeg) (k := 20) (n := n.toNatClampNeg) (by rw [hK_nC, u1_eq]) (by simp [isIA]), hI_nC, u1_eq]; exact e1
    · rw [cellE_i (H := nC H 21 n.toNatClampNeg) (k := 21) (n := n.toNatClampNeg) (by rw [hK_nC, u1_eq]) (by simp [isIA]), hI_nC, u1_eq]; exact e1
    · rw [cellE_i (H := nC H 22 n.toNatClampNeg) (k := 22) (n := n.toNatClampNeg) (by rw [hK_nC, u1_eq]) (by simp [isIA]), hI_nC, u1_eq]; exact e1
    · rw [cellE_l (H := nC H 23 n.toNatClampNeg) (n := n.toNatClampNeg) (by rw [hK_nC, u1_eq]), hL_nC, u1_eq]; exact e1) (by rw [z1, hz0]) (fun q hq => o1 q (by rw [← hz0]; exact hq))
  have hfin := kk b o L xs dC dI aC p l e R s m args below meth c H1 locs (cells + 1) (slots + n.toNatClampNeg) Qm ls hC hW1 (S_new hS (by rw [z1, hz0]) (fun q hq => o1 q (by rw [← hz0]; exact hq))) hl h1 h2 (by omega) (by omega) (by
    rw [show cells + 1 + kc = cells + (kc + 1) by omega, show slots + n.toNatClampNeg + ks = slots + (ks + n.toNatClampNeg) by omega]; exact hr)
  rw [List.map_cons, shV, shA_pos (by omega)] at hfin
  exact hfin
theorem wp_anewarray {idx k : Nat} {C : String} {n : Int32} (hd : decode y.2.1 pc = .ok (.anewarray idx, 3)) (hk : (C = "CarriageHire$Horse" ∧ k = 24) ∨ (C = "CarriageHire$Job" ∧ k = 25)) (hc : Cond.classLink y.1.cls idx C ∈ gw) (hn : ¬ n < 0) (hb : n.toNatClampNeg ≤ 60000) (kk : Wp y d kc ks (pc + 3) lo (.ref (hN H + 1) :: st) (nC H k n.toNatClampNeg) Q) : Wp y d (kc + 1) (ks + n.toNatClampNeg) pc lo (.int n :: st) H Q := by
  intro b o L xs dC dI aC p l e R s m args below meth c Hm locs cells slots Qm ls hC hW hS hl h1 h2 h3 h4 hr
  have hz0 := hW.2.1
  have hao : va_AO C s := by
    rcases hk with ⟨rfl, -⟩ | ⟨rfl, -⟩
    · exact hC.2.2.2.2.2.2.2.2.2.2.2.1
    · exact hC.2.2.2.2.2.2.2.2.2.2.2.2
  refine W.anew hC.1 hC.2.1 hC.2.2.2.1 (hC.2.2.2.2.2.1 _ hc) (va_AO.use hao) rfl hd rfl hn (by omega) (by omega) (by omega) fun cA kA comp f1 f2 f3 f4 => ?_
  have hcA : cA = aC k := by
    rcases hk with ⟨rfl, rfl⟩ | ⟨rfl, rfl⟩
    · obtain ⟨_, _, -, -, -, g⟩ := (hC.2.2.2.2.2.2.1.2 4 _ rfl).2
      exact Option.some.inj (f1.symm.trans g)
    · obtain ⟨_, _, -, -, -, g⟩ := (hC.2.2.2.2.2.2.1.2 5 _ rfl).2
      exact Option.some.inj (f1.symm.trans g)
  subst hcA
  generalize hH1 : Hm.push ({ cls := aC k, slots := Array.replicate n.toNatClampNeg .null, vm := .none } : Cell) = H1
  have z1 : H1.size = Hm.size + 1 := by rw [← hH1, Array.size_push]
  have e1 : H1[Hm.size]? = some (arrV (aC k) n.toNatClampNeg (fun _ => .null)) := by rw [← hH1, Array.getElem?_push_size, ← arrV_new]
  have o1 : ∀ q : Nat, q < Hm.size → H1[q]? = Hm[q]? := fun q hq => by rw [← hH1, Array.getElem?_push, if_neg (Nat.ne_of_lt hq)]
  rw [hz0] at e1
  have hW1 : Wd b o L xs dC dI aC (nC H k n.toNatClampNeg) H1 := hW.new (k := k) (n := n.toNatClampNeg) (by
    rw [cellE_q (H := nC H k n.toNatClampNeg) (k := k) (n := n.toNatClampNeg) (by rw [hK_nC, u1_eq]) (by omega), hR_nC, u1_eq]; exact e1) z1 o1
  have hfin := kk b o L xs dC dI aC p l e R s m args below meth c H1 locs (cells + 1) (slots + n.toNatClampNeg) Qm ls hC hW1 (S_new hS z1 o1) hl h1 h2 (by omega) (by omega) (by
    rw [show cells + 1 + kc = cells + (kc + 1) by omega, show slots + n.toNatClampNeg + ks = slots + (ks + n.toNatClampNeg) by omega]; exact hr)
  rw [List.map_cons, shV, shA_pos (by omega), ← hz0] at hfin
  exact hfin
end ArrRules
end
section
/-! ===== calls ===== -/
def lent : List Value → Nat → List (Option Value)
  | [], n => List.replicate n none
  | .long x :: vs, n + 2 => some (.long x) :: none :: lent vs n
  | .double x :: vs, n + 2 => some (.double x) :: none :: lent vs n
  | .int x :: vs, n + 1 => some (.int x) :: lent vs n
  | .float x :: vs, n + 1 => some (.float x) :: lent vs n
  | .null :: vs, n + 1 => some .null :: lent vs n
  | .ref x :: vs, n + 1 => some (.ref x) :: lent vs n
  | .retAddr x :: vs, n + 1 => some (.retAddr x) :: lent vs n
  | _ :: _, _ => []
theorem lv_args_sh (b o : Nat) : ∀ (vs : List Value) (k i : Nat) (w : Value), (i, w) ∈ lv_args k vs → (i, shV b o w) ∈ lv_args k (vs.map (shV b o))
  | [], k, i, w, h => by simp [lv_args] at h
  | v :: vs, k, i, w, h => by
    simp only [lv_args, List.mem_cons] at h
    simp only [List.map_cons, lv_args, List.mem_cons, shV_cat]
    rcases h with h | h
    · cases h; exact Or.inl rfl
    · exact Or.inr (lv_args_sh b o vs _ i w h)
theorem lent_ok : ∀ (vs : List Value) (n k i : Nat) (w : Value), (lent vs n)[i]? = some (some w) → (k + i, w) ∈ lv_args k vs
  | [], n, k, i, w, h => by
    simp only [lent] at h
    rw [List.getElem?_replicate] at h
    split at h <;> simp at h
  | v :: vs, n, k, i, w, h => by
    have two : ∀ (m : Nat), v.category = 2 → (some v :: none :: lent vs m)[i]? = some (some w) → (k + i, w) ∈ lv_args k (v :: vs) := by
      intro m hc h
      match i with
      | 0 => simp at h; subst h; simp [lv_args]
      | 1 => simp at h
      | i + 2 =>
        simp at h
        have := lent_ok vs m (k + 2) i w h
        rw [lv_args, if_pos hc]
        exact List.mem_cons_of_mem _ (by rw [show k + (i + 2) = k + 2 + i by omega]; exact this)
    have one : ∀ (m : Nat), ¬ v.category = 2 → (some v :: lent vs m)[i]? = some (some w) → (k + i, w) ∈ lv_args k (v :: vs) := by
      intro m hc h
      match i with
      | 0 => simp at h; subst h; simp [lv_args]
      | i + 1 =>
        simp at h
        have := lent_ok vs m (k + 1) i w h
        rw [lv_args, if_neg hc]
        exact List.mem_cons_of_mem _ (by rw [show k + (i + 1) = k + 1 + i by omega]; exact this)
    cases v with
    | long x => rcases n with _ | _ | n <;> simp only [lent] at h <;> first | (simp at h; done) | exact two _ rfl h
    | double x => rcases n with _ | _ | n <;> simp only [lent] at h <;> first | (simp at h; done) | exact two _ rfl h
    | int x => rcases n with _ | n <;> simp only [lent] at h <;> first | (simp at h; done) | exact one _ (by simp [Value.category]) h
    | float x => rcases n with _ | n <;> simp only [lent] at h <;> first | (simp at h; done) | exact one _ (by simp [Value.category]) h
    | null => rcases n with _ | n <;> simp only [lent] at h <;> first | (simp at h; done) | exact one _ (by simp [Value.category]) h
    | ref x => rcases n with _ | n <;> simp only [lent] at h <;> first | (simp at h; done) | exact one _ (by simp [Value.category]) h
    | retAddr x => rcases n with _ | n <;> simp only [lent] at h <;> first | (simp at h; done) | exact one _ (by simp [Value.category]) h
theorem lg_sl_sh (b o : Nat) (vs : List Value) : (lg_sl (vs.map (shV b o))).length = (lg_sl vs).length := by
  induction vs with
  | nil => rfl
  | cons v vs ih =>
    simp only [lg_sl, List.map_cons, List.flatMap_cons, List.length_append] at ih ⊢
    rw [ih, shV_cat]
    by_cases h : v.category = 2 <;> simp [h]
theorem entry_ok {b o n : Nat} (vs : List Value) (h : (lg_sl vs).length ≤ n) : lo_ok b o ((lg_sl (vs.map (shV b o)) ++ List.replicate (n - (lg_sl (vs.map (shV b o))).length) Slot.unset).toArray) n (lent vs n) := by
  have hl := lv_entry (vs.map (shV b o)) (n := n) (by rw [lg_sl_sh]; exact h)
  refine ⟨hl.1, hl.2.1, fun i v hi => ?_⟩
  have := lent_ok vs n 0 i v hi
  rw [Nat.zero_add] at this
  exact hl.2.2 _ (lv_args_sh b o vs 0 i v this)
def PcU (b o L : Nat) (xs : Nat → Int32) (dC : Nat → ClassId) (dI : Nat → Nat → Nat) (aC : Nat → ClassId) (H : PH) (av : List Value) : Array Value → State → Prop := fun v U => v = (av.map (shV b o)).toArray ∧ Env0 b o L xs dC dI aC U ∧ Wd b o L xs dC dI aC H U.heap
def QcU (b o L : Nat) (xs : Nat → Int32) (dC : Nat → ClassId) (dI : Nat → Nat → Nat) (aC : Nat → ClassId) (Q : Option Value → PH → Prop) : Array Value → State → Outcome → State → Prop := fun _ st oc t => ∃ v H', oc = .returned (v.map (shV b o)) ∧ Q v H' ∧ Wd b o L xs dC dI aC H' t.heap ∧ va_F (fun q => o + 1 ≤ q) st t
theorem Env0.moved {b o L : Nat} {xs : Nat → Int32} {dC : Nat → ClassId} {dI : Nat → Nat → Nat} {aC : Nat → ClassId} {U U' : State} (h : Env0 b o L xs dC dI aC U) (hvm : U'.vm = U.vm) (hh : U'.heap = U.heap) : Env0 b o L xs dC dI aC U' := by
  obtain ⟨h1, h2, h3, h4, h5, h6, h7⟩ := h
  have ha : U.vm.Alike U'.vm := by rw [hvm]; exact Vm.Alike.refl U.vm
  refine ⟨h1.moved ha, fun w hw => ?_, by rw [hh]; exact h3.moved ha, h4, by rw [hh]; exact h5, h6.moved ha, h7.moved ha⟩
  have hn := (List.mem_filter.mp hw).2
  cases w <;> simp [isNest] at hn
  · exact va_tabs rfl hvm.symm (h2 _ hw)
  · exact va_tabs rfl hvm.symm (h2 _ hw)
theorem PcU.blind {b o L : Nat} {xs : Nat → Int32} {dC : Nat → ClassId} {dI : Nat → Nat → Nat} {aC : Nat → ClassId} {H : PH} {av : List Value} : FrameBlind (PcU b o L xs dC dI aC H av) := fun a U g mk h => ⟨h.1, h.2.1.moved rfl rfl, h.2.2⟩
/-- the tables know this method; n arguments beside the receiver -/
def MOk (y : MD) (n : Nat) : Prop := Cond.code y.1 y.2.1 y.2.2.1 y.2.2.2 ∈ gw ∧ Cond.initialized y.1.cls ∈ gw ∧ (y.1.cls ≠ "java/lang/invoke/MethodHandle" ∧ y.1.cls ≠ "java/lang/invoke/VarHandle" ∧ (parseMethodDescriptor y.1.desc).map (fun d => d.parameters.length) = some n) ∧ plainName y.1.cls = true ∧ y.2.2.1 ≤ 40
def Link (own : String) (idx : Nat) (y : MethodName) : Prop := Cond.methodLink own idx y ∈ gw ∨ ∃ host, Cond.methodLinkNest own idx y host ∈ nw
theorem met_of {y : MD} {n d mc ms : Nat} {av : List Value} {H : PH} {Q : Option Value → PH → Prop} (hm : MOk y n) (hfit : (lg_sl av).length ≤ y.2.2.1) (kk : Wp y d mc ms 0 (lent av y.2.2.1) [] H Q) (l : Launch) (b o L : Nat) (xs : Nat → Int32) (dC : Nat → ClassId) (dI : Nat → Nat → Nat) (aC : Nat → ClassId) :
    Met l y.1 (Cond.code y.1 y.2.1 y.2.2.1 y.2.2.2 :: gw) { frames := d, cells := mc, slots := ms, locals := 64 * d } (PcU b o L xs dC dI aC H av) (QcU b o L xs dC dI aC Q) mc ms (fun q => o + 1 ≤ q) := by
  refine Met.ofW (cc := y.2.1) (maxL := y.2.2.1) (ret := y.2.2.2) hm.2.2.2.1 rfl ?_
  intro p e s m args below meth c s₁ B hml hv
  obtain ⟨rfl, hE, hW⟩ := hv
  have hts := atoms_spec (ws := Cond.code y.1 y.2.1 y.2.2.1 y.2.2.2 :: gw) B.pre
  have hlocks := B.notSynchronized
  have hr := B.returns
  rw [lg_entry_eq]
  refine kk b o L xs dC dI aC p l e _ s m _ below meth c s.heap [] 0 0 _ _ ⟨B.exec, B.bytes, hml, findClass_of_methodNamed B.named, fun h => (name_of_methodNamed B.named B.method).1.trans h, fun w hw => hts w (List.mem_cons_of_mem _ hw), hE⟩ hW va_S.rf (entry_ok av hfit) (Nat.le_refl _) (Nat.le_refl _) (by show 0 + mc ≤ mc; omega) (by show 0 + ms ≤ ms; omega) ?_
  intro v H' Hm' locs' pc' ls' i hq hW' hS' hri hdec
  rw [Nat.zero_add, Nat.zero_add]
  have hqc : ∀ t : State, t.heap = Hm' → s.WarmedH t.vm → QcU b o L xs dC dI aC Q (av.map (shV b o)).toArray s (.returned (v.map (shV b o))) t := fun t ht _ => ⟨v, H', rfl, hq, by rw [ht]; exact hW', hS'.F ht⟩
  rcases hri with ⟨g1, rfl, rfl⟩ | ⟨x, g1, rfl, rfl⟩ | ⟨x, g1, hx, rfl, rfl⟩ | ⟨x, g1, rfl, rfl⟩ | ⟨r, t, g1, g2, rfl, rfl⟩
  · exact W.vret B.exec B.bytes (hr.trans g1) hqc hS'.2.2 hdec
  · exact W.iret B.exec B.bytes (hr.trans g1) hqc hS'.2.2 hdec
  · exact W.zret B.exec B.bytes (hr.trans g1) (by rcases hx with rfl | rfl <;> rfl) hqc hS'.2.2 hdec
  · exact W.lret B.exec B.bytes (hr.trans g1) hqc hS'.2.2 hdec
  · refine W.aret B.exec B.bytes (hr.trans g1) g2 ?_ hqc hS'.2.2 hdec
    rw [shV_rf]
    exact va_rf_or _
end
section
/-! ===== the rules of calls ===== -/
theorem Env0.at {b o L : Nat} {xs : Nat → Int32} {dC : Nat → ClassId} {dI : Nat → Nat → Nat} {aC : Nat → ClassId} {s U : State} {H : PH} {Hm : Heap} {locs : List Loc} (h : Env0 b o L xs dC dI aC s) (hW : Wd b o L xs dC dI aC H Hm) (hS : va_S (fun q => o + 1 ≤ q) s.heap Hm locs) (hU : U.heap = Hm) (hw : s.WarmedH U.vm) : Env0 b o L xs dC dI aC U := by
  obtain ⟨g1, g2, g3, g4, g5, g6, g7⟩ := h
  refine ⟨g1.moved hw.alike, fun w hw' => ?_, ?_, g4, by rw [hU, hW.2.1]; omega, g6.moved hw.alike, g7.moved hw.alike⟩
  · have hn := (List.mem_filter.mp hw').2
    cases w <;> simp [isNest] at hn
    · exact va_Nw.warmM hw (g2 _ hw')
    · exact va_Nw.warmF hw (g2 _ hw')
  · rw [hU]
    exact (g3.kept (hS.2.1 b (by omega) (show ¬ o + 1 ≤ b by omega))).moved hw.alike
theorem gw_good {y : MD} {n : Nat} (hm : MOk y n) : GoodIn gw (Cond.code y.1 y.2.1 y.2.2.1 y.2.2.2 :: gw) := by
  intro w hw
  have hin : w ∈ gw := by
    rcases List.mem_cons.mp hw with rfl | h
    · exact hm.1
    · exact h
  exact ⟨hin, good_of_word (List.mem_filter.mp hin).2⟩
section CallRules
variable {y : MD} {d kc ks pc : Nat} {lo : List (Option Value)} {st : List Value} {H : PH} {Q : Option Value → PH → Prop}
/-- behind a call -/
theorem call_go {b o L : Nat} {xs : Nat → Int32} {dC : Nat → ClassId} {dI : Nat → Nat → Nat} {aC : Nat → ClassId} {p : Program} {l : Launch} {e : Env} {R : Room} {s : State} {m : MethodId} {args : Array Value} {below : List Frame} {meth : Method} {c : Code} {Hm : Heap} {locs : List Loc} {cells slots mc ms : Nat} {Qm : State → Prop} {ls : Array Slot} {st0 : List Value} {av : Array Value}
    (hC : Ctx y b o L xs dC dI aC p s m args meth c) (hS : va_S (fun q => o + 1 ≤ q) s.heap Hm locs) (hl : lo_ok b o ls y.2.2.1 lo) (h1 : d ≤ R.frames) (h2 : 64 * d ≤ R.locals) (h3 : cells + (kc + mc) ≤ R.cells) (h4 : slots + (ks + ms) ≤ R.slots)
    (hr : ∀ (v : Option Value) (H' : PH) (Hm' : Heap) (locs' : List Loc) (pc' : Nat) (ls' : Array Slot) (i : Instr), Q v H' → Wd b o L xs dC dI aC H' Hm' → va_S (fun q => o + 1 ≤ q) s.heap Hm' locs' → retI y v i → decode y.2.1 pc' = .ok (i, 1) →
      W p l e R s m args below meth c Hm' locs' (cells + (kc + mc)) (slots + (ks + ms)) Qm (F0 m pc' ls' (v.toList.map (shV b o))))
    (hrun : va_Run p l e R s m args below meth c Hm locs cells slots mc ms (F0 m pc ls st0) (st.map (shV b o)) (QcU b o L xs dC dI aC (fun v H' => Wp y d kc ks (pc + 3) lo (v.toList ++ st) H' Q) av) (fun q => o + 1 ≤ q)) :
    W p l e R s m args below meth c Hm locs cells slots Qm (F0 m pc ls st0) := by
  intro T hT X
  obtain ⟨v0, st₀, t, T', Lc, e0, X', hL, e1, e2, ⟨v, H', hv, hk, hW', hF⟩, hgo⟩ := hrun T hT X
  cases hv
  have hS' : va_S (fun q => o + 1 ≤ q) s.heap T'.heap (locs ++ Lc) := by
    refine ⟨?_, fun q g1 g2 => ?_, fun q hq => ?_⟩
    · rw [e1]; exact Nat.le_trans hS.1 (by rw [← e0]; exact hF.1)
    · rw [e1, hF.2 q (by rw [e0]; exact Nat.lt_of_lt_of_le g1 hS.1) g2, e0]; exact hS.2.1 q g1 g2
    · rcases List.mem_append.mp hq with h | h
      · exact hS.2.2 q h
      · exact hL q h
  have hfin := hk b o L xs dC dI aC p l e R s m args below meth c T'.heap (locs ++ Lc) (cells + mc) (slots + ms) Qm ls hC (by rw [e1]; exact hW') hS' hl h1 h2 (by omega) (by omega) (by
    rw [show cells + mc + kc = cells + (kc + mc) by omega, show slots + ms + ks = slots + (ks + ms) by omega]; exact hr)
  rw [List.map_append] at hfin
  have e5 : (v.map (shV b o)).toList = v.toList.map (shV b o) := by cases v <;> rfl
  rw [← e5] at hfin
  obtain ⟨t2, a1, b1⟩ := hfin T' rfl X'
  exact ⟨t2, hgo t2 a1, b1⟩
theorem wp_callv {idx ci a n mc ms : Nat} {y' : MD} {av : List Value} {q : vw_C} {st0 : List Value} (hd : decode y.2.1 pc = .ok (.invokevirtual idx, 3)) (hlk : Link y.1.cls idx y'.1) (hm : MOk y' av.length) (hi : Cond.instanceMethod y'.1 ∈ gw) (hs : Cond.selects y'.1.cls y'.1 y'.1 ∈ gw) (hq : vwCl[ci]? = some q) (hqc : q.1 = y'.1.cls) (hk : hK H a = (ci + 1, n)) (hfit : (lg_sl (.ref a :: av)).length ≤ y'.2.2.1) (hst : (st.map fun v => v.category).sum ≤ 8) (hst0 : st0 = av.reverse ++ .ref a :: st)
    (kk : Wp y' d mc ms 0 (lent (.ref a :: av) y'.2.2.1) [] H (fun v H' => Wp y (d + 1) kc ks (pc + 3) lo (v.toList ++ st) H' Q)) : Wp y (d + 1) (kc + mc) (ks + ms) pc lo st0 H Q := by
  intro b o L xs dC dI aC p l e R s m args below meth c Hm locs cells slots Qm ls hC hW hS hl h1 h2 h3 h4 hr
  subst hst0
  have hci : ci < 13 := (List.getElem?_eq_some_iff.mp hq).1
  obtain ⟨p0, p1⟩ := hW.pos hk (by omega) (by omega)
  have hg := hw_get (aC := aC) (b := b) (o := o) p0 p1
  rw [cellE_obj hk hci] at hg
  have hM := met_of hm hfit kk l b o L xs dC dI aC
  have hrecv : ∃ cell : Cell, Hm[shA b o a]? = some cell ∧ cell.vm.isStatics = false ∧ s.vm.findClass y'.1.cls = some cell.cls := by
    rw [← hqc]; exact va_recv hC.2.2.2.2.2.2.1 hW.1 hq hg
  have hpre : PreV s Hm y'.1.cls (shA b o a) (PcU b o L xs dC dI aC H (.ref a :: av)) (av.map (shV b o)) := ⟨PcU.blind, hrecv, fun U hU hw => ⟨rfl, hC.2.2.2.2.2.2.at hW hS hU hw, by rw [hU]; exact hW⟩⟩
  have hR : (({ frames := d, cells := mc, slots := ms, locals := 64 * d } : Room)).frames + 1 ≤ R.frames ∧ 8 + (y'.2.2.1 + 11) + (({ frames := d, cells := mc, slots := ms, locals := 64 * d } : Room)).locals ≤ R.locals := ⟨h1, by have := hm.2.2.2.2; show 8 + (y'.2.2.1 + 11) + 64 * d ≤ R.locals; omega⟩
  have hst' : 2 * (F0 m pc ls ((av.reverse ++ .ref a :: st).map (shV b o))).monitorRoom + ((st.map (shV b o)).map fun v => v.category).sum ≤ 8 := lv_room (by rw [List.map_map, show (fun v => v.category) ∘ shV b o = (fun v : Value => v.category) from funext (shV_cat b o)]; exact hst)
  have hstk : (F0 m pc ls ((av.reverse ++ .ref a :: st).map (shV b o))).stack = (av.map (shV b o)).reverse ++ .ref (shA b o a) :: st.map (shV b o) := by
    show (av.reverse ++ .ref a :: st).map (shV b o) = _
    rw [List.map_append, List.map_reverse]; rfl
  refine call_go (st := st) (av := (Value.ref (shA b o a) :: av.map (shV b o)).toArray) hC hS hl h1 h2 h3 h4 hr ?_
  rcases hlk with hlk | ⟨host, hlk⟩
  · exact va_runV (Ts := gw) ⟨hC.1, hC.2.1, hC.2.2.1, hC.2.2.2.1, hC.2.2.2.2.2.1⟩ hM ⟨callB_of av.length hC.2.2.2.2.2.1 (gw_good hm) rfl rfl rfl (hC.2.2.2.2.2.1 _ hm.2.1) (hC.2.2.2.2.2.1 _ hlk) hm.2.2.1 hR, hC.2.2.2.2.2.1 _ hi, hC.2.2.2.2.2.1 _ hs⟩ hpre rfl (by simp) hl.1 hstk hst' hd ⟨by omega, by omega⟩
  · exact va_runVN (Ts := gw) ⟨hC.1, hC.2.1, hC.2.2.1, hC.2.2.2.1, hC.2.2.2.2.2.1⟩ hM ⟨va_cnB av.length hC.2.2.2.2.2.1 (gw_good hm) rfl rfl rfl (hC.2.2.2.2.2.2.2.1 _ hlk) (hC.2.2.2.2.2.1 _ hm.2.1) hm.2.2.1 hR, hC.2.2.2.2.2.1 _ hi, hC.2.2.2.2.2.1 _ hs⟩ hpre rfl (by simp) hl.1 hstk hst' hd ⟨by omega, by omega⟩
theorem wp_calls {idx mc ms : Nat} {y' : MD} {av : List Value} {st0 : List Value} (hd : decode y.2.1 pc = .ok (.invokestatic idx, 3)) (hlk : Link y.1.cls idx y'.1) (hm : MOk y' av.length) (hs : Cond.static y'.1 ∈ gw) (hfit : (lg_sl av).length ≤ y'.2.2.1) (hst : (st.map fun v => v.category).sum ≤ 8) (hst0 : st0 = av.reverse ++ st)
    (kk : Wp y' d mc ms 0 (lent av y'.2.2.1) [] H (fun v H' => Wp y (d + 1) kc ks (pc + 3) lo (v.toList ++ st) H' Q)) : Wp y (d + 1) (kc + mc) (ks + ms) pc lo st0 H Q := by
  intro b o L xs dC dI aC p l e R s m args below meth c Hm locs cells slots Qm ls hC hW hS hl h1 h2 h3 h4 hr
  subst hst0
  have hM := met_of hm hfit kk l b o L xs dC dI aC
  have hpre : PreS s Hm (PcU b o L xs dC dI aC H av) (av.map (shV b o)) := ⟨PcU.blind, fun U hU hw => ⟨rfl, hC.2.2.2.2.2.2.at hW hS hU hw, by rw [hU]; exact hW⟩⟩
  have hR : (({ frames := d, cells := mc, slots := ms, locals := 64 * d } : Room)).frames + 1 ≤ R.frames ∧ 8 + (y'.2.2.1 + 11) + (({ frames := d, cells := mc, slots := ms, locals := 64 * d } : Room)).locals ≤ R.locals := ⟨h1, by have := hm.2.2.2.2; show 8 + (y'.2.2.1 + 11) + 64 * d ≤ R.locals; omega⟩
  have hst' : 2 * (F0 m pc ls ((av.reverse ++ st).map (shV b o))).monitorRoom + ((st.map (shV b o)).map fun v => v.category).sum ≤ 8 := lv_room (by rw [List.map_map, show (fun v => v.category) ∘ shV b o = (fun v : Value => v.category) from funext (shV_cat b o)]; exact hst)
  have hstk : (F0 m pc ls ((av.reverse ++ st).map (shV b o))).stack = (av.map (shV b o)).reverse ++ st.map (shV b o) := by
    show (av.reverse ++ st).map (shV b o) = _
    rw [List.map_append, List.map_reverse]
  refine call_go (st := st) (av := (av.map (shV b o)).toArray) hC hS hl h1 h2 h3 h4 hr ?_
  rcases hlk with hlk | ⟨host, hlk⟩
  · exact va_runS (Ts := gw) ⟨hC.1, hC.2.1, hC.2.2.1, hC.2.2.2.1, hC.2.2.2.2.2.1⟩ hM ⟨callB_of av.length hC.2.2.2.2.2.1 (gw_good hm) rfl rfl rfl (hC.2.2.2.2.2.1 _ hm.2.1) (hC.2.2.2.2.2.1 _ hlk) hm.2.2.1 hR, hC.2.2.2.2.2.1 _ hs⟩ hpre rfl (by simp) hl.1 hstk hst' hd ⟨by omega, by omega⟩
  · exact va_runSN (Ts := gw) ⟨hC.1, hC.2.1, hC.2.2.1, hC.2.2.2.1, hC.2.2.2.2.2.1⟩ hM ⟨va_cnB av.length hC.2.2.2.2.2.1 (gw_good hm) rfl rfl rfl (hC.2.2.2.2.2.2.2.1 _ hlk) (hC.2.2.2.2.2.1 _ hm.2.1) hm.2.2.1 hR, hC.2.2.2.2.2.1 _ hs, trivial⟩ hpre rfl (by simp) hl.1 hstk hst' hd ⟨by omega, by omega⟩
theorem wp_calli {idx a mc ms : Nat} {y' : MD} {av : List Value} {st0 : List Value} (hd : decode y.2.1 pc = .ok (.invokespecial idx, 3)) (hlk : Link y.1.cls idx y'.1) (hm : MOk y' av.length) (hret : y'.2.2.2 = none) (hi : Cond.instanceMethod y'.1 ∈ gw) (hin : y'.1.name = "<init>") (hfit : (lg_sl (.ref a :: av)).length ≤ y'.2.2.1) (hst : (st.map fun v => v.category).sum ≤ 8) (hst0 : st0 = av.reverse ++ .ref a :: st)
    (kk : Wp y' d mc ms 0 (lent (.ref a :: av) y'.2.2.1) [] H (fun v H' => Wp y (d + 1) kc ks (pc + 3) lo (v.toList ++ st) H' Q)) : Wp y (d + 1) (kc + mc) (ks + ms) pc lo st0 H Q := by
  intro b o L xs dC dI aC p l e R s m args below meth c Hm locs cells slots Qm ls hC hW hS hl h1 h2 h3 h4 hr
  subst hst0
  have hM := met_of hm hfit kk l b o L xs dC dI aC
  rw [hret] at hM
  have hpre : PreS s Hm (PcU b o L xs dC dI aC H (.ref a :: av)) (.ref (shA b o a) :: av.map (shV b o)) := ⟨PcU.blind, fun U hU hw => ⟨rfl, hC.2.2.2.2.2.2.at hW hS hU hw, by rw [hU]; exact hW⟩⟩
  have hR : (({ frames := d, cells := mc, slots := ms, locals := 64 * d } : Room)).frames + 1 ≤ R.frames ∧ 8 + (y'.2.2.1 + 11) + (({ frames := d, cells := mc, slots := ms, locals := 64 * d } : Room)).locals ≤ R.locals := ⟨h1, by have := hm.2.2.2.2; show 8 + (y'.2.2.1 + 11) + 64 * d ≤ R.locals; omega⟩
  have hst' : 2 * (F0 m pc ls ((av.reverse ++ .ref a :: st).map (shV b o))).monitorRoom + ((st.map (shV b o)).map fun v => v.category).sum ≤ 8 := lv_room (by rw [List.map_map, show (fun v => v.category) ∘ shV b o = (fun v : Value => v.category) from funext (shV_cat b o)]; exact hst)
  have hstk : (F0 m pc ls ((av.reverse ++ .ref a :: st).map (shV b o))).stack = (av.map (shV b o)).reverse ++ .ref (shA b o a) :: st.map (shV b o) := by
    show (av.reverse ++ .ref a :: st).map (shV b o) = _
    rw [List.map_append, List.map_reverse]; rfl
  have hgd := gw_good hm
  rw [hret] at hgd
  refine call_go (st := st) (av := (Value.ref (shA b o a) :: av.map (shV b o)).toArray) hC hS hl h1 h2 h3 h4 hr ?_
  rcases hlk with hlk | ⟨host, hlk⟩
  · exact va_runI (Ts := gw) ⟨hC.1, hC.2.1, hC.2.2.1, hC.2.2.2.1, hC.2.2.2.2.2.1⟩ hM ⟨callB_of av.length hC.2.2.2.2.2.1 hgd rfl rfl rfl (hC.2.2.2.2.2.1 _ hm.2.1) (hC.2.2.2.2.2.1 _ hlk) hm.2.2.1 hR, hin, hC.2.2.2.2.2.1 _ hi⟩ hpre rfl (by simp) hl.1 hstk hst' hd ⟨by omega, by omega⟩
  · exact va_runIN (Ts := gw) ⟨hC.1, hC.2.1, hC.2.2.1, hC.2.2.2.1, hC.2.2.2.2.2.1⟩ hM ⟨va_cnB av.length hC.2.2.2.2.2.1 hgd rfl rfl rfl (hC.2.2.2.2.2.2.2.1 _ hlk) (hC.2.2.2.2.2.1 _ hm.2.1) hm.2.2.1 hR, hin, hC.2.2.2.2.2.1 _ hi⟩ hpre rfl (by simp) hl.1 hstk hst' hd ⟨by omega, by omega⟩
/-- Object's constructor -/
theorem wp_super {idx a : Nat} (hd : decode y.2.1 pc = .ok (.invokespecial idx, 3)) (hlk : Cond.methodLink y.1.cls idx objectInit ∈ gw) (hi : Cond.instanceMethod objectInit ∈ gw) (hc : Cond.code objectInit ⟨#[0xb1]⟩ 1 none ∈ gw) (hst : (st.map fun v => v.category).sum ≤ 8) (kk : Wp y (d + 1) kc ks (pc + 3) lo st H Q) : Wp y (d + 1) kc ks pc lo (.ref a :: st) H Q := by
  intro b o L xs dC dI aC p l e R s m args below meth c Hm locs cells slots Qm ls hC hW hS hl h1 h2 h3 h4 hr
  have hst' : 2 * (F0 m pc ls ((Value.ref a :: st).map (shV b o))).monitorRoom + ((st.map (shV b o)).map fun v => v.category).sum ≤ 8 := lv_room (by rw [List.map_map, show (fun v => v.category) ∘ shV b o = (fun v : Value => v.category) from funext (shV_cat b o)]; exact hst)
  exact W.objInit hC.1 hC.2.1 hC.2.2.2.1 (hC.2.2.2.2.2.1 _ hlk) (hC.2.2.2.2.2.1 _ hi) (hC.2.2.2.2.2.1 _ hc) rfl (hl.1.trans hC.2.2.1.symm) rfl hd (by omega) (by omega) (kk b o L xs dC dI aC p l e R s m args below meth c Hm locs cells slots Qm ls hC hW hS hl h1 h2 h3 h4 hr)
theorem wp_callv0 {idx ci a n : Nat} {y' : MD} {q : vw_C} (hd : decode y.2.1 pc = .ok (.invokevirtual idx, 3)) (hlk : Link y.1.cls idx y'.1) (hm : MOk y' 0) (hi : Cond.instanceMethod y'.1 ∈ gw) (hs : Cond.selects y'.1.cls y'.1 y'.1 ∈ gw) (hq : vwCl[ci]? = some q) (hqc : q.1 = y'.1.cls) (hk : hK H a = (ci + 1, n)) (hfit : (lg_sl (.ref a :: [])).length ≤ y'.2.2.1) (hst : (st.map fun v => v.category).sum ≤ 8) (kk : Wp y' d 0 0 0 (lent (.ref a :: []) y'.2.2.1) [] H (fun v H' => Wp y (d + 1) kc ks (pc + 3) lo (v.toList ++ st) H' Q)) : Wp y (d + 1) kc ks pc lo (.ref a :: st) H Q :=
  wp_callv (av := []) (mc := 0) (ms := 0) hd hlk hm hi hs hq hqc hk hfit hst rfl kk
theorem wp_callv0n {mc ms : Nat} {idx ci a n : Nat} {y' : MD} {q : vw_C} (hd : decode y.2.1 pc = .ok (.invokevirtual idx, 3)) (hlk : Link y.1.cls idx y'.1) (hm : MOk y' 0) (hi : Cond.instanceMethod y'.1 ∈ gw) (hs : Cond.selects y'.1.cls y'.1 y'.1 ∈ gw) (hq : vwCl[ci]? = some q) (hqc : q.1 = y'.1.cls) (hk : hK H a = (ci + 1, n)) (hfit : (lg_sl (.ref a :: [])).length ≤ y'.2.2.1) (hst : (st.map fun v => v.category).sum ≤ 8) (kk : Wp y' d mc ms 0 (lent (.ref a :: []) y'.2.2.1) [] H (fun v H' => Wp y (d + 1) kc ks (pc + 3) lo (v.toList ++ st) H' Q)) : Wp y (d + 1) (kc + mc) (ks + ms) pc lo (.ref a :: st) H Q :=
  wp_callv (av := []) (mc := mc) (ms := ms) hd hlk hm hi hs hq hqc hk hfit hst rfl kk
theorem wp_calli0 {idx a : Nat} {y' : MD} (hd : decode y.2.1 pc = .ok (.invokespecial idx, 3)) (hlk : Link y.1.cls idx y'.1) (hm : MOk y' 0) (hret : y'.2.2.2 = none) (hi : Cond.instanceMethod y'.1 ∈ gw) (hin : y'.1.name = "<init>") (hfit : (lg_sl (.ref a :: [])).length ≤ y'.2.2.1) (hst : (st.map fun v => v.category).sum ≤ 8) (kk : Wp y' d 0 0 0 (lent (.ref a :: []) y'.2.2.1) [] H (fun v H' => Wp y (d + 1) kc ks (pc + 3) lo (v.toList ++ st) H' Q)) : Wp y (d + 1) kc ks pc lo (.ref a :: st) H Q :=
  wp_calli (av := []) (mc := 0) (ms := 0) hd hlk hm hret hi hin hfit hst rfl kk
theorem wp_calli0n {mc ms : Nat} {idx a : Nat} {y' : MD} (hd : decode y.2.1 pc = .ok (.invokespecial idx, 3)) (hlk : Link y.1.cls idx y'.1) (hm : MOk y' 0) (hret : y'.2.2.2 = none) (hi : Cond.instanceMethod y'.1 ∈ gw) (hin : y'.1.name = "<init>") (hfit : (lg_sl (.ref a :: [])).length ≤ y'.2.2.1) (hst : (st.map fun v => v.category).sum ≤ 8) (kk : Wp y' d mc ms 0 (lent (.ref a :: []) y'.2.2.1) [] H (fun v H' => Wp y (d + 1) kc ks (pc + 3) lo (v.toList ++ st) H' Q)) : Wp y (d + 1) (kc + mc) (ks + ms) pc lo (.ref a :: st) H Q :=
  wp_calli (av := []) (mc := mc) (ms := ms) hd hlk hm hret hi hin hfit hst rfl kk
theorem wp_callv1 {idx ci a n : Nat} {y' : MD} {q : vw_C} {v1 : Value} (hd : decode y.2.1 pc = .ok (.invokevirtual idx, 3)) (hlk : Link y.1.cls idx y'.1) (hm : MOk y' 1) (hi : Cond.instanceMethod y'.1 ∈ gw) (hs : Cond.selects y'.1.cls y'.1 y'.1 ∈ gw) (hq : vwCl[ci]? = some q) (hqc : q.1 = y'.1.cls) (hk : hK H a = (ci + 1, n)) (hfit : (lg_sl (.ref a :: [v1])).length ≤ y'.2.2.1) (hst : (st.map fun v => v.category).sum ≤ 8) (kk : Wp y' d 0 0 0 (lent (.ref a :: [v1]) y'.2.2.1) [] H (fun v H' => Wp y (d + 1) kc ks (pc + 3) lo (v.toList ++ st) H' Q)) : Wp y (d + 1) kc ks pc lo (v1 :: .ref a :: st) H Q :=
  wp_callv (av := [v1]) (mc := 0) (ms := 0) hd hlk hm hi hs hq hqc hk hfit hst rfl kk
theorem wp_callv1n {mc ms : Nat} {idx ci a n : Nat} {y' : MD} {q : vw_C} {v1 : Value} (hd : decode y.2.1 pc = .ok (.invokevirtual idx, 3)) (hlk : Link y.1.cls idx y'.1) (hm : MOk y' 1) (hi : Cond.instanceMethod y'.1 ∈ gw) (hs : Cond.selects y'.1.cls y'.1 y'.1 ∈ gw) (hq : vwCl[ci]? = some q) (hqc : q.1 = y'.1.cls) (hk : hK H a = (ci + 1, n)) (hfit : (lg_sl (.ref a :: [v1])).length ≤ y'.2.2.1) (hst : (st.map fun v => v.category).sum ≤ 8) (kk : Wp y' d mc ms 0 (lent (.ref a :: [v1]) y'.2.2.1) [] H (fun v H' => Wp y (d + 1) kc ks (pc + 3) lo (v.toList ++ st) H' Q)) : Wp y (d + 1) (kc + mc) (ks + ms) pc lo (v1 :: .ref a :: st) H Q :=
  wp_callv (av := [v1]) (mc := mc) (ms := ms) hd hlk hm hi hs hq hqc hk hfit hst rfl kk
theorem wp_calli1 {idx a : Nat} {y' : MD} {v1 : Value} (hd : decode y.2.1 pc = .ok (.invokespecial idx, 3)) (hlk : Link y.1.cls idx y'.1) (hm : MOk y' 1) (hret : y'.2.2.2 = none) (hi : Cond.instanceMethod y'.1 ∈ gw) (hin : y'.1.name = "<init>") (hfit : (lg_sl (.ref a :: [v1])).length ≤ y'.2.2.1) (hst : (st.map fun v => v.category).sum ≤ 8) (kk : Wp y' d 0 0 0 (lent (.ref a :: [v1]) y'.2.2.1) [] H (fun v H' => Wp y (d + 1) kc ks (pc + 3) lo (v.toList ++ st) H' Q)) : Wp y (d + 1) kc ks pc lo (v1 :: .ref a :: st) H Q :=
  wp_calli (av := [v1]) (mc := 0) (ms := 0) hd hlk hm hret hi hin hfit hst rfl kk
theorem wp_calli1n {mc ms : Nat} {idx a : Nat} {y' : MD} {v1 : Value} (hd : decode y.2.1 pc = .ok (.invokespecial idx, 3)) (hlk : Link y.1.cls idx y'.1) (hm : MOk y' 1) (hret : y'.2.2.2 = none) (hi : Cond.instanceMethod y'.1 ∈ gw) (hin : y'.1.name = "<init>") (hfit : (lg_sl (.ref a :: [v1])).length ≤ y'.2.2.1) (hst : (st.map fun v => v.category).sum ≤ 8) (kk : Wp y' d mc ms 0 (lent (.ref a :: [v1]) y'.2.2.1) [] H (fun v H' => Wp y (d + 1) kc ks (pc + 3) lo (v.toList ++ st) H' Q)) : Wp y (d + 1) (kc + mc) (ks + ms) pc lo (v1 :: .ref a :: st) H Q :=
  wp_calli (av := [v1]) (mc := mc) (ms := ms) hd hlk hm hret hi hin hfit hst rfl kk
theorem wp_calls1 {idx : Nat} {y' : MD} {v1 : Value} (hd : decode y.2.1 pc = .ok (.invokestatic idx, 3)) (hlk : Link y.1.cls idx y'.1) (hm : MOk y' 1) (hs : Cond.static y'.1 ∈ gw) (hfit : (lg_sl [v1]).length ≤ y'.2.2.1) (hst : (st.map fun v => v.category).sum ≤ 8) (kk : Wp y' d 0 0 0 (lent [v1] y'.2.2.1) [] H (fun v H' => Wp y (d + 1) kc ks (pc + 3) lo (v.toList ++ st) H' Q)) : Wp y (d + 1) kc ks pc lo (v1 :: st) H Q :=
  wp_calls (av := [v1]) (mc := 0) (ms := 0) hd hlk hm hs hfit hst rfl kk
theorem wp_calls1n {mc ms : Nat} {idx : Nat} {y' : MD} {v1 : Value} (hd : decode y.2.1 pc = .ok (.invokestatic idx, 3)) (hlk : Link y.1.cls idx y'.1) (hm : MOk y' 1) (hs : Cond.static y'.1 ∈ gw) (hfit : (lg_sl [v1]).length ≤ y'.2.2.1) (hst : (st.map fun v => v.category).sum ≤ 8) (kk : Wp y' d mc ms 0 (lent [v1] y'.2.2.1) [] H (fun v H' => Wp y (d + 1) kc ks (pc + 3) lo (v.toList ++ st) H' Q)) : Wp y (d + 1) (kc + mc) (ks + ms) pc lo (v1 :: st) H Q :=
  wp_calls (av := [v1]) (mc := mc) (ms := ms) hd hlk hm hs hfit hst rfl kk
theorem wp_callv2 {idx ci a n : Nat} {y' : MD} {q : vw_C} {v1 v2 : Value} (hd : decode y.2.1 pc = .ok (.invokevirtual idx, 3)) (hlk : Link y.1.cls idx y'.1) (hm : MOk y' 2) (hi : Cond.instanceMethod y'.1 ∈ gw) (hs : Cond.selects y'.1.cls y'.1 y'.1 ∈ gw) (hq : vwCl[ci]? = some q) (hqc : q.1 = y'.1.cls) (hk : hK H a = (ci + 1, n)) (hfit : (lg_sl (.ref a :: [v1, v2])).length ≤ y'.2.2.1) (hst : (st.map fun v => v.category).sum ≤ 8) (kk : Wp y' d 0 0 0 (lent (.ref a :: [v1, v2]) y'.2.2.1) [] H (fun v H' => Wp y (d + 1) kc ks (pc + 3) lo (v.toList ++ st) H' Q)) : Wp y (d + 1) kc ks pc lo (v2 :: v1 :: .ref a :: st) H Q :=
  wp_callv (av := [v1, v2]) (mc := 0) (ms := 0) hd hlk hm hi hs hq hqc hk hfit hst rfl kk
theorem wp_callv2n {mc ms : Nat} {idx ci a n : Nat} {y' : MD} {q : vw_C} {v1 v2 : Value} (hd : decode y.2.1 pc = .ok (.invokevirtual idx, 3)) (hlk : Link y.1.cls idx y'.1) (hm : MOk y' 2) (hi : Cond.instanceMethod y'.1 ∈ gw) (hs : Cond.selects y'.1.cls y'.1 y'.1 ∈ gw) (hq : vwCl[ci]? = some q) (hqc : q.1 = y'.1.cls) (hk : hK H a = (ci + 1, n)) (hfit : (lg_sl (.ref a :: [v1, v2])).length ≤ y'.2.2.1) (hst : (st.map fun v => v.category).sum ≤ 8) (kk : Wp y' d mc ms 0 (lent (.ref a :: [v1, v2]) y'.2.2.1) [] H (fun v H' => Wp y (d + 1) kc ks (pc + 3) lo (v.toList ++ st) H' Q)) : Wp y (d + 1) (kc + mc) (ks + ms) pc lo (v2 :: v1 :: .ref a :: st) H Q :=
  wp_callv (av := [v1, v2]) (mc := mc) (ms := ms) hd hlk hm hi hs hq hqc hk hfit hst rfl kk
theorem wp_calli2 {idx a : Nat} {y' : MD} {v1 v2 : Value} (hd : decode y.2.1 pc = .ok (.invokespecial idx, 3)) (hlk : Link y.1.cls idx y'.1) (hm : MOk y' 2) (hret : y'.2.2.2 = none) (hi : Cond.instanceMethod y'.1 ∈ gw) (hin : y'.1.name = "<init>") (hfit : (lg_sl (.ref a :: [v1, v2])).length ≤ y'.2.2.1) (hst : (st.map fun v => v.category).sum ≤ 8) (kk : Wp y' d 0 0 0 (lent (.ref a :: [v1, v2]) y'.2.2.1) [] H (fun v H' => Wp y (d + 1) kc ks (pc + 3) lo (v.toList ++ st) H' Q)) : Wp y (d + 1) kc ks pc lo (v2 :: v1 :: .ref a :: st) H Q :=
  wp_calli (av := [v1, v2]) (mc := 0) (ms := 0) hd hlk hm hret hi hin hfit hst rfl kk
theorem wp_calli2n {mc ms : Nat} {idx a : Nat} {y' : MD} {v1 v2 : Value} (hd : decode y.2.1 pc = .ok (.invokespecial idx, 3)) (hlk : Link y.1.cls idx y'.1) (hm : MOk y' 2) (hret : y'.2.2.2 = none) (hi : Cond.instanceMethod y'.1 ∈ gw) (hin : y'.1.name = "<init>") (hfit : (lg_sl (.ref a :: [v1, v2])).length ≤ y'.2.2.1) (hst : (st.map fun v => v.category).sum ≤ 8) (kk : Wp y' d mc ms 0 (lent (.ref a :: [v1, v2]) y'.2.2.1) [] H (fun v H' => Wp y (d + 1) kc ks (pc + 3) lo (v.toList ++ st) H' Q)) : Wp y (d + 1) (kc + mc) (ks + ms) pc lo (v2 :: v1 :: .ref a :: st) H Q :=
  wp_calli (av := [v1, v2]) (mc := mc) (ms := ms) hd hlk hm hret hi hin hfit hst rfl kk
theorem wp_calls2 {idx : Nat} {y' : MD} {v1 v2 : Value} (hd : decode y.2.1 pc = .ok (.invokestatic idx, 3)) (hlk : Link y.1.cls idx y'.1) (hm : MOk y' 2) (hs : Cond.static y'.1 ∈ gw) (hfit : (lg_sl [v1, v2]).length ≤ y'.2.2.1) (hst : (st.map fun v => v.category).sum ≤ 8) (kk : Wp y' d 0 0 0 (lent [v1, v2] y'.2.2.1) [] H (fun v H' => Wp y (d + 1) kc ks (pc + 3) lo (v.toList ++ st) H' Q)) : Wp y (d + 1) kc ks pc lo (v2 :: v1 :: st) H Q :=
  wp_calls (av := [v1, v2]) (mc := 0) (ms := 0) hd hlk hm hs hfit hst rfl kk
theorem wp_calls2n {mc ms : Nat} {idx : Nat} {y' : MD} {v1 v2 : Value} (hd : decode y.2.1 pc = .ok (.invokestatic idx, 3)) (hlk : Link y.1.cls idx y'.1) (hm : MOk y' 2) (hs : Cond.static y'.1 ∈ gw) (hfit : (lg_sl [v1, v2]).length ≤ y'.2.2.1) (hst : (st.map fun v => v.category).sum ≤ 8) (kk : Wp y' d mc ms 0 (lent [v1, v2] y'.2.2.1) [] H (fun v H' => Wp y (d + 1) kc ks (pc + 3) lo (v.toList ++ st) H' Q)) : Wp y (d + 1) (kc + mc) (ks + ms) pc lo (v2 :: v1 :: st) H Q :=
  wp_calls (av := [v1, v2]) (mc := mc) (ms := ms) hd hlk hm hs hfit hst rfl kk
theorem wp_callv3 {idx ci a n : Nat} {y' : MD} {q : vw_C} {v1 v2 v3 : Value} (hd : decode y.2.1 pc = .ok (.invokevirtual idx, 3)) (hlk : Link y.1.cls idx y'.1) (hm : MOk y' 3) (hi : Cond.instanceMethod y'.1 ∈ gw) (hs : Cond.selects y'.1.cls y'.1 y'.1 ∈ gw) (hq : vwCl[ci]? = some q) (hqc : q.1 = y'.1.cls) (hk : hK H a = (ci + 1, n)) (hfit : (lg_sl (.ref a :: [v1, v2, v3])).length ≤ y'.2.2.1) (hst : (st.map fun v => v.category).sum ≤ 8) (kk : Wp y' d 0 0 0 (lent (.ref a :: [v1, v2, v3]) y'.2.2.1) [] H (fun v H' => Wp y (d + 1) kc ks (pc + 3) lo (v.toList ++ st) H' Q)) : Wp y (d + 1) kc ks pc lo (v3 :: v2 :: v1 :: .ref a :: st) H Q :=
  wp_callv (av := [v1, v2, v3]) (mc := 0) (ms := 0) hd hlk hm hi hs hq hqc hk hfit hst rfl kk
theorem wp_callv3n {mc ms : Nat} {idx ci a n : Nat} {y' : MD} {q : vw_C} {v1 v2 v3 : Value} (hd : decode y.2.1 pc = .ok (.invokevirtual idx, 3)) (hlk : Link y.1.cls idx y'.1) (hm : MOk y' 3) (hi : Cond.instanceMethod y'.1 ∈ gw) (hs : Cond.selects y'.1.cls y'.1 y'.1 ∈ gw) (hq : vwCl[ci]? = some q) (hqc : q.1 = y'.1.cls) (hk : hK H a = (ci + 1, n)) (hfit : (lg_sl (.ref a :: [v1, v2, v3])).length ≤ y'.2.2.1) (hst : (st.map fun v => v.category).sum ≤ 8) (kk : Wp y' d mc ms 0 (lent (.ref a :: [v1, v2, v3]) y'.2.2.1) [] H (fun v H' => Wp y (d + 1) kc ks (pc + 3) lo (v.toList ++ st) H' Q)) : Wp y (d + 1) (kc + mc) (ks + ms) pc lo (v3 :: v2 :: v1 :: .ref a :: st) H Q :=
  wp_callv (av := [v1, v2, v3]) (mc := mc) (ms := ms) hd hlk hm hi hs hq hqc hk hfit hst rfl kk
theorem wp_calli3 {idx a : Nat} {y' : MD} {v1 v2 v3 : Value} (hd : decode y.2.1 pc = .ok (.invokespecial idx, 3)) (hlk : Link y.1.cls idx y'.1) (hm : MOk y' 3) (hret : y'.2.2.2 = none) (hi : Cond.instanceMethod y'.1 ∈ gw) (hin : y'.1.name = "<init>") (hfit : (lg_sl (.ref a :: [v1, v2, v3])).length ≤ y'.2.2.1) (hst : (st.map fun v => v.category).sum ≤ 8) (kk : Wp y' d 0 0 0 (lent (.ref a :: [v1, v2, v3]) y'.2.2.1) [] H (fun v H' => Wp y (d + 1) kc ks (pc + 3) lo (v.toList ++ st) H' Q)) : Wp y (d + 1) kc ks pc lo (v3 :: v2 :: v1 :: .ref a :: st) H Q :=
  wp_calli (av := [v1, v2, v3]) (mc := 0) (ms := 0) hd hlk hm hret hi hin hfit hst rfl kk
theorem wp_calli3n {mc ms : Nat} {idx a : Nat} {y' : MD} {v1 v2 v3 : Value} (hd : decode y.2.1 pc = .ok (.invokespecial idx, 3)) (hlk : Link y.1.cls idx y'.1) (hm : MOk y' 3) (hret : y'.2.2.2 = none) (hi : Cond.instanceMethod y'.1 ∈ gw) (hin : y'.1.name = "<init>") (hfit : (lg_sl (.ref a :: [v1, v2, v3])).length ≤ y'.2.2.1) (hst : (st.map fun v => v.category).sum ≤ 8) (kk : Wp y' d mc ms 0 (lent (.ref a :: [v1, v2, v3]) y'.2.2.1) [] H (fun v H' => Wp y (d + 1) kc ks (pc + 3) lo (v.toList ++ st) H' Q)) : Wp y (d + 1) (kc + mc) (ks + ms) pc lo (v3 :: v2 :: v1 :: .ref a :: st) H Q :=
  wp_calli (av := [v1, v2, v3]) (mc := mc) (ms := ms) hd hlk hm hret hi hin hfit hst rfl kk
theorem wp_calls3 {idx : Nat} {y' : MD} {v1 v2 v3 : Value} (hd : decode y.2.1 pc = .ok (.invokestatic idx, 3)) (hlk : Link y.1.cls idx y'.1) (hm : MOk y' 3) (hs : Cond.static y'.1 ∈ gw) (hfit : (lg_sl [v1, v2, v3]).length ≤ y'.2.2.1) (hst : (st.map fun v => v.category).sum ≤ 8) (kk : Wp y' d 0 0 0 (lent [v1, v2, v3] y'.2.2.1) [] H (fun v H' => Wp y (d + 1) kc ks (pc + 3) lo (v.toList ++ st) H' Q)) : Wp y (d + 1) kc ks pc lo (v3 :: v2 :: v1 :: st) H Q :=
  wp_calls (av := [v1, v2, v3]) (mc := 0) (ms := 0) hd hlk hm hs hfit hst rfl kk
theorem wp_calls3n {mc ms : Nat} {idx : Nat} {y' : MD} {v1 v2 v3 : Value} (hd : decode y.2.1 pc = .ok (.invokestatic idx, 3)) (hlk : Link y.1.cls idx y'.1) (hm : MOk y' 3) (hs : Cond.static y'.1 ∈ gw) (hfit : (lg_sl [v1, v2, v3]).length ≤ y'.2.2.1) (hst : (st.map fun v => v.category).sum ≤ 8) (kk : Wp y' d mc ms 0 (lent [v1, v2, v3] y'.2.2.1) [] H (fun v H' => Wp y (d + 1) kc ks (pc + 3) lo (v.toList ++ st) H' Q)) : Wp y (d + 1) (kc + mc) (ks + ms) pc lo (v3 :: v2 :: v1 :: st) H Q :=
  wp_calls (av := [v1, v2, v3]) (mc := mc) (ms := ms) hd hlk hm hs hfit hst rfl kk
theorem wp_callv4 {idx ci a n : Nat} {y' : MD} {q : vw_C} {v1 v2 v3 v4 : Value} (hd : decode y.2.1 pc = .ok (.invokevirtual idx, 3)) (hlk : Link y.1.cls idx y'.1) (hm : MOk y' 4) (hi : Cond.instanceMethod y'.1 ∈ gw) (hs : Cond.selects y'.1.cls y'.1 y'.1 ∈ gw) (hq : vwCl[ci]? = some q) (hqc : q.1 = y'.1.cls) (hk : hK H a = (ci + 1, n)) (hfit : (lg_sl (.ref a :: [v1, v2, v3, v4])).length ≤ y'.2.2.1) (hst : (st.map fun v => v.category).sum ≤ 8) (kk : Wp y' d 0 0 0 (lent (.ref a :: [v1, v2, v3, v4]) y'.2.2.1) [] H (fun v H' => Wp y (d + 1) kc ks (pc + 3) lo (v.toList ++ st) H' Q)) : Wp y (d + 1) kc ks pc lo (v4 :: v3 :: v2 :: v1 :: .ref a :: st) H Q :=
  wp_callv (av := [v1, v2, v3, v4]) (mc := 0) (ms := 0) hd hlk hm hi hs hq hqc hk hfit hst rfl kk
theorem wp_callv4n {mc ms : Nat} {idx ci a n : Nat} {y' : MD} {q : vw_C} {v1 v2 v3 v4 : Value} (hd : decode y.2.1 pc = .ok (.invokevirtual idx, 3)) (hlk : Link y.1.cls idx y'.1) (hm : MOk y' 4) (hi : Cond.instanceMethod y'.1 ∈ gw) (hs : Cond.selects y'.1.cls y'.1 y'.1 ∈ gw) (hq : vwCl[ci]? = some q) (hqc : q.1 = y'.1.cls) (hk : hK H a = (ci + 1, n)) (hfit : (lg_sl (.ref a :: [v1, v2, v3, v4])).length ≤ y'.2.2.1) (hst : (st.map fun v => v.category).sum ≤ 8) (kk : Wp y' d mc ms 0 (lent (.ref a :: [v1, v2, v3, v4]) y'.2.2.1) [] H (fun v H' => Wp y (d + 1) kc ks (pc + 3) lo (v.toList ++ st) H' Q)) : Wp y (d + 1) (kc + mc) (ks + ms) pc lo (v4 :: v3 :: v2 :: v1 :: .ref a :: st) H Q :=
  wp_callv (av := [v1, v2, v3, v4]) (mc := mc) (ms := ms) hd hlk hm hi hs hq hqc hk hfit hst rfl kk
theorem wp_calli4 {idx a : Nat} {y' : MD} {v1 v2 v3 v4 : Value} (hd : decode y.2.1 pc = .ok (.invokespecial idx, 3)) (hlk : Link y.1.cls idx y'.1) (hm : MOk y' 4) (hret : y'.2.2.2 = none) (hi : Cond.instanceMethod y'.1 ∈ gw) (hin : y'.1.name = "<init>") (hfit : (lg_sl (.ref a :: [v1, v2, v3, v4])).length ≤ y'.2.2.1) (hst : (st.map fun v => v.category).sum ≤ 8) (kk : Wp y' d 0 0 0 (lent (.ref a :: [v1, v2, v3, v4]) y'.2.2.1) [] H (fun v H' => Wp y (d + 1) kc ks (pc + 3) lo (v.toList ++ st) H' Q)) : Wp y (d + 1) kc ks pc lo (v4 :: v3 :: v2 :: v1 :: .ref a :: st) H Q :=
  wp_calli (av := [v1, v2, v3, v4]) (mc := 0) (ms := 0) hd hlk hm hret hi hin hfit hst rfl kk
theorem wp_calli4n {mc ms : Nat} {idx a : Nat} {y' : MD} {v1 v2 v3 v4 : Value} (hd : decode y.2.1 pc = .ok (.invokespecial idx, 3)) (hlk : Link y.1.cls idx y'.1) (hm : MOk y' 4) (hret : y'.2.2.2 = none) (hi : Cond.instanceMethod y'.1 ∈ gw) (hin : y'.1.name = "<init>") (hfit : (lg_sl (.ref a :: [v1, v2, v3, v4])).length ≤ y'.2.2.1) (hst : (st.map fun v => v.category).sum ≤ 8) (kk : Wp y' d mc ms 0 (lent (.ref a :: [v1, v2, v3, v4]) y'.2.2.1) [] H (fun v H' => Wp y (d + 1) kc ks (pc + 3) lo (v.toList ++ st) H' Q)) : Wp y (d + 1) (kc + mc) (ks + ms) pc lo (v4 :: v3 :: v2 :: v1 :: .ref a :: st) H Q :=
  wp_calli (av := [v1, v2, v3, v4]) (mc := mc) (ms := ms) hd hlk hm hret hi hin hfit hst rfl kk
theorem wp_calls4 {idx : Nat} {y' : MD} {v1 v2 v3 v4 : Value} (hd : decode y.2.1 pc = .ok (.invokestatic idx, 3)) (hlk : Link y.1.cls idx y'.1) (hm : MOk y' 4) (hs : Cond.static y'.1 ∈ gw) (hfit : (lg_sl [v1, v2, v3, v4]).length ≤ y'.2.2.1) (hst : (st.map fun v => v.category).sum ≤ 8) (kk : Wp y' d 0 0 0 (lent [v1, v2, v3, v4] y'.2.2.1) [] H (fun v H' => Wp y (d + 1) kc ks (pc + 3) lo (v.toList ++ st) H' Q)) : Wp y (d + 1) kc ks pc lo (v4 :: v3 :: v2 :: v1 :: st) H Q :=
  wp_calls (av := [v1, v2, v3, v4]) (mc := 0) (ms := 0) hd hlk hm hs hfit hst rfl kk
theorem wp_calls4n {mc ms : Nat} {idx : Nat} {y' : MD} {v1 v2 v3 v4 : Value} (hd : decode y.2.1 pc = .ok (.invokestatic idx, 3)) (hlk : Link y.1.cls idx y'.1) (hm : MOk y' 4) (hs : Cond.static y'.1 ∈ gw) (hfit : (lg_sl [v1, v2, v3, v4]).length ≤ y'.2.2.1) (hst : (st.map fun v => v.category).sum ≤ 8) (kk : Wp y' d mc ms 0 (lent [v1, v2, v3, v4] y'.2.2.1) [] H (fun v H' => Wp y (d + 1) kc ks (pc + 3) lo (v.toList ++ st) H' Q)) : Wp y (d + 1) (kc + mc) (ks + ms) pc lo (v4 :: v3 :: v2 :: v1 :: st) H Q :=
  wp_calls (av := [v1, v2, v3, v4]) (mc := mc) (ms := ms) hd hlk hm hs hfit hst rfl kk
theorem wp_callv5 {idx ci a n : Nat} {y' : MD} {q : vw_C} {v1 v2 v3 v4 v5 : Value} (hd : decode y.2.1 pc = .ok (.invokevirtual idx, 3)) (hlk : Link y.1.cls idx y'.1) (hm : MOk y' 5) (hi : Cond.instanceMethod y'.1 ∈ gw) (hs : Cond.selects y'.1.cls y'.1 y'.1 ∈ gw) (hq : vwCl[ci]? = some q) (hqc : q.1 = y'.1.cls) (hk : hK H a = (ci + 1, n)) (hfit : (lg_sl (.ref a :: [v1, v2, v3, v4, v5])).length ≤ y'.2.2.1) (hst : (st.map fun v => v.category).sum ≤ 8) (kk : Wp y' d 0 0 0 (lent (.ref a :: [v1, v2, v3, v4, v5]) y'.2.2.1) [] H (fun v H' => Wp y (d + 1) kc ks (pc + 3) lo (v.toList ++ st) H' Q)) : Wp y (d + 1) kc ks pc lo (v5 :: v4 :: v3 :: v2 :: v1 :: .ref a :: st) H Q :=
  wp_callv (av := [v1, v2, v3, v4, v5]) (mc := 0) (ms := 0) hd hlk hm hi hs hq hqc hk hfit hst rfl kk
theorem wp_callv5n {mc ms : Nat} {idx ci a n : Nat} {y' : MD} {q : vw_C} {v1 v2 v3 v4 v5 : Value} (hd : decode y.2.1 pc = .ok (.invokevirtual idx, 3)) (hlk : Link y.1.cls idx y'.1) (hm : MOk y' 5) (hi : Cond.instanceMethod y'.1 ∈ gw) (hs : Cond.selects y'.1.cls y'.1 y'.1 ∈ gw) (hq : vwCl[ci]? = some q) (hqc : q.1 = y'.1.cls) (hk : hK H a = (ci + 1, n)) (hfit : (lg_sl (.ref a :: [v1, v2, v3, v4, v5])).length ≤ y'.2.2.1) (hst : (st.map fun v => v.category).sum ≤ 8) (kk : Wp y' d mc ms 0 (lent (.ref a :: [v1, v2, v3, v4, v5]) y'.2.2.1) [] H (fun v H' => Wp y (d + 1) kc ks (pc + 3) lo (v.toList ++ st) H' Q)) : Wp y (d + 1) (kc + mc) (ks + ms) pc lo (v5 :: v4 :: v3 :: v2 :: v1 :: .ref a :: st) H Q :=
  wp_callv (av := [v1, v2, v3, v4, v5]) (mc := mc) (ms := ms) hd hlk hm hi hs hq hqc hk hfit hst rfl kk
theorem wp_calli5 {idx a : Nat} {y' : MD} {v1 v2 v3 v4 v5 : Value} (hd : decode y.2.1 pc = .ok (.invokespecial idx, 3)) (hlk : Link y.1.cls idx y'.1) (hm : MOk y' 5) (hret : y'.2.2.2 = none) (hi : Cond.instanceMethod y'.1 ∈ gw) (hin : y'.1.name = "<init>") (hfit : (lg_sl (.ref a :: [v1, v2, v3, v4, v5])).length ≤ y'.2.2.1) (hst : (st.map fun v => v.category).sum ≤ 8) (kk : Wp y' d 0 0 0 (lent (.ref a :: [v1, v2, v3, v4, v5]) y'.2.2.1) [] H (fun v H' => Wp y (d + 1) kc ks (pc + 3) lo (v.toList ++ st) H' Q)) : Wp y (d + 1) kc ks pc lo (v5 :: v4 :: v3 :: v2 :: v1 :: .ref a :: st) H Q :=
  wp_calli (av := [v1, v2, v3, v4, v5]) (mc := 0) (ms := 0) hd hlk hm hret hi hin hfit hst rfl kk
theorem wp_calli5n {mc ms : Nat} {idx a : Nat} {y' : MD} {v1 v2 v3 v4 v5 : Value} (hd : decode y.2.1 pc = .ok (.invokespecial idx, 3)) (hlk : Link y.1.cls idx y'.1) (hm : MOk y' 5) (hret : y'.2.2.2 = none) (hi : Cond.instanceMethod y'.1 ∈ gw) (hin : y'.1.name = "<init>") (hfit : (lg_sl (.ref a :: [v1, v2, v3, v4, v5])).length ≤ y'.2.2.1) (hst : (st.map fun v => v.category).sum ≤ 8) (kk : Wp y' d mc ms 0 (lent (.ref a :: [v1, v2, v3, v4, v5]) y'.2.2.1) [] H (fun v H' => Wp y (d + 1) kc ks (pc + 3) lo (v.toList ++ st) H' Q)) : Wp y (d + 1) (kc + mc) (ks + ms) pc lo (v5 :: v4 :: v3 :: v2 :: v1 :: .ref a :: st) H Q :=
  wp_calli (av := [v1, v2, v3, v4, v5]) (mc := mc) (ms := ms) hd hlk hm hret hi hin hfit hst rfl kk
theorem wp_callv6 {idx ci a n : Nat} {y' : MD} {q : vw_C} {v1 v2 v3 v4 v5 v6 : Value} (hd : decode y.2.1 pc = .ok (.invokevirtual idx, 3)) (hlk : Link y.1.cls idx y'.1) (hm : MOk y' 6) (hi : Cond.instanceMethod y'.1 ∈ gw) (hs : Cond.selects y'.1.cls y'.1 y'.1 ∈ gw) (hq : vwCl[ci]? = some q) (hqc : q.1 = y'.1.cls) (hk : hK H a = (ci + 1, n)) (hfit : (lg_sl (.ref a :: [v1, v2, v3, v4, v5, v6])).length ≤ y'.2.2.1) (hst : (st.map fun v => v.category).sum ≤ 8) (kk : Wp y' d 0 0 0 (lent (.ref a :: [v1, v2, v3, v4, v5, v6]) y'.2.2.1) [] H (fun v H' => Wp y (d + 1) kc ks (pc + 3) lo (v.toList ++ st) H' Q)) : Wp y (d + 1) kc ks pc lo (v6 :: v5 :: v4 :: v3 :: v2 :: v1 :: .ref a :: st) H Q :=
  wp_callv (av := [v1, v2, v3, v4, v5, v6]) (mc := 0) (ms := 0) hd hlk hm hi hs hq hqc hk hfit hst rfl kk
theorem wp_callv6n {mc ms : Nat} {idx ci a n : Nat} {y' : MD} {q : vw_C} {v1 v2 v3 v4 v5 v6 : Value} (hd : decode y.2.1 pc = .ok (.invokevirtual idx, 3)) (hlk : Link y.1.cls idx y'.1) (hm : MOk y' 6) (hi : Cond.instanceMethod y'.1 ∈ gw) (hs : Cond.selects y'.1.cls y'.1 y'.1 ∈ gw) (hq : vwCl[ci]? = some q) (hqc : q.1 = y'.1.cls) (hk : hK H a = (ci + 1, n)) (hfit : (lg_sl (.ref a :: [v1, v2, v3, v4, v5, v6])).length ≤ y'.2.2.1) (hst : (st.map fun v => v.category).sum ≤ 8) (kk : Wp y' d mc ms 0 (lent (.ref a :: [v1, v2, v3, v4, v5, v6]) y'.2.2.1) [] H (fun v H' => Wp y (d + 1) kc ks (pc + 3) lo (v.toList ++ st) H' Q)) : Wp y (d + 1) (kc + mc) (ks + ms) pc lo (v6 :: v5 :: v4 :: v3 :: v2 :: v1 :: .ref a :: st) H Q :=
  wp_callv (av := [v1, v2, v3, v4, v5, v6]) (mc := mc) (ms := ms) hd hlk hm hi hs hq hqc hk hfit hst rfl kk
theorem wp_calli6 {idx a : Nat} {y' : MD} {v1 v2 v3 v4 v5 v6 : Value} (hd : decode y.2.1 pc = .ok (.invokespecial idx, 3)) (hlk : Link y.1.cls idx y'.1) (hm : MOk y' 6) (hret : y'.2.2.2 = none) (hi : Cond.instanceMethod y'.1 ∈ gw) (hin : y'.1.name = "<init>") (hfit : (lg_sl (.ref a :: [v1, v2, v3, v4, v5, v6])).length ≤ y'.2.2.1) (hst : (st.map fun v => v.category).sum ≤ 8) (kk : Wp y' d 0 0 0 (lent (.ref a :: [v1, v2, v3, v4, v5, v6]) y'.2.2.1) [] H (fun v H' => Wp y (d + 1) kc ks (pc + 3) lo (v.toList ++ st) H' Q)) : Wp y (d + 1) kc ks pc lo (v6 :: v5 :: v4 :: v3 :: v2 :: v1 :: .ref a :: st) H Q :=
  wp_calli (av := [v1, v2, v3, v4, v5, v6]) (mc := 0) (ms := 0) hd hlk hm hret hi hin hfit hst rfl kk
theorem wp_calli6n {mc ms : Nat} {idx a : Nat} {y' : MD} {v1 v2 v3 v4 v5 v6 : Value} (hd : decode y.2.1 pc = .ok (.invokespecial idx, 3)) (hlk : Link y.1.cls idx y'.1) (hm : MOk y' 6) (hret : y'.2.2.2 = none) (hi : Cond.instanceMethod y'.1 ∈ gw) (hin : y'.1.name = "<init>") (hfit : (lg_sl (.ref a :: [v1, v2, v3, v4, v5, v6])).length ≤ y'.2.2.1) (hst : (st.map fun v => v.category).sum ≤ 8) (kk : Wp y' d mc ms 0 (lent (.ref a :: [v1, v2, v3, v4, v5, v6]) y'.2.2.1) [] H (fun v H' => Wp y (d + 1) kc ks (pc + 3) lo (v.toList ++ st) H' Q)) : Wp y (d + 1) (kc + mc) (ks + ms) pc lo (v6 :: v5 :: v4 :: v3 :: v2 :: v1 :: .ref a :: st) H Q :=
  wp_calli (av := [v1, v2, v3, v4, v5, v6]) (mc := mc) (ms := ms) hd hlk hm hret hi hin hfit hst rfl kk
theorem wp_callv7 {idx ci a n : Nat} {y' : MD} {q : vw_C} {v1 v2 v3 v4 v5 v6 v7 : Value} (hd : decode y.2.1 pc = .ok (.invokevirtual idx, 3)) (hlk : Link y.1.cls idx y'.1) (hm : MOk y' 7) (hi : Cond.instanceMethod y'.1 ∈ gw) (hs : Cond.selects y'.1.cls y'.1 y'.1 ∈ gw) (hq : vwCl[ci]? = some q) (hqc : q.1 = y'.1.cls) (hk : hK H a = (ci + 1, n)) (hfit : (lg_sl (.ref a :: [v1, v2, v3, v4, v5, v6, v7])).length ≤ y'.2.2.1) (hst : (st.map fun v => v.category).sum ≤ 8) (kk : Wp y' d 0 0 0 (lent (.ref a :: [v1, v2, v3, v4, v5, v6, v7]) y'.2.2.1) [] H (fun v H' => Wp y (d + 1) kc ks (pc + 3) lo (v.toList ++ st) H' Q)) : Wp y (d + 1) kc ks pc lo (v7 :: v6 :: v5 :: v4 :: v3 :: v2 :: v1 :: .ref a :: st) H Q :=
  wp_callv (av := [v1, v2, v3, v4, v5, v6, v7]) (mc := 0) (ms := 0) hd hlk hm hi hs hq hqc hk hfit hst rfl kk
theorem wp_callv7n {mc ms : Nat} {idx ci a n : Nat} {y' : MD} {q : vw_C} {v1 v2 v3 v4 v5 v6 v7 : Value} (hd : decode y.2.1 pc = .ok (.invokevirtual idx, 3)) (hlk : Link y.1.cls idx y'.1) (hm : MOk y' 7) (hi : Cond.instanceMethod y'.1 ∈ gw) (hs : Cond.selects y'.1.cls y'.1 y'.1 ∈ gw) (hq : vwCl[ci]? = some q) (hqc : q.1 = y'.1.cls) (hk : hK H a = (ci + 1, n)) (hfit : (lg_sl (.ref a :: [v1, v2, v3, v4, v5, v6, v7])).length ≤ y'.2.2.1) (hst : (st.map fun v => v.category).sum ≤ 8) (kk : Wp y' d mc ms 0 (lent (.ref a :: [v1, v2, v3, v4, v5, v6, v7]) y'.2.2.1) [] H (fun v H' => Wp y (d + 1) kc ks (pc + 3) lo (v.toList ++ st) H' Q)) : Wp y (d + 1) (kc + mc) (ks + ms) pc lo (v7 :: v6 :: v5 :: v4 :: v3 :: v2 :: v1 :: .ref a :: st) H Q :=
  wp_callv (av := [v1, v2, v3, v4, v5, v6, v7]) (mc := mc) (ms := ms) hd hlk hm hi hs hq hqc hk hfit hst rfl kk
theorem wp_calli7 {idx a : Nat} {y' : MD} {v1 v2 v3 v4 v5 v6 v7 : Value} (hd : decode y.2.1 pc = .ok (.invokespecial idx, 3)) (hlk : Link y.1.cls idx y'.1) (hm : MOk y' 7) (hret : y'.2.2.2 = none) (hi : Cond.instanceMethod y'.1 ∈ gw) (hin : y'.1.name = "<init>") (hfit : (lg_sl (.ref a :: [v1, v2, v3, v4, v5, v6, v7])).length ≤ y'.2.2.1) (hst : (st.map fun v => v.category).sum ≤ 8) (kk : Wp y' d 0 0 0 (lent (.ref a :: [v1, v2, v3, v4, v5, v6, v7]) y'.2.2.1) [] H (fun v H' => Wp y (d + 1) kc ks (pc + 3) lo (v.toList ++ st) H' Q)) : Wp y (d + 1) kc ks pc lo (v7 :: v6 :: v5 :: v4 :: v3 :: v2 :: v1 :: .ref a :: st) H Q :=
  wp_calli (av := [v1, v2, v3, v4, v5, v6, v7]) (mc := 0) (ms := 0) hd hlk hm hret hi hin hfit hst rfl kk
theorem wp_calli7n {mc ms : Nat} {idx a : Nat} {y' : MD} {v1 v2 v3 v4 v5 v6 v7 : Value} (hd : decode y.2.1 pc = .ok (.invokespecial idx, 3)) (hlk : Link y.1.cls idx y'.1) (hm : MOk y' 7) (hret : y'.2.2.2 = none) (hi : Cond.instanceMethod y'.1 ∈ gw) (hin : y'.1.name = "<init>") (hfit : (lg_sl (.ref a :: [v1, v2, v3, v4, v5, v6, v7])).length ≤ y'.2.2.1) (hst : (st.map fun v => v.category).sum ≤ 8) (kk : Wp y' d mc ms 0 (lent (.ref a :: [v1, v2, v3, v4, v5, v6, v7]) y'.2.2.1) [] H (fun v H' => Wp y (d + 1) kc ks (pc + 3) lo (v.toList ++ st) H' Q)) : Wp y (d + 1) (kc + mc) (ks + ms) pc lo (v7 :: v6 :: v5 :: v4 :: v3 :: v2 :: v1 :: .ref a :: st) H Q :=
  wp_calli (av := [v1, v2, v3, v4, v5, v6, v7]) (mc := mc) (ms := ms) hd hlk hm hret hi hin hfit hst rfl kk
/-- System.arraycopy of ints, from the beginning of a row to the beginning of another -/
theorem wp_copy {idx a0 a n0 n1 : Nat} {n : Int32} (hd : decode y.2.1 pc = .ok (.invokestatic idx, 3)) (hlk : Cond.methodLink y.1.cls idx arraycopyName ∈ gw) (hnat : Cond.native arraycopyName ∈ gw) (hsta : Cond.static arraycopyName ∈ gw) (hini : Cond.initialized "java/lang/System" ∈ gw) (hk0 : hK H a0 = (20, n0)) (hk1 : hK H a = (20, n1)) (hn : ¬ n < 0) (hn0 : n.toNatClampNeg ≤ n0) (hn1 : n.toNatClampNeg ≤ n1) (hst : (st.map fun v => v.category).sum ≤ 8)
    (kk : Wp y (d + 1) kc ks (pc + 3) lo st (sRow H a (fun j => if j < n.toNatClampNeg then hI H a0 j else hI H a j)) Q) : Wp y (d + 1) kc ks pc lo (.int n :: .int 0 :: .ref a :: .int 0 :: .ref a0 :: st) H Q := by
  intro b o L xs dC dI aC p l e R s m args below meth c Hm locs cells slots Qm ls hC hW hS hl h1 h2 h3 h4 hr
  obtain ⟨p0, p1⟩ := hW.pos hk1 (by omega) (by omega)
  obtain ⟨r0, r1⟩ := hW.pos hk0 (by omega) (by omega)
  have hg1 := hw_get (aC := aC) (b := b) (o := o) p0 p1
  rw [cellE_i hk1 (by simp [isIA])] at hg1
  have hg0 := hw_get (aC := aC) (b := b) (o := o) r0 r1
  rw [cellE_i hk0 (by simp [isIA])] at hg0
  have nn : ∀ z : Int32, ¬ z < 0 → z.toInt = (z.toNatClampNeg : Int) := by
    intro z hz
    have hz0 : (0 : Int) ≤ z.toInt := by
      have := Int32.not_lt.mp hz
      simpa using Int32.le_iff_toInt_le.mp this
    show z.toInt = ((z.toInt.toNat : Nat) : Int)
    omega
  intro T hT X
  have hc0 : Hm[shA b o a0]? = some (vp_cell (aC 20) (n0, .inl (hI H a0))) := hW.1 (a0 - 1) _ hg0
  have hc1 : Hm[shA b o a]? = some (vp_cell (aC 20) (n1, .inl (hI H a))) := hW.1 (a - 1) _ hg1
  obtain ⟨-, k0, hk0', cm0, hkk0⟩ := (hC.2.2.2.2.2.2.1.2 0 _ rfl).1 n0 (fun j => .int (hI H a0 j))
  obtain ⟨vm', X', step⟩ := X.arraycopy hC.1 hC.2.2.2.1 (hC.2.2.2.2.2.1 _ hlk) (hC.2.2.2.2.2.1 _ hnat) (hC.2.2.2.2.2.1 _ hsta) (hC.2.2.2.2.2.1 _ hini) (src := shA b o a0) (dst := shA b o a) (cs := vp_cell (aC 20) (n0, .inl (hI H a0))) (cd := vp_cell (aC 20) (n1, .inl (hI H a))) (srcPos := 0) (destPos := 0) (n := n) (by rw [hT]; exact hc0) (by rw [hT]; exact hc1)
    (fun _ h => by cases h) (fun _ h => by cases h) (fun h => by cases h) (fun h => by cases h) hk0' hk0' hkk0 hkk0 (by simp [show refKind .int = false from rfl]) (by decide) (by decide) hn
    (by rw [nn n hn]; show ¬ (0 : Int32).toInt + _ > ((arrV (aC 20) n0 (fun j => .int (hI H a0 j))).slots.size : Int); rw [arrV_size, show (0 : Int32).toInt = 0 from rfl]; omega)
    (by rw [nn n hn]; show ¬ (0 : Int32).toInt + _ > ((arrV (aC 20) n1 (fun j => .int (hI H a j))).slots.size : Int); rw [arrV_size, show (0 : Int32).toInt = 0 from rfl]; omega)
    (fun vm₁ _ i hi => by
      have e : (vp_cell (aC 20) (n0, .inl (hI H a0))).slots.getD ((0 : Int32).toNatClampNeg + i) .null = .int (hI H a0 i) := by
        show (arrV (aC 20) n0 (fun j => .int (hI H a0 j))).slots.getD _ _ = _
        rw [Array.getD_eq_getD_getElem?, show (0 : Int32).toNatClampNeg = 0 from rfl, Nat.zero_add, arrV_read _ _ (by omega)]
        rfl
      refine ⟨?_, ?_⟩
      · rw [e]; rfl
      · rw [e]; exact trivial)
    (g := F0 m pc ls (.int n :: .int 0 :: .ref (shA b o a) :: .int 0 :: .ref (shA b o a0) :: st.map (shV b o))) rfl (hl.1.trans hC.2.2.1.symm) (rest := st.map (shV b o)) rfl (by rw [hC.2.1]; exact hd) (by omega) (by
      have e9 : ((st.map (shV b o)).map fun v => v.category).sum ≤ 8 := by rw [List.map_map, show (fun v => v.category) ∘ shV b o = (fun v : Value => v.category) from funext (shV_cat b o)]; exact hst
      have e8 : nativeFrameWords "java/lang/System" "arraycopy" 5 ≤ 30 := by decide
      show 2 * 0 + _ + _ ≤ _
      omega)
  have e1 : copied (vp_cell (aC 20) (n0, .inl (hI H a0))) (vp_cell (aC 20) (n1, .inl (hI H a))) 0 0 n = vp_cell (aC 20) (n1, .inl (va_cpy (hI H a0) (hI H a) 0 0 n.toNatClampNeg)) := va_copied (fun z => .int z) (aC 20) (aC 20) (hI H a0) (hI H a) (by rw [show (0 : Int32).toNatClampNeg = 0 from rfl]; omega)
  rw [e1] at X' step
  have hlt : shA b o a < Hm.size := (Array.getElem?_eq_some_iff.mp hc1).1
  have hcpy : va_cpy (hI H a0) (hI H a) 0 0 n.toNatClampNeg = fun j => if j < n.toNatClampNeg then hI H a0 j else hI H a j := by
    funext j; simp [va_cpy]
  rw [hcpy] at X' step
  generalize hf : (fun j => if j < n.toNatClampNeg then hI H a0 j else hI H a j) = f at X' step kk
  have hheap : ((T.setVm vm').setCell (shA b o a) (vp_cell (aC 20) (n1, .inl f))).heap = Hm.setIfInBounds (shA b o a) (vp_cell (aC 20) (n1, .inl f)) := by rw [← hT]; rfl
  have oq : ∀ q : Nat, q ≠ shA b o a → (Hm.setIfInBounds (shA b o a) (vp_cell (aC 20) (n1, .inl f)))[q]? = Hm[q]? := fun q hq => by simp [Array.getElem?_setIfInBounds, Ne.symm hq]
  have hP1 := hW.1.set (hw_D aC b o H) hg1 (e := .inl (aC 20, n1, .inl f)) (H1 := Hm.setIfInBounds (shA b o a) (vp_cell (aC 20) (n1, .inl f))) (show (Hm.setIfInBounds (shA b o a) _)[shA b o a]? = some _ by simp [Array.getElem?_setIfInBounds, hlt]) oq
  have hW1 : Wd b o L xs dC dI aC (sRow H a f) (Hm.setIfInBounds (shA b o a) (vp_cell (aC 20) (n1, .inl f))) := hW.put p0 rfl rfl (by rw [hI_sRow, u1_ne (Ne.symm p0)]) (by rw [cellE_i (H := sRow H a f) (k := 20) (n := n1) hk1 (by simp [isIA]), hI_sRow, u1_eq]) (fun a' ha => cellE_eq rfl (by rw [hI_sRow, u1_ne ha]) rfl rfl) hP1 (by simp)
  obtain ⟨t, a1, b1⟩ := kk b o L xs dC dI aC p l e R s m args below meth c _ _ cells slots Qm ls hC hW1 ⟨by simp; exact hS.1, fun q g1 g2 => by
      rw [oq q (fun e => g2 (by rw [e, shA_pos p0]; show o + 1 ≤ o + a; omega))]
      exact hS.2.1 q g1 g2, fun q hq => by
      rcases List.mem_append.mp hq with h | h
      · exact hS.2.2 q h
      · obtain ⟨z, -, hz⟩ := List.mem_map.mp h
        rw [← hz]
        show o + 1 ≤ shA b o a
        rw [shA_pos p0]; omega⟩ hl h1 h2 h3 h4 hr _ hheap X'
  exact ⟨t, step t a1, b1⟩
end CallRules
end
section
/-! THE CLAIM OUT OF ONE WALK OF THE LAW'S BODY. Your part is whole_start (and what it stands on); all else here is the same for every law, but numbers. -/
def R_law : String := "CarriageHireLaw"
def lw_P (b : Addr) (xs : List Int32) (args : Array Value) (s : State) : Prop := args = #[.ref b] ∧ s.IntsAt b xs ∧ xs.length ≤ 3584 ∧ (Jvm.Cond.and given_1 narrow_1).before args s = true
def lw_Q (_ : Array Value) (s : State) (o : Outcome) (t : State) : Prop := o = .returned (some (.int 1)) ∧ Framed s o t [] 600000 7302250
def lw_Z (below : List Frame) (a : Array Value) (s : State) : State → Prop := fun t => ∃ o, t.status = .running ∧ Ended t below o ∧ lw_Q a s o t
/-- the law's own end, with 1 on the stack, nothing written that was there before, its room as the claim has it -/
theorem lw_ret {p : Program} {l : Launch} {e : Env} {s : State} {m : MethodId} {below : List Frame} {meth : Method} {c : Code} {b : Nat} (hx : p.tables.exec = Jvm.exec) (hb : c.code = code) (hr : meth.sig.returnType = ret) (hlocks : meth.locks = false) {pc : Nat} {H : Heap} {ls : Array Slot} (hdg : decode code pc = .ok (.ireturn, 1)) : W p l e room_1 s m #[Value.ref b] below meth c H [] 600000 7302250 (lw_Z below #[Value.ref b] s) (F0 m pc ls [.int 1]) := by
  intro T hT X
  obtain ⟨fs, hret, hrun, hended, hW, hframe⟩ := X.leave (v := some (.int 1)) (hlocks := hlocks) (fun h => by rw [hr] at h; cases h)
  have hmeth' : T.vm.method? m = some meth := X.method'
  refine ⟨T.setFrames fs, ?_, .returned (some (.int 1)), hrun, hended, rfl, ⟨_, rfl⟩, hW, hframe⟩
  jvm_step X.here [X.here.top, hx, hb, hdg, hmeth', hr, ret, narrow_b1]
  (try refine ⟨rfl, ?_⟩); (try refine ⟨rfl, ?_⟩)
  first | (intro acts; rw [hret _ acts rfl rfl rfl]) | rw [hret _ _ rfl rfl rfl]
  exact Steps.refl _
/-- what holds at the law's entry: the machine, the code, the tables' words (any of lw_tbl by 'hts w (by decide +kernel)'), the script of L ints xs at the cell b, what the Statement gives of the start (any of its parts by flat_of_before) -/
def lw_At (p : Program) (s : State) (m : MethodId) (meth : Method) (c : Code) (b L : Nat) (xs : Nat → Int32) : Prop :=
  p.tables.exec = Jvm.exec ∧ c.code = code ∧ meth.sig.returnType = ret ∧ c.maxLocals = 4 ∧ s.vm.findClass R_law = some m.cls ∧ (∀ w ∈ lw_tbl, w.before #[Value.ref b] s = true) ∧ va_X b L xs s s.heap ∧ b < s.heap.size ∧ meth.locks = false ∧ (Jvm.Cond.and given_1 narrow_1).before #[Value.ref b] s = true
/-! ===== the law's walk out of the pure one ===== -/
/-- the heap at the law's entry: the script alone -/
def H0 (L : Nat) (xs : Nat → Int32) : PH := (0, fun a => if a = 0 then (99, L) else (0, 0), fun _ => xs, fun _ _ => 0, fun _ _ => none)
def mL : MD := (yL_law, cL_law, 4, some .boolean)
set_option maxRecDepth 100000 in
theorem ov_H : Cond.arrayOver (.object "CarriageHire$Horse") ∈ lw_tbl := by
  have h : lw_tbl.contains (Cond.arrayOver (.object "CarriageHire$Horse")) = true := by decide +kernel
  simpa using h
set_option maxRecDepth 100000 in
theorem ov_J : Cond.arrayOver (.object "CarriageHire$Job") ∈ lw_tbl := by
  have h : lw_tbl.contains (Cond.arrayOver (.object "CarriageHire$Job")) = true := by decide +kernel
  simpa using h
set_option maxRecDepth 100000 in
theorem ac_I : Cond.arrayClass .int ∈ gw := in_gw (by decide +kernel)
set_option maxRecDepth 100000 in
theorem ac_B : Cond.arrayClass .byte ∈ gw := in_gw (by decide +kernel)
set_option maxRecDepth 100000 in
theorem ac_Z : Cond.arrayClass .boolean ∈ gw := in_gw (by decide +kernel)
set_option maxRecDepth 100000 in
theorem ac_J : Cond.arrayClass .long ∈ gw := in_gw (by decide +kernel)
theorem arr_known {args : Array Value} {s : State} {t : FieldType} (h : (Cond.arrayClass t).before args s = true) (ho : ∀ C, t ≠ .object C) : ∃ cA, ArrOfT s cA t ∧ va_RA s cA t := by
  obtain ⟨c, k, comp, h1, h2, h3⟩ := Cond.arrayClass_spec h
  refine ⟨c, fun n z => ⟨(fun k h => by cases h), k, h2, comp, h3⟩, ?_⟩
  cases t <;> first | exact h1 | exact absurd rfl (ho _)
theorem arr_knownO {args : Array Value} {s : State} {C : String} (h : (Cond.arrayOver (.object C)).before args s = true) : ∃ cA, ArrOfT s cA (.object C) ∧ va_RA s cA (.object C) := by
  obtain ⟨comp, c, k, h1, -, h3, h4, h5⟩ := Cond.arrayOver_spec h
  exact ⟨c, fun n z => ⟨(fun k h => by cases h), k, h3, comp, h4⟩, k, comp, h3, h4, h1, h5⟩
theorem start_of {p : Program} {e : Env} {s : State} {m : MethodId} {below : List Frame} {meth : Method} {c : Code} (l : Launch) {b L : Nat} {xs : Nat → Int32} (hlaw : Wp mL 1300 600000 7302250 0 [some (.ref 0), none, none, none] [] (H0 L xs) (fun v _ => v = some (.int 1))) (C0 : lw_At p s m meth c b L xs) : W p l e room_1 s m #[Value.ref b] below meth c s.heap [] 0 0 (lw_Z below #[Value.ref b] s) (entryFrame m ([Value.ref b] : List Value).toArray 4) := by
  obtain ⟨hx, hb, hr, hml, hown, hts, hX, hbl, hlocks, hgv⟩ := id C0
  have hgw : ∀ w ∈ gw, w.before #[Value.ref b] s = true := fun w hw => hts w (List.mem_filter.mp hw).1
  have hk1 : ∀ k : Nat, ∃ (cC : ClassId) (iS : Nat → Nat), ∀ q : vw_C, vwCl[k]? = some q → u_Kn s q.1 q.2.1 q.2.2 cC iS := by
    intro k
    rcases hq : vwCl[k]? with _ | q
    · exact ⟨0, fun _ => 0, fun q h => by cases h⟩
    · obtain ⟨k1, k2, k3, k4, k5, k6⟩ := clOk k q hq
      obtain ⟨cC, iS, h⟩ := u_known (C := q.1) (T := q.2.1) (N := q.2.2) (n := q.2.2) hgw k1 (hgw _ k4)
      exact ⟨cC, iS, fun q' h' => by cases h'; exact h⟩
  obtain ⟨dC, hk2⟩ := Classical.skolem.mp hk1
  obtain ⟨dI, hk3⟩ := Classical.skolem.mp hk2
  obtain ⟨c20, a20⟩ := arr_known (hgw _ ac_I) (fun C h => by cases h)
  obtain ⟨c21, a21⟩ := arr_known (hgw _ ac_B) (fun C h => by cases h)
  obtain ⟨c22, a22⟩ := arr_known (hgw _ ac_Z) (fun C h => by cases h)
  obtain ⟨c23, a23⟩ := arr_known (hgw _ ac_J) (fun C h => by cases h)
  obtain ⟨c24, a24⟩ := arr_knownO (hts _ ov_H)
  obtain ⟨c25, a25⟩ := arr_knownO (hts _ ov_J)
  obtain ⟨aC, e20, e21, e22, e23, e24, e25⟩ : ∃ aC : Nat → ClassId, aC 20 = c20 ∧ aC 21 = c21 ∧ aC 22 = c22 ∧ aC 23 = c23 ∧ aC 24 = c24 ∧ aC 25 = c25 := ⟨fun k => if k = 20 then c20 else if k = 21 then c21 else if k = 22 then c22 else if k = 23 then c23 else if k = 24 then c24 else c25, rfl, rfl, rfl, rfl, rfl, rfl⟩
  obtain ⟨o, ho⟩ : ∃ o, s.heap.size = o + 1 := ⟨s.heap.size - 1, by omega⟩
  have hK : va_K (dC, dI) vwCl (tys aC) s := by
    refine ⟨hk3, fun k q h => ?_⟩
    match k, h with
    | 0, h => cases h; rw [e20]; exact a20
    | 1, h => cases h; rw [e21]; exact a21
    | 2, h => cases h; rw [e22]; exact a22
    | 3, h => cases h; rw [e23]; exact a23
    | 4, h => cases h; rw [e24]; exact a24
    | 5, h => cases h; rw [e25]; exact a25
    | k + 6, h => simp [tys] at h
  have hE : Env0 b o L xs dC dI aC s := ⟨hK, fun w hw => by
    have hn := (List.mem_filter.mp hw)
    have hb9 := hts w hn.1
    cases w <;> simp [isNest] at hn <;> exact va_Nw.of rfl hb9, hX, by omega, by omega, va_AO.of (hts _ ov_H), va_AO.of (hts _ ov_J)⟩
  have hW : Wd b o L xs dC dI aC (H0 L xs) s.heap := ⟨fun k q h => by simp [hw, H0, hN] at h, by rw [ho]; rfl, rfl, fun a ha => by
    have : a ≠ 0 := by have : 0 < a := ha; omega
    show (if a = 0 then ((99, L) : Nat × Nat) else (0, 0)) = (0, 0)
    rw [if_neg this], fun j _ => rfl⟩
  rw [lg_entry_eq]
  refine hlaw b o L xs dC dI aC p l e room_1 s m _ below meth c s.heap [] 0 0 _ _ ⟨hx, hb, hml, hown, fun h => absurd h (by decide), hgw, hE⟩ hW va_S.rf ?_ (by decide) (by decide) (by decide) (by decide) ?_
  · exact entry_ok (b := b) (o := o) (n := 4) [.ref 0] (by decide)
  · intro v H' Hm' locs' pc' ls' i hq hW' hS' hri hdec
    subst hq
    have hi : i = .ireturn := by
      rcases hri with ⟨g1, g2, g3⟩ | ⟨x, g1, g2, g3⟩ | ⟨x, g1, g0, g2, g3⟩ | ⟨x, g1, g2, g3⟩ | ⟨r, t, g1, g2, g4, g3⟩
      · cases g2
      · exact g3
      · exact g3
      · cases g2
      · cases r <;> cases g4
    subst hi
    refine va_forget (fun q hq => ?_) (W.widen (k := 600000) (n := 7302250) (by decide) (by decide) (lw_ret hx hb hr hlocks hdec))
    rw [ho]; exact hS'.2.2 q hq
end
section
theorem in_gwi {w : Cond} (i : Nat) (h : lw_tbl[i]? = some w) (g : goodWord w = true) : w ∈ gw := List.mem_filter.mpr ⟨List.mem_of_getElem? h, g⟩
theorem in_nwi {w : Cond} (i : Nat) (h : lw_tbl[i]? = some w) (g : isNest w = true) : w ∈ nw := List.mem_filter.mpr ⟨List.mem_of_getElem? h, g⟩
/-! methods, links, fields: by program -/
def mX0_init : MD := (yX0_init, cX0_init, 1, none)
def mX0_enter : MD := (yX0_enter, cX0_enter, 6, (some .int))
def mX0_isCarriage : MD := (yX0_isCarriage, cX0_isCarriage, 1, (some .boolean))
def mX0_takeBack : MD := (yX0_takeBack, cX0_takeBack, 3, (some .boolean))
def mX0_wholeAt : MD := (yX0_wholeAt, cX0_wholeAt, 5, (some .int))
def mX0_holds : MD := (yX0_holds, cX0_holds, 4, (some .boolean))
def mX0_firstFree : MD := (yX0_firstFree, cX0_firstFree, 9, (some .int))
def mX1_init : MD := (yX1_init, cX1_init, 1, none)
def mX1_setWay : MD := (yX1_setWay, cX1_setWay, 4, (some .boolean))
def mX1_isPlace : MD := (yX1_isPlace, cX1_isPlace, 1, (some .boolean))
def mX1_minutesBetween : MD := (yX1_minutesBetween, cX1_minutesBetween, 4, (some .int))
def mX1_setCarriages : MD := (yX1_setCarriages, cX1_setCarriages, 2, (some .boolean))
def mX1_book : MD := (yX1_book, cX1_book, 9, (some .int))
def mX1_putInOrder : MD := (yX1_putInOrder, cX1_putInOrder, 4, none)
def mX1_cancel : MD := (yX1_cancel, cX1_cancel, 3, (some .boolean))
def mX1_find : MD := (yX1_find, cX1_find, 2, (some (.object "CarriageHire$Job")))
def mX1_findKept : MD := (yX1_findKept, cX1_findKept, 3, (some (.object "CarriageHire$Job")))
def mX1_numberInOrder : MD := (yX1_numberInOrder, cX1_numberInOrder, 2, (some .int))
def mX1_keptBits : MD := (yX1_keptBits, cX1_keptBits, 3, (some .int))
def mX1_endOf : MD := (yX1_endOf, cX1_endOf, 2, (some .int))
def mX1_mayFollow : MD := (yX1_mayFollow, cX1_mayFollow, 3, (some .boolean))
def mX1_costOf : MD := (yX1_costOf, cX1_costOf, 3, (some .int))
def mX2_init : MD := (yX2_init, cX2_init, 5, none)
def mX3_init : MD := (yX3_init, cX3_init, 8, none)
def mX4_init : MD := (yX4_init, cX4_init, 2, none)
def mX4_chainNumber : MD := (yX4_chainNumber, cX4_chainNumber, 2, (some .int))
def mX4_refresh : MD := (yX4_refresh, cX4_refresh, 4, none)
def mX4_weighChains : MD := (yX4_weighChains, cX4_weighChains, 3, none)
def mX4_chainKey : MD := (yX4_chainKey, cX4_chainKey, 8, (some .long))
def mX4_leastJobs : MD := (yX4_leastJobs, cX4_leastJobs, 5, (some .long))
def mX4_shiftOf : MD := (yX4_shiftOf, cX4_shiftOf, 1, (some .int))
def mX4_leastLay : MD := (yX4_leastLay, cX4_leastLay, 6, (some .long))
def mX4_leastSplit : MD := (yX4_leastSplit, cX4_leastSplit, 7, (some .long))
def mX4_numberChains : MD := (yX4_numberChains, cX4_numberChains, 6, none)
def mX5_init : MD := (yX5_init, cX5_init, 4, none)
def mX5_countLines : MD := (yX5_countLines, cX5_countLines, 1, (some .int))
def mX6_init : MD := (yX6_init, cX6_init, 2, none)
def mX6_readAll : MD := (yX6_readAll, cX6_readAll, 2, (some (.object "CarriageHire$PriceList")))
def mX6_readLine : MD := (yX6_readLine, cX6_readLine, 1, none)
def mX6_readEither : MD := (yX6_readEither, cX6_readEither, 3, none)
def mX6_readBoth : MD := (yX6_readBoth, cX6_readBoth, 3, none)
def mX6_readOne : MD := (yX6_readOne, cX6_readOne, 3, none)
def mX6_readSum : MD := (yX6_readSum, cX6_readSum, 4, none)
def mX6_readTerm : MD := (yX6_readTerm, cX6_readTerm, 4, none)
def mX6_readUnit : MD := (yX6_readUnit, cX6_readUnit, 2, none)
def mX6_readOperand : MD := (yX6_readOperand, cX6_readOperand, 1, none)
def mX6_isTooDeep : MD := (yX6_isTooDeep, cX6_isTooDeep, 2, (some .boolean))
def mX6_expect : MD := (yX6_expect, cX6_expect, 2, none)
def mX6_fail : MD := (yX6_fail, cX6_fail, 2, none)
def mX6_emit : MD := (yX6_emit, cX6_emit, 2, none)
def mX6_advance : MD := (yX6_advance, cX6_advance, 2, none)
def mX6_takeWord : MD := (yX6_takeWord, cX6_takeWord, 3, none)
def mX6_takeNumber : MD := (yX6_takeNumber, cX6_takeNumber, 2, none)
def mX6_wordToken : MD := (yX6_wordToken, cX6_wordToken, 2, (some .int))
def mX6_nameCode : MD := (yX6_nameCode, cX6_nameCode, 2, (some .int))
def mX6_isBlank : MD := (yX6_isBlank, cX6_isBlank, 1, (some .boolean))
def mX6_isLetter : MD := (yX6_isLetter, cX6_isLetter, 1, (some .boolean))
def mX6_isDigit : MD := (yX6_isDigit, cX6_isDigit, 1, (some .boolean))
def mX6_isSign : MD := (yX6_isSign, cX6_isSign, 1, (some .boolean))
def mX7_init : MD := (yX7_init, cX7_init, 1, none)
def mX7_quote : MD := (yX7_quote, cX7_quote, 9, (some .int))
def mX7_valueOf : MD := (yX7_valueOf, cX7_valueOf, 5, (some .int))
def mX7_step : MD := (yX7_step, cX7_step, 4, none)
def mX7_valueOfName : MD := (yX7_valueOfName, cX7_valueOfName, 3, (some .int))
def mX7_joined : MD := (yX7_joined, cX7_joined, 3, (some .int))
def mX7_push : MD := (yX7_push, cX7_push, 2, none)
def mX7_pop : MD := (yX7_pop, cX7_pop, 1, (some .int))
def mX8_init : MD := (yX8_init, cX8_init, 1, none)
def mX8_add : MD := (yX8_add, cX8_add, 6, (some .int))
def mX8_has : MD := (yX8_has, cX8_has, 2, (some .boolean))
def mX8_hasAll : MD := (yX8_hasAll, cX8_hasAll, 2, (some .boolean))
def mX8_setLame : MD := (yX8_setLame, cX8_setLame, 3, (some .boolean))
def mX8_setSpans : MD := (yX8_setSpans, cX8_setSpans, 3, (some .boolean))
def mX8_firstStrength : MD := (yX8_firstStrength, cX8_firstStrength, 2, (some .int))
def mX8_difference : MD := (yX8_difference, cX8_difference, 3, (some .int))
def mX8_anyLame : MD := (yX8_anyLame, cX8_anyLame, 3, (some .boolean))
def mX8_allAlike : MD := (yX8_allAlike, cX8_allAlike, 4, (some .boolean))
def mX8_alike : MD := (yX8_alike, cX8_alike, 3, (some .boolean))
def mX8_countSets : MD := (yX8_countSets, cX8_countSets, 4, (some .int))
def mX8_pairUp : MD := (yX8_pairUp, cX8_pairUp, 3, none)
def mX8_countFours : MD := (yX8_countFours, cX8_countFours, 6, (some .int))
def mX9_init : MD := (yX9_init, cX9_init, 1, none)
def mX9_appendAll : MD := (yX9_appendAll, cX9_appendAll, 6, (some .int))
def mX9_append : MD := (yX9_append, cX9_append, 3, none)
def mX9_cutTo : MD := (yX9_cutTo, cX9_cutTo, 2, (some .int))
def mX9_byteAt : MD := (yX9_byteAt, cX9_byteAt, 2, (some .int))
def mX10_init : MD := (yX10_init, cX10_init, 3, none)
def mX10_setLeast : MD := (yX10_setLeast, cX10_setLeast, 2, (some .boolean))
def mX10_harness : MD := (yX10_harness, cX10_harness, 5, (some .boolean))
def mX10_isHarnessed : MD := (yX10_isHarnessed, cX10_isHarnessed, 4, (some .boolean))
def mX10_standingOf : MD := (yX10_standingOf, cX10_standingOf, 3, (some .int))
def mX10_flawOf : MD := (yX10_flawOf, cX10_flawOf, 4, (some .int))
def mX10_isElsewhere : MD := (yX10_isElsewhere, cX10_isElsewhere, 6, (some .boolean))
def mX10_allFresh : MD := (yX10_allFresh, cX10_allFresh, 6, (some .boolean))
def mX10_strengthAt : MD := (yX10_strengthAt, cX10_strengthAt, 9, (some .int))
def mX10_bestStandIn : MD := (yX10_bestStandIn, cX10_bestStandIn, 8, (some .int))
def mX11_init : MD := (yX11_init, cX11_init, 1, none)
def mX11_horse : MD := (yX11_horse, cX11_horse, 5, (some .int))
def mX11_lame : MD := (yX11_lame, cX11_lame, 3, (some .boolean))
def mX11_spans : MD := (yX11_spans, cX11_spans, 3, (some .boolean))
def mX11_way : MD := (yX11_way, cX11_way, 4, (some .boolean))
def mX11_carriages : MD := (yX11_carriages, cX11_carriages, 2, (some .boolean))
def mX11_need : MD := (yX11_need, cX11_need, 2, (some .boolean))
def mX11_match : MD := (yX11_match, cX11_match, 2, (some .boolean))
def mX11_matches : MD := (yX11_matches, cX11_matches, 2, (some .int))
def mX11_job : MD := (yX11_job, cX11_job, 7, (some .int))
def mX11_drop : MD := (yX11_drop, cX11_drop, 2, (some .boolean))
def mX11_of : MD := (yX11_of, cX11_of, 4, (some .int))
def mX11_behind : MD := (yX11_behind, cX11_behind, 5, (some .boolean))
def mX11_empty : MD := (yX11_empty, cX11_empty, 1, (some .int))
def mX11_chains : MD := (yX11_chains, cX11_chains, 1, (some .int))
def mX11_chain : MD := (yX11_chain, cX11_chain, 2, (some .int))
def mX11_team : MD := (yX11_team, cX11_team, 3, (some .boolean))
def mX11_right : MD := (yX11_right, cX11_right, 2, (some .int))
def mX11_strength : MD := (yX11_strength, cX11_strength, 3, (some .int))
def mX11_standIn : MD := (yX11_standIn, cX11_standIn, 3, (some .int))
def mX11_feed : MD := (yX11_feed, cX11_feed, 6, (some .int))
def mX11_end : MD := (yX11_end, cX11_end, 2, (some .int))
def mX11_prices : MD := (yX11_prices, cX11_prices, 2, (some .int))
def mX11_fault : MD := (yX11_fault, cX11_fault, 2, (some .int))
def mX11_price : MD := (yX11_price, cX11_price, 4, (some .int))
def mX11_broken : MD := (yX11_broken, cX11_broken, 5, (some .int))
def mX11_untell : MD := (yX11_untell, cX11_untell, 3, (some .boolean))
def mX11_whole : MD := (yX11_whole, cX11_whole, 4, (some .int))
def mX11_free : MD := (yX11_free, cX11_free, 5, (some .int))
def mX11_about : MD := (yX11_about, cX11_about, 2, (some .int))
def mX11_within : MD := (yX11_within, cX11_within, 3, (some .boolean))
def mX11_hasBit : MD := (yX11_hasBit, cX11_hasBit, 2, (some .boolean))
def mX12_init : MD := (yX12_init, cX12_init, 1, none)
def mX12_isHorse : MD := (yX12_isHorse, cX12_isHorse, 2, (some .boolean))
def mX12_horse : MD := (yX12_horse, cX12_horse, 5, (some .int))
def mX12_lame : MD := (yX12_lame, cX12_lame, 3, (some .boolean))
def mX12_spans : MD := (yX12_spans, cX12_spans, 3, (some .boolean))
def mX12_isPlace : MD := (yX12_isPlace, cX12_isPlace, 1, (some .boolean))
def mX12_way : MD := (yX12_way, cX12_way, 4, (some .boolean))
def mX12_wayOf : MD := (yX12_wayOf, cX12_wayOf, 3, (some .int))
def mX12_carriages : MD := (yX12_carriages, cX12_carriages, 2, (some .boolean))
def mX12_need : MD := (yX12_need, cX12_need, 2, (some .boolean))
def mX12_many : MD := (yX12_many, cX12_many, 3, (some .int))
def mX12_far : MD := (yX12_far, cX12_far, 2, (some .int))
def mX12_doMatch : MD := (yX12_doMatch, cX12_doMatch, 5, (some .boolean))
def mX12_isSet : MD := (yX12_isSet, cX12_isSet, 2, (some .boolean))
def mX12_match : MD := (yX12_match, cX12_match, 2, (some .boolean))
def mX12_matches : MD := (yX12_matches, cX12_matches, 4, (some .int))
def mX12_job : MD := (yX12_job, cX12_job, 8, (some .int))
def mX12_copy : MD := (yX12_copy, cX12_copy, 4, none)
def mX12_isJob : MD := (yX12_isJob, cX12_isJob, 2, (some .boolean))
def mX12_isOn : MD := (yX12_isOn, cX12_isOn, 2, (some .boolean))
def mX12_drop : MD := (yX12_drop, cX12_drop, 2, (some .boolean))
def mX12_drive : MD := (yX12_drive, cX12_drive, 2, (some .int))
def mX12_endOf : MD := (yX12_endOf, cX12_endOf, 2, (some .int))
def mX12_of : MD := (yX12_of, cX12_of, 3, (some .int))
def mX12_isBehind : MD := (yX12_isBehind, cX12_isBehind, 3, (some .boolean))
def mX12_behind : MD := (yX12_behind, cX12_behind, 3, (some .boolean))
def mX12_isAhead : MD := (yX12_isAhead, cX12_isAhead, 3, (some .boolean))
def mX12_lay : MD := (yX12_lay, cX12_lay, 3, none)
def mX12_look : MD := (yX12_look, cX12_look, 6, none)
def mX12_empty : MD := (yX12_empty, cX12_empty, 1, (some .int))
def mX12_chains : MD := (yX12_chains, cX12_chains, 1, (some .int))
def mX12_chain : MD := (yX12_chain, cX12_chain, 2, (some .int))
def mX12_team : MD := (yX12_team, cX12_team, 3, (some .boolean))
def mX12_costOf : MD := (yX12_costOf, cX12_costOf, 2, (some .int))
def mX12_strengthAt : MD := (yX12_strengthAt, cX12_strengthAt, 9, (some .int))
def mX12_strength : MD := (yX12_strength, cX12_strength, 3, (some .int))
def mX12_rightOf : MD := (yX12_rightOf, cX12_rightOf, 4, (some .int))
def mX12_right : MD := (yX12_right, cX12_right, 2, (some .int))
def mX12_standIn : MD := (yX12_standIn, cX12_standIn, 8, (some .int))
def mX12_feed : MD := (yX12_feed, cX12_feed, 6, (some .int))
def mX12_four : MD := (yX12_four, cX12_four, 3, none)
def mX12_end : MD := (yX12_end, cX12_end, 2, (some .int))
def mX12_here : MD := (yX12_here, cX12_here, 2, (some .int))
def mX12_isLetter : MD := (yX12_isLetter, cX12_isLetter, 1, (some .boolean))
def mX12_isDigit : MD := (yX12_isDigit, cX12_isDigit, 1, (some .boolean))
def mX12_isSign : MD := (yX12_isSign, cX12_isSign, 1, (some .boolean))
def mX12_next : MD := (yX12_next, cX12_next, 3, none)
def mX12_wrong : MD := (yX12_wrong, cX12_wrong, 2, none)
def mX12_isWord : MD := (yX12_isWord, cX12_isWord, 3, (some .boolean))
def mX12_named : MD := (yX12_named, cX12_named, 1, (some .int))
def mX12_step : MD := (yX12_step, cX12_step, 3, none)
def mX12_hold : MD := (yX12_hold, cX12_hold, 2, none)
def mX12_pop : MD := (yX12_pop, cX12_pop, 1, none)
def mX12_settle : MD := (yX12_settle, cX12_settle, 2, none)
def mX12_isOpen : MD := (yX12_isOpen, cX12_isOpen, 3, (some .boolean))
def mX12_readE : MD := (yX12_readE, cX12_readE, 3, none)
def mX12_operand : MD := (yX12_operand, cX12_operand, 5, (some .int))
def mX12_sign : MD := (yX12_sign, cX12_sign, 2, (some .int))
def mX12_settleOnes : MD := (yX12_settleOnes, cX12_settleOnes, 4, none)
def mX12_prices : MD := (yX12_prices, cX12_prices, 2, (some .int))
def mX12_fault : MD := (yX12_fault, cX12_fault, 2, (some .int))
def mX12_worked : MD := (yX12_worked, cX12_worked, 9, (some .int))
def mX12_price : MD := (yX12_price, cX12_price, 6, (some .int))
def mX12_broken : MD := (yX12_broken, cX12_broken, 5, (some .int))
def mX12_untell : MD := (yX12_untell, cX12_untell, 3, (some .boolean))
def mX12_isWhole : MD := (yX12_isWhole, cX12_isWhole, 6, (some .boolean))
def mX12_whole : MD := (yX12_whole, cX12_whole, 4, (some .int))
def mX12_free : MD := (yX12_free, cX12_free, 7, (some .int))
def mX12_about : MD := (yX12_about, cX12_about, 2, (some .int))
def mJ6_bitCount_0f7a4 : MD := (yJ6_bitCount_0f7a4, cJ6_bitCount_0f7a4, 1, (some .int))
def mJ9_abs_0f7a4 : MD := (yJ9_abs_0f7a4, cJ9_abs_0f7a4, 1, (some .int))
def mJ9_max_7cf53 : MD := (yJ9_max_7cf53, cJ9_max_7cf53, 2, (some .int))
def mJ9_min_7cf53 : MD := (yJ9_min_7cf53, cJ9_min_7cf53, 2, (some .int))
def mJ9_min_f86c9 : MD := (yJ9_min_f86c9, cJ9_min_f86c9, 4, (some .long))
def mJ7_fill_53178 : MD := (yJ7_fill_53178, cJ7_fill_53178, 4, none)
def mJ7_copyOf_59c91 : MD := (yJ7_copyOf_59c91, cJ7_copyOf_59c91, 3, (some (.array .int)))
end
section
set_option maxRecDepth 100000 in
theorem ok_X0_init : MOk mX0_init 0 := ⟨in_gwi 284 rfl rfl, in_gwi 76 (by decide +kernel) rfl, ⟨by decide +kernel, by decide +kernel, by decide +kernel⟩, by decide +kernel, by decide⟩
set_option maxRecDepth 100000 in
theorem im_X0_init : Cond.instanceMethod mX0_init.1 ∈ gw := in_gwi 283 (by decide +kernel) rfl
set_option maxRecDepth 100000 in
theorem ok_X0_enter : MOk mX0_enter 4 := ⟨in_gwi 921 rfl rfl, in_gwi 76 (by decide +kernel) rfl, ⟨by decide +kernel, by decide +kernel, by decide +kernel⟩, by decide +kernel, by decide⟩
set_option maxRecDepth 100000 in
theorem im_X0_enter : Cond.instanceMethod mX0_enter.1 ∈ gw := in_gwi 919 (by decide +kernel) rfl
set_option maxRecDepth 100000 in
theorem se_X0_enter : Cond.selects mX0_enter.1.cls mX0_enter.1 mX0_enter.1 ∈ gw := in_gwi 920 (by decide +kernel) rfl
set_option maxRecDepth 100000 in
theorem ok_X0_isCarriage : MOk mX0_isCarriage 1 := ⟨in_gwi 924 rfl rfl, in_gwi 76 (by decide +kernel) rfl, ⟨by decide +kernel, by decide +kernel, by decide +kernel⟩, by decide +kernel, by decide⟩
set_option maxRecDepth 100000 in
theorem st_X0_isCarriage : Cond.static mX0_isCarriage.1 ∈ gw := in_gwi 923 (by decide +kernel) rfl
set_option maxRecDepth 100000 in
theorem ok_X0_takeBack : MOk mX0_takeBack 2 := ⟨in_gwi 933 rfl rfl, in_gwi 76 (by decide +kernel) rfl, ⟨by decide +kernel, by decide +kernel, by decide +kernel⟩, by decide +kernel, by decide⟩
set_option maxRecDepth 100000 in
theorem im_X0_takeBack : Cond.instanceMethod mX0_takeBack.1 ∈ gw := in_gwi 931 (by decide +kernel) rfl
set_option maxRecDepth 100000 in
theorem se_X0_takeBack : Cond.selects mX0_takeBack.1.cls mX0_takeBack.1 mX0_takeBack.1 ∈ gw := in_gwi 932 (by decide +kernel) rfl
set_option maxRecDepth 100000 in
theorem ok_X0_wholeAt : MOk mX0_wholeAt 3 := ⟨in_gwi 941 rfl rfl, in_gwi 76 (by decide +kernel) rfl, ⟨by decide +kernel, by decide +kernel, by decide +kernel⟩, by decide +kernel, by decide⟩
set_option maxRecDepth 100000 in
theorem im_X0_wholeAt : Cond.instanceMethod mX0_wholeAt.1 ∈ gw := in_gwi 939 (by decide +kernel) rfl
set_option maxRecDepth 100000 in
theorem se_X0_wholeAt : Cond.selects mX0_wholeAt.1.cls mX0_wholeAt.1 mX0_wholeAt.1 ∈ gw := in_gwi 940 (by decide +kernel) rfl
set_option maxRecDepth 100000 in
theorem ok_X0_holds : MOk mX0_holds 3 := ⟨in_gwi 945 rfl rfl, in_gwi 76 (by decide +kernel) rfl, ⟨by decide +kernel, by decide +kernel, by decide +kernel⟩, by decide +kernel, by decide⟩
set_option maxRecDepth 100000 in
theorem im_X0_holds : Cond.instanceMethod mX0_holds.1 ∈ gw := in_gwi 944 (by decide +kernel) rfl
set_option maxRecDepth 100000 in
theorem se_X0_holds : Cond.selects mX0_holds.1.cls mX0_holds.1 mX0_holds.1 ∈ gw := in_gwi 33 (by decide +kernel) rfl
set_option maxRecDepth 100000 in
theorem ok_X0_firstFree : MOk mX0_firstFree 4 := ⟨in_gwi 953 rfl rfl, in_gwi 76 (by decide +kernel) rfl, ⟨by decide +kernel, by decide +kernel, by decide +kernel⟩, by decide +kernel, by decide⟩
set_option maxRecDepth 100000 in
theorem im_X0_firstFree : Cond.instanceMethod mX0_firstFree.1 ∈ gw := in_gwi 951 (by decide +kernel) rfl
set_option maxRecDepth 100000 in
theorem se_X0_firstFree : Cond.selects mX0_firstFree.1.cls mX0_firstFree.1 mX0_firstFree.1 ∈ gw := in_gwi 952 (by decide +kernel) rfl
set_option maxRecDepth 100000 in
theorem ok_X1_init : MOk mX1_init 0 := ⟨in_gwi 124 rfl rfl, in_gwi 70 (by decide +kernel) rfl, ⟨by decide +kernel, by decide +kernel, by decide +kernel⟩, by decide +kernel, by decide⟩
set_option maxRecDepth 100000 in
theorem im_X1_init : Cond.instanceMethod mX1_init.1 ∈ gw := in_gwi 123 (by decide +kernel) rfl
set_option maxRecDepth 100000 in
theorem ok_X1_setWay : MOk mX1_setWay 3 := ⟨in_gwi 416 rfl rfl, in_gwi 70 (by decide +kernel) rfl, ⟨by decide +kernel, by decide +kernel, by decide +kernel⟩, by decide +kernel, by decide⟩
set_option maxRecDepth 100000 in
theorem im_X1_setWay : Cond.instanceMethod mX1_setWay.1 ∈ gw := in_gwi 414 (by decide +kernel) rfl
set_option maxRecDepth 100000 in
theorem se_X1_setWay : Cond.selects mX1_setWay.1.cls mX1_setWay.1 mX1_setWay.1 ∈ gw := in_gwi 415 (by decide +kernel) rfl
set_option maxRecDepth 100000 in
theorem ok_X1_isPlace : MOk mX1_isPlace 1 := ⟨in_gwi 419 rfl rfl, in_gwi 70 (by decide +kernel) rfl, ⟨by decide +kernel, by decide +kernel, by decide +kernel⟩, by decide +kernel, by decide⟩
set_option maxRecDepth 100000 in
theorem st_X1_isPlace : Cond.static mX1_isPlace.1 ∈ gw := in_gwi 418 (by decide +kernel) rfl
set_option maxRecDepth 100000 in
theorem ok_X1_minutesBetween : MOk mX1_minutesBetween 2 := ⟨in_gwi 575 rfl rfl, in_gwi 70 (by decide +kernel) rfl, ⟨by decide +kernel, by decide +kernel, by decide +kernel⟩, by decide +kernel, by decide⟩
set_option maxRecDepth 100000 in
theorem im_X1_minutesBetween : Cond.instanceMethod mX1_minutesBetween.1 ∈ gw := in_gwi 573 (by decide +kernel) rfl
set_option maxRecDepth 100000 in
theorem se_X1_minutesBetween : Cond.selects mX1_minutesBetween.1.cls mX1_minutesBetween.1 mX1_minutesBetween.1 ∈ gw := in_gwi 574 (by decide +kernel) rfl
set_option maxRecDepth 100000 in
theorem ok_X1_setCarriages : MOk mX1_setCarriages 1 := ⟨in_gwi 428 rfl rfl, in_gwi 70 (by decide +kernel) rfl, ⟨by decide +kernel, by decide +kernel, by decide +kernel⟩, by decide +kernel, by decide⟩
set_option maxRecDepth 100000 in
theorem im_X1_setCarriages : Cond.instanceMethod mX1_setCarriages.1 ∈ gw := in_gwi 426 (by decide +kernel) rfl
set_option maxRecDepth 100000 in
theorem se_X1_setCarriages : Cond.selects mX1_setCarriages.1.cls mX1_setCarriages.1 mX1_setCarriages.1 ∈ gw := in_gwi 427 (by decide +kernel) rfl
set_option maxRecDepth 100000 in
theorem ok_X1_book : MOk mX1_book 7 := ⟨in_gwi 490 rfl rfl, in_gwi 70 (by decide +kernel) rfl, ⟨by decide +kernel, by decide +kernel, by decide +kernel⟩, by decide +kernel, by decide⟩
set_option maxRecDepth 100000 in
theorem im_X1_book : Cond.instanceMethod mX1_book.1 ∈ gw := in_gwi 488 (by decide +kernel) rfl
set_option maxRecDepth 100000 in
theorem se_X1_book : Cond.selects mX1_book.1.cls mX1_book.1 mX1_book.1 ∈ gw := in_gwi 489 (by decide +kernel) rfl
set_option maxRecDepth 100000 in
theorem ok_X1_putInOrder : MOk mX1_putInOrder 2 := ⟨in_gwi 546 rfl rfl, in_gwi 70 (by decide +kernel) rfl, ⟨by decide +kernel, by decide +kernel, by decide +kernel⟩, by decide +kernel, by decide⟩
set_option maxRecDepth 100000 in
theorem im_X1_putInOrder : Cond.instanceMethod mX1_putInOrder.1 ∈ gw := in_gwi 545 (by decide +kernel) rfl
set_option maxRecDepth 100000 in
theorem se_X1_putInOrder : Cond.selects mX1_putInOrder.1.cls mX1_putInOrder.1 mX1_putInOrder.1 ∈ gw := in_gwi 3 (by decide +kernel) rfl
set_option maxRecDepth 100000 in
theorem ok_X1_cancel : MOk mX1_cancel 1 := ⟨in_gwi 554 rfl rfl, in_gwi 70 (by decide +kernel) rfl, ⟨by decide +kernel, by decide +kernel, by decide +kernel⟩, by decide +kernel, by decide⟩
set_option maxRecDepth 100000 in
theorem im_X1_cancel : Cond.instanceMethod mX1_cancel.1 ∈ gw := in_gwi 552 (by decide +kernel) rfl
set_option maxRecDepth 100000 in
theorem se_X1_cancel : Cond.selects mX1_cancel.1.cls mX1_cancel.1 mX1_cancel.1 ∈ gw := in_gwi 553 (by decide +kernel) rfl
set_option maxRecDepth 100000 in
theorem ok_X1_find : MOk mX1_find 1 := ⟨in_gwi 562 rfl rfl, in_gwi 70 (by decide +kernel) rfl, ⟨by decide +kernel, by decide +kernel, by decide +kernel⟩, by decide +kernel, by decide⟩
set_option maxRecDepth 100000 in
theorem im_X1_find : Cond.instanceMethod mX1_find.1 ∈ gw := in_gwi 560 (by decide +kernel) rfl
set_option maxRecDepth 100000 in
theorem se_X1_find : Cond.selects mX1_find.1.cls mX1_find.1 mX1_find.1 ∈ gw := in_gwi 561 (by decide +kernel) rfl
set_option maxRecDepth 100000 in
theorem ok_X1_findKept : MOk mX1_findKept 1 := ⟨in_gwi 558 rfl rfl, in_gwi 70 (by decide +kernel) rfl, ⟨by decide +kernel, by decide +kernel, by decide +kernel⟩, by decide +kernel, by decide⟩
set_option maxRecDepth 100000 in
theorem im_X1_findKept : Cond.instanceMethod mX1_findKept.1 ∈ gw := in_gwi 556 (by decide +kernel) rfl
set_option maxRecDepth 100000 in
theorem se_X1_findKept : Cond.selects mX1_findKept.1.cls mX1_findKept.1 mX1_findKept.1 ∈ gw := in_gwi 557 (by decide +kernel) rfl
set_option maxRecDepth 100000 in
theorem ok_X1_numberInOrder : MOk mX1_numberInOrder 1 := ⟨in_gwi 616 rfl rfl, in_gwi 70 (by decide +kernel) rfl, ⟨by decide +kernel, by decide +kernel, by decide +kernel⟩, by decide +kernel, by decide⟩
set_option maxRecDepth 100000 in
theorem im_X1_numberInOrder : Cond.instanceMethod mX1_numberInOrder.1 ∈ gw := in_gwi 614 (by decide +kernel) rfl
set_option maxRecDepth 100000 in
theorem se_X1_numberInOrder : Cond.selects mX1_numberInOrder.1.cls mX1_numberInOrder.1 mX1_numberInOrder.1 ∈ gw := in_gwi 615 (by decide +kernel) rfl
set_option maxRecDepth 100000 in
theorem ok_X1_keptBits : MOk mX1_keptBits 0 := ⟨in_gwi 604 rfl rfl, in_gwi 70 (by decide +kernel) rfl, ⟨by decide +kernel, by decide +kernel, by decide +kernel⟩, by decide +kernel, by decide⟩
set_option maxRecDepth 100000 in
theorem im_X1_keptBits : Cond.instanceMethod mX1_keptBits.1 ∈ gw := in_gwi 602 (by decide +kernel) rfl
set_option maxRecDepth 100000 in
theorem se_X1_keptBits : Cond.selects mX1_keptBits.1.cls mX1_keptBits.1 mX1_keptBits.1 ∈ gw := in_gwi 603 (by decide +kernel) rfl
set_option maxRecDepth 100000 in
theorem ok_X1_endOf : MOk mX1_endOf 1 := ⟨in_gwi 571 rfl rfl, in_gwi 70 (by decide +kernel) rfl, ⟨by decide +kernel, by decide +kernel, by decide +kernel⟩, by decide +kernel, by decide⟩
set_option maxRecDepth 100000 in
theorem im_X1_endOf : Cond.instanceMethod mX1_endOf.1 ∈ gw := in_gwi 569 (by decide +kernel) rfl
set_option maxRecDepth 100000 in
theorem se_X1_endOf : Cond.selects mX1_endOf.1.cls mX1_endOf.1 mX1_endOf.1 ∈ gw := in_gwi 570 (by decide +kernel) rfl
set_option maxRecDepth 100000 in
theorem ok_X1_mayFollow : MOk mX1_mayFollow 2 := ⟨in_gwi 591 rfl rfl, in_gwi 70 (by decide +kernel) rfl, ⟨by decide +kernel, by decide +kernel, by decide +kernel⟩, by decide +kernel, by decide⟩
set_option maxRecDepth 100000 in
theorem im_X1_mayFollow : Cond.instanceMethod mX1_mayFollow.1 ∈ gw := in_gwi 589 (by decide +kernel) rfl
set_option maxRecDepth 100000 in
theorem se_X1_mayFollow : Cond.selects mX1_mayFollow.1.cls mX1_mayFollow.1 mX1_mayFollow.1 ∈ gw := in_gwi 590 (by decide +kernel) rfl
set_option maxRecDepth 100000 in
theorem ok_X1_costOf : MOk mX1_costOf 1 := ⟨in_gwi 698 rfl rfl, in_gwi 70 (by decide +kernel) rfl, ⟨by decide +kernel, by decide +kernel, by decide +kernel⟩, by decide +kernel, by decide⟩
set_option maxRecDepth 100000 in
theorem im_X1_costOf : Cond.instanceMethod mX1_costOf.1 ∈ gw := in_gwi 696 (by decide +kernel) rfl
set_option maxRecDepth 100000 in
theorem se_X1_costOf : Cond.selects mX1_costOf.1.cls mX1_costOf.1 mX1_costOf.1 ∈ gw := in_gwi 697 (by decide +kernel) rfl
set_option maxRecDepth 100000 in
theorem ok_X2_init : MOk mX2_init 4 := ⟨in_gwi 367 rfl rfl, in_gwi 79 (by decide +kernel) rfl, ⟨by decide +kernel, by decide +kernel, by decide +kernel⟩, by decide +kernel, by decide⟩
set_option maxRecDepth 100000 in
theorem im_X2_init : Cond.instanceMethod mX2_init.1 ∈ gw := in_gwi 366 (by decide +kernel) rfl
set_option maxRecDepth 100000 in
theorem ok_X3_init : MOk mX3_init 7 := ⟨in_gwi 494 rfl rfl, in_gwi 82 (by decide +kernel) rfl, ⟨by decide +kernel, by decide +kernel, by decide +kernel⟩, by decide +kernel, by decide⟩
set_option maxRecDepth 100000 in
theorem im_X3_init : Cond.instanceMethod mX3_init.1 ∈ gw := in_gwi 493 (by decide +kernel) rfl
set_option maxRecDepth 100000 in
theorem ok_X4_init : MOk mX4_init 1 := ⟨in_gwi 157 rfl rfl, in_gwi 71 (by decide +kernel) rfl, ⟨by decide +kernel, by decide +kernel, by decide +kernel⟩, by decide +kernel, by decide⟩
set_option maxRecDepth 100000 in
theorem im_X4_init : Cond.instanceMethod mX4_init.1 ∈ gw := in_gwi 156 (by decide +kernel) rfl
set_option maxRecDepth 100000 in
theorem ok_X4_chainNumber : MOk mX4_chainNumber 1 := ⟨in_gwi 657 rfl rfl, in_gwi 71 (by decide +kernel) rfl, ⟨by decide +kernel, by decide +kernel, by decide +kernel⟩, by decide +kernel, by decide⟩
set_option maxRecDepth 100000 in
theorem im_X4_chainNumber : Cond.instanceMethod mX4_chainNumber.1 ∈ gw := in_gwi 655 (by decide +kernel) rfl
set_option maxRecDepth 100000 in
theorem se_X4_chainNumber : Cond.selects mX4_chainNumber.1.cls mX4_chainNumber.1 mX4_chainNumber.1 ∈ gw := in_gwi 656 (by decide +kernel) rfl
set_option maxRecDepth 100000 in
theorem ok_X4_refresh : MOk mX4_refresh 0 := ⟨in_gwi 600 rfl rfl, in_gwi 71 (by decide +kernel) rfl, ⟨by decide +kernel, by decide +kernel, by decide +kernel⟩, by decide +kernel, by decide⟩
set_option maxRecDepth 100000 in
theorem im_X4_refresh : Cond.instanceMethod mX4_refresh.1 ∈ gw := in_gwi 598 (by decide +kernel) rfl
set_option maxRecDepth 100000 in
theorem se_X4_refresh : Cond.selects mX4_refresh.1.cls mX4_refresh.1 mX4_refresh.1 ∈ gw := in_gwi 599 (by decide +kernel) rfl
set_option maxRecDepth 100000 in
theorem ok_X4_weighChains : MOk mX4_weighChains 1 := ⟨in_gwi 608 rfl rfl, in_gwi 71 (by decide +kernel) rfl, ⟨by decide +kernel, by decide +kernel, by decide +kernel⟩, by decide +kernel, by decide⟩
set_option maxRecDepth 100000 in
theorem im_X4_weighChains : Cond.instanceMethod mX4_weighChains.1 ∈ gw := in_gwi 607 (by decide +kernel) rfl
set_option maxRecDepth 100000 in
theorem se_X4_weighChains : Cond.selects mX4_weighChains.1.cls mX4_weighChains.1 mX4_weighChains.1 ∈ gw := in_gwi 4 (by decide +kernel) rfl
set_option maxRecDepth 100000 in
theorem ok_X4_chainKey : MOk mX4_chainKey 1 := ⟨in_gwi 612 rfl rfl, in_gwi 71 (by decide +kernel) rfl, ⟨by decide +kernel, by decide +kernel, by decide +kernel⟩, by decide +kernel, by decide⟩
set_option maxRecDepth 100000 in
theorem im_X4_chainKey : Cond.instanceMethod mX4_chainKey.1 ∈ gw := in_gwi 611 (by decide +kernel) rfl
set_option maxRecDepth 100000 in
theorem se_X4_chainKey : Cond.selects mX4_chainKey.1.cls mX4_chainKey.1 mX4_chainKey.1 ∈ gw := in_gwi 5 (by decide +kernel) rfl
set_option maxRecDepth 100000 in
theorem ok_X4_leastJobs : MOk mX4_leastJobs 1 := ⟨in_gwi 624 rfl rfl, in_gwi 71 (by decide +kernel) rfl, ⟨by decide +kernel, by decide +kernel, by decide +kernel⟩, by decide +kernel, by decide⟩
set_option maxRecDepth 100000 in
theorem st_X4_leastJobs : Cond.static mX4_leastJobs.1 ∈ gw := in_gwi 623 (by decide +kernel) rfl
set_option maxRecDepth 100000 in
theorem ok_X4_shiftOf : MOk mX4_shiftOf 1 := ⟨in_gwi 627 rfl rfl, in_gwi 71 (by decide +kernel) rfl, ⟨by decide +kernel, by decide +kernel, by decide +kernel⟩, by decide +kernel, by decide⟩
set_option maxRecDepth 100000 in
theorem st_X4_shiftOf : Cond.static mX4_shiftOf.1 ∈ gw := in_gwi 626 (by decide +kernel) rfl
set_option maxRecDepth 100000 in
theorem ok_X4_leastLay : MOk mX4_leastLay 2 := ⟨in_gwi 631 rfl rfl, in_gwi 71 (by decide +kernel) rfl, ⟨by decide +kernel, by decide +kernel, by decide +kernel⟩, by decide +kernel, by decide⟩
set_option maxRecDepth 100000 in
theorem im_X4_leastLay : Cond.instanceMethod mX4_leastLay.1 ∈ gw := in_gwi 630 (by decide +kernel) rfl
set_option maxRecDepth 100000 in
theorem se_X4_leastLay : Cond.selects mX4_leastLay.1.cls mX4_leastLay.1 mX4_leastLay.1 ∈ gw := in_gwi 6 (by decide +kernel) rfl
set_option maxRecDepth 100000 in
theorem ok_X4_leastSplit : MOk mX4_leastSplit 1 := ⟨in_gwi 635 rfl rfl, in_gwi 71 (by decide +kernel) rfl, ⟨by decide +kernel, by decide +kernel, by decide +kernel⟩, by decide +kernel, by decide⟩
set_option maxRecDepth 100000 in
theorem im_X4_leastSplit : Cond.instanceMethod mX4_leastSplit.1 ∈ gw := in_gwi 634 (by decide +kernel) rfl
set_option maxRecDepth 100000 in
theorem se_X4_leastSplit : Cond.selects mX4_leastSplit.1.cls mX4_leastSplit.1 mX4_leastSplit.1 ∈ gw := in_gwi 7 (by decide +kernel) rfl
set_option maxRecDepth 100000 in
theorem ok_X4_numberChains : MOk mX4_numberChains 2 := ⟨in_gwi 645 rfl rfl, in_gwi 71 (by decide +kernel) rfl, ⟨by decide +kernel, by decide +kernel, by decide +kernel⟩, by decide +kernel, by decide⟩
set_option maxRecDepth 100000 in
theorem im_X4_numberChains : Cond.instanceMethod mX4_numberChains.1 ∈ gw := in_gwi 644 (by decide +kernel) rfl
set_option maxRecDepth 100000 in
theorem se_X4_numberChains : Cond.selects mX4_numberChains.1.cls mX4_numberChains.1 mX4_numberChains.1 ∈ gw := in_gwi 8 (by decide +kernel) rfl
set_option maxRecDepth 100000 in
theorem ok_X5_init : MOk mX5_init 3 := ⟨in_gwi 310 rfl rfl, in_gwi 77 (by decide +kernel) rfl, ⟨by decide +kernel, by decide +kernel, by decide +kernel⟩, by decide +kernel, by decide⟩
set_option maxRecDepth 100000 in
theorem im_X5_init : Cond.instanceMethod mX5_init.1 ∈ gw := in_gwi 309 (by decide +kernel) rfl
set_option maxRecDepth 100000 in
theorem ok_X5_countLines : MOk mX5_countLines 0 := ⟨in_gwi 579 rfl rfl, in_gwi 77 (by decide +kernel) rfl, ⟨by decide +kernel, by decide +kernel, by decide +kernel⟩, by decide +kernel, by decide⟩
set_option maxRecDepth 100000 in
theorem im_X5_countLines : Cond.instanceMethod mX5_countLines.1 ∈ gw := in_gwi 577 (by decide +kernel) rfl
set_option maxRecDepth 100000 in
theorem se_X5_countLines : Cond.selects mX5_countLines.1.cls mX5_countLines.1 mX5_countLines.1 ∈ gw := in_gwi 578 (by decide +kernel) rfl
set_option maxRecDepth 100000 in
theorem ok_X6_init : MOk mX6_init 1 := ⟨in_gwi 220 rfl rfl, in_gwi 74 (by decide +kernel) rfl, ⟨by decide +kernel, by decide +kernel, by decide +kernel⟩, by decide +kernel, by decide⟩
set_option maxRecDepth 100000 in
theorem im_X6_init : Cond.instanceMethod mX6_init.1 ∈ gw := in_gwi 219 (by decide +kernel) rfl
set_option maxRecDepth 100000 in
theorem ok_X6_readAll : MOk mX6_readAll 0 := ⟨in_gwi 764 rfl rfl, in_gwi 74 (by decide +kernel) rfl, ⟨by decide +kernel, by decide +kernel, by decide +kernel⟩, by decide +kernel, by decide⟩
set_option maxRecDepth 100000 in
theorem im_X6_readAll : Cond.instanceMethod mX6_readAll.1 ∈ gw := in_gwi 762 (by decide +kernel) rfl
set_option maxRecDepth 100000 in
theorem se_X6_readAll : Cond.selects mX6_readAll.1.cls mX6_readAll.1 mX6_readAll.1 ∈ gw := in_gwi 763 (by decide +kernel) rfl
set_option maxRecDepth 100000 in
theorem ok_X6_readLine : MOk mX6_readLine 0 := ⟨in_gwi 818 rfl rfl, in_gwi 74 (by decide +kernel) rfl, ⟨by decide +kernel, by decide +kernel, by decide +kernel⟩, by decide +kernel, by decide⟩
set_option maxRecDepth 100000 in
theorem im_X6_readLine : Cond.instanceMethod mX6_readLine.1 ∈ gw := in_gwi 817 (by decide +kernel) rfl
set_option maxRecDepth 100000 in
theorem se_X6_readLine : Cond.selects mX6_readLine.1.cls mX6_readLine.1 mX6_readLine.1 ∈ gw := in_gwi 17 (by decide +kernel) rfl
set_option maxRecDepth 100000 in
theorem ok_X6_readEither : MOk mX6_readEither 1 := ⟨in_gwi 822 rfl rfl, in_gwi 74 (by decide +kernel) rfl, ⟨by decide +kernel, by decide +kernel, by decide +kernel⟩, by decide +kernel, by decide⟩
set_option maxRecDepth 100000 in
theorem im_X6_readEither : Cond.instanceMethod mX6_readEither.1 ∈ gw := in_gwi 821 (by decide +kernel) rfl
set_option maxRecDepth 100000 in
theorem se_X6_readEither : Cond.selects mX6_readEither.1.cls mX6_readEither.1 mX6_readEither.1 ∈ gw := in_gwi 18 (by decide +kernel) rfl
set_option maxRecDepth 100000 in
theorem ok_X6_readBoth : MOk mX6_readBoth 1 := ⟨in_gwi 830 rfl rfl, in_gwi 74 (by decide +kernel) rfl, ⟨by decide +kernel, by decide +kernel, by decide +kernel⟩, by decide +kernel, by decide⟩
set_option maxRecDepth 100000 in
theorem im_X6_readBoth : Cond.instanceMethod mX6_readBoth.1 ∈ gw := in_gwi 829 (by decide +kernel) rfl
set_option maxRecDepth 100000 in
theorem se_X6_readBoth : Cond.selects mX6_readBoth.1.cls mX6_readBoth.1 mX6_readBoth.1 ∈ gw := in_gwi 20 (by decide +kernel) rfl
set_option maxRecDepth 100000 in
theorem ok_X6_readOne : MOk mX6_readOne 1 := ⟨in_gwi 834 rfl rfl, in_gwi 74 (by decide +kernel) rfl, ⟨by decide +kernel, by decide +kernel, by decide +kernel⟩, by decide +kernel, by decide⟩
set_option maxRecDepth 100000 in
theorem im_X6_readOne : Cond.instanceMethod mX6_readOne.1 ∈ gw := in_gwi 833 (by decide +kernel) rfl
set_option maxRecDepth 100000 in
theorem se_X6_readOne : Cond.selects mX6_readOne.1.cls mX6_readOne.1 mX6_readOne.1 ∈ gw := in_gwi 21 (by decide +kernel) rfl
set_option maxRecDepth 100000 in
theorem ok_X6_readSum : MOk mX6_readSum 1 := ⟨in_gwi 842 rfl rfl, in_gwi 74 (by decide +kernel) rfl, ⟨by decide +kernel, by decide +kernel, by decide +kernel⟩, by decide +kernel, by decide⟩
set_option maxRecDepth 100000 in
theorem im_X6_readSum : Cond.instanceMethod mX6_readSum.1 ∈ gw := in_gwi 841 (by decide +kernel) rfl
set_option maxRecDepth 100000 in
theorem se_X6_readSum : Cond.selects mX6_readSum.1.cls mX6_readSum.1 mX6_readSum.1 ∈ gw := in_gwi 23 (by decide +kernel) rfl
set_option maxRecDepth 100000 in
theorem ok_X6_readTerm : MOk mX6_readTerm 1 := ⟨in_gwi 846 rfl rfl, in_gwi 74 (by decide +kernel) rfl, ⟨by decide +kernel, by decide +kernel, by decide +kernel⟩, by decide +kernel, by decide⟩
set_option maxRecDepth 100000 in
theorem im_X6_readTerm : Cond.instanceMethod mX6_readTerm.1 ∈ gw := in_gwi 845 (by decide +kernel) rfl
set_option maxRecDepth 100000 in
theorem se_X6_readTerm : Cond.selects mX6_readTerm.1.cls mX6_readTerm.1 mX6_readTerm.1 ∈ gw := in_gwi 24 (by decide +kernel) rfl
set_option maxRecDepth 100000 in
theorem ok_X6_readUnit : MOk mX6_readUnit 1 := ⟨in_gwi 850 rfl rfl, in_gwi 74 (by decide +kernel) rfl, ⟨by decide +kernel, by decide +kernel, by decide +kernel⟩, by decide +kernel, by decide⟩
set_option maxRecDepth 100000 in
theorem im_X6_readUnit : Cond.instanceMethod mX6_readUnit.1 ∈ gw := in_gwi 849 (by decide +kernel) rfl
set_option maxRecDepth 100000 in
theorem se_X6_readUnit : Cond.selects mX6_readUnit.1.cls mX6_readUnit.1 mX6_readUnit.1 ∈ gw := in_gwi 25 (by decide +kernel) rfl
set_option maxRecDepth 100000 in
theorem ok_X6_readOperand : MOk mX6_readOperand 0 := ⟨in_gwi 854 rfl rfl, in_gwi 74 (by decide +kernel) rfl, ⟨by decide +kernel, by decide +kernel, by decide +kernel⟩, by decide +kernel, by decide⟩
set_option maxRecDepth 100000 in
theorem im_X6_readOperand : Cond.instanceMethod mX6_readOperand.1 ∈ gw := in_gwi 853 (by decide +kernel) rfl
set_option maxRecDepth 100000 in
theorem se_X6_readOperand : Cond.selects mX6_readOperand.1.cls mX6_readOperand.1 mX6_readOperand.1 ∈ gw := in_gwi 26 (by decide +kernel) rfl
set_option maxRecDepth 100000 in
theorem ok_X6_isTooDeep : MOk mX6_isTooDeep 1 := ⟨in_gwi 826 rfl rfl, in_gwi 74 (by decide +kernel) rfl, ⟨by decide +kernel, by decide +kernel, by decide +kernel⟩, by decide +kernel, by decide⟩
set_option maxRecDepth 100000 in
theorem im_X6_isTooDeep : Cond.instanceMethod mX6_isTooDeep.1 ∈ gw := in_gwi 825 (by decide +kernel) rfl
set_option maxRecDepth 100000 in
theorem se_X6_isTooDeep : Cond.selects mX6_isTooDeep.1.cls mX6_isTooDeep.1 mX6_isTooDeep.1 ∈ gw := in_gwi 19 (by decide +kernel) rfl
set_option maxRecDepth 100000 in
theorem ok_X6_expect : MOk mX6_expect 1 := ⟨in_gwi 858 rfl rfl, in_gwi 74 (by decide +kernel) rfl, ⟨by decide +kernel, by decide +kernel, by decide +kernel⟩, by decide +kernel, by decide⟩
set_option maxRecDepth 100000 in
theorem im_X6_expect : Cond.instanceMethod mX6_expect.1 ∈ gw := in_gwi 857 (by decide +kernel) rfl
set_option maxRecDepth 100000 in
theorem se_X6_expect : Cond.selects mX6_expect.1.cls mX6_expect.1 mX6_expect.1 ∈ gw := in_gwi 27 (by decide +kernel) rfl
set_option maxRecDepth 100000 in
theorem ok_X6_fail : MOk mX6_fail 1 := ⟨in_gwi 786 rfl rfl, in_gwi 74 (by decide +kernel) rfl, ⟨by decide +kernel, by decide +kernel, by decide +kernel⟩, by decide +kernel, by decide⟩
set_option maxRecDepth 100000 in
theorem im_X6_fail : Cond.instanceMethod mX6_fail.1 ∈ gw := in_gwi 785 (by decide +kernel) rfl
set_option maxRecDepth 100000 in
theorem se_X6_fail : Cond.selects mX6_fail.1.cls mX6_fail.1 mX6_fail.1 ∈ gw := in_gwi 15 (by decide +kernel) rfl
set_option maxRecDepth 100000 in
theorem ok_X6_emit : MOk mX6_emit 1 := ⟨in_gwi 838 rfl rfl, in_gwi 74 (by decide +kernel) rfl, ⟨by decide +kernel, by decide +kernel, by decide +kernel⟩, by decide +kernel, by decide⟩
set_option maxRecDepth 100000 in
theorem im_X6_emit : Cond.instanceMethod mX6_emit.1 ∈ gw := in_gwi 837 (by decide +kernel) rfl
set_option maxRecDepth 100000 in
theorem se_X6_emit : Cond.selects mX6_emit.1.cls mX6_emit.1 mX6_emit.1 ∈ gw := in_gwi 22 (by decide +kernel) rfl
set_option maxRecDepth 100000 in
theorem ok_X6_advance : MOk mX6_advance 0 := ⟨in_gwi 768 rfl rfl, in_gwi 74 (by decide +kernel) rfl, ⟨by decide +kernel, by decide +kernel, by decide +kernel⟩, by decide +kernel, by decide⟩
set_option maxRecDepth 100000 in
theorem im_X6_advance : Cond.instanceMethod mX6_advance.1 ∈ gw := in_gwi 767 (by decide +kernel) rfl
set_option maxRecDepth 100000 in
theorem se_X6_advance : Cond.selects mX6_advance.1.cls mX6_advance.1 mX6_advance.1 ∈ gw := in_gwi 13 (by decide +kernel) rfl
set_option maxRecDepth 100000 in
theorem ok_X6_takeWord : MOk mX6_takeWord 0 := ⟨in_gwi 782 rfl rfl, in_gwi 74 (by decide +kernel) rfl, ⟨by decide +kernel, by decide +kernel, by decide +kernel⟩, by decide +kernel, by decide⟩
set_option maxRecDepth 100000 in
theorem im_X6_takeWord : Cond.instanceMethod mX6_takeWord.1 ∈ gw := in_gwi 781 (by decide +kernel) rfl
set_option maxRecDepth 100000 in
theorem se_X6_takeWord : Cond.selects mX6_takeWord.1.cls mX6_takeWord.1 mX6_takeWord.1 ∈ gw := in_gwi 14 (by decide +kernel) rfl
set_option maxRecDepth 100000 in
theorem ok_X6_takeNumber : MOk mX6_takeNumber 0 := ⟨in_gwi 810 rfl rfl, in_gwi 74 (by decide +kernel) rfl, ⟨by decide +kernel, by decide +kernel, by decide +kernel⟩, by decide +kernel, by decide⟩
set_option maxRecDepth 100000 in
theorem im_X6_takeNumber : Cond.instanceMethod mX6_takeNumber.1 ∈ gw := in_gwi 809 (by decide +kernel) rfl
set_option maxRecDepth 100000 in
theorem se_X6_takeNumber : Cond.selects mX6_takeNumber.1.cls mX6_takeNumber.1 mX6_takeNumber.1 ∈ gw := in_gwi 16 (by decide +kernel) rfl
set_option maxRecDepth 100000 in
theorem ok_X6_wordToken : MOk mX6_wordToken 1 := ⟨in_gwi 789 rfl rfl, in_gwi 74 (by decide +kernel) rfl, ⟨by decide +kernel, by decide +kernel, by decide +kernel⟩, by decide +kernel, by decide⟩
set_option maxRecDepth 100000 in
theorem st_X6_wordToken : Cond.static mX6_wordToken.1 ∈ gw := in_gwi 788 (by decide +kernel) rfl
set_option maxRecDepth 100000 in
theorem ok_X6_nameCode : MOk mX6_nameCode 1 := ⟨in_gwi 797 rfl rfl, in_gwi 74 (by decide +kernel) rfl, ⟨by decide +kernel, by decide +kernel, by decide +kernel⟩, by decide +kernel, by decide⟩
set_option maxRecDepth 100000 in
theorem st_X6_nameCode : Cond.static mX6_nameCode.1 ∈ gw := in_gwi 796 (by decide +kernel) rfl
set_option maxRecDepth 100000 in
theorem ok_X6_isBlank : MOk mX6_isBlank 1 := ⟨in_gwi 775 rfl rfl, in_gwi 74 (by decide +kernel) rfl, ⟨by decide +kernel, by decide +kernel, by decide +kernel⟩, by decide +kernel, by decide⟩
set_option maxRecDepth 100000 in
theorem st_X6_isBlank : Cond.static mX6_isBlank.1 ∈ gw := in_gwi 774 (by decide +kernel) rfl
set_option maxRecDepth 100000 in
theorem ok_X6_isLetter : MOk mX6_isLetter 1 := ⟨in_gwi 778 rfl rfl, in_gwi 74 (by decide +kernel) rfl, ⟨by decide +kernel, by decide +kernel, by decide +kernel⟩, by decide +kernel, by decide⟩
set_option maxRecDepth 100000 in
theorem st_X6_isLetter : Cond.static mX6_isLetter.1 ∈ gw := in_gwi 777 (by decide +kernel) rfl
set_option maxRecDepth 100000 in
theorem ok_X6_isDigit : MOk mX6_isDigit 1 := ⟨in_gwi 806 rfl rfl, in_gwi 74 (by decide +kernel) rfl, ⟨by decide +kernel, by decide +kernel, by decide +kernel⟩, by decide +kernel, by decide⟩
set_option maxRecDepth 100000 in
theorem st_X6_isDigit : Cond.static mX6_isDigit.1 ∈ gw := in_gwi 805 (by decide +kernel) rfl
set_option maxRecDepth 100000 in
theorem ok_X6_isSign : MOk mX6_isSign 1 := ⟨in_gwi 813 rfl rfl, in_gwi 74 (by decide +kernel) rfl, ⟨by decide +kernel, by decide +kernel, by decide +kernel⟩, by decide +kernel, by decide⟩
set_option maxRecDepth 100000 in
theorem st_X6_isSign : Cond.static mX6_isSign.1 ∈ gw := in_gwi 812 (by decide +kernel) rfl
set_option maxRecDepth 100000 in
theorem ok_X7_init : MOk mX7_init 0 := ⟨in_gwi 268 rfl rfl, in_gwi 75 (by decide +kernel) rfl, ⟨by decide +kernel, by decide +kernel, by decide +kernel⟩, by decide +kernel, by decide⟩
set_option maxRecDepth 100000 in
theorem im_X7_init : Cond.instanceMethod mX7_init.1 ∈ gw := in_gwi 267 (by decide +kernel) rfl
set_option maxRecDepth 100000 in
theorem ok_X7_quote : MOk mX7_quote 3 := ⟨in_gwi 888 rfl rfl, in_gwi 75 (by decide +kernel) rfl, ⟨by decide +kernel, by decide +kernel, by decide +kernel⟩, by decide +kernel, by decide⟩
set_option maxRecDepth 100000 in
theorem im_X7_quote : Cond.instanceMethod mX7_quote.1 ∈ gw := in_gwi 886 (by decide +kernel) rfl
set_option maxRecDepth 100000 in
theorem se_X7_quote : Cond.selects mX7_quote.1.cls mX7_quote.1 mX7_quote.1 ∈ gw := in_gwi 887 (by decide +kernel) rfl
set_option maxRecDepth 100000 in
theorem ok_X7_valueOf : MOk mX7_valueOf 3 := ⟨in_gwi 893 rfl rfl, in_gwi 75 (by decide +kernel) rfl, ⟨by decide +kernel, by decide +kernel, by decide +kernel⟩, by decide +kernel, by decide⟩
set_option maxRecDepth 100000 in
theorem im_X7_valueOf : Cond.instanceMethod mX7_valueOf.1 ∈ gw := in_gwi 892 (by decide +kernel) rfl
set_option maxRecDepth 100000 in
theorem se_X7_valueOf : Cond.selects mX7_valueOf.1.cls mX7_valueOf.1 mX7_valueOf.1 ∈ gw := in_gwi 28 (by decide +kernel) rfl
set_option maxRecDepth 100000 in
theorem ok_X7_step : MOk mX7_step 1 := ⟨in_gwi 898 rfl rfl, in_gwi 75 (by decide +kernel) rfl, ⟨by decide +kernel, by decide +kernel, by decide +kernel⟩, by decide +kernel, by decide⟩
set_option maxRecDepth 100000 in
theorem im_X7_step : Cond.instanceMethod mX7_step.1 ∈ gw := in_gwi 897 (by decide +kernel) rfl
set_option maxRecDepth 100000 in
theorem se_X7_step : Cond.selects mX7_step.1.cls mX7_step.1 mX7_step.1 ∈ gw := in_gwi 29 (by decide +kernel) rfl
set_option maxRecDepth 100000 in
theorem ok_X7_valueOfName : MOk mX7_valueOfName 1 := ⟨in_gwi 902 rfl rfl, in_gwi 75 (by decide +kernel) rfl, ⟨by decide +kernel, by decide +kernel, by decide +kernel⟩, by decide +kernel, by decide⟩
set_option maxRecDepth 100000 in
theorem im_X7_valueOfName : Cond.instanceMethod mX7_valueOfName.1 ∈ gw := in_gwi 901 (by decide +kernel) rfl
set_option maxRecDepth 100000 in
theorem se_X7_valueOfName : Cond.selects mX7_valueOfName.1.cls mX7_valueOfName.1 mX7_valueOfName.1 ∈ gw := in_gwi 30 (by decide +kernel) rfl
set_option maxRecDepth 100000 in
theorem ok_X7_joined : MOk mX7_joined 3 := ⟨in_gwi 913 rfl rfl, in_gwi 75 (by decide +kernel) rfl, ⟨by decide +kernel, by decide +kernel, by decide +kernel⟩, by decide +kernel, by decide⟩
set_option maxRecDepth 100000 in
theorem st_X7_joined : Cond.static mX7_joined.1 ∈ gw := in_gwi 912 (by decide +kernel) rfl
set_option maxRecDepth 100000 in
theorem ok_X7_push : MOk mX7_push 1 := ⟨in_gwi 906 rfl rfl, in_gwi 75 (by decide +kernel) rfl, ⟨by decide +kernel, by decide +kernel, by decide +kernel⟩, by decide +kernel, by decide⟩
set_option maxRecDepth 100000 in
theorem im_X7_push : Cond.instanceMethod mX7_push.1 ∈ gw := in_gwi 905 (by decide +kernel) rfl
set_option maxRecDepth 100000 in
theorem se_X7_push : Cond.selects mX7_push.1.cls mX7_push.1 mX7_push.1 ∈ gw := in_gwi 31 (by decide +kernel) rfl
set_option maxRecDepth 100000 in
theorem ok_X7_pop : MOk mX7_pop 0 := ⟨in_gwi 910 rfl rfl, in_gwi 75 (by decide +kernel) rfl, ⟨by decide +kernel, by decide +kernel, by decide +kernel⟩, by decide +kernel, by decide⟩
set_option maxRecDepth 100000 in
theorem im_X7_pop : Cond.instanceMethod mX7_pop.1 ∈ gw := in_gwi 909 (by decide +kernel) rfl
set_option maxRecDepth 100000 in
theorem se_X7_pop : Cond.selects mX7_pop.1.cls mX7_pop.1 mX7_pop.1 ∈ gw := in_gwi 32 (by decide +kernel) rfl
set_option maxRecDepth 100000 in
theorem ok_X8_init : MOk mX8_init 0 := ⟨in_gwi 97 rfl rfl, in_gwi 69 (by decide +kernel) rfl, ⟨by decide +kernel, by decide +kernel, by decide +kernel⟩, by decide +kernel, by decide⟩
set_option maxRecDepth 100000 in
theorem im_X8_init : Cond.instanceMethod mX8_init.1 ∈ gw := in_gwi 96 (by decide +kernel) rfl
set_option maxRecDepth 100000 in
theorem ok_X8_add : MOk mX8_add 4 := ⟨in_gwi 360 rfl rfl, in_gwi 69 (by decide +kernel) rfl, ⟨by decide +kernel, by decide +kernel, by decide +kernel⟩, by decide +kernel, by decide⟩
set_option maxRecDepth 100000 in
theorem im_X8_add : Cond.instanceMethod mX8_add.1 ∈ gw := in_gwi 358 (by decide +kernel) rfl
set_option maxRecDepth 100000 in
theorem se_X8_add : Cond.selects mX8_add.1.cls mX8_add.1 mX8_add.1 ∈ gw := in_gwi 359 (by decide +kernel) rfl
set_option maxRecDepth 100000 in
theorem ok_X8_has : MOk mX8_has 1 := ⟨in_gwi 400 rfl rfl, in_gwi 69 (by decide +kernel) rfl, ⟨by decide +kernel, by decide +kernel, by decide +kernel⟩, by decide +kernel, by decide⟩
set_option maxRecDepth 100000 in
theorem im_X8_has : Cond.instanceMethod mX8_has.1 ∈ gw := in_gwi 398 (by decide +kernel) rfl
set_option maxRecDepth 100000 in
theorem se_X8_has : Cond.selects mX8_has.1.cls mX8_has.1 mX8_has.1 ∈ gw := in_gwi 399 (by decide +kernel) rfl
set_option maxRecDepth 100000 in
theorem ok_X8_hasAll : MOk mX8_hasAll 1 := ⟨in_gwi 451 rfl rfl, in_gwi 69 (by decide +kernel) rfl, ⟨by decide +kernel, by decide +kernel, by decide +kernel⟩, by decide +kernel, by decide⟩
set_option maxRecDepth 100000 in
theorem im_X8_hasAll : Cond.instanceMethod mX8_hasAll.1 ∈ gw := in_gwi 449 (by decide +kernel) rfl
set_option maxRecDepth 100000 in
theorem se_X8_hasAll : Cond.selects mX8_hasAll.1.cls mX8_hasAll.1 mX8_hasAll.1 ∈ gw := in_gwi 450 (by decide +kernel) rfl
set_option maxRecDepth 100000 in
theorem ok_X8_setLame : MOk mX8_setLame 2 := ⟨in_gwi 396 rfl rfl, in_gwi 69 (by decide +kernel) rfl, ⟨by decide +kernel, by decide +kernel, by decide +kernel⟩, by decide +kernel, by decide⟩
set_option maxRecDepth 100000 in
theorem im_X8_setLame : Cond.instanceMethod mX8_setLame.1 ∈ gw := in_gwi 394 (by decide +kernel) rfl
set_option maxRecDepth 100000 in
theorem se_X8_setLame : Cond.selects mX8_setLame.1.cls mX8_setLame.1 mX8_setLame.1 ∈ gw := in_gwi 395 (by decide +kernel) rfl
set_option maxRecDepth 100000 in
theorem ok_X8_setSpans : MOk mX8_setSpans 2 := ⟨in_gwi 408 rfl rfl, in_gwi 69 (by decide +kernel) rfl, ⟨by decide +kernel, by decide +kernel, by decide +kernel⟩, by decide +kernel, by decide⟩
set_option maxRecDepth 100000 in
theorem im_X8_setSpans : Cond.instanceMethod mX8_setSpans.1 ∈ gw := in_gwi 406 (by decide +kernel) rfl
set_option maxRecDepth 100000 in
theorem se_X8_setSpans : Cond.selects mX8_setSpans.1.cls mX8_setSpans.1 mX8_setSpans.1 ∈ gw := in_gwi 407 (by decide +kernel) rfl
set_option maxRecDepth 100000 in
theorem ok_X8_firstStrength : MOk mX8_firstStrength 1 := ⟨in_gwi 710 rfl rfl, in_gwi 69 (by decide +kernel) rfl, ⟨by decide +kernel, by decide +kernel, by decide +kernel⟩, by decide +kernel, by decide⟩
set_option maxRecDepth 100000 in
theorem im_X8_firstStrength : Cond.instanceMethod mX8_firstStrength.1 ∈ gw := in_gwi 708 (by decide +kernel) rfl
set_option maxRecDepth 100000 in
theorem se_X8_firstStrength : Cond.selects mX8_firstStrength.1.cls mX8_firstStrength.1 mX8_firstStrength.1 ∈ gw := in_gwi 709 (by decide +kernel) rfl
set_option maxRecDepth 100000 in
theorem ok_X8_difference : MOk mX8_difference 2 := ⟨in_gwi 735 rfl rfl, in_gwi 69 (by decide +kernel) rfl, ⟨by decide +kernel, by decide +kernel, by decide +kernel⟩, by decide +kernel, by decide⟩
set_option maxRecDepth 100000 in
theorem im_X8_difference : Cond.instanceMethod mX8_difference.1 ∈ gw := in_gwi 733 (by decide +kernel) rfl
set_option maxRecDepth 100000 in
theorem se_X8_difference : Cond.selects mX8_difference.1.cls mX8_difference.1 mX8_difference.1 ∈ gw := in_gwi 734 (by decide +kernel) rfl
set_option maxRecDepth 100000 in
theorem ok_X8_anyLame : MOk mX8_anyLame 1 := ⟨in_gwi 685 rfl rfl, in_gwi 69 (by decide +kernel) rfl, ⟨by decide +kernel, by decide +kernel, by decide +kernel⟩, by decide +kernel, by decide⟩
set_option maxRecDepth 100000 in
theorem im_X8_anyLame : Cond.instanceMethod mX8_anyLame.1 ∈ gw := in_gwi 683 (by decide +kernel) rfl
set_option maxRecDepth 100000 in
theorem se_X8_anyLame : Cond.selects mX8_anyLame.1.cls mX8_anyLame.1 mX8_anyLame.1 ∈ gw := in_gwi 684 (by decide +kernel) rfl
set_option maxRecDepth 100000 in
theorem ok_X8_allAlike : MOk mX8_allAlike 1 := ⟨in_gwi 455 rfl rfl, in_gwi 69 (by decide +kernel) rfl, ⟨by decide +kernel, by decide +kernel, by decide +kernel⟩, by decide +kernel, by decide⟩
set_option maxRecDepth 100000 in
theorem im_X8_allAlike : Cond.instanceMethod mX8_allAlike.1 ∈ gw := in_gwi 453 (by decide +kernel) rfl
set_option maxRecDepth 100000 in
theorem se_X8_allAlike : Cond.selects mX8_allAlike.1.cls mX8_allAlike.1 mX8_allAlike.1 ∈ gw := in_gwi 454 (by decide +kernel) rfl
set_option maxRecDepth 100000 in
theorem ok_X8_alike : MOk mX8_alike 2 := ⟨in_gwi 462 rfl rfl, in_gwi 69 (by decide +kernel) rfl, ⟨by decide +kernel, by decide +kernel, by decide +kernel⟩, by decide +kernel, by decide⟩
set_option maxRecDepth 100000 in
theorem im_X8_alike : Cond.instanceMethod mX8_alike.1 ∈ gw := in_gwi 461 (by decide +kernel) rfl
set_option maxRecDepth 100000 in
theorem se_X8_alike : Cond.selects mX8_alike.1.cls mX8_alike.1 mX8_alike.1 ∈ gw := in_gwi 0 (by decide +kernel) rfl
set_option maxRecDepth 100000 in
theorem ok_X8_countSets : MOk mX8_countSets 1 := ⟨in_gwi 473 rfl rfl, in_gwi 69 (by decide +kernel) rfl, ⟨by decide +kernel, by decide +kernel, by decide +kernel⟩, by decide +kernel, by decide⟩
set_option maxRecDepth 100000 in
theorem im_X8_countSets : Cond.instanceMethod mX8_countSets.1 ∈ gw := in_gwi 471 (by decide +kernel) rfl
set_option maxRecDepth 100000 in
theorem se_X8_countSets : Cond.selects mX8_countSets.1.cls mX8_countSets.1 mX8_countSets.1 ∈ gw := in_gwi 472 (by decide +kernel) rfl
set_option maxRecDepth 100000 in
theorem ok_X8_pairUp : MOk mX8_pairUp 0 := ⟨in_gwi 477 rfl rfl, in_gwi 69 (by decide +kernel) rfl, ⟨by decide +kernel, by decide +kernel, by decide +kernel⟩, by decide +kernel, by decide⟩
set_option maxRecDepth 100000 in
theorem im_X8_pairUp : Cond.instanceMethod mX8_pairUp.1 ∈ gw := in_gwi 476 (by decide +kernel) rfl
set_option maxRecDepth 100000 in
theorem se_X8_pairUp : Cond.selects mX8_pairUp.1.cls mX8_pairUp.1 mX8_pairUp.1 ∈ gw := in_gwi 1 (by decide +kernel) rfl
set_option maxRecDepth 100000 in
theorem ok_X8_countFours : MOk mX8_countFours 1 := ⟨in_gwi 482 rfl rfl, in_gwi 69 (by decide +kernel) rfl, ⟨by decide +kernel, by decide +kernel, by decide +kernel⟩, by decide +kernel, by decide⟩
set_option maxRecDepth 100000 in
theorem im_X8_countFours : Cond.instanceMethod mX8_countFours.1 ∈ gw := in_gwi 481 (by decide +kernel) rfl
set_option maxRecDepth 100000 in
theorem se_X8_countFours : Cond.selects mX8_countFours.1.cls mX8_countFours.1 mX8_countFours.1 ∈ gw := in_gwi 2 (by decide +kernel) rfl
set_option maxRecDepth 100000 in
theorem ok_X9_init : MOk mX9_init 0 := ⟨in_gwi 204 rfl rfl, in_gwi 73 (by decide +kernel) rfl, ⟨by decide +kernel, by decide +kernel, by decide +kernel⟩, by decide +kernel, by decide⟩
set_option maxRecDepth 100000 in
theorem im_X9_init : Cond.instanceMethod mX9_init.1 ∈ gw := in_gwi 203 (by decide +kernel) rfl
set_option maxRecDepth 100000 in
theorem ok_X9_appendAll : MOk mX9_appendAll 5 := ⟨in_gwi 743 rfl rfl, in_gwi 73 (by decide +kernel) rfl, ⟨by decide +kernel, by decide +kernel, by decide +kernel⟩, by decide +kernel, by decide⟩
set_option maxRecDepth 100000 in
theorem im_X9_appendAll : Cond.instanceMethod mX9_appendAll.1 ∈ gw := in_gwi 741 (by decide +kernel) rfl
set_option maxRecDepth 100000 in
theorem se_X9_appendAll : Cond.selects mX9_appendAll.1.cls mX9_appendAll.1 mX9_appendAll.1 ∈ gw := in_gwi 742 (by decide +kernel) rfl
set_option maxRecDepth 100000 in
theorem ok_X9_append : MOk mX9_append 1 := ⟨in_gwi 747 rfl rfl, in_gwi 73 (by decide +kernel) rfl, ⟨by decide +kernel, by decide +kernel, by decide +kernel⟩, by decide +kernel, by decide⟩
set_option maxRecDepth 100000 in
theorem im_X9_append : Cond.instanceMethod mX9_append.1 ∈ gw := in_gwi 746 (by decide +kernel) rfl
set_option maxRecDepth 100000 in
theorem se_X9_append : Cond.selects mX9_append.1.cls mX9_append.1 mX9_append.1 ∈ gw := in_gwi 12 (by decide +kernel) rfl
set_option maxRecDepth 100000 in
theorem ok_X9_cutTo : MOk mX9_cutTo 1 := ⟨in_gwi 755 rfl rfl, in_gwi 73 (by decide +kernel) rfl, ⟨by decide +kernel, by decide +kernel, by decide +kernel⟩, by decide +kernel, by decide⟩
set_option maxRecDepth 100000 in
theorem im_X9_cutTo : Cond.instanceMethod mX9_cutTo.1 ∈ gw := in_gwi 753 (by decide +kernel) rfl
set_option maxRecDepth 100000 in
theorem se_X9_cutTo : Cond.selects mX9_cutTo.1.cls mX9_cutTo.1 mX9_cutTo.1 ∈ gw := in_gwi 754 (by decide +kernel) rfl
set_option maxRecDepth 100000 in
theorem ok_X9_byteAt : MOk mX9_byteAt 1 := ⟨in_gwi 772 rfl rfl, in_gwi 73 (by decide +kernel) rfl, ⟨by decide +kernel, by decide +kernel, by decide +kernel⟩, by decide +kernel, by decide⟩
set_option maxRecDepth 100000 in
theorem im_X9_byteAt : Cond.instanceMethod mX9_byteAt.1 ∈ gw := in_gwi 770 (by decide +kernel) rfl
set_option maxRecDepth 100000 in
theorem se_X9_byteAt : Cond.selects mX9_byteAt.1.cls mX9_byteAt.1 mX9_byteAt.1 ∈ gw := in_gwi 771 (by decide +kernel) rfl
set_option maxRecDepth 100000 in
theorem ok_X10_init : MOk mX10_init 2 := ⟨in_gwi 188 rfl rfl, in_gwi 72 (by decide +kernel) rfl, ⟨by decide +kernel, by decide +kernel, by decide +kernel⟩, by decide +kernel, by decide⟩
set_option maxRecDepth 100000 in
theorem im_X10_init : Cond.instanceMethod mX10_init.1 ∈ gw := in_gwi 187 (by decide +kernel) rfl
set_option maxRecDepth 100000 in
theorem ok_X10_setLeast : MOk mX10_setLeast 1 := ⟨in_gwi 436 rfl rfl, in_gwi 72 (by decide +kernel) rfl, ⟨by decide +kernel, by decide +kernel, by decide +kernel⟩, by decide +kernel, by decide⟩
set_option maxRecDepth 100000 in
theorem im_X10_setLeast : Cond.instanceMethod mX10_setLeast.1 ∈ gw := in_gwi 434 (by decide +kernel) rfl
set_option maxRecDepth 100000 in
theorem se_X10_setLeast : Cond.selects mX10_setLeast.1.cls mX10_setLeast.1 mX10_setLeast.1 ∈ gw := in_gwi 435 (by decide +kernel) rfl
set_option maxRecDepth 100000 in
theorem ok_X10_harness : MOk mX10_harness 2 := ⟨in_gwi 665 rfl rfl, in_gwi 72 (by decide +kernel) rfl, ⟨by decide +kernel, by decide +kernel, by decide +kernel⟩, by decide +kernel, by decide⟩
set_option maxRecDepth 100000 in
theorem im_X10_harness : Cond.instanceMethod mX10_harness.1 ∈ gw := in_gwi 663 (by decide +kernel) rfl
set_option maxRecDepth 100000 in
theorem se_X10_harness : Cond.selects mX10_harness.1.cls mX10_harness.1 mX10_harness.1 ∈ gw := in_gwi 664 (by decide +kernel) rfl
set_option maxRecDepth 100000 in
theorem ok_X10_isHarnessed : MOk mX10_isHarnessed 2 := ⟨in_gwi 721 rfl rfl, in_gwi 72 (by decide +kernel) rfl, ⟨by decide +kernel, by decide +kernel, by decide +kernel⟩, by decide +kernel, by decide⟩
set_option maxRecDepth 100000 in
theorem im_X10_isHarnessed : Cond.instanceMethod mX10_isHarnessed.1 ∈ gw := in_gwi 719 (by decide +kernel) rfl
set_option maxRecDepth 100000 in
theorem se_X10_isHarnessed : Cond.selects mX10_isHarnessed.1.cls mX10_isHarnessed.1 mX10_isHarnessed.1 ∈ gw := in_gwi 720 (by decide +kernel) rfl
set_option maxRecDepth 100000 in
theorem ok_X10_standingOf : MOk mX10_standingOf 1 := ⟨in_gwi 676 rfl rfl, in_gwi 72 (by decide +kernel) rfl, ⟨by decide +kernel, by decide +kernel, by decide +kernel⟩, by decide +kernel, by decide⟩
set_option maxRecDepth 100000 in
theorem im_X10_standingOf : Cond.instanceMethod mX10_standingOf.1 ∈ gw := in_gwi 674 (by decide +kernel) rfl
end
