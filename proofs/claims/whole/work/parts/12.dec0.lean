theorem dX0_init_0 : decode cX0_init 0 = .ok (.aload_n 0, 1) := by decide +kernel
theorem dX0_init_1 : decode cX0_init 1 = .ok (.invokespecial 3, 3) := by decide +kernel
theorem dX0_init_4 : decode cX0_init 4 = .ok (.aload_n 0, 1) := by decide +kernel
theorem dX0_init_5 : decode cX0_init 5 = .ok (.bipush 40, 2) := by decide +kernel
theorem dX0_init_7 : decode cX0_init 7 = .ok (.newarray .int, 2) := by decide +kernel
theorem dX0_init_9 : decode cX0_init 9 = .ok (.putfield 11, 3) := by decide +kernel
theorem dX0_init_12 : decode cX0_init 12 = .ok (.aload_n 0, 1) := by decide +kernel
theorem dX0_init_13 : decode cX0_init 13 = .ok (.bipush 40, 2) := by decide +kernel
theorem dX0_init_15 : decode cX0_init 15 = .ok (.newarray .int, 2) := by decide +kernel
theorem dX0_init_17 : decode cX0_init 17 = .ok (.putfield 15, 3) := by decide +kernel
theorem dX0_init_20 : decode cX0_init 20 = .ok (.aload_n 0, 1) := by decide +kernel
theorem dX0_init_21 : decode cX0_init 21 = .ok (.bipush 40, 2) := by decide +kernel
theorem dX0_init_23 : decode cX0_init 23 = .ok (.newarray .int, 2) := by decide +kernel
theorem dX0_init_25 : decode cX0_init 25 = .ok (.putfield 18, 3) := by decide +kernel
theorem dX0_init_28 : decode cX0_init 28 = .ok (.aload_n 0, 1) := by decide +kernel
theorem dX0_init_29 : decode cX0_init 29 = .ok (.bipush 40, 2) := by decide +kernel
theorem dX0_init_31 : decode cX0_init 31 = .ok (.newarray .int, 2) := by decide +kernel
theorem dX0_init_33 : decode cX0_init 33 = .ok (.putfield 21, 3) := by decide +kernel
theorem dX0_init_36 : decode cX0_init 36 = .ok (.aload_n 0, 1) := by decide +kernel
theorem dX0_init_37 : decode cX0_init 37 = .ok (.bipush 40, 2) := by decide +kernel
theorem dX0_init_39 : decode cX0_init 39 = .ok (.newarray .int, 2) := by decide +kernel
theorem dX0_init_41 : decode cX0_init 41 = .ok (.putfield 24, 3) := by decide +kernel
theorem dX0_init_44 : decode cX0_init 44 = .ok (.return_, 1) := by decide +kernel
theorem dX0_enter_0 : decode cX0_enter 0 = .ok (.iload_n 1, 1) := by decide +kernel
theorem dX0_enter_1 : decode cX0_enter 1 = .ok (.invokestatic 27, 3) := by decide +kernel
theorem dX0_enter_4 : decode cX0_enter 4 = .ok (.ifCond .eq 42, 3) := by decide +kernel
theorem dX0_enter_7 : decode cX0_enter 7 = .ok (.iload_n 2, 1) := by decide +kernel
theorem dX0_enter_8 : decode cX0_enter 8 = .ok (.iconst 0, 1) := by decide +kernel
theorem dX0_enter_9 : decode cX0_enter 9 = .ok (.sipush 2000, 3) := by decide +kernel
theorem dX0_enter_12 : decode cX0_enter 12 = .ok (.invokestatic 31, 3) := by decide +kernel
theorem dX0_enter_15 : decode cX0_enter 15 = .ok (.ifCond .eq 31, 3) := by decide +kernel
theorem dX0_enter_18 : decode cX0_enter 18 = .ok (.iload_n 3, 1) := by decide +kernel
theorem dX0_enter_19 : decode cX0_enter 19 = .ok (.iload_n 2, 1) := by decide +kernel
theorem dX0_enter_20 : decode cX0_enter 20 = .ok (.if_icmp .le 26, 3) := by decide +kernel
theorem dX0_enter_23 : decode cX0_enter 23 = .ok (.iload_n 3, 1) := by decide +kernel
theorem dX0_enter_24 : decode cX0_enter 24 = .ok (.sipush 3000, 3) := by decide +kernel
theorem dX0_enter_27 : decode cX0_enter 27 = .ok (.if_icmp .gt 19, 3) := by decide +kernel
theorem dX0_enter_30 : decode cX0_enter 30 = .ok (.iload 4, 2) := by decide +kernel
theorem dX0_enter_32 : decode cX0_enter 32 = .ok (.iconst 0, 1) := by decide +kernel
theorem dX0_enter_33 : decode cX0_enter 33 = .ok (.sipush 5000, 3) := by decide +kernel
theorem dX0_enter_36 : decode cX0_enter 36 = .ok (.invokestatic 31, 3) := by decide +kernel
theorem dX0_enter_39 : decode cX0_enter 39 = .ok (.ifCond .eq 7, 3) := by decide +kernel
theorem dX0_enter_42 : decode cX0_enter 42 = .ok (.iconst 1, 1) := by decide +kernel
theorem dX0_enter_43 : decode cX0_enter 43 = .ok (.goto 4, 3) := by decide +kernel
theorem dX0_enter_46 : decode cX0_enter 46 = .ok (.iconst 0, 1) := by decide +kernel
theorem dX0_enter_47 : decode cX0_enter 47 = .ok (.istore 5, 2) := by decide +kernel
theorem dX0_enter_49 : decode cX0_enter 49 = .ok (.iload 5, 2) := by decide +kernel
theorem dX0_enter_51 : decode cX0_enter 51 = .ok (.ifCond .eq 12, 3) := by decide +kernel
theorem dX0_enter_54 : decode cX0_enter 54 = .ok (.aload_n 0, 1) := by decide +kernel
theorem dX0_enter_55 : decode cX0_enter 55 = .ok (.getfield 35, 3) := by decide +kernel
theorem dX0_enter_58 : decode cX0_enter 58 = .ok (.bipush 40, 2) := by decide +kernel
theorem dX0_enter_60 : decode cX0_enter 60 = .ok (.if_icmp .lt 5, 3) := by decide +kernel
theorem dX0_enter_63 : decode cX0_enter 63 = .ok (.iconst (-1), 1) := by decide +kernel
theorem dX0_enter_64 : decode cX0_enter 64 = .ok (.ireturn, 1) := by decide +kernel
theorem dX0_enter_65 : decode cX0_enter 65 = .ok (.aload_n 0, 1) := by decide +kernel
theorem dX0_enter_66 : decode cX0_enter 66 = .ok (.getfield 11, 3) := by decide +kernel
theorem dX0_enter_69 : decode cX0_enter 69 = .ok (.aload_n 0, 1) := by decide +kernel
theorem dX0_enter_70 : decode cX0_enter 70 = .ok (.getfield 35, 3) := by decide +kernel
theorem dX0_enter_73 : decode cX0_enter 73 = .ok (.iload_n 1, 1) := by decide +kernel
theorem dX0_enter_74 : decode cX0_enter 74 = .ok (.iastore, 1) := by decide +kernel
theorem dX0_enter_75 : decode cX0_enter 75 = .ok (.aload_n 0, 1) := by decide +kernel
theorem dX0_enter_76 : decode cX0_enter 76 = .ok (.getfield 15, 3) := by decide +kernel
theorem dX0_enter_79 : decode cX0_enter 79 = .ok (.aload_n 0, 1) := by decide +kernel
theorem dX0_enter_80 : decode cX0_enter 80 = .ok (.getfield 35, 3) := by decide +kernel
theorem dX0_enter_83 : decode cX0_enter 83 = .ok (.iload_n 2, 1) := by decide +kernel
theorem dX0_enter_84 : decode cX0_enter 84 = .ok (.iastore, 1) := by decide +kernel
theorem dX0_enter_85 : decode cX0_enter 85 = .ok (.aload_n 0, 1) := by decide +kernel
theorem dX0_enter_86 : decode cX0_enter 86 = .ok (.getfield 18, 3) := by decide +kernel
theorem dX0_enter_89 : decode cX0_enter 89 = .ok (.aload_n 0, 1) := by decide +kernel
theorem dX0_enter_90 : decode cX0_enter 90 = .ok (.getfield 35, 3) := by decide +kernel
theorem dX0_enter_93 : decode cX0_enter 93 = .ok (.iload_n 3, 1) := by decide +kernel
theorem dX0_enter_94 : decode cX0_enter 94 = .ok (.iastore, 1) := by decide +kernel
theorem dX0_enter_95 : decode cX0_enter 95 = .ok (.aload_n 0, 1) := by decide +kernel
theorem dX0_enter_96 : decode cX0_enter 96 = .ok (.getfield 21, 3) := by decide +kernel
theorem dX0_enter_99 : decode cX0_enter 99 = .ok (.aload_n 0, 1) := by decide +kernel
theorem dX0_enter_100 : decode cX0_enter 100 = .ok (.getfield 35, 3) := by decide +kernel
theorem dX0_enter_103 : decode cX0_enter 103 = .ok (.iload 4, 2) := by decide +kernel
theorem dX0_enter_105 : decode cX0_enter 105 = .ok (.iastore, 1) := by decide +kernel
theorem dX0_enter_106 : decode cX0_enter 106 = .ok (.aload_n 0, 1) := by decide +kernel
theorem dX0_enter_107 : decode cX0_enter 107 = .ok (.getfield 24, 3) := by decide +kernel
theorem dX0_enter_110 : decode cX0_enter 110 = .ok (.aload_n 0, 1) := by decide +kernel
theorem dX0_enter_111 : decode cX0_enter 111 = .ok (.getfield 35, 3) := by decide +kernel
theorem dX0_enter_114 : decode cX0_enter 114 = .ok (.iconst (-1), 1) := by decide +kernel
theorem dX0_enter_115 : decode cX0_enter 115 = .ok (.iastore, 1) := by decide +kernel
theorem dX0_enter_116 : decode cX0_enter 116 = .ok (.aload_n 0, 1) := by decide +kernel
theorem dX0_enter_117 : decode cX0_enter 117 = .ok (.dup, 1) := by decide +kernel
theorem dX0_enter_118 : decode cX0_enter 118 = .ok (.getfield 35, 3) := by decide +kernel
theorem dX0_enter_121 : decode cX0_enter 121 = .ok (.iconst 1, 1) := by decide +kernel
theorem dX0_enter_122 : decode cX0_enter 122 = .ok (.iadd, 1) := by decide +kernel
theorem dX0_enter_123 : decode cX0_enter 123 = .ok (.putfield 35, 3) := by decide +kernel
theorem dX0_enter_126 : decode cX0_enter 126 = .ok (.aload_n 0, 1) := by decide +kernel
theorem dX0_enter_127 : decode cX0_enter 127 = .ok (.getfield 35, 3) := by decide +kernel
theorem dX0_enter_130 : decode cX0_enter 130 = .ok (.iconst 1, 1) := by decide +kernel
theorem dX0_enter_131 : decode cX0_enter 131 = .ok (.isub, 1) := by decide +kernel
theorem dX0_enter_132 : decode cX0_enter 132 = .ok (.ireturn, 1) := by decide +kernel
theorem dX0_isCarriage_0 : decode cX0_isCarriage 0 = .ok (.iload_n 0, 1) := by decide +kernel
theorem dX0_isCarriage_1 : decode cX0_isCarriage 1 = .ok (.iconst 0, 1) := by decide +kernel
theorem dX0_isCarriage_2 : decode cX0_isCarriage 2 = .ok (.iconst 5, 1) := by decide +kernel
theorem dX0_isCarriage_3 : decode cX0_isCarriage 3 = .ok (.invokestatic 31, 3) := by decide +kernel
theorem dX0_isCarriage_6 : decode cX0_isCarriage 6 = .ok (.ireturn, 1) := by decide +kernel
theorem dX0_takeBack_0 : decode cX0_takeBack 0 = .ok (.iload_n 1, 1) := by decide +kernel
theorem dX0_takeBack_1 : decode cX0_takeBack 1 = .ok (.ifCond .lt 37, 3) := by decide +kernel
theorem dX0_takeBack_4 : decode cX0_takeBack 4 = .ok (.iload_n 1, 1) := by decide +kernel
theorem dX0_takeBack_5 : decode cX0_takeBack 5 = .ok (.aload_n 0, 1) := by decide +kernel
theorem dX0_takeBack_6 : decode cX0_takeBack 6 = .ok (.getfield 35, 3) := by decide +kernel
theorem dX0_takeBack_9 : decode cX0_takeBack 9 = .ok (.if_icmp .ge 29, 3) := by decide +kernel
theorem dX0_takeBack_12 : decode cX0_takeBack 12 = .ok (.aload_n 0, 1) := by decide +kernel
theorem dX0_takeBack_13 : decode cX0_takeBack 13 = .ok (.getfield 24, 3) := by decide +kernel
theorem dX0_takeBack_16 : decode cX0_takeBack 16 = .ok (.iload_n 1, 1) := by decide +kernel
theorem dX0_takeBack_17 : decode cX0_takeBack 17 = .ok (.iaload, 1) := by decide +kernel
theorem dX0_takeBack_18 : decode cX0_takeBack 18 = .ok (.iconst (-1), 1) := by decide +kernel
theorem dX0_takeBack_19 : decode cX0_takeBack 19 = .ok (.if_icmp .ne 19, 3) := by decide +kernel
theorem dX0_takeBack_22 : decode cX0_takeBack 22 = .ok (.iload_n 2, 1) := by decide +kernel
theorem dX0_takeBack_23 : decode cX0_takeBack 23 = .ok (.aload_n 0, 1) := by decide +kernel
theorem dX0_takeBack_24 : decode cX0_takeBack 24 = .ok (.getfield 21, 3) := by decide +kernel
theorem dX0_takeBack_27 : decode cX0_takeBack 27 = .ok (.iload_n 1, 1) := by decide +kernel
theorem dX0_takeBack_28 : decode cX0_takeBack 28 = .ok (.iaload, 1) := by decide +kernel
theorem dX0_takeBack_29 : decode cX0_takeBack 29 = .ok (.sipush 5000, 3) := by decide +kernel
theorem dX0_takeBack_32 : decode cX0_takeBack 32 = .ok (.invokestatic 31, 3) := by decide +kernel
theorem dX0_takeBack_35 : decode cX0_takeBack 35 = .ok (.ifCond .ne 5, 3) := by decide +kernel
theorem dX0_takeBack_38 : decode cX0_takeBack 38 = .ok (.iconst 0, 1) := by decide +kernel
theorem dX0_takeBack_39 : decode cX0_takeBack 39 = .ok (.ireturn, 1) := by decide +kernel
theorem dX0_takeBack_40 : decode cX0_takeBack 40 = .ok (.aload_n 0, 1) := by decide +kernel
theorem dX0_takeBack_41 : decode cX0_takeBack 41 = .ok (.getfield 24, 3) := by decide +kernel
theorem dX0_takeBack_44 : decode cX0_takeBack 44 = .ok (.iload_n 1, 1) := by decide +kernel
theorem dX0_takeBack_45 : decode cX0_takeBack 45 = .ok (.iload_n 2, 1) := by decide +kernel
theorem dX0_takeBack_46 : decode cX0_takeBack 46 = .ok (.iastore, 1) := by decide +kernel
theorem dX0_takeBack_47 : decode cX0_takeBack 47 = .ok (.iconst 1, 1) := by decide +kernel
theorem dX0_takeBack_48 : decode cX0_takeBack 48 = .ok (.ireturn, 1) := by decide +kernel
theorem dX0_wholeAt_0 : decode cX0_wholeAt 0 = .ok (.iload_n 1, 1) := by decide +kernel
theorem dX0_wholeAt_1 : decode cX0_wholeAt 1 = .ok (.invokestatic 27, 3) := by decide +kernel
theorem dX0_wholeAt_4 : decode cX0_wholeAt 4 = .ok (.ifCond .ne 5, 3) := by decide +kernel
theorem dX0_wholeAt_7 : decode cX0_wholeAt 7 = .ok (.iconst (-1), 1) := by decide +kernel
theorem dX0_wholeAt_8 : decode cX0_wholeAt 8 = .ok (.ireturn, 1) := by decide +kernel
theorem dX0_wholeAt_9 : decode cX0_wholeAt 9 = .ok (.iconst 0, 1) := by decide +kernel
theorem dX0_wholeAt_10 : decode cX0_wholeAt 10 = .ok (.istore 4, 2) := by decide +kernel
theorem dX0_wholeAt_12 : decode cX0_wholeAt 12 = .ok (.iload 4, 2) := by decide +kernel
theorem dX0_wholeAt_14 : decode cX0_wholeAt 14 = .ok (.aload_n 0, 1) := by decide +kernel
theorem dX0_wholeAt_15 : decode cX0_wholeAt 15 = .ok (.getfield 35, 3) := by decide +kernel
theorem dX0_wholeAt_18 : decode cX0_wholeAt 18 = .ok (.if_icmp .ge 44, 3) := by decide +kernel
theorem dX0_wholeAt_21 : decode cX0_wholeAt 21 = .ok (.aload_n 0, 1) := by decide +kernel
theorem dX0_wholeAt_22 : decode cX0_wholeAt 22 = .ok (.iload 4, 2) := by decide +kernel
theorem dX0_wholeAt_24 : decode cX0_wholeAt 24 = .ok (.iload_n 1, 1) := by decide +kernel
theorem dX0_wholeAt_25 : decode cX0_wholeAt 25 = .ok (.iload_n 3, 1) := by decide +kernel
theorem dX0_wholeAt_26 : decode cX0_wholeAt 26 = .ok (.invokevirtual 39, 3) := by decide +kernel
theorem dX0_wholeAt_29 : decode cX0_wholeAt 29 = .ok (.ifCond .eq 27, 3) := by decide +kernel
theorem dX0_wholeAt_32 : decode cX0_wholeAt 32 = .ok (.aload_n 0, 1) := by decide +kernel
theorem dX0_wholeAt_33 : decode cX0_wholeAt 33 = .ok (.getfield 15, 3) := by decide +kernel
theorem dX0_wholeAt_36 : decode cX0_wholeAt 36 = .ok (.iload 4, 2) := by decide +kernel
theorem dX0_wholeAt_38 : decode cX0_wholeAt 38 = .ok (.iaload, 1) := by decide +kernel
theorem dX0_wholeAt_39 : decode cX0_wholeAt 39 = .ok (.iload_n 2, 1) := by decide +kernel
theorem dX0_wholeAt_40 : decode cX0_wholeAt 40 = .ok (.if_icmp .gt 16, 3) := by decide +kernel
theorem dX0_wholeAt_43 : decode cX0_wholeAt 43 = .ok (.iload_n 2, 1) := by decide +kernel
theorem dX0_wholeAt_44 : decode cX0_wholeAt 44 = .ok (.aload_n 0, 1) := by decide +kernel
theorem dX0_wholeAt_45 : decode cX0_wholeAt 45 = .ok (.getfield 18, 3) := by decide +kernel
theorem dX0_wholeAt_48 : decode cX0_wholeAt 48 = .ok (.iload 4, 2) := by decide +kernel
theorem dX0_wholeAt_50 : decode cX0_wholeAt 50 = .ok (.iaload, 1) := by decide +kernel
theorem dX0_wholeAt_51 : decode cX0_wholeAt 51 = .ok (.if_icmp .ge 5, 3) := by decide +kernel
theorem dX0_wholeAt_54 : decode cX0_wholeAt 54 = .ok (.iconst 0, 1) := by decide +kernel
theorem dX0_wholeAt_55 : decode cX0_wholeAt 55 = .ok (.ireturn, 1) := by decide +kernel
theorem dX0_wholeAt_56 : decode cX0_wholeAt 56 = .ok (.iinc 4 1, 3) := by decide +kernel
theorem dX0_wholeAt_59 : decode cX0_wholeAt 59 = .ok (.goto (-47), 3) := by decide +kernel
theorem dX0_wholeAt_62 : decode cX0_wholeAt 62 = .ok (.iconst 1, 1) := by decide +kernel
theorem dX0_wholeAt_63 : decode cX0_wholeAt 63 = .ok (.ireturn, 1) := by decide +kernel
theorem dX0_holds_0 : decode cX0_holds 0 = .ok (.aload_n 0, 1) := by decide +kernel
theorem dX0_holds_1 : decode cX0_holds 1 = .ok (.getfield 11, 3) := by decide +kernel
theorem dX0_holds_4 : decode cX0_holds 4 = .ok (.iload_n 1, 1) := by decide +kernel
theorem dX0_holds_5 : decode cX0_holds 5 = .ok (.iaload, 1) := by decide +kernel
theorem dX0_holds_6 : decode cX0_holds 6 = .ok (.iload_n 2, 1) := by decide +kernel
theorem dX0_holds_7 : decode cX0_holds 7 = .ok (.if_icmp .ne 37, 3) := by decide +kernel
theorem dX0_holds_10 : decode cX0_holds 10 = .ok (.aload_n 0, 1) := by decide +kernel
theorem dX0_holds_11 : decode cX0_holds 11 = .ok (.getfield 21, 3) := by decide +kernel
theorem dX0_holds_14 : decode cX0_holds 14 = .ok (.iload_n 1, 1) := by decide +kernel
theorem dX0_holds_15 : decode cX0_holds 15 = .ok (.iaload, 1) := by decide +kernel
theorem dX0_holds_16 : decode cX0_holds 16 = .ok (.iload_n 3, 1) := by decide +kernel
theorem dX0_holds_17 : decode cX0_holds 17 = .ok (.if_icmp .gt 27, 3) := by decide +kernel
theorem dX0_holds_20 : decode cX0_holds 20 = .ok (.aload_n 0, 1) := by decide +kernel
theorem dX0_holds_21 : decode cX0_holds 21 = .ok (.getfield 24, 3) := by decide +kernel
theorem dX0_holds_24 : decode cX0_holds 24 = .ok (.iload_n 1, 1) := by decide +kernel
theorem dX0_holds_25 : decode cX0_holds 25 = .ok (.iaload, 1) := by decide +kernel
theorem dX0_holds_26 : decode cX0_holds 26 = .ok (.iconst (-1), 1) := by decide +kernel
theorem dX0_holds_27 : decode cX0_holds 27 = .ok (.if_icmp .eq 13, 3) := by decide +kernel
theorem dX0_holds_30 : decode cX0_holds 30 = .ok (.aload_n 0, 1) := by decide +kernel
theorem dX0_holds_31 : decode cX0_holds 31 = .ok (.getfield 24, 3) := by decide +kernel
theorem dX0_holds_34 : decode cX0_holds 34 = .ok (.iload_n 1, 1) := by decide +kernel
theorem dX0_holds_35 : decode cX0_holds 35 = .ok (.iaload, 1) := by decide +kernel
theorem dX0_holds_36 : decode cX0_holds 36 = .ok (.iload_n 3, 1) := by decide +kernel
theorem dX0_holds_37 : decode cX0_holds 37 = .ok (.if_icmp .le 7, 3) := by decide +kernel
theorem dX0_holds_40 : decode cX0_holds 40 = .ok (.iconst 1, 1) := by decide +kernel
theorem dX0_holds_41 : decode cX0_holds 41 = .ok (.goto 4, 3) := by decide +kernel
theorem dX0_holds_44 : decode cX0_holds 44 = .ok (.iconst 0, 1) := by decide +kernel
theorem dX0_holds_45 : decode cX0_holds 45 = .ok (.ireturn, 1) := by decide +kernel
theorem dX0_firstFree_0 : decode cX0_firstFree 0 = .ok (.iload_n 1, 1) := by decide +kernel
theorem dX0_firstFree_1 : decode cX0_firstFree 1 = .ok (.invokestatic 27, 3) := by decide +kernel
theorem dX0_firstFree_4 : decode cX0_firstFree 4 = .ok (.ifCond .eq 25, 3) := by decide +kernel
theorem dX0_firstFree_7 : decode cX0_firstFree 7 = .ok (.iload_n 2, 1) := by decide +kernel
theorem dX0_firstFree_8 : decode cX0_firstFree 8 = .ok (.iconst 0, 1) := by decide +kernel
theorem dX0_firstFree_9 : decode cX0_firstFree 9 = .ok (.sipush 3000, 3) := by decide +kernel
theorem dX0_firstFree_12 : decode cX0_firstFree 12 = .ok (.invokestatic 31, 3) := by decide +kernel
theorem dX0_firstFree_15 : decode cX0_firstFree 15 = .ok (.ifCond .eq 14, 3) := by decide +kernel
theorem dX0_firstFree_18 : decode cX0_firstFree 18 = .ok (.iload_n 3, 1) := by decide +kernel
theorem dX0_firstFree_19 : decode cX0_firstFree 19 = .ok (.iconst 1, 1) := by decide +kernel
theorem dX0_firstFree_20 : decode cX0_firstFree 20 = .ok (.sipush 500, 3) := by decide +kernel
theorem dX0_firstFree_23 : decode cX0_firstFree 23 = .ok (.invokestatic 31, 3) := by decide +kernel
theorem dX0_firstFree_26 : decode cX0_firstFree 26 = .ok (.ifCond .ne 5, 3) := by decide +kernel
theorem dX0_firstFree_29 : decode cX0_firstFree 29 = .ok (.iconst (-1), 1) := by decide +kernel
theorem dX0_firstFree_30 : decode cX0_firstFree 30 = .ok (.ireturn, 1) := by decide +kernel
theorem dX0_firstFree_31 : decode cX0_firstFree 31 = .ok (.iload_n 2, 1) := by decide +kernel
theorem dX0_firstFree_32 : decode cX0_firstFree 32 = .ok (.istore 5, 2) := by decide +kernel
theorem dX0_firstFree_34 : decode cX0_firstFree 34 = .ok (.iconst 0, 1) := by decide +kernel
theorem dX0_firstFree_35 : decode cX0_firstFree 35 = .ok (.istore 6, 2) := by decide +kernel
theorem dX0_firstFree_37 : decode cX0_firstFree 37 = .ok (.iload 6, 2) := by decide +kernel
theorem dX0_firstFree_39 : decode cX0_firstFree 39 = .ok (.aload_n 0, 1) := by decide +kernel
theorem dX0_firstFree_40 : decode cX0_firstFree 40 = .ok (.getfield 35, 3) := by decide +kernel
theorem dX0_firstFree_43 : decode cX0_firstFree 43 = .ok (.if_icmp .ge 88, 3) := by decide +kernel
theorem dX0_firstFree_46 : decode cX0_firstFree 46 = .ok (.iload 5, 2) := by decide +kernel
theorem dX0_firstFree_48 : decode cX0_firstFree 48 = .ok (.istore 7, 2) := by decide +kernel
theorem dX0_firstFree_50 : decode cX0_firstFree 50 = .ok (.iconst 0, 1) := by decide +kernel
theorem dX0_firstFree_51 : decode cX0_firstFree 51 = .ok (.istore 8, 2) := by decide +kernel
theorem dX0_firstFree_53 : decode cX0_firstFree 53 = .ok (.iload 8, 2) := by decide +kernel
theorem dX0_firstFree_55 : decode cX0_firstFree 55 = .ok (.aload_n 0, 1) := by decide +kernel
theorem dX0_firstFree_56 : decode cX0_firstFree 56 = .ok (.getfield 35, 3) := by decide +kernel
theorem dX0_firstFree_59 : decode cX0_firstFree 59 = .ok (.if_icmp .ge 56, 3) := by decide +kernel
theorem dX0_firstFree_62 : decode cX0_firstFree 62 = .ok (.aload_n 0, 1) := by decide +kernel
theorem dX0_firstFree_63 : decode cX0_firstFree 63 = .ok (.iload 8, 2) := by decide +kernel
theorem dX0_firstFree_65 : decode cX0_firstFree 65 = .ok (.iload_n 1, 1) := by decide +kernel
theorem dX0_firstFree_66 : decode cX0_firstFree 66 = .ok (.iload 4, 2) := by decide +kernel
theorem dX0_firstFree_68 : decode cX0_firstFree 68 = .ok (.invokevirtual 39, 3) := by decide +kernel
theorem dX0_firstFree_71 : decode cX0_firstFree 71 = .ok (.ifCond .eq 38, 3) := by decide +kernel
theorem dX0_firstFree_74 : decode cX0_firstFree 74 = .ok (.aload_n 0, 1) := by decide +kernel
theorem dX0_firstFree_75 : decode cX0_firstFree 75 = .ok (.getfield 15, 3) := by decide +kernel
theorem dX0_firstFree_78 : decode cX0_firstFree 78 = .ok (.iload 8, 2) := by decide +kernel
theorem dX0_firstFree_80 : decode cX0_firstFree 80 = .ok (.iaload, 1) := by decide +kernel
theorem dX0_firstFree_81 : decode cX0_firstFree 81 = .ok (.iload 5, 2) := by decide +kernel
theorem dX0_firstFree_83 : decode cX0_firstFree 83 = .ok (.iload_n 3, 1) := by decide +kernel
theorem dX0_firstFree_84 : decode cX0_firstFree 84 = .ok (.iadd, 1) := by decide +kernel
theorem dX0_firstFree_85 : decode cX0_firstFree 85 = .ok (.if_icmp .ge 24, 3) := by decide +kernel
theorem dX0_firstFree_88 : decode cX0_firstFree 88 = .ok (.aload_n 0, 1) := by decide +kernel
theorem dX0_firstFree_89 : decode cX0_firstFree 89 = .ok (.getfield 18, 3) := by decide +kernel
theorem dX0_firstFree_92 : decode cX0_firstFree 92 = .ok (.iload 8, 2) := by decide +kernel
theorem dX0_firstFree_94 : decode cX0_firstFree 94 = .ok (.iaload, 1) := by decide +kernel
theorem dX0_firstFree_95 : decode cX0_firstFree 95 = .ok (.iload 5, 2) := by decide +kernel
theorem dX0_firstFree_97 : decode cX0_firstFree 97 = .ok (.if_icmp .le 12, 3) := by decide +kernel
theorem dX0_firstFree_100 : decode cX0_firstFree 100 = .ok (.aload_n 0, 1) := by decide +kernel
theorem dX0_firstFree_101 : decode cX0_firstFree 101 = .ok (.getfield 18, 3) := by decide +kernel
theorem dX0_firstFree_104 : decode cX0_firstFree 104 = .ok (.iload 8, 2) := by decide +kernel
theorem dX0_firstFree_106 : decode cX0_firstFree 106 = .ok (.iaload, 1) := by decide +kernel
theorem dX0_firstFree_107 : decode cX0_firstFree 107 = .ok (.istore 5, 2) := by decide +kernel
theorem dX0_firstFree_109 : decode cX0_firstFree 109 = .ok (.iinc 8 1, 3) := by decide +kernel
theorem dX0_firstFree_112 : decode cX0_firstFree 112 = .ok (.goto (-59), 3) := by decide +kernel
theorem dX0_firstFree_115 : decode cX0_firstFree 115 = .ok (.iload 5, 2) := by decide +kernel
theorem dX0_firstFree_117 : decode cX0_firstFree 117 = .ok (.iload 7, 2) := by decide +kernel
theorem dX0_firstFree_119 : decode cX0_firstFree 119 = .ok (.if_icmp .ne 6, 3) := by decide +kernel
theorem dX0_firstFree_122 : decode cX0_firstFree 122 = .ok (.goto 9, 3) := by decide +kernel
theorem dX0_firstFree_125 : decode cX0_firstFree 125 = .ok (.iinc 6 1, 3) := by decide +kernel
theorem dX0_firstFree_128 : decode cX0_firstFree 128 = .ok (.goto (-91), 3) := by decide +kernel
theorem dX0_firstFree_131 : decode cX0_firstFree 131 = .ok (.iload 5, 2) := by decide +kernel
theorem dX0_firstFree_133 : decode cX0_firstFree 133 = .ok (.ireturn, 1) := by decide +kernel
theorem dX1_init_0 : decode cX1_init 0 = .ok (.aload_n 0, 1) := by decide +kernel
theorem dX1_init_1 : decode cX1_init 1 = .ok (.invokespecial 3, 3) := by decide +kernel
theorem dX1_init_4 : decode cX1_init 4 = .ok (.aload_n 0, 1) := by decide +kernel
theorem dX1_init_5 : decode cX1_init 5 = .ok (.bipush 64, 2) := by decide +kernel
theorem dX1_init_7 : decode cX1_init 7 = .ok (.newarray .int, 2) := by decide +kernel
theorem dX1_init_9 : decode cX1_init 9 = .ok (.putfield 9, 3) := by decide +kernel
theorem dX1_init_12 : decode cX1_init 12 = .ok (.aload_n 0, 1) := by decide +kernel
theorem dX1_init_13 : decode cX1_init 13 = .ok (.bipush 10, 2) := by decide +kernel
theorem dX1_init_15 : decode cX1_init 15 = .ok (.anewarray 15, 3) := by decide +kernel
theorem dX1_init_18 : decode cX1_init 18 = .ok (.putfield 17, 3) := by decide +kernel
theorem dX1_init_21 : decode cX1_init 21 = .ok (.aload_n 0, 1) := by decide +kernel
theorem dX1_init_22 : decode cX1_init 22 = .ok (.bipush 10, 2) := by decide +kernel
theorem dX1_init_24 : decode cX1_init 24 = .ok (.newarray .int, 2) := by decide +kernel
theorem dX1_init_26 : decode cX1_init 26 = .ok (.putfield 21, 3) := by decide +kernel
theorem dX1_init_29 : decode cX1_init 29 = .ok (.aload_n 0, 1) := by decide +kernel
theorem dX1_init_30 : decode cX1_init 30 = .ok (.iconst 2, 1) := by decide +kernel
theorem dX1_init_31 : decode cX1_init 31 = .ok (.putfield 24, 3) := by decide +kernel
theorem dX1_init_34 : decode cX1_init 34 = .ok (.return_, 1) := by decide +kernel
theorem dX1_setWay_0 : decode cX1_setWay 0 = .ok (.iload_n 1, 1) := by decide +kernel
theorem dX1_setWay_1 : decode cX1_setWay 1 = .ok (.invokestatic 28, 3) := by decide +kernel
theorem dX1_setWay_4 : decode cX1_setWay 4 = .ok (.ifCond .eq 26, 3) := by decide +kernel
theorem dX1_setWay_7 : decode cX1_setWay 7 = .ok (.iload_n 2, 1) := by decide +kernel
theorem dX1_setWay_8 : decode cX1_setWay 8 = .ok (.invokestatic 28, 3) := by decide +kernel
theorem dX1_setWay_11 : decode cX1_setWay 11 = .ok (.ifCond .eq 19, 3) := by decide +kernel
theorem dX1_setWay_14 : decode cX1_setWay 14 = .ok (.iload_n 1, 1) := by decide +kernel
theorem dX1_setWay_15 : decode cX1_setWay 15 = .ok (.iload_n 2, 1) := by decide +kernel
theorem dX1_setWay_16 : decode cX1_setWay 16 = .ok (.if_icmp .eq 14, 3) := by decide +kernel
theorem dX1_setWay_19 : decode cX1_setWay 19 = .ok (.iload_n 3, 1) := by decide +kernel
theorem dX1_setWay_20 : decode cX1_setWay 20 = .ok (.iconst 0, 1) := by decide +kernel
theorem dX1_setWay_21 : decode cX1_setWay 21 = .ok (.sipush 300, 3) := by decide +kernel
theorem dX1_setWay_24 : decode cX1_setWay 24 = .ok (.invokestatic 32, 3) := by decide +kernel
theorem dX1_setWay_27 : decode cX1_setWay 27 = .ok (.ifCond .ne 5, 3) := by decide +kernel
theorem dX1_setWay_30 : decode cX1_setWay 30 = .ok (.iconst 0, 1) := by decide +kernel
theorem dX1_setWay_31 : decode cX1_setWay 31 = .ok (.ireturn, 1) := by decide +kernel
theorem dX1_setWay_32 : decode cX1_setWay 32 = .ok (.aload_n 0, 1) := by decide +kernel
theorem dX1_setWay_33 : decode cX1_setWay 33 = .ok (.getfield 9, 3) := by decide +kernel
theorem dX1_setWay_36 : decode cX1_setWay 36 = .ok (.iload_n 1, 1) := by decide +kernel
theorem dX1_setWay_37 : decode cX1_setWay 37 = .ok (.bipush 8, 2) := by decide +kernel
theorem dX1_setWay_39 : decode cX1_setWay 39 = .ok (.imul, 1) := by decide +kernel
theorem dX1_setWay_40 : decode cX1_setWay 40 = .ok (.iload_n 2, 1) := by decide +kernel
theorem dX1_setWay_41 : decode cX1_setWay 41 = .ok (.iadd, 1) := by decide +kernel
theorem dX1_setWay_42 : decode cX1_setWay 42 = .ok (.iload_n 3, 1) := by decide +kernel
theorem dX1_setWay_43 : decode cX1_setWay 43 = .ok (.iastore, 1) := by decide +kernel
theorem dX1_setWay_44 : decode cX1_setWay 44 = .ok (.aload_n 0, 1) := by decide +kernel
theorem dX1_setWay_45 : decode cX1_setWay 45 = .ok (.getfield 9, 3) := by decide +kernel
theorem dX1_setWay_48 : decode cX1_setWay 48 = .ok (.iload_n 2, 1) := by decide +kernel
theorem dX1_setWay_49 : decode cX1_setWay 49 = .ok (.bipush 8, 2) := by decide +kernel
theorem dX1_setWay_51 : decode cX1_setWay 51 = .ok (.imul, 1) := by decide +kernel
theorem dX1_setWay_52 : decode cX1_setWay 52 = .ok (.iload_n 1, 1) := by decide +kernel
theorem dX1_setWay_53 : decode cX1_setWay 53 = .ok (.iadd, 1) := by decide +kernel
theorem dX1_setWay_54 : decode cX1_setWay 54 = .ok (.iload_n 3, 1) := by decide +kernel
theorem dX1_setWay_55 : decode cX1_setWay 55 = .ok (.iastore, 1) := by decide +kernel
theorem dX1_setWay_56 : decode cX1_setWay 56 = .ok (.aload_n 0, 1) := by decide +kernel
theorem dX1_setWay_57 : decode cX1_setWay 57 = .ok (.dup, 1) := by decide +kernel
theorem dX1_setWay_58 : decode cX1_setWay 58 = .ok (.getfield 36, 3) := by decide +kernel
theorem dX1_setWay_61 : decode cX1_setWay 61 = .ok (.iconst 1, 1) := by decide +kernel
theorem dX1_setWay_62 : decode cX1_setWay 62 = .ok (.iadd, 1) := by decide +kernel
theorem dX1_setWay_63 : decode cX1_setWay 63 = .ok (.putfield 36, 3) := by decide +kernel
theorem dX1_setWay_66 : decode cX1_setWay 66 = .ok (.iconst 1, 1) := by decide +kernel
theorem dX1_setWay_67 : decode cX1_setWay 67 = .ok (.ireturn, 1) := by decide +kernel
theorem dX1_isPlace_0 : decode cX1_isPlace 0 = .ok (.iload_n 0, 1) := by decide +kernel
theorem dX1_isPlace_1 : decode cX1_isPlace 1 = .ok (.iconst 0, 1) := by decide +kernel
theorem dX1_isPlace_2 : decode cX1_isPlace 2 = .ok (.bipush 7, 2) := by decide +kernel
theorem dX1_isPlace_4 : decode cX1_isPlace 4 = .ok (.invokestatic 32, 3) := by decide +kernel
theorem dX1_isPlace_7 : decode cX1_isPlace 7 = .ok (.ireturn, 1) := by decide +kernel
theorem dX1_minutesBetween_0 : decode cX1_minutesBetween 0 = .ok (.iload_n 1, 1) := by decide +kernel
theorem dX1_minutesBetween_1 : decode cX1_minutesBetween 1 = .ok (.bipush 8, 2) := by decide +kernel
theorem dX1_minutesBetween_3 : decode cX1_minutesBetween 3 = .ok (.imul, 1) := by decide +kernel
theorem dX1_minutesBetween_4 : decode cX1_minutesBetween 4 = .ok (.iload_n 2, 1) := by decide +kernel
theorem dX1_minutesBetween_5 : decode cX1_minutesBetween 5 = .ok (.iadd, 1) := by decide +kernel
theorem dX1_minutesBetween_6 : decode cX1_minutesBetween 6 = .ok (.istore_n 3, 1) := by decide +kernel
theorem dX1_minutesBetween_7 : decode cX1_minutesBetween 7 = .ok (.iload_n 3, 1) := by decide +kernel
theorem dX1_minutesBetween_8 : decode cX1_minutesBetween 8 = .ok (.ifCond .lt 21, 3) := by decide +kernel
theorem dX1_minutesBetween_11 : decode cX1_minutesBetween 11 = .ok (.iload_n 3, 1) := by decide +kernel
theorem dX1_minutesBetween_12 : decode cX1_minutesBetween 12 = .ok (.aload_n 0, 1) := by decide +kernel
theorem dX1_minutesBetween_13 : decode cX1_minutesBetween 13 = .ok (.getfield 9, 3) := by decide +kernel
theorem dX1_minutesBetween_16 : decode cX1_minutesBetween 16 = .ok (.arraylength, 1) := by decide +kernel
theorem dX1_minutesBetween_17 : decode cX1_minutesBetween 17 = .ok (.if_icmp .ge 12, 3) := by decide +kernel
theorem dX1_minutesBetween_20 : decode cX1_minutesBetween 20 = .ok (.aload_n 0, 1) := by decide +kernel
theorem dX1_minutesBetween_21 : decode cX1_minutesBetween 21 = .ok (.getfield 9, 3) := by decide +kernel
theorem dX1_minutesBetween_24 : decode cX1_minutesBetween 24 = .ok (.iload_n 3, 1) := by decide +kernel
theorem dX1_minutesBetween_25 : decode cX1_minutesBetween 25 = .ok (.iaload, 1) := by decide +kernel
theorem dX1_minutesBetween_26 : decode cX1_minutesBetween 26 = .ok (.goto 4, 3) := by decide +kernel
theorem dX1_minutesBetween_29 : decode cX1_minutesBetween 29 = .ok (.iconst 0, 1) := by decide +kernel
theorem dX1_minutesBetween_30 : decode cX1_minutesBetween 30 = .ok (.ireturn, 1) := by decide +kernel
theorem dX1_setCarriages_0 : decode cX1_setCarriages 0 = .ok (.iload_n 1, 1) := by decide +kernel
theorem dX1_setCarriages_1 : decode cX1_setCarriages 1 = .ok (.iconst 1, 1) := by decide +kernel
theorem dX1_setCarriages_2 : decode cX1_setCarriages 2 = .ok (.bipush 6, 2) := by decide +kernel
theorem dX1_setCarriages_4 : decode cX1_setCarriages 4 = .ok (.invokestatic 32, 3) := by decide +kernel
theorem dX1_setCarriages_7 : decode cX1_setCarriages 7 = .ok (.ifCond .ne 5, 3) := by decide +kernel
theorem dX1_setCarriages_10 : decode cX1_setCarriages 10 = .ok (.iconst 0, 1) := by decide +kernel
theorem dX1_setCarriages_11 : decode cX1_setCarriages 11 = .ok (.ireturn, 1) := by decide +kernel
theorem dX1_setCarriages_12 : decode cX1_setCarriages 12 = .ok (.aload_n 0, 1) := by decide +kernel
theorem dX1_setCarriages_13 : decode cX1_setCarriages 13 = .ok (.iload_n 1, 1) := by decide +kernel
theorem dX1_setCarriages_14 : decode cX1_setCarriages 14 = .ok (.putfield 24, 3) := by decide +kernel
theorem dX1_setCarriages_17 : decode cX1_setCarriages 17 = .ok (.aload_n 0, 1) := by decide +kernel
theorem dX1_setCarriages_18 : decode cX1_setCarriages 18 = .ok (.dup, 1) := by decide +kernel
theorem dX1_setCarriages_19 : decode cX1_setCarriages 19 = .ok (.getfield 36, 3) := by decide +kernel
theorem dX1_setCarriages_22 : decode cX1_setCarriages 22 = .ok (.iconst 1, 1) := by decide +kernel
theorem dX1_setCarriages_23 : decode cX1_setCarriages 23 = .ok (.iadd, 1) := by decide +kernel
theorem dX1_setCarriages_24 : decode cX1_setCarriages 24 = .ok (.putfield 36, 3) := by decide +kernel
theorem dX1_setCarriages_27 : decode cX1_setCarriages 27 = .ok (.iconst 1, 1) := by decide +kernel
theorem dX1_setCarriages_28 : decode cX1_setCarriages 28 = .ok (.ireturn, 1) := by decide +kernel
theorem dX1_book_0 : decode cX1_book 0 = .ok (.iload_n 1, 1) := by decide +kernel
theorem dX1_book_1 : decode cX1_book 1 = .ok (.iconst 0, 1) := by decide +kernel
theorem dX1_book_2 : decode cX1_book 2 = .ok (.iconst 2, 1) := by decide +kernel
theorem dX1_book_3 : decode cX1_book 3 = .ok (.invokestatic 32, 3) := by decide +kernel
theorem dX1_book_6 : decode cX1_book 6 = .ok (.ifCond .eq 63, 3) := by decide +kernel
theorem dX1_book_9 : decode cX1_book 9 = .ok (.iload_n 2, 1) := by decide +kernel
theorem dX1_book_10 : decode cX1_book 10 = .ok (.invokestatic 28, 3) := by decide +kernel
theorem dX1_book_13 : decode cX1_book 13 = .ok (.ifCond .eq 56, 3) := by decide +kernel
theorem dX1_book_16 : decode cX1_book 16 = .ok (.iload_n 3, 1) := by decide +kernel
theorem dX1_book_17 : decode cX1_book 17 = .ok (.invokestatic 28, 3) := by decide +kernel
theorem dX1_book_20 : decode cX1_book 20 = .ok (.ifCond .eq 49, 3) := by decide +kernel
theorem dX1_book_23 : decode cX1_book 23 = .ok (.iload 4, 2) := by decide +kernel
theorem dX1_book_25 : decode cX1_book 25 = .ok (.iconst 0, 1) := by decide +kernel
theorem dX1_book_26 : decode cX1_book 26 = .ok (.sipush 1400, 3) := by decide +kernel
theorem dX1_book_29 : decode cX1_book 29 = .ok (.invokestatic 32, 3) := by decide +kernel
theorem dX1_book_32 : decode cX1_book 32 = .ok (.ifCond .eq 37, 3) := by decide +kernel
theorem dX1_book_35 : decode cX1_book 35 = .ok (.iload 5, 2) := by decide +kernel
theorem dX1_book_37 : decode cX1_book 37 = .ok (.iconst 0, 1) := by decide +kernel
theorem dX1_book_38 : decode cX1_book 38 = .ok (.sipush 300, 3) := by decide +kernel
theorem dX1_book_41 : decode cX1_book 41 = .ok (.invokestatic 32, 3) := by decide +kernel
theorem dX1_book_44 : decode cX1_book 44 = .ok (.ifCond .eq 25, 3) := by decide +kernel
theorem dX1_book_47 : decode cX1_book 47 = .ok (.iload 6, 2) := by decide +kernel
theorem dX1_book_49 : decode cX1_book 49 = .ok (.iconst 1, 1) := by decide +kernel
theorem dX1_book_50 : decode cX1_book 50 = .ok (.if_icmp .eq 15, 3) := by decide +kernel
theorem dX1_book_53 : decode cX1_book 53 = .ok (.iload 6, 2) := by decide +kernel
theorem dX1_book_55 : decode cX1_book 55 = .ok (.iconst 2, 1) := by decide +kernel
theorem dX1_book_56 : decode cX1_book 56 = .ok (.if_icmp .eq 9, 3) := by decide +kernel
theorem dX1_book_59 : decode cX1_book 59 = .ok (.iload 6, 2) := by decide +kernel
theorem dX1_book_61 : decode cX1_book 61 = .ok (.iconst 4, 1) := by decide +kernel
theorem dX1_book_62 : decode cX1_book 62 = .ok (.if_icmp .ne 7, 3) := by decide +kernel
theorem dX1_book_65 : decode cX1_book 65 = .ok (.iconst 1, 1) := by decide +kernel
theorem dX1_book_66 : decode cX1_book 66 = .ok (.goto 4, 3) := by decide +kernel
theorem dX1_book_69 : decode cX1_book 69 = .ok (.iconst 0, 1) := by decide +kernel
theorem dX1_book_70 : decode cX1_book 70 = .ok (.istore 8, 2) := by decide +kernel
theorem dX1_book_72 : decode cX1_book 72 = .ok (.iload 8, 2) := by decide +kernel
theorem dX1_book_74 : decode cX1_book 74 = .ok (.ifCond .eq 12, 3) := by decide +kernel
theorem dX1_book_77 : decode cX1_book 77 = .ok (.aload_n 0, 1) := by decide +kernel
theorem dX1_book_78 : decode cX1_book 78 = .ok (.getfield 39, 3) := by decide +kernel
theorem dX1_book_81 : decode cX1_book 81 = .ok (.bipush 10, 2) := by decide +kernel
theorem dX1_book_83 : decode cX1_book 83 = .ok (.if_icmp .lt 5, 3) := by decide +kernel
theorem dX1_book_86 : decode cX1_book 86 = .ok (.iconst (-1), 1) := by decide +kernel
theorem dX1_book_87 : decode cX1_book 87 = .ok (.ireturn, 1) := by decide +kernel
theorem dX1_book_88 : decode cX1_book 88 = .ok (.aload_n 0, 1) := by decide +kernel
theorem dX1_book_89 : decode cX1_book 89 = .ok (.getfield 17, 3) := by decide +kernel
theorem dX1_book_92 : decode cX1_book 92 = .ok (.aload_n 0, 1) := by decide +kernel
theorem dX1_book_93 : decode cX1_book 93 = .ok (.getfield 39, 3) := by decide +kernel
theorem dX1_book_96 : decode cX1_book 96 = .ok (.new 15, 3) := by decide +kernel
theorem dX1_book_99 : decode cX1_book 99 = .ok (.dup, 1) := by decide +kernel
theorem dX1_book_100 : decode cX1_book 100 = .ok (.iload_n 1, 1) := by decide +kernel
theorem dX1_book_101 : decode cX1_book 101 = .ok (.iload_n 2, 1) := by decide +kernel
theorem dX1_book_102 : decode cX1_book 102 = .ok (.iload_n 3, 1) := by decide +kernel
theorem dX1_book_103 : decode cX1_book 103 = .ok (.iload 4, 2) := by decide +kernel
theorem dX1_book_105 : decode cX1_book 105 = .ok (.iload 5, 2) := by decide +kernel
theorem dX1_book_107 : decode cX1_book 107 = .ok (.iload 6, 2) := by decide +kernel
theorem dX1_book_109 : decode cX1_book 109 = .ok (.aload 7, 2) := by decide +kernel
theorem dX1_book_111 : decode cX1_book 111 = .ok (.invokespecial 42, 3) := by decide +kernel
theorem dX1_book_114 : decode cX1_book 114 = .ok (.aastore, 1) := by decide +kernel
theorem dX1_book_115 : decode cX1_book 115 = .ok (.aload_n 0, 1) := by decide +kernel
theorem dX1_book_116 : decode cX1_book 116 = .ok (.aload_n 0, 1) := by decide +kernel
theorem dX1_book_117 : decode cX1_book 117 = .ok (.getfield 39, 3) := by decide +kernel
theorem dX1_book_120 : decode cX1_book 120 = .ok (.iload 4, 2) := by decide +kernel
theorem dX1_book_122 : decode cX1_book 122 = .ok (.invokevirtual 45, 3) := by decide +kernel
theorem dX1_book_125 : decode cX1_book 125 = .ok (.aload_n 0, 1) := by decide +kernel
theorem dX1_book_126 : decode cX1_book 126 = .ok (.dup, 1) := by decide +kernel
theorem dX1_book_127 : decode cX1_book 127 = .ok (.getfield 39, 3) := by decide +kernel
theorem dX1_book_130 : decode cX1_book 130 = .ok (.iconst 1, 1) := by decide +kernel
theorem dX1_book_131 : decode cX1_book 131 = .ok (.iadd, 1) := by decide +kernel
theorem dX1_book_132 : decode cX1_book 132 = .ok (.putfield 39, 3) := by decide +kernel
theorem dX1_book_135 : decode cX1_book 135 = .ok (.aload_n 0, 1) := by decide +kernel
theorem dX1_book_136 : decode cX1_book 136 = .ok (.dup, 1) := by decide +kernel
theorem dX1_book_137 : decode cX1_book 137 = .ok (.getfield 36, 3) := by decide +kernel
theorem dX1_book_140 : decode cX1_book 140 = .ok (.iconst 1, 1) := by decide +kernel
theorem dX1_book_141 : decode cX1_book 141 = .ok (.iadd, 1) := by decide +kernel
theorem dX1_book_142 : decode cX1_book 142 = .ok (.putfield 36, 3) := by decide +kernel
theorem dX1_book_145 : decode cX1_book 145 = .ok (.aload_n 0, 1) := by decide +kernel
theorem dX1_book_146 : decode cX1_book 146 = .ok (.getfield 39, 3) := by decide +kernel
theorem dX1_book_149 : decode cX1_book 149 = .ok (.iconst 1, 1) := by decide +kernel
theorem dX1_book_150 : decode cX1_book 150 = .ok (.isub, 1) := by decide +kernel
theorem dX1_book_151 : decode cX1_book 151 = .ok (.ireturn, 1) := by decide +kernel
theorem dX1_putInOrder_0 : decode cX1_putInOrder 0 = .ok (.iload_n 1, 1) := by decide +kernel
theorem dX1_putInOrder_1 : decode cX1_putInOrder 1 = .ok (.istore_n 3, 1) := by decide +kernel
theorem dX1_putInOrder_2 : decode cX1_putInOrder 2 = .ok (.iload_n 3, 1) := by decide +kernel
theorem dX1_putInOrder_3 : decode cX1_putInOrder 3 = .ok (.ifCond .le 43, 3) := by decide +kernel
theorem dX1_putInOrder_6 : decode cX1_putInOrder 6 = .ok (.aload_n 0, 1) := by decide +kernel
theorem dX1_putInOrder_7 : decode cX1_putInOrder 7 = .ok (.getfield 17, 3) := by decide +kernel
theorem dX1_putInOrder_10 : decode cX1_putInOrder 10 = .ok (.aload_n 0, 1) := by decide +kernel
theorem dX1_putInOrder_11 : decode cX1_putInOrder 11 = .ok (.getfield 21, 3) := by decide +kernel
theorem dX1_putInOrder_14 : decode cX1_putInOrder 14 = .ok (.iload_n 3, 1) := by decide +kernel
theorem dX1_putInOrder_15 : decode cX1_putInOrder 15 = .ok (.iconst 1, 1) := by decide +kernel
theorem dX1_putInOrder_16 : decode cX1_putInOrder 16 = .ok (.isub, 1) := by decide +kernel
theorem dX1_putInOrder_17 : decode cX1_putInOrder 17 = .ok (.iaload, 1) := by decide +kernel
theorem dX1_putInOrder_18 : decode cX1_putInOrder 18 = .ok (.aaload, 1) := by decide +kernel
theorem dX1_putInOrder_19 : decode cX1_putInOrder 19 = .ok (.getfield 49, 3) := by decide +kernel
theorem dX1_putInOrder_22 : decode cX1_putInOrder 22 = .ok (.iload_n 2, 1) := by decide +kernel
theorem dX1_putInOrder_23 : decode cX1_putInOrder 23 = .ok (.if_icmp .le 23, 3) := by decide +kernel
theorem dX1_putInOrder_26 : decode cX1_putInOrder 26 = .ok (.aload_n 0, 1) := by decide +kernel
theorem dX1_putInOrder_27 : decode cX1_putInOrder 27 = .ok (.getfield 21, 3) := by decide +kernel
theorem dX1_putInOrder_30 : decode cX1_putInOrder 30 = .ok (.iload_n 3, 1) := by decide +kernel
theorem dX1_putInOrder_31 : decode cX1_putInOrder 31 = .ok (.aload_n 0, 1) := by decide +kernel
theorem dX1_putInOrder_32 : decode cX1_putInOrder 32 = .ok (.getfield 21, 3) := by decide +kernel
theorem dX1_putInOrder_35 : decode cX1_putInOrder 35 = .ok (.iload_n 3, 1) := by decide +kernel
theorem dX1_putInOrder_36 : decode cX1_putInOrder 36 = .ok (.iconst 1, 1) := by decide +kernel
theorem dX1_putInOrder_37 : decode cX1_putInOrder 37 = .ok (.isub, 1) := by decide +kernel
theorem dX1_putInOrder_38 : decode cX1_putInOrder 38 = .ok (.iaload, 1) := by decide +kernel
theorem dX1_putInOrder_39 : decode cX1_putInOrder 39 = .ok (.iastore, 1) := by decide +kernel
theorem dX1_putInOrder_40 : decode cX1_putInOrder 40 = .ok (.iinc 3 (-1), 3) := by decide +kernel
theorem dX1_putInOrder_43 : decode cX1_putInOrder 43 = .ok (.goto (-41), 3) := by decide +kernel
theorem dX1_putInOrder_46 : decode cX1_putInOrder 46 = .ok (.aload_n 0, 1) := by decide +kernel
theorem dX1_putInOrder_47 : decode cX1_putInOrder 47 = .ok (.getfield 21, 3) := by decide +kernel
theorem dX1_putInOrder_50 : decode cX1_putInOrder 50 = .ok (.iload_n 3, 1) := by decide +kernel
theorem dX1_putInOrder_51 : decode cX1_putInOrder 51 = .ok (.iload_n 1, 1) := by decide +kernel
theorem dX1_putInOrder_52 : decode cX1_putInOrder 52 = .ok (.iastore, 1) := by decide +kernel
theorem dX1_putInOrder_53 : decode cX1_putInOrder 53 = .ok (.return_, 1) := by decide +kernel
theorem dX1_cancel_0 : decode cX1_cancel 0 = .ok (.aload_n 0, 1) := by decide +kernel
theorem dX1_cancel_1 : decode cX1_cancel 1 = .ok (.iload_n 1, 1) := by decide +kernel
theorem dX1_cancel_2 : decode cX1_cancel 2 = .ok (.invokevirtual 52, 3) := by decide +kernel
theorem dX1_cancel_5 : decode cX1_cancel 5 = .ok (.astore_n 2, 1) := by decide +kernel
theorem dX1_cancel_6 : decode cX1_cancel 6 = .ok (.aload_n 2, 1) := by decide +kernel
theorem dX1_cancel_7 : decode cX1_cancel 7 = .ok (.ifnonnull 5, 3) := by decide +kernel
theorem dX1_cancel_10 : decode cX1_cancel 10 = .ok (.iconst 0, 1) := by decide +kernel
theorem dX1_cancel_11 : decode cX1_cancel 11 = .ok (.ireturn, 1) := by decide +kernel
theorem dX1_cancel_12 : decode cX1_cancel 12 = .ok (.aload_n 2, 1) := by decide +kernel
theorem dX1_cancel_13 : decode cX1_cancel 13 = .ok (.iconst 1, 1) := by decide +kernel
theorem dX1_cancel_14 : decode cX1_cancel 14 = .ok (.putfield 56, 3) := by decide +kernel
theorem dX1_cancel_17 : decode cX1_cancel 17 = .ok (.aload_n 0, 1) := by decide +kernel
theorem dX1_cancel_18 : decode cX1_cancel 18 = .ok (.dup, 1) := by decide +kernel
theorem dX1_cancel_19 : decode cX1_cancel 19 = .ok (.getfield 36, 3) := by decide +kernel
theorem dX1_cancel_22 : decode cX1_cancel 22 = .ok (.iconst 1, 1) := by decide +kernel
theorem dX1_cancel_23 : decode cX1_cancel 23 = .ok (.iadd, 1) := by decide +kernel
theorem dX1_cancel_24 : decode cX1_cancel 24 = .ok (.putfield 36, 3) := by decide +kernel
theorem dX1_cancel_27 : decode cX1_cancel 27 = .ok (.iconst 1, 1) := by decide +kernel
theorem dX1_cancel_28 : decode cX1_cancel 28 = .ok (.ireturn, 1) := by decide +kernel
theorem dX1_find_0 : decode cX1_find 0 = .ok (.iload_n 1, 1) := by decide +kernel
theorem dX1_find_1 : decode cX1_find 1 = .ok (.ifCond .lt 20, 3) := by decide +kernel
theorem dX1_find_4 : decode cX1_find 4 = .ok (.iload_n 1, 1) := by decide +kernel
theorem dX1_find_5 : decode cX1_find 5 = .ok (.aload_n 0, 1) := by decide +kernel
theorem dX1_find_6 : decode cX1_find 6 = .ok (.getfield 39, 3) := by decide +kernel
theorem dX1_find_9 : decode cX1_find 9 = .ok (.if_icmp .ge 12, 3) := by decide +kernel
theorem dX1_find_12 : decode cX1_find 12 = .ok (.aload_n 0, 1) := by decide +kernel
theorem dX1_find_13 : decode cX1_find 13 = .ok (.getfield 17, 3) := by decide +kernel
theorem dX1_find_16 : decode cX1_find 16 = .ok (.iload_n 1, 1) := by decide +kernel
theorem dX1_find_17 : decode cX1_find 17 = .ok (.aaload, 1) := by decide +kernel
theorem dX1_find_18 : decode cX1_find 18 = .ok (.goto 4, 3) := by decide +kernel
theorem dX1_find_21 : decode cX1_find 21 = .ok (.aconst_null, 1) := by decide +kernel
theorem dX1_find_22 : decode cX1_find 22 = .ok (.areturn, 1) := by decide +kernel
theorem dX1_findKept_0 : decode cX1_findKept 0 = .ok (.aload_n 0, 1) := by decide +kernel
theorem dX1_findKept_1 : decode cX1_findKept 1 = .ok (.iload_n 1, 1) := by decide +kernel
theorem dX1_findKept_2 : decode cX1_findKept 2 = .ok (.invokevirtual 60, 3) := by decide +kernel
theorem dX1_findKept_5 : decode cX1_findKept 5 = .ok (.astore_n 2, 1) := by decide +kernel
theorem dX1_findKept_6 : decode cX1_findKept 6 = .ok (.aload_n 2, 1) := by decide +kernel
theorem dX1_findKept_7 : decode cX1_findKept 7 = .ok (.ifnull 10, 3) := by decide +kernel
theorem dX1_findKept_10 : decode cX1_findKept 10 = .ok (.aload_n 2, 1) := by decide +kernel
theorem dX1_findKept_11 : decode cX1_findKept 11 = .ok (.getfield 56, 3) := by decide +kernel
theorem dX1_findKept_14 : decode cX1_findKept 14 = .ok (.ifCond .eq 7, 3) := by decide +kernel
theorem dX1_findKept_17 : decode cX1_findKept 17 = .ok (.aconst_null, 1) := by decide +kernel
theorem dX1_findKept_18 : decode cX1_findKept 18 = .ok (.goto 4, 3) := by decide +kernel
theorem dX1_findKept_21 : decode cX1_findKept 21 = .ok (.aload_n 2, 1) := by decide +kernel
theorem dX1_findKept_22 : decode cX1_findKept 22 = .ok (.areturn, 1) := by decide +kernel
theorem dX1_numberInOrder_0 : decode cX1_numberInOrder 0 = .ok (.iload_n 1, 1) := by decide +kernel
theorem dX1_numberInOrder_1 : decode cX1_numberInOrder 1 = .ok (.ifCond .lt 20, 3) := by decide +kernel
theorem dX1_numberInOrder_4 : decode cX1_numberInOrder 4 = .ok (.iload_n 1, 1) := by decide +kernel
theorem dX1_numberInOrder_5 : decode cX1_numberInOrder 5 = .ok (.aload_n 0, 1) := by decide +kernel
theorem dX1_numberInOrder_6 : decode cX1_numberInOrder 6 = .ok (.getfield 39, 3) := by decide +kernel
theorem dX1_numberInOrder_9 : decode cX1_numberInOrder 9 = .ok (.if_icmp .ge 12, 3) := by decide +kernel
theorem dX1_numberInOrder_12 : decode cX1_numberInOrder 12 = .ok (.aload_n 0, 1) := by decide +kernel
theorem dX1_numberInOrder_13 : decode cX1_numberInOrder 13 = .ok (.getfield 21, 3) := by decide +kernel
theorem dX1_numberInOrder_16 : decode cX1_numberInOrder 16 = .ok (.iload_n 1, 1) := by decide +kernel
theorem dX1_numberInOrder_17 : decode cX1_numberInOrder 17 = .ok (.iaload, 1) := by decide +kernel
theorem dX1_numberInOrder_18 : decode cX1_numberInOrder 18 = .ok (.goto 4, 3) := by decide +kernel
theorem dX1_numberInOrder_21 : decode cX1_numberInOrder 21 = .ok (.iconst (-1), 1) := by decide +kernel
theorem dX1_numberInOrder_22 : decode cX1_numberInOrder 22 = .ok (.ireturn, 1) := by decide +kernel
theorem dX1_keptBits_0 : decode cX1_keptBits 0 = .ok (.iconst 0, 1) := by decide +kernel
theorem dX1_keptBits_1 : decode cX1_keptBits 1 = .ok (.istore_n 1, 1) := by decide +kernel
theorem dX1_keptBits_2 : decode cX1_keptBits 2 = .ok (.iconst 0, 1) := by decide +kernel
theorem dX1_keptBits_3 : decode cX1_keptBits 3 = .ok (.istore_n 2, 1) := by decide +kernel
theorem dX1_keptBits_4 : decode cX1_keptBits 4 = .ok (.iload_n 2, 1) := by decide +kernel
theorem dX1_keptBits_5 : decode cX1_keptBits 5 = .ok (.aload_n 0, 1) := by decide +kernel
theorem dX1_keptBits_6 : decode cX1_keptBits 6 = .ok (.getfield 39, 3) := by decide +kernel
theorem dX1_keptBits_9 : decode cX1_keptBits 9 = .ok (.if_icmp .ge 31, 3) := by decide +kernel
theorem dX1_keptBits_12 : decode cX1_keptBits 12 = .ok (.iload_n 1, 1) := by decide +kernel
theorem dX1_keptBits_13 : decode cX1_keptBits 13 = .ok (.aload_n 0, 1) := by decide +kernel
theorem dX1_keptBits_14 : decode cX1_keptBits 14 = .ok (.getfield 17, 3) := by decide +kernel
theorem dX1_keptBits_17 : decode cX1_keptBits 17 = .ok (.iload_n 2, 1) := by decide +kernel
theorem dX1_keptBits_18 : decode cX1_keptBits 18 = .ok (.aaload, 1) := by decide +kernel
theorem dX1_keptBits_19 : decode cX1_keptBits 19 = .ok (.getfield 56, 3) := by decide +kernel
theorem dX1_keptBits_22 : decode cX1_keptBits 22 = .ok (.ifCond .eq 7, 3) := by decide +kernel
theorem dX1_keptBits_25 : decode cX1_keptBits 25 = .ok (.iconst 0, 1) := by decide +kernel
theorem dX1_keptBits_26 : decode cX1_keptBits 26 = .ok (.goto 6, 3) := by decide +kernel
theorem dX1_keptBits_29 : decode cX1_keptBits 29 = .ok (.iconst 1, 1) := by decide +kernel
theorem dX1_keptBits_30 : decode cX1_keptBits 30 = .ok (.iload_n 2, 1) := by decide +kernel
theorem dX1_keptBits_31 : decode cX1_keptBits 31 = .ok (.ishl, 1) := by decide +kernel
theorem dX1_keptBits_32 : decode cX1_keptBits 32 = .ok (.ior, 1) := by decide +kernel
theorem dX1_keptBits_33 : decode cX1_keptBits 33 = .ok (.istore_n 1, 1) := by decide +kernel
theorem dX1_keptBits_34 : decode cX1_keptBits 34 = .ok (.iinc 2 1, 3) := by decide +kernel
theorem dX1_keptBits_37 : decode cX1_keptBits 37 = .ok (.goto (-33), 3) := by decide +kernel
theorem dX1_keptBits_40 : decode cX1_keptBits 40 = .ok (.iload_n 1, 1) := by decide +kernel
theorem dX1_keptBits_41 : decode cX1_keptBits 41 = .ok (.ireturn, 1) := by decide +kernel
theorem dX1_endOf_0 : decode cX1_endOf 0 = .ok (.aload_n 1, 1) := by decide +kernel
theorem dX1_endOf_1 : decode cX1_endOf 1 = .ok (.getfield 49, 3) := by decide +kernel
theorem dX1_endOf_4 : decode cX1_endOf 4 = .ok (.aload_n 0, 1) := by decide +kernel
theorem dX1_endOf_5 : decode cX1_endOf 5 = .ok (.aload_n 1, 1) := by decide +kernel
theorem dX1_endOf_6 : decode cX1_endOf 6 = .ok (.getfield 63, 3) := by decide +kernel
theorem dX1_endOf_9 : decode cX1_endOf 9 = .ok (.aload_n 1, 1) := by decide +kernel
theorem dX1_endOf_10 : decode cX1_endOf 10 = .ok (.getfield 66, 3) := by decide +kernel
theorem dX1_endOf_13 : decode cX1_endOf 13 = .ok (.invokevirtual 69, 3) := by decide +kernel
theorem dX1_endOf_16 : decode cX1_endOf 16 = .ok (.iadd, 1) := by decide +kernel
theorem dX1_endOf_17 : decode cX1_endOf 17 = .ok (.aload_n 1, 1) := by decide +kernel
theorem dX1_endOf_18 : decode cX1_endOf 18 = .ok (.getfield 73, 3) := by decide +kernel
theorem dX1_endOf_21 : decode cX1_endOf 21 = .ok (.iadd, 1) := by decide +kernel
theorem dX1_endOf_22 : decode cX1_endOf 22 = .ok (.ireturn, 1) := by decide +kernel
theorem dX1_mayFollow_0 : decode cX1_mayFollow 0 = .ok (.aload_n 0, 1) := by decide +kernel
theorem dX1_mayFollow_1 : decode cX1_mayFollow 1 = .ok (.aload_n 1, 1) := by decide +kernel
theorem dX1_mayFollow_2 : decode cX1_mayFollow 2 = .ok (.invokevirtual 76, 3) := by decide +kernel
theorem dX1_mayFollow_5 : decode cX1_mayFollow 5 = .ok (.aload_n 0, 1) := by decide +kernel
theorem dX1_mayFollow_6 : decode cX1_mayFollow 6 = .ok (.aload_n 1, 1) := by decide +kernel
theorem dX1_mayFollow_7 : decode cX1_mayFollow 7 = .ok (.getfield 66, 3) := by decide +kernel
theorem dX1_mayFollow_10 : decode cX1_mayFollow 10 = .ok (.aload_n 2, 1) := by decide +kernel
theorem dX1_mayFollow_11 : decode cX1_mayFollow 11 = .ok (.getfield 63, 3) := by decide +kernel
theorem dX1_mayFollow_14 : decode cX1_mayFollow 14 = .ok (.invokevirtual 69, 3) := by decide +kernel
theorem dX1_mayFollow_17 : decode cX1_mayFollow 17 = .ok (.iadd, 1) := by decide +kernel
theorem dX1_mayFollow_18 : decode cX1_mayFollow 18 = .ok (.aload_n 2, 1) := by decide +kernel
theorem dX1_mayFollow_19 : decode cX1_mayFollow 19 = .ok (.getfield 49, 3) := by decide +kernel
theorem dX1_mayFollow_22 : decode cX1_mayFollow 22 = .ok (.if_icmp .gt 7, 3) := by decide +kernel
theorem dX1_mayFollow_25 : decode cX1_mayFollow 25 = .ok (.iconst 1, 1) := by decide +kernel
theorem dX1_mayFollow_26 : decode cX1_mayFollow 26 = .ok (.goto 4, 3) := by decide +kernel
theorem dX1_mayFollow_29 : decode cX1_mayFollow 29 = .ok (.iconst 0, 1) := by decide +kernel
theorem dX1_mayFollow_30 : decode cX1_mayFollow 30 = .ok (.ireturn, 1) := by decide +kernel
theorem dX1_costOf_0 : decode cX1_costOf 0 = .ok (.aload_n 1, 1) := by decide +kernel
theorem dX1_costOf_1 : decode cX1_costOf 1 = .ok (.getfield 80, 3) := by decide +kernel
theorem dX1_costOf_4 : decode cX1_costOf 4 = .ok (.iconst 2, 1) := by decide +kernel
theorem dX1_costOf_5 : decode cX1_costOf 5 = .ok (.if_icmp .ne 7, 3) := by decide +kernel
theorem dX1_costOf_8 : decode cX1_costOf 8 = .ok (.iconst 3, 1) := by decide +kernel
theorem dX1_costOf_9 : decode cX1_costOf 9 = .ok (.goto 4, 3) := by decide +kernel
theorem dX1_costOf_12 : decode cX1_costOf 12 = .ok (.iconst 2, 1) := by decide +kernel
theorem dX1_costOf_13 : decode cX1_costOf 13 = .ok (.istore_n 2, 1) := by decide +kernel
theorem dX1_costOf_14 : decode cX1_costOf 14 = .ok (.iload_n 2, 1) := by decide +kernel
theorem dX1_costOf_15 : decode cX1_costOf 15 = .ok (.aload_n 0, 1) := by decide +kernel
theorem dX1_costOf_16 : decode cX1_costOf 16 = .ok (.aload_n 1, 1) := by decide +kernel
theorem dX1_costOf_17 : decode cX1_costOf 17 = .ok (.getfield 63, 3) := by decide +kernel
theorem dX1_costOf_20 : decode cX1_costOf 20 = .ok (.aload_n 1, 1) := by decide +kernel
theorem dX1_costOf_21 : decode cX1_costOf 21 = .ok (.getfield 66, 3) := by decide +kernel
theorem dX1_costOf_24 : decode cX1_costOf 24 = .ok (.invokevirtual 69, 3) := by decide +kernel
theorem dX1_costOf_27 : decode cX1_costOf 27 = .ok (.imul, 1) := by decide +kernel
theorem dX1_costOf_28 : decode cX1_costOf 28 = .ok (.aload_n 1, 1) := by decide +kernel
theorem dX1_costOf_29 : decode cX1_costOf 29 = .ok (.getfield 73, 3) := by decide +kernel
theorem dX1_costOf_32 : decode cX1_costOf 32 = .ok (.iconst 2, 1) := by decide +kernel
theorem dX1_costOf_33 : decode cX1_costOf 33 = .ok (.idiv, 1) := by decide +kernel
theorem dX1_costOf_34 : decode cX1_costOf 34 = .ok (.iadd, 1) := by decide +kernel
theorem dX1_costOf_35 : decode cX1_costOf 35 = .ok (.ireturn, 1) := by decide +kernel
theorem dX2_init_0 : decode cX2_init 0 = .ok (.aload_n 0, 1) := by decide +kernel
theorem dX2_init_1 : decode cX2_init 1 = .ok (.invokespecial 1, 3) := by decide +kernel
theorem dX2_init_4 : decode cX2_init 4 = .ok (.aload_n 0, 1) := by decide +kernel
theorem dX2_init_5 : decode cX2_init 5 = .ok (.iload_n 1, 1) := by decide +kernel
theorem dX2_init_6 : decode cX2_init 6 = .ok (.putfield 7, 3) := by decide +kernel
theorem dX2_init_9 : decode cX2_init 9 = .ok (.aload_n 0, 1) := by decide +kernel
theorem dX2_init_10 : decode cX2_init 10 = .ok (.iload_n 2, 1) := by decide +kernel
theorem dX2_init_11 : decode cX2_init 11 = .ok (.putfield 13, 3) := by decide +kernel
theorem dX2_init_14 : decode cX2_init 14 = .ok (.aload_n 0, 1) := by decide +kernel
theorem dX2_init_15 : decode cX2_init 15 = .ok (.iload_n 3, 1) := by decide +kernel
theorem dX2_init_16 : decode cX2_init 16 = .ok (.putfield 16, 3) := by decide +kernel
theorem dX2_init_19 : decode cX2_init 19 = .ok (.aload_n 0, 1) := by decide +kernel
theorem dX2_init_20 : decode cX2_init 20 = .ok (.iload 4, 2) := by decide +kernel
theorem dX2_init_22 : decode cX2_init 22 = .ok (.putfield 19, 3) := by decide +kernel
theorem dX2_init_25 : decode cX2_init 25 = .ok (.return_, 1) := by decide +kernel
theorem dX3_init_0 : decode cX3_init 0 = .ok (.aload_n 0, 1) := by decide +kernel
theorem dX3_init_1 : decode cX3_init 1 = .ok (.invokespecial 1, 3) := by decide +kernel
theorem dX3_init_4 : decode cX3_init 4 = .ok (.aload_n 0, 1) := by decide +kernel
theorem dX3_init_5 : decode cX3_init 5 = .ok (.iload_n 1, 1) := by decide +kernel
theorem dX3_init_6 : decode cX3_init 6 = .ok (.putfield 7, 3) := by decide +kernel
theorem dX3_init_9 : decode cX3_init 9 = .ok (.aload_n 0, 1) := by decide +kernel
theorem dX3_init_10 : decode cX3_init 10 = .ok (.iload_n 2, 1) := by decide +kernel
theorem dX3_init_11 : decode cX3_init 11 = .ok (.putfield 13, 3) := by decide +kernel
theorem dX3_init_14 : decode cX3_init 14 = .ok (.aload_n 0, 1) := by decide +kernel
theorem dX3_init_15 : decode cX3_init 15 = .ok (.iload_n 3, 1) := by decide +kernel
theorem dX3_init_16 : decode cX3_init 16 = .ok (.putfield 16, 3) := by decide +kernel
theorem dX3_init_19 : decode cX3_init 19 = .ok (.aload_n 0, 1) := by decide +kernel
theorem dX3_init_20 : decode cX3_init 20 = .ok (.iload 4, 2) := by decide +kernel
theorem dX3_init_22 : decode cX3_init 22 = .ok (.putfield 19, 3) := by decide +kernel
theorem dX3_init_25 : decode cX3_init 25 = .ok (.aload_n 0, 1) := by decide +kernel
theorem dX3_init_26 : decode cX3_init 26 = .ok (.iload 5, 2) := by decide +kernel
theorem dX3_init_28 : decode cX3_init 28 = .ok (.putfield 22, 3) := by decide +kernel
theorem dX3_init_31 : decode cX3_init 31 = .ok (.aload_n 0, 1) := by decide +kernel
theorem dX3_init_32 : decode cX3_init 32 = .ok (.iload 6, 2) := by decide +kernel
theorem dX3_init_34 : decode cX3_init 34 = .ok (.putfield 25, 3) := by decide +kernel
theorem dX3_init_37 : decode cX3_init 37 = .ok (.aload_n 0, 1) := by decide +kernel
theorem dX3_init_38 : decode cX3_init 38 = .ok (.aload 7, 2) := by decide +kernel
theorem dX3_init_40 : decode cX3_init 40 = .ok (.putfield 28, 3) := by decide +kernel
theorem dX3_init_43 : decode cX3_init 43 = .ok (.return_, 1) := by decide +kernel
theorem dX4_init_0 : decode cX4_init 0 = .ok (.aload_n 0, 1) := by decide +kernel
theorem dX4_init_1 : decode cX4_init 1 = .ok (.invokespecial 5, 3) := by decide +kernel
theorem dX4_init_4 : decode cX4_init 4 = .ok (.aload_n 0, 1) := by decide +kernel
theorem dX4_init_5 : decode cX4_init 5 = .ok (.sipush 1024, 3) := by decide +kernel
theorem dX4_init_8 : decode cX4_init 8 = .ok (.newarray .long, 2) := by decide +kernel
theorem dX4_init_10 : decode cX4_init 10 = .ok (.putfield 11, 3) := by decide +kernel
theorem dX4_init_13 : decode cX4_init 13 = .ok (.aload_n 0, 1) := by decide +kernel
theorem dX4_init_14 : decode cX4_init 14 = .ok (.sipush 1024, 3) := by decide +kernel
theorem dX4_init_17 : decode cX4_init 17 = .ok (.newarray .long, 2) := by decide +kernel
theorem dX4_init_19 : decode cX4_init 19 = .ok (.putfield 15, 3) := by decide +kernel
theorem dX4_init_22 : decode cX4_init 22 = .ok (.aload_n 0, 1) := by decide +kernel
theorem dX4_init_23 : decode cX4_init 23 = .ok (.bipush 10, 2) := by decide +kernel
theorem dX4_init_25 : decode cX4_init 25 = .ok (.newarray .int, 2) := by decide +kernel
theorem dX4_init_27 : decode cX4_init 27 = .ok (.putfield 18, 3) := by decide +kernel
theorem dX4_init_30 : decode cX4_init 30 = .ok (.aload_n 0, 1) := by decide +kernel
theorem dX4_init_31 : decode cX4_init 31 = .ok (.iconst (-1), 1) := by decide +kernel
theorem dX4_init_32 : decode cX4_init 32 = .ok (.putfield 22, 3) := by decide +kernel
theorem dX4_init_35 : decode cX4_init 35 = .ok (.aload_n 0, 1) := by decide +kernel
theorem dX4_init_36 : decode cX4_init 36 = .ok (.aload_n 1, 1) := by decide +kernel
theorem dX4_init_37 : decode cX4_init 37 = .ok (.putfield 26, 3) := by decide +kernel
theorem dX4_init_40 : decode cX4_init 40 = .ok (.return_, 1) := by decide +kernel
theorem dX4_chainNumber_0 : decode cX4_chainNumber 0 = .ok (.iload_n 1, 1) := by decide +kernel
theorem dX4_chainNumber_1 : decode cX4_chainNumber 1 = .ok (.ifCond .lt 21, 3) := by decide +kernel
theorem dX4_chainNumber_4 : decode cX4_chainNumber 4 = .ok (.iload_n 1, 1) := by decide +kernel
theorem dX4_chainNumber_5 : decode cX4_chainNumber 5 = .ok (.aload_n 0, 1) := by decide +kernel
theorem dX4_chainNumber_6 : decode cX4_chainNumber 6 = .ok (.getfield 18, 3) := by decide +kernel
theorem dX4_chainNumber_9 : decode cX4_chainNumber 9 = .ok (.arraylength, 1) := by decide +kernel
theorem dX4_chainNumber_10 : decode cX4_chainNumber 10 = .ok (.if_icmp .ge 12, 3) := by decide +kernel
theorem dX4_chainNumber_13 : decode cX4_chainNumber 13 = .ok (.aload_n 0, 1) := by decide +kernel
theorem dX4_chainNumber_14 : decode cX4_chainNumber 14 = .ok (.getfield 18, 3) := by decide +kernel
theorem dX4_chainNumber_17 : decode cX4_chainNumber 17 = .ok (.iload_n 1, 1) := by decide +kernel
theorem dX4_chainNumber_18 : decode cX4_chainNumber 18 = .ok (.iaload, 1) := by decide +kernel
theorem dX4_chainNumber_19 : decode cX4_chainNumber 19 = .ok (.goto 4, 3) := by decide +kernel
theorem dX4_chainNumber_22 : decode cX4_chainNumber 22 = .ok (.iconst (-1), 1) := by decide +kernel
theorem dX4_chainNumber_23 : decode cX4_chainNumber 23 = .ok (.ireturn, 1) := by decide +kernel
theorem dX4_refresh_0 : decode cX4_refresh 0 = .ok (.aload_n 0, 1) := by decide +kernel
theorem dX4_refresh_1 : decode cX4_refresh 1 = .ok (.getfield 22, 3) := by decide +kernel
theorem dX4_refresh_4 : decode cX4_refresh 4 = .ok (.aload_n 0, 1) := by decide +kernel
theorem dX4_refresh_5 : decode cX4_refresh 5 = .ok (.getfield 26, 3) := by decide +kernel
theorem dX4_refresh_8 : decode cX4_refresh 8 = .ok (.getfield 30, 3) := by decide +kernel
theorem dX4_refresh_11 : decode cX4_refresh 11 = .ok (.if_icmp .ne 4, 3) := by decide +kernel
theorem dX4_refresh_14 : decode cX4_refresh 14 = .ok (.return_, 1) := by decide +kernel
theorem dX4_refresh_15 : decode cX4_refresh 15 = .ok (.aload_n 0, 1) := by decide +kernel
theorem dX4_refresh_16 : decode cX4_refresh 16 = .ok (.aload_n 0, 1) := by decide +kernel
theorem dX4_refresh_17 : decode cX4_refresh 17 = .ok (.getfield 26, 3) := by decide +kernel
theorem dX4_refresh_20 : decode cX4_refresh 20 = .ok (.getfield 30, 3) := by decide +kernel
theorem dX4_refresh_23 : decode cX4_refresh 23 = .ok (.putfield 22, 3) := by decide +kernel
theorem dX4_refresh_26 : decode cX4_refresh 26 = .ok (.aload_n 0, 1) := by decide +kernel
theorem dX4_refresh_27 : decode cX4_refresh 27 = .ok (.getfield 26, 3) := by decide +kernel
theorem dX4_refresh_30 : decode cX4_refresh 30 = .ok (.invokevirtual 35, 3) := by decide +kernel
theorem dX4_refresh_33 : decode cX4_refresh 33 = .ok (.istore_n 1, 1) := by decide +kernel
theorem dX4_refresh_34 : decode cX4_refresh 34 = .ok (.aload_n 0, 1) := by decide +kernel
theorem dX4_refresh_35 : decode cX4_refresh 35 = .ok (.iload_n 1, 1) := by decide +kernel
theorem dX4_refresh_36 : decode cX4_refresh 36 = .ok (.invokevirtual 39, 3) := by decide +kernel
theorem dX4_refresh_39 : decode cX4_refresh 39 = .ok (.aload_n 0, 1) := by decide +kernel
theorem dX4_refresh_40 : decode cX4_refresh 40 = .ok (.iload_n 1, 1) := by decide +kernel
theorem dX4_refresh_41 : decode cX4_refresh 41 = .ok (.aload_n 0, 1) := by decide +kernel
theorem dX4_refresh_42 : decode cX4_refresh 42 = .ok (.getfield 26, 3) := by decide +kernel
theorem dX4_refresh_45 : decode cX4_refresh 45 = .ok (.getfield 43, 3) := by decide +kernel
theorem dX4_refresh_48 : decode cX4_refresh 48 = .ok (.invokevirtual 46, 3) := by decide +kernel
theorem dX4_refresh_51 : decode cX4_refresh 51 = .ok (.lstore_n 2, 1) := by decide +kernel
theorem dX4_refresh_52 : decode cX4_refresh 52 = .ok (.aload_n 0, 1) := by decide +kernel
theorem dX4_refresh_53 : decode cX4_refresh 53 = .ok (.getfield 18, 3) := by decide +kernel
theorem dX4_refresh_56 : decode cX4_refresh 56 = .ok (.iconst (-1), 1) := by decide +kernel
theorem dX4_refresh_57 : decode cX4_refresh 57 = .ok (.invokestatic 50, 3) := by decide +kernel
theorem dX4_refresh_60 : decode cX4_refresh 60 = .ok (.lload_n 2, 1) := by decide +kernel
theorem dX4_refresh_61 : decode cX4_refresh 61 = .ok (.ldc2_w 56, 3) := by decide +kernel
theorem dX4_refresh_64 : decode cX4_refresh 64 = .ok (.lcmp, 1) := by decide +kernel
theorem dX4_refresh_65 : decode cX4_refresh 65 = .ok (.ifCond .lt 16, 3) := by decide +kernel
theorem dX4_refresh_68 : decode cX4_refresh 68 = .ok (.aload_n 0, 1) := by decide +kernel
theorem dX4_refresh_69 : decode cX4_refresh 69 = .ok (.bipush (-2), 2) := by decide +kernel
theorem dX4_refresh_71 : decode cX4_refresh 71 = .ok (.putfield 58, 3) := by decide +kernel
theorem dX4_refresh_74 : decode cX4_refresh 74 = .ok (.aload_n 0, 1) := by decide +kernel
theorem dX4_refresh_75 : decode cX4_refresh 75 = .ok (.bipush (-2), 2) := by decide +kernel
theorem dX4_refresh_77 : decode cX4_refresh 77 = .ok (.putfield 61, 3) := by decide +kernel
theorem dX4_refresh_80 : decode cX4_refresh 80 = .ok (.return_, 1) := by decide +kernel
theorem dX4_refresh_81 : decode cX4_refresh 81 = .ok (.aload_n 0, 1) := by decide +kernel
theorem dX4_refresh_82 : decode cX4_refresh 82 = .ok (.lload_n 2, 1) := by decide +kernel
theorem dX4_refresh_83 : decode cX4_refresh 83 = .ok (.bipush 40, 2) := by decide +kernel
theorem dX4_refresh_85 : decode cX4_refresh 85 = .ok (.lushr, 1) := by decide +kernel
theorem dX4_refresh_86 : decode cX4_refresh 86 = .ok (.l2i, 1) := by decide +kernel
theorem dX4_refresh_87 : decode cX4_refresh 87 = .ok (.putfield 58, 3) := by decide +kernel
theorem dX4_refresh_90 : decode cX4_refresh 90 = .ok (.aload_n 0, 1) := by decide +kernel
theorem dX4_refresh_91 : decode cX4_refresh 91 = .ok (.lload_n 2, 1) := by decide +kernel
theorem dX4_refresh_92 : decode cX4_refresh 92 = .ok (.iload_n 1, 1) := by decide +kernel
theorem dX4_refresh_93 : decode cX4_refresh 93 = .ok (.invokevirtual 64, 3) := by decide +kernel
theorem dX4_refresh_96 : decode cX4_refresh 96 = .ok (.return_, 1) := by decide +kernel
theorem dX4_weighChains_0 : decode cX4_weighChains 0 = .ok (.iload_n 1, 1) := by decide +kernel
theorem dX4_weighChains_1 : decode cX4_weighChains 1 = .ok (.istore_n 2, 1) := by decide +kernel
theorem dX4_weighChains_2 : decode cX4_weighChains 2 = .ok (.iload_n 2, 1) := by decide +kernel
theorem dX4_weighChains_3 : decode cX4_weighChains 3 = .ok (.ifCond .le 35, 3) := by decide +kernel
theorem dX4_weighChains_6 : decode cX4_weighChains 6 = .ok (.aload_n 0, 1) := by decide +kernel
theorem dX4_weighChains_7 : decode cX4_weighChains 7 = .ok (.getfield 11, 3) := by decide +kernel
theorem dX4_weighChains_10 : decode cX4_weighChains 10 = .ok (.iload_n 2, 1) := by decide +kernel
theorem dX4_weighChains_11 : decode cX4_weighChains 11 = .ok (.aload_n 0, 1) := by decide +kernel
theorem dX4_weighChains_12 : decode cX4_weighChains 12 = .ok (.iload_n 2, 1) := by decide +kernel
theorem dX4_weighChains_13 : decode cX4_weighChains 13 = .ok (.invokevirtual 68, 3) := by decide +kernel
theorem dX4_weighChains_16 : decode cX4_weighChains 16 = .ok (.lastore, 1) := by decide +kernel
theorem dX4_weighChains_17 : decode cX4_weighChains 17 = .ok (.aload_n 0, 1) := by decide +kernel
theorem dX4_weighChains_18 : decode cX4_weighChains 18 = .ok (.getfield 15, 3) := by decide +kernel
theorem dX4_weighChains_21 : decode cX4_weighChains 21 = .ok (.iload_n 2, 1) := by decide +kernel
theorem dX4_weighChains_22 : decode cX4_weighChains 22 = .ok (.aload_n 0, 1) := by decide +kernel
theorem dX4_weighChains_23 : decode cX4_weighChains 23 = .ok (.getfield 11, 3) := by decide +kernel
theorem dX4_weighChains_26 : decode cX4_weighChains 26 = .ok (.iload_n 2, 1) := by decide +kernel
theorem dX4_weighChains_27 : decode cX4_weighChains 27 = .ok (.laload, 1) := by decide +kernel
theorem dX4_weighChains_28 : decode cX4_weighChains 28 = .ok (.lastore, 1) := by decide +kernel
theorem dX4_weighChains_29 : decode cX4_weighChains 29 = .ok (.iload_n 2, 1) := by decide +kernel
theorem dX4_weighChains_30 : decode cX4_weighChains 30 = .ok (.iconst 1, 1) := by decide +kernel
theorem dX4_weighChains_31 : decode cX4_weighChains 31 = .ok (.isub, 1) := by decide +kernel
theorem dX4_weighChains_32 : decode cX4_weighChains 32 = .ok (.iload_n 1, 1) := by decide +kernel
theorem dX4_weighChains_33 : decode cX4_weighChains 33 = .ok (.iand, 1) := by decide +kernel
theorem dX4_weighChains_34 : decode cX4_weighChains 34 = .ok (.istore_n 2, 1) := by decide +kernel
theorem dX4_weighChains_35 : decode cX4_weighChains 35 = .ok (.goto (-33), 3) := by decide +kernel
theorem dX4_weighChains_38 : decode cX4_weighChains 38 = .ok (.return_, 1) := by decide +kernel
theorem dX4_chainKey_0 : decode cX4_chainKey 0 = .ok (.lconst 0, 1) := by decide +kernel
theorem dX4_chainKey_1 : decode cX4_chainKey 1 = .ok (.lstore_n 2, 1) := by decide +kernel
theorem dX4_chainKey_2 : decode cX4_chainKey 2 = .ok (.aconst_null, 1) := by decide +kernel
theorem dX4_chainKey_3 : decode cX4_chainKey 3 = .ok (.astore 4, 2) := by decide +kernel
theorem dX4_chainKey_5 : decode cX4_chainKey 5 = .ok (.iconst 0, 1) := by decide +kernel
theorem dX4_chainKey_6 : decode cX4_chainKey 6 = .ok (.istore 5, 2) := by decide +kernel
theorem dX4_chainKey_8 : decode cX4_chainKey 8 = .ok (.iload 5, 2) := by decide +kernel
theorem dX4_chainKey_10 : decode cX4_chainKey 10 = .ok (.aload_n 0, 1) := by decide +kernel
theorem dX4_chainKey_11 : decode cX4_chainKey 11 = .ok (.getfield 26, 3) := by decide +kernel
theorem dX4_chainKey_14 : decode cX4_chainKey 14 = .ok (.getfield 72, 3) := by decide +kernel
theorem dX4_chainKey_17 : decode cX4_chainKey 17 = .ok (.if_icmp .ge 105, 3) := by decide +kernel
theorem dX4_chainKey_20 : decode cX4_chainKey 20 = .ok (.aload_n 0, 1) := by decide +kernel
theorem dX4_chainKey_21 : decode cX4_chainKey 21 = .ok (.getfield 26, 3) := by decide +kernel
theorem dX4_chainKey_24 : decode cX4_chainKey 24 = .ok (.iload 5, 2) := by decide +kernel
theorem dX4_chainKey_26 : decode cX4_chainKey 26 = .ok (.invokevirtual 75, 3) := by decide +kernel
theorem dX4_chainKey_29 : decode cX4_chainKey 29 = .ok (.istore 6, 2) := by decide +kernel
theorem dX4_chainKey_31 : decode cX4_chainKey 31 = .ok (.aload_n 0, 1) := by decide +kernel
theorem dX4_chainKey_32 : decode cX4_chainKey 32 = .ok (.getfield 26, 3) := by decide +kernel
theorem dX4_chainKey_35 : decode cX4_chainKey 35 = .ok (.iload 6, 2) := by decide +kernel
theorem dX4_chainKey_37 : decode cX4_chainKey 37 = .ok (.invokevirtual 79, 3) := by decide +kernel
theorem dX4_chainKey_40 : decode cX4_chainKey 40 = .ok (.astore 7, 2) := by decide +kernel
theorem dX4_chainKey_42 : decode cX4_chainKey 42 = .ok (.aload 7, 2) := by decide +kernel
theorem dX4_chainKey_44 : decode cX4_chainKey 44 = .ok (.ifnull 72, 3) := by decide +kernel
theorem dX4_chainKey_47 : decode cX4_chainKey 47 = .ok (.iload_n 1, 1) := by decide +kernel
theorem dX4_chainKey_48 : decode cX4_chainKey 48 = .ok (.iload 6, 2) := by decide +kernel
theorem dX4_chainKey_50 : decode cX4_chainKey 50 = .ok (.invokestatic 83, 3) := by decide +kernel
theorem dX4_chainKey_53 : decode cX4_chainKey 53 = .ok (.ifCond .ne 6, 3) := by decide +kernel
theorem dX4_chainKey_56 : decode cX4_chainKey 56 = .ok (.goto 60, 3) := by decide +kernel
theorem dX4_chainKey_59 : decode cX4_chainKey 59 = .ok (.aload 4, 2) := by decide +kernel
theorem dX4_chainKey_61 : decode cX4_chainKey 61 = .ok (.ifnull 21, 3) := by decide +kernel
theorem dX4_chainKey_64 : decode cX4_chainKey 64 = .ok (.aload_n 0, 1) := by decide +kernel
theorem dX4_chainKey_65 : decode cX4_chainKey 65 = .ok (.getfield 26, 3) := by decide +kernel
theorem dX4_chainKey_68 : decode cX4_chainKey 68 = .ok (.aload 4, 2) := by decide +kernel
theorem dX4_chainKey_70 : decode cX4_chainKey 70 = .ok (.aload 7, 2) := by decide +kernel
theorem dX4_chainKey_72 : decode cX4_chainKey 72 = .ok (.invokevirtual 87, 3) := by decide +kernel
theorem dX4_chainKey_75 : decode cX4_chainKey 75 = .ok (.ifCond .ne 7, 3) := by decide +kernel
theorem dX4_chainKey_78 : decode cX4_chainKey 78 = .ok (.ldc2_w 56, 3) := by decide +kernel
theorem dX4_chainKey_81 : decode cX4_chainKey 81 = .ok (.lreturn, 1) := by decide +kernel
theorem dX4_chainKey_82 : decode cX4_chainKey 82 = .ok (.lload_n 2, 1) := by decide +kernel
theorem dX4_chainKey_83 : decode cX4_chainKey 83 = .ok (.aload_n 0, 1) := by decide +kernel
theorem dX4_chainKey_84 : decode cX4_chainKey 84 = .ok (.getfield 26, 3) := by decide +kernel
theorem dX4_chainKey_87 : decode cX4_chainKey 87 = .ok (.aload 4, 2) := by decide +kernel
theorem dX4_chainKey_89 : decode cX4_chainKey 89 = .ok (.ifnonnull 7, 3) := by decide +kernel
theorem dX4_chainKey_92 : decode cX4_chainKey 92 = .ok (.iconst 0, 1) := by decide +kernel
theorem dX4_chainKey_93 : decode cX4_chainKey 93 = .ok (.goto 8, 3) := by decide +kernel
theorem dX4_chainKey_96 : decode cX4_chainKey 96 = .ok (.aload 4, 2) := by decide +kernel
theorem dX4_chainKey_98 : decode cX4_chainKey 98 = .ok (.getfield 91, 3) := by decide +kernel
theorem dX4_chainKey_101 : decode cX4_chainKey 101 = .ok (.aload 7, 2) := by decide +kernel
theorem dX4_chainKey_103 : decode cX4_chainKey 103 = .ok (.getfield 96, 3) := by decide +kernel
theorem dX4_chainKey_106 : decode cX4_chainKey 106 = .ok (.invokevirtual 99, 3) := by decide +kernel
theorem dX4_chainKey_109 : decode cX4_chainKey 109 = .ok (.i2l, 1) := by decide +kernel
theorem dX4_chainKey_110 : decode cX4_chainKey 110 = .ok (.ladd, 1) := by decide +kernel
theorem dX4_chainKey_111 : decode cX4_chainKey 111 = .ok (.lstore_n 2, 1) := by decide +kernel
theorem dX4_chainKey_112 : decode cX4_chainKey 112 = .ok (.aload 7, 2) := by decide +kernel
theorem dX4_chainKey_114 : decode cX4_chainKey 114 = .ok (.astore 4, 2) := by decide +kernel
theorem dX4_chainKey_116 : decode cX4_chainKey 116 = .ok (.iinc 5 1, 3) := by decide +kernel
theorem dX4_chainKey_119 : decode cX4_chainKey 119 = .ok (.goto (-111), 3) := by decide +kernel
theorem dX4_chainKey_122 : decode cX4_chainKey 122 = .ok (.lload_n 2, 1) := by decide +kernel
theorem dX4_chainKey_123 : decode cX4_chainKey 123 = .ok (.aload 4, 2) := by decide +kernel
theorem dX4_chainKey_125 : decode cX4_chainKey 125 = .ok (.ifnonnull 7, 3) := by decide +kernel
theorem dX4_chainKey_128 : decode cX4_chainKey 128 = .ok (.lconst 0, 1) := by decide +kernel
theorem dX4_chainKey_129 : decode cX4_chainKey 129 = .ok (.goto 17, 3) := by decide +kernel
theorem dX4_chainKey_132 : decode cX4_chainKey 132 = .ok (.aload_n 0, 1) := by decide +kernel
theorem dX4_chainKey_133 : decode cX4_chainKey 133 = .ok (.getfield 26, 3) := by decide +kernel
theorem dX4_chainKey_136 : decode cX4_chainKey 136 = .ok (.aload 4, 2) := by decide +kernel
theorem dX4_chainKey_138 : decode cX4_chainKey 138 = .ok (.getfield 91, 3) := by decide +kernel
theorem dX4_chainKey_141 : decode cX4_chainKey 141 = .ok (.iconst 0, 1) := by decide +kernel
theorem dX4_chainKey_142 : decode cX4_chainKey 142 = .ok (.invokevirtual 99, 3) := by decide +kernel
theorem dX4_chainKey_145 : decode cX4_chainKey 145 = .ok (.i2l, 1) := by decide +kernel
theorem dX4_chainKey_146 : decode cX4_chainKey 146 = .ok (.ladd, 1) := by decide +kernel
theorem dX4_chainKey_147 : decode cX4_chainKey 147 = .ok (.lstore_n 2, 1) := by decide +kernel
theorem dX4_chainKey_148 : decode cX4_chainKey 148 = .ok (.lload_n 2, 1) := by decide +kernel
theorem dX4_chainKey_149 : decode cX4_chainKey 149 = .ok (.bipush 40, 2) := by decide +kernel
theorem dX4_chainKey_151 : decode cX4_chainKey 151 = .ok (.lshl, 1) := by decide +kernel
theorem dX4_chainKey_152 : decode cX4_chainKey 152 = .ok (.iload_n 1, 1) := by decide +kernel
theorem dX4_chainKey_153 : decode cX4_chainKey 153 = .ok (.invokestatic 103, 3) := by decide +kernel
theorem dX4_chainKey_156 : decode cX4_chainKey 156 = .ok (.ladd, 1) := by decide +kernel
theorem dX4_chainKey_157 : decode cX4_chainKey 157 = .ok (.lreturn, 1) := by decide +kernel
theorem dX4_leastJobs_0 : decode cX4_leastJobs 0 = .ok (.iconst (-1), 1) := by decide +kernel
theorem dX4_leastJobs_1 : decode cX4_leastJobs 1 = .ok (.istore_n 1, 1) := by decide +kernel
theorem dX4_leastJobs_2 : decode cX4_leastJobs 2 = .ok (.lconst 0, 1) := by decide +kernel
theorem dX4_leastJobs_3 : decode cX4_leastJobs 3 = .ok (.lstore_n 2, 1) := by decide +kernel
theorem dX4_leastJobs_4 : decode cX4_leastJobs 4 = .ok (.iconst 0, 1) := by decide +kernel
theorem dX4_leastJobs_5 : decode cX4_leastJobs 5 = .ok (.istore 4, 2) := by decide +kernel
theorem dX4_leastJobs_7 : decode cX4_leastJobs 7 = .ok (.iload 4, 2) := by decide +kernel
theorem dX4_leastJobs_9 : decode cX4_leastJobs 9 = .ok (.bipush 10, 2) := by decide +kernel
theorem dX4_leastJobs_11 : decode cX4_leastJobs 11 = .ok (.if_icmp .ge 41, 3) := by decide +kernel
theorem dX4_leastJobs_14 : decode cX4_leastJobs 14 = .ok (.iload_n 0, 1) := by decide +kernel
theorem dX4_leastJobs_15 : decode cX4_leastJobs 15 = .ok (.iload 4, 2) := by decide +kernel
theorem dX4_leastJobs_17 : decode cX4_leastJobs 17 = .ok (.invokestatic 83, 3) := by decide +kernel
theorem dX4_leastJobs_20 : decode cX4_leastJobs 20 = .ok (.ifCond .eq 26, 3) := by decide +kernel
theorem dX4_leastJobs_23 : decode cX4_leastJobs 23 = .ok (.iload_n 1, 1) := by decide +kernel
theorem dX4_leastJobs_24 : decode cX4_leastJobs 24 = .ok (.iconst (-1), 1) := by decide +kernel
theorem dX4_leastJobs_25 : decode cX4_leastJobs 25 = .ok (.if_icmp .ne 8, 3) := by decide +kernel
theorem dX4_leastJobs_28 : decode cX4_leastJobs 28 = .ok (.iload 4, 2) := by decide +kernel
theorem dX4_leastJobs_30 : decode cX4_leastJobs 30 = .ok (.goto 4, 3) := by decide +kernel
theorem dX4_leastJobs_33 : decode cX4_leastJobs 33 = .ok (.iload_n 1, 1) := by decide +kernel
theorem dX4_leastJobs_34 : decode cX4_leastJobs 34 = .ok (.istore_n 1, 1) := by decide +kernel
theorem dX4_leastJobs_35 : decode cX4_leastJobs 35 = .ok (.lload_n 2, 1) := by decide +kernel
theorem dX4_leastJobs_36 : decode cX4_leastJobs 36 = .ok (.iload_n 1, 1) := by decide +kernel
theorem dX4_leastJobs_37 : decode cX4_leastJobs 37 = .ok (.i2l, 1) := by decide +kernel
theorem dX4_leastJobs_38 : decode cX4_leastJobs 38 = .ok (.iload 4, 2) := by decide +kernel
theorem dX4_leastJobs_40 : decode cX4_leastJobs 40 = .ok (.invokestatic 106, 3) := by decide +kernel
theorem dX4_leastJobs_43 : decode cX4_leastJobs 43 = .ok (.lshl, 1) := by decide +kernel
theorem dX4_leastJobs_44 : decode cX4_leastJobs 44 = .ok (.ladd, 1) := by decide +kernel
theorem dX4_leastJobs_45 : decode cX4_leastJobs 45 = .ok (.lstore_n 2, 1) := by decide +kernel
theorem dX4_leastJobs_46 : decode cX4_leastJobs 46 = .ok (.iinc 4 1, 3) := by decide +kernel
theorem dX4_leastJobs_49 : decode cX4_leastJobs 49 = .ok (.goto (-42), 3) := by decide +kernel
theorem dX4_leastJobs_52 : decode cX4_leastJobs 52 = .ok (.lload_n 2, 1) := by decide +kernel
theorem dX4_leastJobs_53 : decode cX4_leastJobs 53 = .ok (.lreturn, 1) := by decide +kernel
theorem dX4_shiftOf_0 : decode cX4_shiftOf 0 = .ok (.iconst 4, 1) := by decide +kernel
theorem dX4_shiftOf_1 : decode cX4_shiftOf 1 = .ok (.bipush 9, 2) := by decide +kernel
theorem dX4_shiftOf_3 : decode cX4_shiftOf 3 = .ok (.iload_n 0, 1) := by decide +kernel
theorem dX4_shiftOf_4 : decode cX4_shiftOf 4 = .ok (.isub, 1) := by decide +kernel
theorem dX4_shiftOf_5 : decode cX4_shiftOf 5 = .ok (.imul, 1) := by decide +kernel
theorem dX4_shiftOf_6 : decode cX4_shiftOf 6 = .ok (.ireturn, 1) := by decide +kernel
theorem dX4_leastLay_0 : decode cX4_leastLay 0 = .ok (.iload_n 1, 1) := by decide +kernel
theorem dX4_leastLay_1 : decode cX4_leastLay 1 = .ok (.ifCond .ne 5, 3) := by decide +kernel
theorem dX4_leastLay_4 : decode cX4_leastLay 4 = .ok (.lconst 0, 1) := by decide +kernel
theorem dX4_leastLay_5 : decode cX4_leastLay 5 = .ok (.lreturn, 1) := by decide +kernel
theorem dX4_leastLay_6 : decode cX4_leastLay 6 = .ok (.iload_n 2, 1) := by decide +kernel
theorem dX4_leastLay_7 : decode cX4_leastLay 7 = .ok (.iconst 1, 1) := by decide +kernel
theorem dX4_leastLay_8 : decode cX4_leastLay 8 = .ok (.if_icmp .ne 10, 3) := by decide +kernel
theorem dX4_leastLay_11 : decode cX4_leastLay 11 = .ok (.aload_n 0, 1) := by decide +kernel
theorem dX4_leastLay_12 : decode cX4_leastLay 12 = .ok (.getfield 11, 3) := by decide +kernel
theorem dX4_leastLay_15 : decode cX4_leastLay 15 = .ok (.iload_n 1, 1) := by decide +kernel
theorem dX4_leastLay_16 : decode cX4_leastLay 16 = .ok (.laload, 1) := by decide +kernel
theorem dX4_leastLay_17 : decode cX4_leastLay 17 = .ok (.lreturn, 1) := by decide +kernel
theorem dX4_leastLay_18 : decode cX4_leastLay 18 = .ok (.iload_n 1, 1) := by decide +kernel
theorem dX4_leastLay_19 : decode cX4_leastLay 19 = .ok (.iload_n 1, 1) := by decide +kernel
theorem dX4_leastLay_20 : decode cX4_leastLay 20 = .ok (.iconst 1, 1) := by decide +kernel
theorem dX4_leastLay_21 : decode cX4_leastLay 21 = .ok (.isub, 1) := by decide +kernel
theorem dX4_leastLay_22 : decode cX4_leastLay 22 = .ok (.iand, 1) := by decide +kernel
theorem dX4_leastLay_23 : decode cX4_leastLay 23 = .ok (.istore_n 3, 1) := by decide +kernel
theorem dX4_leastLay_24 : decode cX4_leastLay 24 = .ok (.iconst 2, 1) := by decide +kernel
theorem dX4_leastLay_25 : decode cX4_leastLay 25 = .ok (.istore 4, 2) := by decide +kernel
theorem dX4_leastLay_27 : decode cX4_leastLay 27 = .ok (.iload 4, 2) := by decide +kernel
theorem dX4_leastLay_29 : decode cX4_leastLay 29 = .ok (.iload_n 2, 1) := by decide +kernel
theorem dX4_leastLay_30 : decode cX4_leastLay 30 = .ok (.if_icmp .ge 41, 3) := by decide +kernel
theorem dX4_leastLay_33 : decode cX4_leastLay 33 = .ok (.iload_n 3, 1) := by decide +kernel
theorem dX4_leastLay_34 : decode cX4_leastLay 34 = .ok (.istore 5, 2) := by decide +kernel
theorem dX4_leastLay_36 : decode cX4_leastLay 36 = .ok (.iload 5, 2) := by decide +kernel
theorem dX4_leastLay_38 : decode cX4_leastLay 38 = .ok (.ifCond .le 27, 3) := by decide +kernel
theorem dX4_leastLay_41 : decode cX4_leastLay 41 = .ok (.aload_n 0, 1) := by decide +kernel
theorem dX4_leastLay_42 : decode cX4_leastLay 42 = .ok (.getfield 15, 3) := by decide +kernel
theorem dX4_leastLay_45 : decode cX4_leastLay 45 = .ok (.iload 5, 2) := by decide +kernel
theorem dX4_leastLay_47 : decode cX4_leastLay 47 = .ok (.aload_n 0, 1) := by decide +kernel
theorem dX4_leastLay_48 : decode cX4_leastLay 48 = .ok (.iload 5, 2) := by decide +kernel
theorem dX4_leastLay_50 : decode cX4_leastLay 50 = .ok (.invokevirtual 109, 3) := by decide +kernel
theorem dX4_leastLay_53 : decode cX4_leastLay 53 = .ok (.lastore, 1) := by decide +kernel
theorem dX4_leastLay_54 : decode cX4_leastLay 54 = .ok (.iload 5, 2) := by decide +kernel
theorem dX4_leastLay_56 : decode cX4_leastLay 56 = .ok (.iconst 1, 1) := by decide +kernel
theorem dX4_leastLay_57 : decode cX4_leastLay 57 = .ok (.isub, 1) := by decide +kernel
theorem dX4_leastLay_58 : decode cX4_leastLay 58 = .ok (.iload_n 3, 1) := by decide +kernel
theorem dX4_leastLay_59 : decode cX4_leastLay 59 = .ok (.iand, 1) := by decide +kernel
theorem dX4_leastLay_60 : decode cX4_leastLay 60 = .ok (.istore 5, 2) := by decide +kernel
theorem dX4_leastLay_62 : decode cX4_leastLay 62 = .ok (.goto (-26), 3) := by decide +kernel
theorem dX4_leastLay_65 : decode cX4_leastLay 65 = .ok (.iinc 4 1, 3) := by decide +kernel
theorem dX4_leastLay_68 : decode cX4_leastLay 68 = .ok (.goto (-41), 3) := by decide +kernel
theorem dX4_leastLay_71 : decode cX4_leastLay 71 = .ok (.aload_n 0, 1) := by decide +kernel
theorem dX4_leastLay_72 : decode cX4_leastLay 72 = .ok (.iload_n 1, 1) := by decide +kernel
theorem dX4_leastLay_73 : decode cX4_leastLay 73 = .ok (.invokevirtual 109, 3) := by decide +kernel
theorem dX4_leastLay_76 : decode cX4_leastLay 76 = .ok (.lreturn, 1) := by decide +kernel
theorem dX4_leastSplit_0 : decode cX4_leastSplit 0 = .ok (.iload_n 1, 1) := by decide +kernel
theorem dX4_leastSplit_1 : decode cX4_leastSplit 1 = .ok (.iload_n 1, 1) := by decide +kernel
theorem dX4_leastSplit_2 : decode cX4_leastSplit 2 = .ok (.ineg, 1) := by decide +kernel
theorem dX4_leastSplit_3 : decode cX4_leastSplit 3 = .ok (.iand, 1) := by decide +kernel
theorem dX4_leastSplit_4 : decode cX4_leastSplit 4 = .ok (.istore_n 2, 1) := by decide +kernel
theorem dX4_leastSplit_5 : decode cX4_leastSplit 5 = .ok (.iload_n 1, 1) := by decide +kernel
theorem dX4_leastSplit_6 : decode cX4_leastSplit 6 = .ok (.iload_n 2, 1) := by decide +kernel
theorem dX4_leastSplit_7 : decode cX4_leastSplit 7 = .ok (.ixor, 1) := by decide +kernel
theorem dX4_leastSplit_8 : decode cX4_leastSplit 8 = .ok (.istore_n 3, 1) := by decide +kernel
theorem dX4_leastSplit_9 : decode cX4_leastSplit 9 = .ok (.aload_n 0, 1) := by decide +kernel
theorem dX4_leastSplit_10 : decode cX4_leastSplit 10 = .ok (.getfield 11, 3) := by decide +kernel
theorem dX4_leastSplit_13 : decode cX4_leastSplit 13 = .ok (.iload_n 2, 1) := by decide +kernel
theorem dX4_leastSplit_14 : decode cX4_leastSplit 14 = .ok (.laload, 1) := by decide +kernel
theorem dX4_leastSplit_15 : decode cX4_leastSplit 15 = .ok (.aload_n 0, 1) := by decide +kernel
theorem dX4_leastSplit_16 : decode cX4_leastSplit 16 = .ok (.getfield 15, 3) := by decide +kernel
theorem dX4_leastSplit_19 : decode cX4_leastSplit 19 = .ok (.iload_n 3, 1) := by decide +kernel
theorem dX4_leastSplit_20 : decode cX4_leastSplit 20 = .ok (.laload, 1) := by decide +kernel
theorem dX4_leastSplit_21 : decode cX4_leastSplit 21 = .ok (.ladd, 1) := by decide +kernel
theorem dX4_leastSplit_22 : decode cX4_leastSplit 22 = .ok (.lstore 4, 2) := by decide +kernel
theorem dX4_leastSplit_24 : decode cX4_leastSplit 24 = .ok (.iload_n 3, 1) := by decide +kernel
theorem dX4_leastSplit_25 : decode cX4_leastSplit 25 = .ok (.istore 6, 2) := by decide +kernel
theorem dX4_leastSplit_27 : decode cX4_leastSplit 27 = .ok (.iload 6, 2) := by decide +kernel
theorem dX4_leastSplit_29 : decode cX4_leastSplit 29 = .ok (.ifCond .le 40, 3) := by decide +kernel
theorem dX4_leastSplit_32 : decode cX4_leastSplit 32 = .ok (.lload 4, 2) := by decide +kernel
theorem dX4_leastSplit_34 : decode cX4_leastSplit 34 = .ok (.aload_n 0, 1) := by decide +kernel
theorem dX4_leastSplit_35 : decode cX4_leastSplit 35 = .ok (.getfield 11, 3) := by decide +kernel
theorem dX4_leastSplit_38 : decode cX4_leastSplit 38 = .ok (.iload_n 2, 1) := by decide +kernel
theorem dX4_leastSplit_39 : decode cX4_leastSplit 39 = .ok (.iload 6, 2) := by decide +kernel
theorem dX4_leastSplit_41 : decode cX4_leastSplit 41 = .ok (.ior, 1) := by decide +kernel
theorem dX4_leastSplit_42 : decode cX4_leastSplit 42 = .ok (.laload, 1) := by decide +kernel
theorem dX4_leastSplit_43 : decode cX4_leastSplit 43 = .ok (.aload_n 0, 1) := by decide +kernel
theorem dX4_leastSplit_44 : decode cX4_leastSplit 44 = .ok (.getfield 15, 3) := by decide +kernel
theorem dX4_leastSplit_47 : decode cX4_leastSplit 47 = .ok (.iload_n 3, 1) := by decide +kernel
theorem dX4_leastSplit_48 : decode cX4_leastSplit 48 = .ok (.iload 6, 2) := by decide +kernel
theorem dX4_leastSplit_50 : decode cX4_leastSplit 50 = .ok (.ixor, 1) := by decide +kernel
theorem dX4_leastSplit_51 : decode cX4_leastSplit 51 = .ok (.laload, 1) := by decide +kernel
theorem dX4_leastSplit_52 : decode cX4_leastSplit 52 = .ok (.ladd, 1) := by decide +kernel
theorem dX4_leastSplit_53 : decode cX4_leastSplit 53 = .ok (.invokestatic 112, 3) := by decide +kernel
theorem dX4_leastSplit_56 : decode cX4_leastSplit 56 = .ok (.lstore 4, 2) := by decide +kernel
theorem dX4_leastSplit_58 : decode cX4_leastSplit 58 = .ok (.iload 6, 2) := by decide +kernel
theorem dX4_leastSplit_60 : decode cX4_leastSplit 60 = .ok (.iconst 1, 1) := by decide +kernel
theorem dX4_leastSplit_61 : decode cX4_leastSplit 61 = .ok (.isub, 1) := by decide +kernel
theorem dX4_leastSplit_62 : decode cX4_leastSplit 62 = .ok (.iload_n 3, 1) := by decide +kernel
theorem dX4_leastSplit_63 : decode cX4_leastSplit 63 = .ok (.iand, 1) := by decide +kernel
theorem dX4_leastSplit_64 : decode cX4_leastSplit 64 = .ok (.istore 6, 2) := by decide +kernel
theorem dX4_leastSplit_66 : decode cX4_leastSplit 66 = .ok (.goto (-39), 3) := by decide +kernel
theorem dX4_leastSplit_69 : decode cX4_leastSplit 69 = .ok (.lload 4, 2) := by decide +kernel
theorem dX4_leastSplit_71 : decode cX4_leastSplit 71 = .ok (.ldc2_w 56, 3) := by decide +kernel
theorem dX4_leastSplit_74 : decode cX4_leastSplit 74 = .ok (.invokestatic 112, 3) := by decide +kernel
theorem dX4_leastSplit_77 : decode cX4_leastSplit 77 = .ok (.lreturn, 1) := by decide +kernel
theorem dX4_numberChains_0 : decode cX4_numberChains 0 = .ok (.aload_n 0, 1) := by decide +kernel
theorem dX4_numberChains_1 : decode cX4_numberChains 1 = .ok (.iconst 0, 1) := by decide +kernel
theorem dX4_numberChains_2 : decode cX4_numberChains 2 = .ok (.putfield 61, 3) := by decide +kernel
theorem dX4_numberChains_5 : decode cX4_numberChains 5 = .ok (.iconst 0, 1) := by decide +kernel
theorem dX4_numberChains_6 : decode cX4_numberChains 6 = .ok (.istore 4, 2) := by decide +kernel
theorem dX4_numberChains_8 : decode cX4_numberChains 8 = .ok (.iload 4, 2) := by decide +kernel
theorem dX4_numberChains_10 : decode cX4_numberChains 10 = .ok (.bipush 10, 2) := by decide +kernel
theorem dX4_numberChains_12 : decode cX4_numberChains 12 = .ok (.if_icmp .ge 79, 3) := by decide +kernel
theorem dX4_numberChains_15 : decode cX4_numberChains 15 = .ok (.iload_n 3, 1) := by decide +kernel
theorem dX4_numberChains_16 : decode cX4_numberChains 16 = .ok (.iload 4, 2) := by decide +kernel
theorem dX4_numberChains_18 : decode cX4_numberChains 18 = .ok (.invokestatic 83, 3) := by decide +kernel
theorem dX4_numberChains_21 : decode cX4_numberChains 21 = .ok (.ifCond .ne 6, 3) := by decide +kernel
theorem dX4_numberChains_24 : decode cX4_numberChains 24 = .ok (.goto 61, 3) := by decide +kernel
theorem dX4_numberChains_27 : decode cX4_numberChains 27 = .ok (.lload_n 1, 1) := by decide +kernel
theorem dX4_numberChains_28 : decode cX4_numberChains 28 = .ok (.iload 4, 2) := by decide +kernel
theorem dX4_numberChains_30 : decode cX4_numberChains 30 = .ok (.invokestatic 106, 3) := by decide +kernel
theorem dX4_numberChains_33 : decode cX4_numberChains 33 = .ok (.lushr, 1) := by decide +kernel
theorem dX4_numberChains_34 : decode cX4_numberChains 34 = .ok (.l2i, 1) := by decide +kernel
theorem dX4_numberChains_35 : decode cX4_numberChains 35 = .ok (.bipush 15, 2) := by decide +kernel
theorem dX4_numberChains_37 : decode cX4_numberChains 37 = .ok (.iand, 1) := by decide +kernel
theorem dX4_numberChains_38 : decode cX4_numberChains 38 = .ok (.istore 5, 2) := by decide +kernel
theorem dX4_numberChains_40 : decode cX4_numberChains 40 = .ok (.iload 5, 2) := by decide +kernel
theorem dX4_numberChains_42 : decode cX4_numberChains 42 = .ok (.iload 4, 2) := by decide +kernel
theorem dX4_numberChains_44 : decode cX4_numberChains 44 = .ok (.if_icmp .ge 20, 3) := by decide +kernel
theorem dX4_numberChains_47 : decode cX4_numberChains 47 = .ok (.aload_n 0, 1) := by decide +kernel
theorem dX4_numberChains_48 : decode cX4_numberChains 48 = .ok (.getfield 18, 3) := by decide +kernel
theorem dX4_numberChains_51 : decode cX4_numberChains 51 = .ok (.iload 4, 2) := by decide +kernel
theorem dX4_numberChains_53 : decode cX4_numberChains 53 = .ok (.aload_n 0, 1) := by decide +kernel
theorem dX4_numberChains_54 : decode cX4_numberChains 54 = .ok (.getfield 18, 3) := by decide +kernel
theorem dX4_numberChains_57 : decode cX4_numberChains 57 = .ok (.iload 5, 2) := by decide +kernel
theorem dX4_numberChains_59 : decode cX4_numberChains 59 = .ok (.iaload, 1) := by decide +kernel
theorem dX4_numberChains_60 : decode cX4_numberChains 60 = .ok (.iastore, 1) := by decide +kernel
theorem dX4_numberChains_61 : decode cX4_numberChains 61 = .ok (.goto 24, 3) := by decide +kernel
theorem dX4_numberChains_64 : decode cX4_numberChains 64 = .ok (.aload_n 0, 1) := by decide +kernel
theorem dX4_numberChains_65 : decode cX4_numberChains 65 = .ok (.getfield 18, 3) := by decide +kernel
theorem dX4_numberChains_68 : decode cX4_numberChains 68 = .ok (.iload 4, 2) := by decide +kernel
theorem dX4_numberChains_70 : decode cX4_numberChains 70 = .ok (.aload_n 0, 1) := by decide +kernel
theorem dX4_numberChains_71 : decode cX4_numberChains 71 = .ok (.getfield 61, 3) := by decide +kernel
theorem dX4_numberChains_74 : decode cX4_numberChains 74 = .ok (.iastore, 1) := by decide +kernel
theorem dX4_numberChains_75 : decode cX4_numberChains 75 = .ok (.aload_n 0, 1) := by decide +kernel
theorem dX4_numberChains_76 : decode cX4_numberChains 76 = .ok (.dup, 1) := by decide +kernel
theorem dX4_numberChains_77 : decode cX4_numberChains 77 = .ok (.getfield 61, 3) := by decide +kernel
theorem dX4_numberChains_80 : decode cX4_numberChains 80 = .ok (.iconst 1, 1) := by decide +kernel
theorem dX4_numberChains_81 : decode cX4_numberChains 81 = .ok (.iadd, 1) := by decide +kernel
theorem dX4_numberChains_82 : decode cX4_numberChains 82 = .ok (.putfield 61, 3) := by decide +kernel
theorem dX4_numberChains_85 : decode cX4_numberChains 85 = .ok (.iinc 4 1, 3) := by decide +kernel
theorem dX4_numberChains_88 : decode cX4_numberChains 88 = .ok (.goto (-80), 3) := by decide +kernel
theorem dX4_numberChains_91 : decode cX4_numberChains 91 = .ok (.return_, 1) := by decide +kernel
theorem dX5_init_0 : decode cX5_init 0 = .ok (.aload_n 0, 1) := by decide +kernel
theorem dX5_init_1 : decode cX5_init 1 = .ok (.invokespecial 1, 3) := by decide +kernel
theorem dX5_init_4 : decode cX5_init 4 = .ok (.aload_n 0, 1) := by decide +kernel
theorem dX5_init_5 : decode cX5_init 5 = .ok (.aload_n 1, 1) := by decide +kernel
theorem dX5_init_6 : decode cX5_init 6 = .ok (.putfield 7, 3) := by decide +kernel
theorem dX5_init_9 : decode cX5_init 9 = .ok (.aload_n 0, 1) := by decide +kernel
theorem dX5_init_10 : decode cX5_init 10 = .ok (.aload_n 2, 1) := by decide +kernel
theorem dX5_init_11 : decode cX5_init 11 = .ok (.putfield 13, 3) := by decide +kernel
theorem dX5_init_14 : decode cX5_init 14 = .ok (.aload_n 0, 1) := by decide +kernel
theorem dX5_init_15 : decode cX5_init 15 = .ok (.aload_n 3, 1) := by decide +kernel
theorem dX5_init_16 : decode cX5_init 16 = .ok (.putfield 16, 3) := by decide +kernel
theorem dX5_init_19 : decode cX5_init 19 = .ok (.return_, 1) := by decide +kernel
theorem dX5_countLines_0 : decode cX5_countLines 0 = .ok (.aload_n 0, 1) := by decide +kernel
theorem dX5_countLines_1 : decode cX5_countLines 1 = .ok (.getfield 13, 3) := by decide +kernel
theorem dX5_countLines_4 : decode cX5_countLines 4 = .ok (.arraylength, 1) := by decide +kernel
theorem dX5_countLines_5 : decode cX5_countLines 5 = .ok (.aload_n 0, 1) := by decide +kernel
theorem dX5_countLines_6 : decode cX5_countLines 6 = .ok (.getfield 16, 3) := by decide +kernel
theorem dX5_countLines_9 : decode cX5_countLines 9 = .ok (.arraylength, 1) := by decide +kernel
theorem dX5_countLines_10 : decode cX5_countLines 10 = .ok (.invokestatic 19, 3) := by decide +kernel
theorem dX5_countLines_13 : decode cX5_countLines 13 = .ok (.ireturn, 1) := by decide +kernel
theorem dX6_init_0 : decode cX6_init 0 = .ok (.aload_n 0, 1) := by decide +kernel
theorem dX6_init_1 : decode cX6_init 1 = .ok (.invokespecial 3, 3) := by decide +kernel
theorem dX6_init_4 : decode cX6_init 4 = .ok (.aload_n 0, 1) := by decide +kernel
theorem dX6_init_5 : decode cX6_init 5 = .ok (.sipush 600, 3) := by decide +kernel
theorem dX6_init_8 : decode cX6_init 8 = .ok (.newarray .int, 2) := by decide +kernel
theorem dX6_init_10 : decode cX6_init 10 = .ok (.putfield 9, 3) := by decide +kernel
theorem dX6_init_13 : decode cX6_init 13 = .ok (.aload_n 0, 1) := by decide +kernel
theorem dX6_init_14 : decode cX6_init 14 = .ok (.bipush 10, 2) := by decide +kernel
theorem dX6_init_16 : decode cX6_init 16 = .ok (.newarray .int, 2) := by decide +kernel
theorem dX6_init_18 : decode cX6_init 18 = .ok (.putfield 15, 3) := by decide +kernel
theorem dX6_init_21 : decode cX6_init 21 = .ok (.aload_n 0, 1) := by decide +kernel
theorem dX6_init_22 : decode cX6_init 22 = .ok (.bipush 10, 2) := by decide +kernel
theorem dX6_init_24 : decode cX6_init 24 = .ok (.newarray .int, 2) := by decide +kernel
theorem dX6_init_26 : decode cX6_init 26 = .ok (.putfield 18, 3) := by decide +kernel
theorem dX6_init_29 : decode cX6_init 29 = .ok (.aload_n 0, 1) := by decide +kernel
theorem dX6_init_30 : decode cX6_init 30 = .ok (.iconst (-1), 1) := by decide +kernel
theorem dX6_init_31 : decode cX6_init 31 = .ok (.putfield 21, 3) := by decide +kernel
theorem dX6_init_34 : decode cX6_init 34 = .ok (.aload_n 0, 1) := by decide +kernel
theorem dX6_init_35 : decode cX6_init 35 = .ok (.aload_n 1, 1) := by decide +kernel
theorem dX6_init_36 : decode cX6_init 36 = .ok (.putfield 25, 3) := by decide +kernel
theorem dX6_init_39 : decode cX6_init 39 = .ok (.return_, 1) := by decide +kernel
theorem dX6_readAll_0 : decode cX6_readAll 0 = .ok (.aload_n 0, 1) := by decide +kernel
theorem dX6_readAll_1 : decode cX6_readAll 1 = .ok (.iconst 0, 1) := by decide +kernel
theorem dX6_readAll_2 : decode cX6_readAll 2 = .ok (.putfield 29, 3) := by decide +kernel
theorem dX6_readAll_5 : decode cX6_readAll 5 = .ok (.aload_n 0, 1) := by decide +kernel
theorem dX6_readAll_6 : decode cX6_readAll 6 = .ok (.iconst 0, 1) := by decide +kernel
theorem dX6_readAll_7 : decode cX6_readAll 7 = .ok (.putfield 32, 3) := by decide +kernel
theorem dX6_readAll_10 : decode cX6_readAll 10 = .ok (.aload_n 0, 1) := by decide +kernel
theorem dX6_readAll_11 : decode cX6_readAll 11 = .ok (.iconst 0, 1) := by decide +kernel
theorem dX6_readAll_12 : decode cX6_readAll 12 = .ok (.putfield 35, 3) := by decide +kernel
theorem dX6_readAll_15 : decode cX6_readAll 15 = .ok (.aload_n 0, 1) := by decide +kernel
theorem dX6_readAll_16 : decode cX6_readAll 16 = .ok (.iconst 0, 1) := by decide +kernel
theorem dX6_readAll_17 : decode cX6_readAll 17 = .ok (.putfield 38, 3) := by decide +kernel
theorem dX6_readAll_20 : decode cX6_readAll 20 = .ok (.aload_n 0, 1) := by decide +kernel
theorem dX6_readAll_21 : decode cX6_readAll 21 = .ok (.iconst 0, 1) := by decide +kernel
theorem dX6_readAll_22 : decode cX6_readAll 22 = .ok (.putfield 41, 3) := by decide +kernel
theorem dX6_readAll_25 : decode cX6_readAll 25 = .ok (.aload_n 0, 1) := by decide +kernel
theorem dX6_readAll_26 : decode cX6_readAll 26 = .ok (.iconst (-1), 1) := by decide +kernel
theorem dX6_readAll_27 : decode cX6_readAll 27 = .ok (.putfield 21, 3) := by decide +kernel
theorem dX6_readAll_30 : decode cX6_readAll 30 = .ok (.aload_n 0, 1) := by decide +kernel
theorem dX6_readAll_31 : decode cX6_readAll 31 = .ok (.invokevirtual 44, 3) := by decide +kernel
theorem dX6_readAll_34 : decode cX6_readAll 34 = .ok (.iconst 0, 1) := by decide +kernel
theorem dX6_readAll_35 : decode cX6_readAll 35 = .ok (.istore_n 1, 1) := by decide +kernel
theorem dX6_readAll_36 : decode cX6_readAll 36 = .ok (.iload_n 1, 1) := by decide +kernel
theorem dX6_readAll_37 : decode cX6_readAll 37 = .ok (.bipush 10, 2) := by decide +kernel
theorem dX6_readAll_39 : decode cX6_readAll 39 = .ok (.if_icmp .gt 29, 3) := by decide +kernel
theorem dX6_readAll_42 : decode cX6_readAll 42 = .ok (.aload_n 0, 1) := by decide +kernel
theorem dX6_readAll_43 : decode cX6_readAll 43 = .ok (.getfield 47, 3) := by decide +kernel
theorem dX6_readAll_46 : decode cX6_readAll 46 = .ok (.ifCond .eq 22, 3) := by decide +kernel
theorem dX6_readAll_49 : decode cX6_readAll 49 = .ok (.aload_n 0, 1) := by decide +kernel
theorem dX6_readAll_50 : decode cX6_readAll 50 = .ok (.getfield 47, 3) := by decide +kernel
theorem dX6_readAll_53 : decode cX6_readAll 53 = .ok (.bipush 8, 2) := by decide +kernel
theorem dX6_readAll_55 : decode cX6_readAll 55 = .ok (.if_icmp .eq 13, 3) := by decide +kernel
theorem dX6_readAll_58 : decode cX6_readAll 58 = .ok (.aload_n 0, 1) := by decide +kernel
theorem dX6_readAll_59 : decode cX6_readAll 59 = .ok (.invokevirtual 50, 3) := by decide +kernel
theorem dX6_readAll_62 : decode cX6_readAll 62 = .ok (.iinc 1 1, 3) := by decide +kernel
theorem dX6_readAll_65 : decode cX6_readAll 65 = .ok (.goto (-29), 3) := by decide +kernel
theorem dX6_readAll_68 : decode cX6_readAll 68 = .ok (.aload_n 0, 1) := by decide +kernel
theorem dX6_readAll_69 : decode cX6_readAll 69 = .ok (.getfield 41, 3) := by decide +kernel
theorem dX6_readAll_72 : decode cX6_readAll 72 = .ok (.ifCond .eq 5, 3) := by decide +kernel
theorem dX6_readAll_75 : decode cX6_readAll 75 = .ok (.aconst_null, 1) := by decide +kernel
theorem dX6_readAll_76 : decode cX6_readAll 76 = .ok (.areturn, 1) := by decide +kernel
theorem dX6_readAll_77 : decode cX6_readAll 77 = .ok (.new 53, 3) := by decide +kernel
theorem dX6_readAll_80 : decode cX6_readAll 80 = .ok (.dup, 1) := by decide +kernel
theorem dX6_readAll_81 : decode cX6_readAll 81 = .ok (.aload_n 0, 1) := by decide +kernel
theorem dX6_readAll_82 : decode cX6_readAll 82 = .ok (.getfield 9, 3) := by decide +kernel
theorem dX6_readAll_85 : decode cX6_readAll 85 = .ok (.aload_n 0, 1) := by decide +kernel
theorem dX6_readAll_86 : decode cX6_readAll 86 = .ok (.getfield 29, 3) := by decide +kernel
theorem dX6_readAll_89 : decode cX6_readAll 89 = .ok (.invokestatic 55, 3) := by decide +kernel
theorem dX6_readAll_92 : decode cX6_readAll 92 = .ok (.aload_n 0, 1) := by decide +kernel
theorem dX6_readAll_93 : decode cX6_readAll 93 = .ok (.getfield 15, 3) := by decide +kernel
theorem dX6_readAll_96 : decode cX6_readAll 96 = .ok (.aload_n 0, 1) := by decide +kernel
theorem dX6_readAll_97 : decode cX6_readAll 97 = .ok (.getfield 32, 3) := by decide +kernel
theorem dX6_readAll_100 : decode cX6_readAll 100 = .ok (.invokestatic 55, 3) := by decide +kernel
theorem dX6_readAll_103 : decode cX6_readAll 103 = .ok (.aload_n 0, 1) := by decide +kernel
theorem dX6_readAll_104 : decode cX6_readAll 104 = .ok (.getfield 18, 3) := by decide +kernel
theorem dX6_readAll_107 : decode cX6_readAll 107 = .ok (.aload_n 0, 1) := by decide +kernel
theorem dX6_readAll_108 : decode cX6_readAll 108 = .ok (.getfield 32, 3) := by decide +kernel
theorem dX6_readAll_111 : decode cX6_readAll 111 = .ok (.invokestatic 55, 3) := by decide +kernel
theorem dX6_readAll_114 : decode cX6_readAll 114 = .ok (.invokespecial 61, 3) := by decide +kernel
theorem dX6_readAll_117 : decode cX6_readAll 117 = .ok (.areturn, 1) := by decide +kernel
theorem dX6_readLine_0 : decode cX6_readLine 0 = .ok (.aload_n 0, 1) := by decide +kernel
theorem dX6_readLine_1 : decode cX6_readLine 1 = .ok (.getfield 32, 3) := by decide +kernel
theorem dX6_readLine_4 : decode cX6_readLine 4 = .ok (.bipush 10, 2) := by decide +kernel
theorem dX6_readLine_6 : decode cX6_readLine 6 = .ok (.if_icmp .lt 9, 3) := by decide +kernel
theorem dX6_readLine_9 : decode cX6_readLine 9 = .ok (.aload_n 0, 1) := by decide +kernel
theorem dX6_readLine_10 : decode cX6_readLine 10 = .ok (.iconst 2, 1) := by decide +kernel
theorem dX6_readLine_11 : decode cX6_readLine 11 = .ok (.invokevirtual 64, 3) := by decide +kernel
theorem dX6_readLine_14 : decode cX6_readLine 14 = .ok (.return_, 1) := by decide +kernel
theorem dX6_readLine_15 : decode cX6_readLine 15 = .ok (.aload_n 0, 1) := by decide +kernel
theorem dX6_readLine_16 : decode cX6_readLine 16 = .ok (.getfield 47, 3) := by decide +kernel
theorem dX6_readLine_19 : decode cX6_readLine 19 = .ok (.iconst 1, 1) := by decide +kernel
theorem dX6_readLine_20 : decode cX6_readLine 20 = .ok (.if_icmp .ne 12, 3) := by decide +kernel
theorem dX6_readLine_23 : decode cX6_readLine 23 = .ok (.aload_n 0, 1) := by decide +kernel
theorem dX6_readLine_24 : decode cX6_readLine 24 = .ok (.invokevirtual 44, 3) := by decide +kernel
theorem dX6_readLine_27 : decode cX6_readLine 27 = .ok (.aload_n 0, 1) := by decide +kernel
theorem dX6_readLine_28 : decode cX6_readLine 28 = .ok (.iconst 0, 1) := by decide +kernel
theorem dX6_readLine_29 : decode cX6_readLine 29 = .ok (.invokevirtual 68, 3) := by decide +kernel
theorem dX6_readLine_32 : decode cX6_readLine 32 = .ok (.aload_n 0, 1) := by decide +kernel
theorem dX6_readLine_33 : decode cX6_readLine 33 = .ok (.getfield 15, 3) := by decide +kernel
theorem dX6_readLine_36 : decode cX6_readLine 36 = .ok (.aload_n 0, 1) := by decide +kernel
theorem dX6_readLine_37 : decode cX6_readLine 37 = .ok (.getfield 32, 3) := by decide +kernel
theorem dX6_readLine_40 : decode cX6_readLine 40 = .ok (.aload_n 0, 1) := by decide +kernel
theorem dX6_readLine_41 : decode cX6_readLine 41 = .ok (.getfield 29, 3) := by decide +kernel
theorem dX6_readLine_44 : decode cX6_readLine 44 = .ok (.iastore, 1) := by decide +kernel
theorem dX6_readLine_45 : decode cX6_readLine 45 = .ok (.aload_n 0, 1) := by decide +kernel
theorem dX6_readLine_46 : decode cX6_readLine 46 = .ok (.iconst 2, 1) := by decide +kernel
theorem dX6_readLine_47 : decode cX6_readLine 47 = .ok (.invokevirtual 71, 3) := by decide +kernel
theorem dX6_readLine_50 : decode cX6_readLine 50 = .ok (.aload_n 0, 1) := by decide +kernel
theorem dX6_readLine_51 : decode cX6_readLine 51 = .ok (.iconst 0, 1) := by decide +kernel
theorem dX6_readLine_52 : decode cX6_readLine 52 = .ok (.invokevirtual 68, 3) := by decide +kernel
theorem dX6_readLine_55 : decode cX6_readLine 55 = .ok (.aload_n 0, 1) := by decide +kernel
theorem dX6_readLine_56 : decode cX6_readLine 56 = .ok (.getfield 18, 3) := by decide +kernel
theorem dX6_readLine_59 : decode cX6_readLine 59 = .ok (.aload_n 0, 1) := by decide +kernel
theorem dX6_readLine_60 : decode cX6_readLine 60 = .ok (.getfield 32, 3) := by decide +kernel
theorem dX6_readLine_63 : decode cX6_readLine 63 = .ok (.aload_n 0, 1) := by decide +kernel
theorem dX6_readLine_64 : decode cX6_readLine 64 = .ok (.getfield 29, 3) := by decide +kernel
theorem dX6_readLine_67 : decode cX6_readLine 67 = .ok (.iastore, 1) := by decide +kernel
theorem dX6_readLine_68 : decode cX6_readLine 68 = .ok (.aload_n 0, 1) := by decide +kernel
theorem dX6_readLine_69 : decode cX6_readLine 69 = .ok (.bipush 59, 2) := by decide +kernel
theorem dX6_readLine_71 : decode cX6_readLine 71 = .ok (.invokevirtual 71, 3) := by decide +kernel
theorem dX6_readLine_74 : decode cX6_readLine 74 = .ok (.aload_n 0, 1) := by decide +kernel
theorem dX6_readLine_75 : decode cX6_readLine 75 = .ok (.dup, 1) := by decide +kernel
theorem dX6_readLine_76 : decode cX6_readLine 76 = .ok (.getfield 32, 3) := by decide +kernel
theorem dX6_readLine_79 : decode cX6_readLine 79 = .ok (.iconst 1, 1) := by decide +kernel
theorem dX6_readLine_80 : decode cX6_readLine 80 = .ok (.iadd, 1) := by decide +kernel
theorem dX6_readLine_81 : decode cX6_readLine 81 = .ok (.putfield 32, 3) := by decide +kernel
theorem dX6_readLine_84 : decode cX6_readLine 84 = .ok (.return_, 1) := by decide +kernel
theorem dX6_readEither_0 : decode cX6_readEither 0 = .ok (.aload_n 0, 1) := by decide +kernel
theorem dX6_readEither_1 : decode cX6_readEither 1 = .ok (.iload_n 1, 1) := by decide +kernel
theorem dX6_readEither_2 : decode cX6_readEither 2 = .ok (.invokevirtual 74, 3) := by decide +kernel
theorem dX6_readEither_5 : decode cX6_readEither 5 = .ok (.ifCond .eq 4, 3) := by decide +kernel
theorem dX6_readEither_8 : decode cX6_readEither 8 = .ok (.return_, 1) := by decide +kernel
theorem dX6_readEither_9 : decode cX6_readEither 9 = .ok (.aload_n 0, 1) := by decide +kernel
theorem dX6_readEither_10 : decode cX6_readEither 10 = .ok (.iload_n 1, 1) := by decide +kernel
theorem dX6_readEither_11 : decode cX6_readEither 11 = .ok (.invokevirtual 78, 3) := by decide +kernel
theorem dX6_readEither_14 : decode cX6_readEither 14 = .ok (.iconst 0, 1) := by decide +kernel
theorem dX6_readEither_15 : decode cX6_readEither 15 = .ok (.istore_n 2, 1) := by decide +kernel
theorem dX6_readEither_16 : decode cX6_readEither 16 = .ok (.iload_n 2, 1) := by decide +kernel
theorem dX6_readEither_17 : decode cX6_readEither 17 = .ok (.sipush 600, 3) := by decide +kernel
theorem dX6_readEither_20 : decode cX6_readEither 20 = .ok (.if_icmp .ge 32, 3) := by decide +kernel
theorem dX6_readEither_23 : decode cX6_readEither 23 = .ok (.aload_n 0, 1) := by decide +kernel
theorem dX6_readEither_24 : decode cX6_readEither 24 = .ok (.getfield 47, 3) := by decide +kernel
theorem dX6_readEither_27 : decode cX6_readEither 27 = .ok (.iconst 3, 1) := by decide +kernel
theorem dX6_readEither_28 : decode cX6_readEither 28 = .ok (.if_icmp .ne 24, 3) := by decide +kernel
theorem dX6_readEither_31 : decode cX6_readEither 31 = .ok (.aload_n 0, 1) := by decide +kernel
theorem dX6_readEither_32 : decode cX6_readEither 32 = .ok (.invokevirtual 44, 3) := by decide +kernel
theorem dX6_readEither_35 : decode cX6_readEither 35 = .ok (.aload_n 0, 1) := by decide +kernel
theorem dX6_readEither_36 : decode cX6_readEither 36 = .ok (.iload_n 1, 1) := by decide +kernel
theorem dX6_readEither_37 : decode cX6_readEither 37 = .ok (.invokevirtual 78, 3) := by decide +kernel
theorem dX6_readEither_40 : decode cX6_readEither 40 = .ok (.aload_n 0, 1) := by decide +kernel
theorem dX6_readEither_41 : decode cX6_readEither 41 = .ok (.bipush (-7), 2) := by decide +kernel
theorem dX6_readEither_43 : decode cX6_readEither 43 = .ok (.invokevirtual 81, 3) := by decide +kernel
theorem dX6_readEither_46 : decode cX6_readEither 46 = .ok (.iinc 2 1, 3) := by decide +kernel
theorem dX6_readEither_49 : decode cX6_readEither 49 = .ok (.goto (-33), 3) := by decide +kernel
theorem dX6_readEither_52 : decode cX6_readEither 52 = .ok (.return_, 1) := by decide +kernel
theorem dX6_readBoth_0 : decode cX6_readBoth 0 = .ok (.aload_n 0, 1) := by decide +kernel
theorem dX6_readBoth_1 : decode cX6_readBoth 1 = .ok (.iload_n 1, 1) := by decide +kernel
theorem dX6_readBoth_2 : decode cX6_readBoth 2 = .ok (.invokevirtual 84, 3) := by decide +kernel
theorem dX6_readBoth_5 : decode cX6_readBoth 5 = .ok (.iconst 0, 1) := by decide +kernel
theorem dX6_readBoth_6 : decode cX6_readBoth 6 = .ok (.istore_n 2, 1) := by decide +kernel
theorem dX6_readBoth_7 : decode cX6_readBoth 7 = .ok (.iload_n 2, 1) := by decide +kernel
theorem dX6_readBoth_8 : decode cX6_readBoth 8 = .ok (.sipush 600, 3) := by decide +kernel
theorem dX6_readBoth_11 : decode cX6_readBoth 11 = .ok (.if_icmp .ge 32, 3) := by decide +kernel
theorem dX6_readBoth_14 : decode cX6_readBoth 14 = .ok (.aload_n 0, 1) := by decide +kernel
theorem dX6_readBoth_15 : decode cX6_readBoth 15 = .ok (.getfield 47, 3) := by decide +kernel
theorem dX6_readBoth_18 : decode cX6_readBoth 18 = .ok (.iconst 4, 1) := by decide +kernel
theorem dX6_readBoth_19 : decode cX6_readBoth 19 = .ok (.if_icmp .ne 24, 3) := by decide +kernel
theorem dX6_readBoth_22 : decode cX6_readBoth 22 = .ok (.aload_n 0, 1) := by decide +kernel
theorem dX6_readBoth_23 : decode cX6_readBoth 23 = .ok (.invokevirtual 44, 3) := by decide +kernel
theorem dX6_readBoth_26 : decode cX6_readBoth 26 = .ok (.aload_n 0, 1) := by decide +kernel
theorem dX6_readBoth_27 : decode cX6_readBoth 27 = .ok (.iload_n 1, 1) := by decide +kernel
theorem dX6_readBoth_28 : decode cX6_readBoth 28 = .ok (.invokevirtual 84, 3) := by decide +kernel
theorem dX6_readBoth_31 : decode cX6_readBoth 31 = .ok (.aload_n 0, 1) := by decide +kernel
theorem dX6_readBoth_32 : decode cX6_readBoth 32 = .ok (.bipush (-8), 2) := by decide +kernel
theorem dX6_readBoth_34 : decode cX6_readBoth 34 = .ok (.invokevirtual 81, 3) := by decide +kernel
theorem dX6_readBoth_37 : decode cX6_readBoth 37 = .ok (.iinc 2 1, 3) := by decide +kernel
theorem dX6_readBoth_40 : decode cX6_readBoth 40 = .ok (.goto (-33), 3) := by decide +kernel
theorem dX6_readBoth_43 : decode cX6_readBoth 43 = .ok (.return_, 1) := by decide +kernel
theorem dX6_readOne_0 : decode cX6_readOne 0 = .ok (.aload_n 0, 1) := by decide +kernel
theorem dX6_readOne_1 : decode cX6_readOne 1 = .ok (.iload_n 1, 1) := by decide +kernel
theorem dX6_readOne_2 : decode cX6_readOne 2 = .ok (.invokevirtual 74, 3) := by decide +kernel
theorem dX6_readOne_5 : decode cX6_readOne 5 = .ok (.ifCond .eq 4, 3) := by decide +kernel
theorem dX6_readOne_8 : decode cX6_readOne 8 = .ok (.return_, 1) := by decide +kernel
theorem dX6_readOne_9 : decode cX6_readOne 9 = .ok (.aload_n 0, 1) := by decide +kernel
theorem dX6_readOne_10 : decode cX6_readOne 10 = .ok (.getfield 47, 3) := by decide +kernel
theorem dX6_readOne_13 : decode cX6_readOne 13 = .ok (.iconst 5, 1) := by decide +kernel
theorem dX6_readOne_14 : decode cX6_readOne 14 = .ok (.if_icmp .ne 21, 3) := by decide +kernel
theorem dX6_readOne_17 : decode cX6_readOne 17 = .ok (.aload_n 0, 1) := by decide +kernel
theorem dX6_readOne_18 : decode cX6_readOne 18 = .ok (.invokevirtual 44, 3) := by decide +kernel
theorem dX6_readOne_21 : decode cX6_readOne 21 = .ok (.aload_n 0, 1) := by decide +kernel
theorem dX6_readOne_22 : decode cX6_readOne 22 = .ok (.iload_n 1, 1) := by decide +kernel
theorem dX6_readOne_23 : decode cX6_readOne 23 = .ok (.iconst 1, 1) := by decide +kernel
theorem dX6_readOne_24 : decode cX6_readOne 24 = .ok (.iadd, 1) := by decide +kernel
theorem dX6_readOne_25 : decode cX6_readOne 25 = .ok (.invokevirtual 84, 3) := by decide +kernel
theorem dX6_readOne_28 : decode cX6_readOne 28 = .ok (.aload_n 0, 1) := by decide +kernel
theorem dX6_readOne_29 : decode cX6_readOne 29 = .ok (.bipush (-9), 2) := by decide +kernel
theorem dX6_readOne_31 : decode cX6_readOne 31 = .ok (.invokevirtual 81, 3) := by decide +kernel
theorem dX6_readOne_34 : decode cX6_readOne 34 = .ok (.return_, 1) := by decide +kernel
theorem dX6_readOne_35 : decode cX6_readOne 35 = .ok (.aload_n 0, 1) := by decide +kernel
theorem dX6_readOne_36 : decode cX6_readOne 36 = .ok (.iload_n 1, 1) := by decide +kernel
theorem dX6_readOne_37 : decode cX6_readOne 37 = .ok (.invokevirtual 87, 3) := by decide +kernel
theorem dX6_readOne_40 : decode cX6_readOne 40 = .ok (.aload_n 0, 1) := by decide +kernel
theorem dX6_readOne_41 : decode cX6_readOne 41 = .ok (.getfield 47, 3) := by decide +kernel
theorem dX6_readOne_44 : decode cX6_readOne 44 = .ok (.bipush 60, 2) := by decide +kernel
theorem dX6_readOne_46 : decode cX6_readOne 46 = .ok (.if_icmp .eq 21, 3) := by decide +kernel
theorem dX6_readOne_49 : decode cX6_readOne 49 = .ok (.aload_n 0, 1) := by decide +kernel
theorem dX6_readOne_50 : decode cX6_readOne 50 = .ok (.getfield 47, 3) := by decide +kernel
theorem dX6_readOne_53 : decode cX6_readOne 53 = .ok (.bipush 62, 2) := by decide +kernel
theorem dX6_readOne_55 : decode cX6_readOne 55 = .ok (.if_icmp .eq 12, 3) := by decide +kernel
theorem dX6_readOne_58 : decode cX6_readOne 58 = .ok (.aload_n 0, 1) := by decide +kernel
theorem dX6_readOne_59 : decode cX6_readOne 59 = .ok (.getfield 47, 3) := by decide +kernel
theorem dX6_readOne_62 : decode cX6_readOne 62 = .ok (.bipush 61, 2) := by decide +kernel
theorem dX6_readOne_64 : decode cX6_readOne 64 = .ok (.if_icmp .ne 23, 3) := by decide +kernel
theorem dX6_readOne_67 : decode cX6_readOne 67 = .ok (.aload_n 0, 1) := by decide +kernel
theorem dX6_readOne_68 : decode cX6_readOne 68 = .ok (.getfield 47, 3) := by decide +kernel
theorem dX6_readOne_71 : decode cX6_readOne 71 = .ok (.istore_n 2, 1) := by decide +kernel
theorem dX6_readOne_72 : decode cX6_readOne 72 = .ok (.aload_n 0, 1) := by decide +kernel
theorem dX6_readOne_73 : decode cX6_readOne 73 = .ok (.invokevirtual 44, 3) := by decide +kernel
theorem dX6_readOne_76 : decode cX6_readOne 76 = .ok (.aload_n 0, 1) := by decide +kernel
theorem dX6_readOne_77 : decode cX6_readOne 77 = .ok (.iload_n 1, 1) := by decide +kernel
theorem dX6_readOne_78 : decode cX6_readOne 78 = .ok (.invokevirtual 87, 3) := by decide +kernel
theorem dX6_readOne_81 : decode cX6_readOne 81 = .ok (.aload_n 0, 1) := by decide +kernel
theorem dX6_readOne_82 : decode cX6_readOne 82 = .ok (.iload_n 2, 1) := by decide +kernel
theorem dX6_readOne_83 : decode cX6_readOne 83 = .ok (.ineg, 1) := by decide +kernel
theorem dX6_readOne_84 : decode cX6_readOne 84 = .ok (.invokevirtual 81, 3) := by decide +kernel
theorem dX6_readOne_87 : decode cX6_readOne 87 = .ok (.return_, 1) := by decide +kernel
theorem dX6_readSum_0 : decode cX6_readSum 0 = .ok (.aload_n 0, 1) := by decide +kernel
theorem dX6_readSum_1 : decode cX6_readSum 1 = .ok (.iload_n 1, 1) := by decide +kernel
theorem dX6_readSum_2 : decode cX6_readSum 2 = .ok (.invokevirtual 90, 3) := by decide +kernel
theorem dX6_readSum_5 : decode cX6_readSum 5 = .ok (.iconst 0, 1) := by decide +kernel
theorem dX6_readSum_6 : decode cX6_readSum 6 = .ok (.istore_n 2, 1) := by decide +kernel
theorem dX6_readSum_7 : decode cX6_readSum 7 = .ok (.iload_n 2, 1) := by decide +kernel
theorem dX6_readSum_8 : decode cX6_readSum 8 = .ok (.sipush 600, 3) := by decide +kernel
theorem dX6_readSum_11 : decode cX6_readSum 11 = .ok (.if_icmp .ge 47, 3) := by decide +kernel
theorem dX6_readSum_14 : decode cX6_readSum 14 = .ok (.aload_n 0, 1) := by decide +kernel
theorem dX6_readSum_15 : decode cX6_readSum 15 = .ok (.getfield 47, 3) := by decide +kernel
theorem dX6_readSum_18 : decode cX6_readSum 18 = .ok (.bipush 43, 2) := by decide +kernel
theorem dX6_readSum_20 : decode cX6_readSum 20 = .ok (.if_icmp .eq 12, 3) := by decide +kernel
theorem dX6_readSum_23 : decode cX6_readSum 23 = .ok (.aload_n 0, 1) := by decide +kernel
theorem dX6_readSum_24 : decode cX6_readSum 24 = .ok (.getfield 47, 3) := by decide +kernel
theorem dX6_readSum_27 : decode cX6_readSum 27 = .ok (.bipush 45, 2) := by decide +kernel
theorem dX6_readSum_29 : decode cX6_readSum 29 = .ok (.if_icmp .ne 29, 3) := by decide +kernel
theorem dX6_readSum_32 : decode cX6_readSum 32 = .ok (.aload_n 0, 1) := by decide +kernel
theorem dX6_readSum_33 : decode cX6_readSum 33 = .ok (.getfield 47, 3) := by decide +kernel
theorem dX6_readSum_36 : decode cX6_readSum 36 = .ok (.istore_n 3, 1) := by decide +kernel
theorem dX6_readSum_37 : decode cX6_readSum 37 = .ok (.aload_n 0, 1) := by decide +kernel
theorem dX6_readSum_38 : decode cX6_readSum 38 = .ok (.invokevirtual 44, 3) := by decide +kernel
theorem dX6_readSum_41 : decode cX6_readSum 41 = .ok (.aload_n 0, 1) := by decide +kernel
theorem dX6_readSum_42 : decode cX6_readSum 42 = .ok (.iload_n 1, 1) := by decide +kernel
theorem dX6_readSum_43 : decode cX6_readSum 43 = .ok (.invokevirtual 90, 3) := by decide +kernel
theorem dX6_readSum_46 : decode cX6_readSum 46 = .ok (.aload_n 0, 1) := by decide +kernel
theorem dX6_readSum_47 : decode cX6_readSum 47 = .ok (.iload_n 3, 1) := by decide +kernel
theorem dX6_readSum_48 : decode cX6_readSum 48 = .ok (.ineg, 1) := by decide +kernel
theorem dX6_readSum_49 : decode cX6_readSum 49 = .ok (.invokevirtual 81, 3) := by decide +kernel
theorem dX6_readSum_52 : decode cX6_readSum 52 = .ok (.iinc 2 1, 3) := by decide +kernel
theorem dX6_readSum_55 : decode cX6_readSum 55 = .ok (.goto (-48), 3) := by decide +kernel
theorem dX6_readSum_58 : decode cX6_readSum 58 = .ok (.return_, 1) := by decide +kernel
theorem dX6_readTerm_0 : decode cX6_readTerm 0 = .ok (.aload_n 0, 1) := by decide +kernel
theorem dX6_readTerm_1 : decode cX6_readTerm 1 = .ok (.iload_n 1, 1) := by decide +kernel
theorem dX6_readTerm_2 : decode cX6_readTerm 2 = .ok (.invokevirtual 93, 3) := by decide +kernel
theorem dX6_readTerm_5 : decode cX6_readTerm 5 = .ok (.iconst 0, 1) := by decide +kernel
theorem dX6_readTerm_6 : decode cX6_readTerm 6 = .ok (.istore_n 2, 1) := by decide +kernel
theorem dX6_readTerm_7 : decode cX6_readTerm 7 = .ok (.iload_n 2, 1) := by decide +kernel
theorem dX6_readTerm_8 : decode cX6_readTerm 8 = .ok (.sipush 600, 3) := by decide +kernel
theorem dX6_readTerm_11 : decode cX6_readTerm 11 = .ok (.if_icmp .ge 47, 3) := by decide +kernel
theorem dX6_readTerm_14 : decode cX6_readTerm 14 = .ok (.aload_n 0, 1) := by decide +kernel
theorem dX6_readTerm_15 : decode cX6_readTerm 15 = .ok (.getfield 47, 3) := by decide +kernel
theorem dX6_readTerm_18 : decode cX6_readTerm 18 = .ok (.bipush 42, 2) := by decide +kernel
theorem dX6_readTerm_20 : decode cX6_readTerm 20 = .ok (.if_icmp .eq 12, 3) := by decide +kernel
theorem dX6_readTerm_23 : decode cX6_readTerm 23 = .ok (.aload_n 0, 1) := by decide +kernel
theorem dX6_readTerm_24 : decode cX6_readTerm 24 = .ok (.getfield 47, 3) := by decide +kernel
theorem dX6_readTerm_27 : decode cX6_readTerm 27 = .ok (.bipush 47, 2) := by decide +kernel
theorem dX6_readTerm_29 : decode cX6_readTerm 29 = .ok (.if_icmp .ne 29, 3) := by decide +kernel
theorem dX6_readTerm_32 : decode cX6_readTerm 32 = .ok (.aload_n 0, 1) := by decide +kernel
theorem dX6_readTerm_33 : decode cX6_readTerm 33 = .ok (.getfield 47, 3) := by decide +kernel
theorem dX6_readTerm_36 : decode cX6_readTerm 36 = .ok (.istore_n 3, 1) := by decide +kernel
theorem dX6_readTerm_37 : decode cX6_readTerm 37 = .ok (.aload_n 0, 1) := by decide +kernel
theorem dX6_readTerm_38 : decode cX6_readTerm 38 = .ok (.invokevirtual 44, 3) := by decide +kernel
theorem dX6_readTerm_41 : decode cX6_readTerm 41 = .ok (.aload_n 0, 1) := by decide +kernel
theorem dX6_readTerm_42 : decode cX6_readTerm 42 = .ok (.iload_n 1, 1) := by decide +kernel
theorem dX6_readTerm_43 : decode cX6_readTerm 43 = .ok (.invokevirtual 93, 3) := by decide +kernel
theorem dX6_readTerm_46 : decode cX6_readTerm 46 = .ok (.aload_n 0, 1) := by decide +kernel
theorem dX6_readTerm_47 : decode cX6_readTerm 47 = .ok (.iload_n 3, 1) := by decide +kernel
theorem dX6_readTerm_48 : decode cX6_readTerm 48 = .ok (.ineg, 1) := by decide +kernel
theorem dX6_readTerm_49 : decode cX6_readTerm 49 = .ok (.invokevirtual 81, 3) := by decide +kernel
theorem dX6_readTerm_52 : decode cX6_readTerm 52 = .ok (.iinc 2 1, 3) := by decide +kernel
theorem dX6_readTerm_55 : decode cX6_readTerm 55 = .ok (.goto (-48), 3) := by decide +kernel
theorem dX6_readTerm_58 : decode cX6_readTerm 58 = .ok (.return_, 1) := by decide +kernel
theorem dX6_readUnit_0 : decode cX6_readUnit 0 = .ok (.aload_n 0, 1) := by decide +kernel
theorem dX6_readUnit_1 : decode cX6_readUnit 1 = .ok (.iload_n 1, 1) := by decide +kernel
theorem dX6_readUnit_2 : decode cX6_readUnit 2 = .ok (.invokevirtual 74, 3) := by decide +kernel
theorem dX6_readUnit_5 : decode cX6_readUnit 5 = .ok (.ifCond .eq 4, 3) := by decide +kernel
theorem dX6_readUnit_8 : decode cX6_readUnit 8 = .ok (.return_, 1) := by decide +kernel
theorem dX6_readUnit_9 : decode cX6_readUnit 9 = .ok (.aload_n 0, 1) := by decide +kernel
theorem dX6_readUnit_10 : decode cX6_readUnit 10 = .ok (.getfield 47, 3) := by decide +kernel
theorem dX6_readUnit_13 : decode cX6_readUnit 13 = .ok (.bipush 7, 2) := by decide +kernel
theorem dX6_readUnit_15 : decode cX6_readUnit 15 = .ok (.if_icmp .eq 12, 3) := by decide +kernel
theorem dX6_readUnit_18 : decode cX6_readUnit 18 = .ok (.aload_n 0, 1) := by decide +kernel
theorem dX6_readUnit_19 : decode cX6_readUnit 19 = .ok (.getfield 47, 3) := by decide +kernel
theorem dX6_readUnit_22 : decode cX6_readUnit 22 = .ok (.bipush 6, 2) := by decide +kernel
theorem dX6_readUnit_24 : decode cX6_readUnit 24 = .ok (.if_icmp .ne 10, 3) := by decide +kernel
theorem dX6_readUnit_27 : decode cX6_readUnit 27 = .ok (.aload_n 0, 1) := by decide +kernel
theorem dX6_readUnit_28 : decode cX6_readUnit 28 = .ok (.invokevirtual 96, 3) := by decide +kernel
theorem dX6_readUnit_31 : decode cX6_readUnit 31 = .ok (.goto 66, 3) := by decide +kernel
theorem dX6_readUnit_34 : decode cX6_readUnit 34 = .ok (.aload_n 0, 1) := by decide +kernel
theorem dX6_readUnit_35 : decode cX6_readUnit 35 = .ok (.getfield 47, 3) := by decide +kernel
theorem dX6_readUnit_38 : decode cX6_readUnit 38 = .ok (.bipush 40, 2) := by decide +kernel
theorem dX6_readUnit_40 : decode cX6_readUnit 40 = .ok (.if_icmp .ne 23, 3) := by decide +kernel
theorem dX6_readUnit_43 : decode cX6_readUnit 43 = .ok (.aload_n 0, 1) := by decide +kernel
theorem dX6_readUnit_44 : decode cX6_readUnit 44 = .ok (.invokevirtual 44, 3) := by decide +kernel
theorem dX6_readUnit_47 : decode cX6_readUnit 47 = .ok (.aload_n 0, 1) := by decide +kernel
theorem dX6_readUnit_48 : decode cX6_readUnit 48 = .ok (.iload_n 1, 1) := by decide +kernel
theorem dX6_readUnit_49 : decode cX6_readUnit 49 = .ok (.iconst 1, 1) := by decide +kernel
theorem dX6_readUnit_50 : decode cX6_readUnit 50 = .ok (.iadd, 1) := by decide +kernel
theorem dX6_readUnit_51 : decode cX6_readUnit 51 = .ok (.invokevirtual 68, 3) := by decide +kernel
theorem dX6_readUnit_54 : decode cX6_readUnit 54 = .ok (.aload_n 0, 1) := by decide +kernel
theorem dX6_readUnit_55 : decode cX6_readUnit 55 = .ok (.bipush 41, 2) := by decide +kernel
theorem dX6_readUnit_57 : decode cX6_readUnit 57 = .ok (.invokevirtual 71, 3) := by decide +kernel
theorem dX6_readUnit_60 : decode cX6_readUnit 60 = .ok (.goto 37, 3) := by decide +kernel
theorem dX6_readUnit_63 : decode cX6_readUnit 63 = .ok (.aload_n 0, 1) := by decide +kernel
theorem dX6_readUnit_64 : decode cX6_readUnit 64 = .ok (.getfield 47, 3) := by decide +kernel
theorem dX6_readUnit_67 : decode cX6_readUnit 67 = .ok (.bipush 45, 2) := by decide +kernel
theorem dX6_readUnit_69 : decode cX6_readUnit 69 = .ok (.if_icmp .ne 23, 3) := by decide +kernel
theorem dX6_readUnit_72 : decode cX6_readUnit 72 = .ok (.aload_n 0, 1) := by decide +kernel
theorem dX6_readUnit_73 : decode cX6_readUnit 73 = .ok (.invokevirtual 44, 3) := by decide +kernel
theorem dX6_readUnit_76 : decode cX6_readUnit 76 = .ok (.aload_n 0, 1) := by decide +kernel
theorem dX6_readUnit_77 : decode cX6_readUnit 77 = .ok (.iload_n 1, 1) := by decide +kernel
theorem dX6_readUnit_78 : decode cX6_readUnit 78 = .ok (.iconst 1, 1) := by decide +kernel
theorem dX6_readUnit_79 : decode cX6_readUnit 79 = .ok (.iadd, 1) := by decide +kernel
theorem dX6_readUnit_80 : decode cX6_readUnit 80 = .ok (.invokevirtual 93, 3) := by decide +kernel
theorem dX6_readUnit_83 : decode cX6_readUnit 83 = .ok (.aload_n 0, 1) := by decide +kernel
theorem dX6_readUnit_84 : decode cX6_readUnit 84 = .ok (.bipush (-10), 2) := by decide +kernel
theorem dX6_readUnit_86 : decode cX6_readUnit 86 = .ok (.invokevirtual 81, 3) := by decide +kernel
theorem dX6_readUnit_89 : decode cX6_readUnit 89 = .ok (.goto 8, 3) := by decide +kernel
theorem dX6_readUnit_92 : decode cX6_readUnit 92 = .ok (.aload_n 0, 1) := by decide +kernel
theorem dX6_readUnit_93 : decode cX6_readUnit 93 = .ok (.iconst 2, 1) := by decide +kernel
theorem dX6_readUnit_94 : decode cX6_readUnit 94 = .ok (.invokevirtual 64, 3) := by decide +kernel
theorem dX6_readUnit_97 : decode cX6_readUnit 97 = .ok (.return_, 1) := by decide +kernel
theorem dX6_readOperand_0 : decode cX6_readOperand 0 = .ok (.aload_n 0, 1) := by decide +kernel
theorem dX6_readOperand_1 : decode cX6_readOperand 1 = .ok (.getfield 35, 3) := by decide +kernel
theorem dX6_readOperand_4 : decode cX6_readOperand 4 = .ok (.bipush 100, 2) := by decide +kernel
theorem dX6_readOperand_6 : decode cX6_readOperand 6 = .ok (.if_icmp .lt 11, 3) := by decide +kernel
theorem dX6_readOperand_9 : decode cX6_readOperand 9 = .ok (.aload_n 0, 1) := by decide +kernel
theorem dX6_readOperand_10 : decode cX6_readOperand 10 = .ok (.iconst 2, 1) := by decide +kernel
theorem dX6_readOperand_11 : decode cX6_readOperand 11 = .ok (.invokevirtual 64, 3) := by decide +kernel
theorem dX6_readOperand_14 : decode cX6_readOperand 14 = .ok (.goto 52, 3) := by decide +kernel
theorem dX6_readOperand_17 : decode cX6_readOperand 17 = .ok (.aload_n 0, 1) := by decide +kernel
theorem dX6_readOperand_18 : decode cX6_readOperand 18 = .ok (.getfield 47, 3) := by decide +kernel
theorem dX6_readOperand_21 : decode cX6_readOperand 21 = .ok (.bipush 6, 2) := by decide +kernel
theorem dX6_readOperand_23 : decode cX6_readOperand 23 = .ok (.if_icmp .ne 21, 3) := by decide +kernel
theorem dX6_readOperand_26 : decode cX6_readOperand 26 = .ok (.aload_n 0, 1) := by decide +kernel
theorem dX6_readOperand_27 : decode cX6_readOperand 27 = .ok (.getfield 99, 3) := by decide +kernel
theorem dX6_readOperand_30 : decode cX6_readOperand 30 = .ok (.sipush (-1000), 3) := by decide +kernel
theorem dX6_readOperand_33 : decode cX6_readOperand 33 = .ok (.if_icmp .ne 11, 3) := by decide +kernel
theorem dX6_readOperand_36 : decode cX6_readOperand 36 = .ok (.aload_n 0, 1) := by decide +kernel
theorem dX6_readOperand_37 : decode cX6_readOperand 37 = .ok (.iconst 3, 1) := by decide +kernel
theorem dX6_readOperand_38 : decode cX6_readOperand 38 = .ok (.invokevirtual 64, 3) := by decide +kernel
theorem dX6_readOperand_41 : decode cX6_readOperand 41 = .ok (.goto 25, 3) := by decide +kernel
theorem dX6_readOperand_44 : decode cX6_readOperand 44 = .ok (.aload_n 0, 1) := by decide +kernel
theorem dX6_readOperand_45 : decode cX6_readOperand 45 = .ok (.aload_n 0, 1) := by decide +kernel
theorem dX6_readOperand_46 : decode cX6_readOperand 46 = .ok (.getfield 99, 3) := by decide +kernel
theorem dX6_readOperand_49 : decode cX6_readOperand 49 = .ok (.invokevirtual 81, 3) := by decide +kernel
theorem dX6_readOperand_52 : decode cX6_readOperand 52 = .ok (.aload_n 0, 1) := by decide +kernel
theorem dX6_readOperand_53 : decode cX6_readOperand 53 = .ok (.dup, 1) := by decide +kernel
theorem dX6_readOperand_54 : decode cX6_readOperand 54 = .ok (.getfield 35, 3) := by decide +kernel
theorem dX6_readOperand_57 : decode cX6_readOperand 57 = .ok (.iconst 1, 1) := by decide +kernel
theorem dX6_readOperand_58 : decode cX6_readOperand 58 = .ok (.iadd, 1) := by decide +kernel
theorem dX6_readOperand_59 : decode cX6_readOperand 59 = .ok (.putfield 35, 3) := by decide +kernel
theorem dX6_readOperand_62 : decode cX6_readOperand 62 = .ok (.aload_n 0, 1) := by decide +kernel
theorem dX6_readOperand_63 : decode cX6_readOperand 63 = .ok (.invokevirtual 44, 3) := by decide +kernel
theorem dX6_readOperand_66 : decode cX6_readOperand 66 = .ok (.return_, 1) := by decide +kernel
theorem dX6_isTooDeep_0 : decode cX6_isTooDeep 0 = .ok (.iload_n 1, 1) := by decide +kernel
theorem dX6_isTooDeep_1 : decode cX6_isTooDeep 1 = .ok (.bipush 8, 2) := by decide +kernel
theorem dX6_isTooDeep_3 : decode cX6_isTooDeep 3 = .ok (.if_icmp .lt 10, 3) := by decide +kernel
theorem dX6_isTooDeep_6 : decode cX6_isTooDeep 6 = .ok (.aload_n 0, 1) := by decide +kernel
theorem dX6_isTooDeep_7 : decode cX6_isTooDeep 7 = .ok (.iconst 2, 1) := by decide +kernel
theorem dX6_isTooDeep_8 : decode cX6_isTooDeep 8 = .ok (.invokevirtual 64, 3) := by decide +kernel
theorem dX6_isTooDeep_11 : decode cX6_isTooDeep 11 = .ok (.iconst 1, 1) := by decide +kernel
theorem dX6_isTooDeep_12 : decode cX6_isTooDeep 12 = .ok (.ireturn, 1) := by decide +kernel
theorem dX6_isTooDeep_13 : decode cX6_isTooDeep 13 = .ok (.iconst 0, 1) := by decide +kernel
theorem dX6_isTooDeep_14 : decode cX6_isTooDeep 14 = .ok (.ireturn, 1) := by decide +kernel
theorem dX6_expect_0 : decode cX6_expect 0 = .ok (.aload_n 0, 1) := by decide +kernel
theorem dX6_expect_1 : decode cX6_expect 1 = .ok (.getfield 47, 3) := by decide +kernel
theorem dX6_expect_4 : decode cX6_expect 4 = .ok (.iload_n 1, 1) := by decide +kernel
theorem dX6_expect_5 : decode cX6_expect 5 = .ok (.if_icmp .ne 10, 3) := by decide +kernel
theorem dX6_expect_8 : decode cX6_expect 8 = .ok (.aload_n 0, 1) := by decide +kernel
theorem dX6_expect_9 : decode cX6_expect 9 = .ok (.invokevirtual 44, 3) := by decide +kernel
theorem dX6_expect_12 : decode cX6_expect 12 = .ok (.goto 8, 3) := by decide +kernel
theorem dX6_expect_15 : decode cX6_expect 15 = .ok (.aload_n 0, 1) := by decide +kernel
theorem dX6_expect_16 : decode cX6_expect 16 = .ok (.iconst 2, 1) := by decide +kernel
theorem dX6_expect_17 : decode cX6_expect 17 = .ok (.invokevirtual 64, 3) := by decide +kernel
theorem dX6_expect_20 : decode cX6_expect 20 = .ok (.return_, 1) := by decide +kernel
theorem dX6_fail_0 : decode cX6_fail 0 = .ok (.aload_n 0, 1) := by decide +kernel
theorem dX6_fail_1 : decode cX6_fail 1 = .ok (.getfield 41, 3) := by decide +kernel
theorem dX6_fail_4 : decode cX6_fail 4 = .ok (.ifCond .ne 16, 3) := by decide +kernel
theorem dX6_fail_7 : decode cX6_fail 7 = .ok (.aload_n 0, 1) := by decide +kernel
theorem dX6_fail_8 : decode cX6_fail 8 = .ok (.iload_n 1, 1) := by decide +kernel
theorem dX6_fail_9 : decode cX6_fail 9 = .ok (.putfield 41, 3) := by decide +kernel
theorem dX6_fail_12 : decode cX6_fail 12 = .ok (.aload_n 0, 1) := by decide +kernel
theorem dX6_fail_13 : decode cX6_fail 13 = .ok (.aload_n 0, 1) := by decide +kernel
theorem dX6_fail_14 : decode cX6_fail 14 = .ok (.getfield 102, 3) := by decide +kernel
theorem dX6_fail_17 : decode cX6_fail 17 = .ok (.putfield 21, 3) := by decide +kernel
theorem dX6_fail_20 : decode cX6_fail 20 = .ok (.aload_n 0, 1) := by decide +kernel
theorem dX6_fail_21 : decode cX6_fail 21 = .ok (.bipush 8, 2) := by decide +kernel
theorem dX6_fail_23 : decode cX6_fail 23 = .ok (.putfield 47, 3) := by decide +kernel
theorem dX6_fail_26 : decode cX6_fail 26 = .ok (.return_, 1) := by decide +kernel
theorem dX6_emit_0 : decode cX6_emit 0 = .ok (.aload_n 0, 1) := by decide +kernel
theorem dX6_emit_1 : decode cX6_emit 1 = .ok (.getfield 29, 3) := by decide +kernel
theorem dX6_emit_4 : decode cX6_emit 4 = .ok (.aload_n 0, 1) := by decide +kernel
theorem dX6_emit_5 : decode cX6_emit 5 = .ok (.getfield 9, 3) := by decide +kernel
theorem dX6_emit_8 : decode cX6_emit 8 = .ok (.arraylength, 1) := by decide +kernel
theorem dX6_emit_9 : decode cX6_emit 9 = .ok (.if_icmp .ge 23, 3) := by decide +kernel
theorem dX6_emit_12 : decode cX6_emit 12 = .ok (.aload_n 0, 1) := by decide +kernel
theorem dX6_emit_13 : decode cX6_emit 13 = .ok (.getfield 9, 3) := by decide +kernel
theorem dX6_emit_16 : decode cX6_emit 16 = .ok (.aload_n 0, 1) := by decide +kernel
theorem dX6_emit_17 : decode cX6_emit 17 = .ok (.getfield 29, 3) := by decide +kernel
theorem dX6_emit_20 : decode cX6_emit 20 = .ok (.iload_n 1, 1) := by decide +kernel
theorem dX6_emit_21 : decode cX6_emit 21 = .ok (.iastore, 1) := by decide +kernel
theorem dX6_emit_22 : decode cX6_emit 22 = .ok (.aload_n 0, 1) := by decide +kernel
theorem dX6_emit_23 : decode cX6_emit 23 = .ok (.dup, 1) := by decide +kernel
theorem dX6_emit_24 : decode cX6_emit 24 = .ok (.getfield 29, 3) := by decide +kernel
theorem dX6_emit_27 : decode cX6_emit 27 = .ok (.iconst 1, 1) := by decide +kernel
theorem dX6_emit_28 : decode cX6_emit 28 = .ok (.iadd, 1) := by decide +kernel
theorem dX6_emit_29 : decode cX6_emit 29 = .ok (.putfield 29, 3) := by decide +kernel
theorem dX6_emit_32 : decode cX6_emit 32 = .ok (.return_, 1) := by decide +kernel
theorem dX6_advance_0 : decode cX6_advance 0 = .ok (.aload_n 0, 1) := by decide +kernel
theorem dX6_advance_1 : decode cX6_advance 1 = .ok (.getfield 38, 3) := by decide +kernel
theorem dX6_advance_4 : decode cX6_advance 4 = .ok (.aload_n 0, 1) := by decide +kernel
theorem dX6_advance_5 : decode cX6_advance 5 = .ok (.getfield 25, 3) := by decide +kernel
theorem dX6_advance_8 : decode cX6_advance 8 = .ok (.getfield 105, 3) := by decide +kernel
theorem dX6_advance_11 : decode cX6_advance 11 = .ok (.if_icmp .ge 33, 3) := by decide +kernel
theorem dX6_advance_14 : decode cX6_advance 14 = .ok (.aload_n 0, 1) := by decide +kernel
theorem dX6_advance_15 : decode cX6_advance 15 = .ok (.getfield 25, 3) := by decide +kernel
theorem dX6_advance_18 : decode cX6_advance 18 = .ok (.aload_n 0, 1) := by decide +kernel
theorem dX6_advance_19 : decode cX6_advance 19 = .ok (.getfield 38, 3) := by decide +kernel
theorem dX6_advance_22 : decode cX6_advance 22 = .ok (.invokevirtual 110, 3) := by decide +kernel
theorem dX6_advance_25 : decode cX6_advance 25 = .ok (.invokestatic 114, 3) := by decide +kernel
theorem dX6_advance_28 : decode cX6_advance 28 = .ok (.ifCond .eq 16, 3) := by decide +kernel
theorem dX6_advance_31 : decode cX6_advance 31 = .ok (.aload_n 0, 1) := by decide +kernel
theorem dX6_advance_32 : decode cX6_advance 32 = .ok (.dup, 1) := by decide +kernel
theorem dX6_advance_33 : decode cX6_advance 33 = .ok (.getfield 38, 3) := by decide +kernel
theorem dX6_advance_36 : decode cX6_advance 36 = .ok (.iconst 1, 1) := by decide +kernel
theorem dX6_advance_37 : decode cX6_advance 37 = .ok (.iadd, 1) := by decide +kernel
theorem dX6_advance_38 : decode cX6_advance 38 = .ok (.putfield 38, 3) := by decide +kernel
theorem dX6_advance_41 : decode cX6_advance 41 = .ok (.goto (-41), 3) := by decide +kernel
theorem dX6_advance_44 : decode cX6_advance 44 = .ok (.aload_n 0, 1) := by decide +kernel
theorem dX6_advance_45 : decode cX6_advance 45 = .ok (.aload_n 0, 1) := by decide +kernel
theorem dX6_advance_46 : decode cX6_advance 46 = .ok (.getfield 38, 3) := by decide +kernel
theorem dX6_advance_49 : decode cX6_advance 49 = .ok (.putfield 102, 3) := by decide +kernel
theorem dX6_advance_52 : decode cX6_advance 52 = .ok (.aload_n 0, 1) := by decide +kernel
theorem dX6_advance_53 : decode cX6_advance 53 = .ok (.getfield 25, 3) := by decide +kernel
theorem dX6_advance_56 : decode cX6_advance 56 = .ok (.aload_n 0, 1) := by decide +kernel
theorem dX6_advance_57 : decode cX6_advance 57 = .ok (.getfield 38, 3) := by decide +kernel
theorem dX6_advance_60 : decode cX6_advance 60 = .ok (.invokevirtual 110, 3) := by decide +kernel
theorem dX6_advance_63 : decode cX6_advance 63 = .ok (.istore_n 1, 1) := by decide +kernel
