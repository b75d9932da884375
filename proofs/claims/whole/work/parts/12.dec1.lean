theorem dX6_advance_64 : decode cX6_advance 64 = .ok (.aload_n 0, 1) := by decide +kernel
theorem dX6_advance_65 : decode cX6_advance 65 = .ok (.getfield 38, 3) := by decide +kernel
theorem dX6_advance_68 : decode cX6_advance 68 = .ok (.aload_n 0, 1) := by decide +kernel
theorem dX6_advance_69 : decode cX6_advance 69 = .ok (.getfield 25, 3) := by decide +kernel
theorem dX6_advance_72 : decode cX6_advance 72 = .ok (.getfield 105, 3) := by decide +kernel
theorem dX6_advance_75 : decode cX6_advance 75 = .ok (.if_icmp .lt 11, 3) := by decide +kernel
theorem dX6_advance_78 : decode cX6_advance 78 = .ok (.aload_n 0, 1) := by decide +kernel
theorem dX6_advance_79 : decode cX6_advance 79 = .ok (.iconst 0, 1) := by decide +kernel
theorem dX6_advance_80 : decode cX6_advance 80 = .ok (.putfield 47, 3) := by decide +kernel
theorem dX6_advance_83 : decode cX6_advance 83 = .ok (.goto 61, 3) := by decide +kernel
theorem dX6_advance_86 : decode cX6_advance 86 = .ok (.iload_n 1, 1) := by decide +kernel
theorem dX6_advance_87 : decode cX6_advance 87 = .ok (.invokestatic 117, 3) := by decide +kernel
theorem dX6_advance_90 : decode cX6_advance 90 = .ok (.ifCond .eq 10, 3) := by decide +kernel
theorem dX6_advance_93 : decode cX6_advance 93 = .ok (.aload_n 0, 1) := by decide +kernel
theorem dX6_advance_94 : decode cX6_advance 94 = .ok (.invokevirtual 120, 3) := by decide +kernel
theorem dX6_advance_97 : decode cX6_advance 97 = .ok (.goto 47, 3) := by decide +kernel
theorem dX6_advance_100 : decode cX6_advance 100 = .ok (.iload_n 1, 1) := by decide +kernel
theorem dX6_advance_101 : decode cX6_advance 101 = .ok (.invokestatic 123, 3) := by decide +kernel
theorem dX6_advance_104 : decode cX6_advance 104 = .ok (.ifCond .eq 10, 3) := by decide +kernel
theorem dX6_advance_107 : decode cX6_advance 107 = .ok (.aload_n 0, 1) := by decide +kernel
theorem dX6_advance_108 : decode cX6_advance 108 = .ok (.invokevirtual 126, 3) := by decide +kernel
theorem dX6_advance_111 : decode cX6_advance 111 = .ok (.goto 33, 3) := by decide +kernel
theorem dX6_advance_114 : decode cX6_advance 114 = .ok (.iload_n 1, 1) := by decide +kernel
theorem dX6_advance_115 : decode cX6_advance 115 = .ok (.invokestatic 129, 3) := by decide +kernel
theorem dX6_advance_118 : decode cX6_advance 118 = .ok (.ifCond .eq 21, 3) := by decide +kernel
theorem dX6_advance_121 : decode cX6_advance 121 = .ok (.aload_n 0, 1) := by decide +kernel
theorem dX6_advance_122 : decode cX6_advance 122 = .ok (.iload_n 1, 1) := by decide +kernel
theorem dX6_advance_123 : decode cX6_advance 123 = .ok (.putfield 47, 3) := by decide +kernel
theorem dX6_advance_126 : decode cX6_advance 126 = .ok (.aload_n 0, 1) := by decide +kernel
theorem dX6_advance_127 : decode cX6_advance 127 = .ok (.dup, 1) := by decide +kernel
theorem dX6_advance_128 : decode cX6_advance 128 = .ok (.getfield 38, 3) := by decide +kernel
theorem dX6_advance_131 : decode cX6_advance 131 = .ok (.iconst 1, 1) := by decide +kernel
theorem dX6_advance_132 : decode cX6_advance 132 = .ok (.iadd, 1) := by decide +kernel
theorem dX6_advance_133 : decode cX6_advance 133 = .ok (.putfield 38, 3) := by decide +kernel
theorem dX6_advance_136 : decode cX6_advance 136 = .ok (.goto 8, 3) := by decide +kernel
theorem dX6_advance_139 : decode cX6_advance 139 = .ok (.aload_n 0, 1) := by decide +kernel
theorem dX6_advance_140 : decode cX6_advance 140 = .ok (.iconst 1, 1) := by decide +kernel
theorem dX6_advance_141 : decode cX6_advance 141 = .ok (.invokevirtual 64, 3) := by decide +kernel
theorem dX6_advance_144 : decode cX6_advance 144 = .ok (.return_, 1) := by decide +kernel
theorem dX6_takeWord_0 : decode cX6_takeWord 0 = .ok (.lconst 0, 1) := by decide +kernel
theorem dX6_takeWord_1 : decode cX6_takeWord 1 = .ok (.lstore_n 1, 1) := by decide +kernel
theorem dX6_takeWord_2 : decode cX6_takeWord 2 = .ok (.aload_n 0, 1) := by decide +kernel
theorem dX6_takeWord_3 : decode cX6_takeWord 3 = .ok (.getfield 38, 3) := by decide +kernel
theorem dX6_takeWord_6 : decode cX6_takeWord 6 = .ok (.aload_n 0, 1) := by decide +kernel
theorem dX6_takeWord_7 : decode cX6_takeWord 7 = .ok (.getfield 25, 3) := by decide +kernel
theorem dX6_takeWord_10 : decode cX6_takeWord 10 = .ok (.getfield 105, 3) := by decide +kernel
theorem dX6_takeWord_13 : decode cX6_takeWord 13 = .ok (.if_icmp .ge 51, 3) := by decide +kernel
theorem dX6_takeWord_16 : decode cX6_takeWord 16 = .ok (.aload_n 0, 1) := by decide +kernel
theorem dX6_takeWord_17 : decode cX6_takeWord 17 = .ok (.getfield 25, 3) := by decide +kernel
theorem dX6_takeWord_20 : decode cX6_takeWord 20 = .ok (.aload_n 0, 1) := by decide +kernel
theorem dX6_takeWord_21 : decode cX6_takeWord 21 = .ok (.getfield 38, 3) := by decide +kernel
theorem dX6_takeWord_24 : decode cX6_takeWord 24 = .ok (.invokevirtual 110, 3) := by decide +kernel
theorem dX6_takeWord_27 : decode cX6_takeWord 27 = .ok (.invokestatic 117, 3) := by decide +kernel
theorem dX6_takeWord_30 : decode cX6_takeWord 30 = .ok (.ifCond .eq 34, 3) := by decide +kernel
theorem dX6_takeWord_33 : decode cX6_takeWord 33 = .ok (.lload_n 1, 1) := by decide +kernel
theorem dX6_takeWord_34 : decode cX6_takeWord 34 = .ok (.bipush 8, 2) := by decide +kernel
theorem dX6_takeWord_36 : decode cX6_takeWord 36 = .ok (.lshl, 1) := by decide +kernel
theorem dX6_takeWord_37 : decode cX6_takeWord 37 = .ok (.aload_n 0, 1) := by decide +kernel
theorem dX6_takeWord_38 : decode cX6_takeWord 38 = .ok (.getfield 25, 3) := by decide +kernel
theorem dX6_takeWord_41 : decode cX6_takeWord 41 = .ok (.aload_n 0, 1) := by decide +kernel
theorem dX6_takeWord_42 : decode cX6_takeWord 42 = .ok (.getfield 38, 3) := by decide +kernel
theorem dX6_takeWord_45 : decode cX6_takeWord 45 = .ok (.invokevirtual 110, 3) := by decide +kernel
theorem dX6_takeWord_48 : decode cX6_takeWord 48 = .ok (.i2l, 1) := by decide +kernel
theorem dX6_takeWord_49 : decode cX6_takeWord 49 = .ok (.lor, 1) := by decide +kernel
theorem dX6_takeWord_50 : decode cX6_takeWord 50 = .ok (.lstore_n 1, 1) := by decide +kernel
theorem dX6_takeWord_51 : decode cX6_takeWord 51 = .ok (.aload_n 0, 1) := by decide +kernel
theorem dX6_takeWord_52 : decode cX6_takeWord 52 = .ok (.dup, 1) := by decide +kernel
theorem dX6_takeWord_53 : decode cX6_takeWord 53 = .ok (.getfield 38, 3) := by decide +kernel
theorem dX6_takeWord_56 : decode cX6_takeWord 56 = .ok (.iconst 1, 1) := by decide +kernel
theorem dX6_takeWord_57 : decode cX6_takeWord 57 = .ok (.iadd, 1) := by decide +kernel
theorem dX6_takeWord_58 : decode cX6_takeWord 58 = .ok (.putfield 38, 3) := by decide +kernel
theorem dX6_takeWord_61 : decode cX6_takeWord 61 = .ok (.goto (-59), 3) := by decide +kernel
theorem dX6_takeWord_64 : decode cX6_takeWord 64 = .ok (.aload_n 0, 1) := by decide +kernel
theorem dX6_takeWord_65 : decode cX6_takeWord 65 = .ok (.getfield 38, 3) := by decide +kernel
theorem dX6_takeWord_68 : decode cX6_takeWord 68 = .ok (.aload_n 0, 1) := by decide +kernel
theorem dX6_takeWord_69 : decode cX6_takeWord 69 = .ok (.getfield 102, 3) := by decide +kernel
theorem dX6_takeWord_72 : decode cX6_takeWord 72 = .ok (.isub, 1) := by decide +kernel
theorem dX6_takeWord_73 : decode cX6_takeWord 73 = .ok (.bipush 8, 2) := by decide +kernel
theorem dX6_takeWord_75 : decode cX6_takeWord 75 = .ok (.if_icmp .le 9, 3) := by decide +kernel
theorem dX6_takeWord_78 : decode cX6_takeWord 78 = .ok (.aload_n 0, 1) := by decide +kernel
theorem dX6_takeWord_79 : decode cX6_takeWord 79 = .ok (.iconst 1, 1) := by decide +kernel
theorem dX6_takeWord_80 : decode cX6_takeWord 80 = .ok (.invokevirtual 64, 3) := by decide +kernel
theorem dX6_takeWord_83 : decode cX6_takeWord 83 = .ok (.return_, 1) := by decide +kernel
theorem dX6_takeWord_84 : decode cX6_takeWord 84 = .ok (.aload_n 0, 1) := by decide +kernel
theorem dX6_takeWord_85 : decode cX6_takeWord 85 = .ok (.lload_n 1, 1) := by decide +kernel
theorem dX6_takeWord_86 : decode cX6_takeWord 86 = .ok (.invokestatic 132, 3) := by decide +kernel
theorem dX6_takeWord_89 : decode cX6_takeWord 89 = .ok (.putfield 47, 3) := by decide +kernel
theorem dX6_takeWord_92 : decode cX6_takeWord 92 = .ok (.aload_n 0, 1) := by decide +kernel
theorem dX6_takeWord_93 : decode cX6_takeWord 93 = .ok (.lload_n 1, 1) := by decide +kernel
theorem dX6_takeWord_94 : decode cX6_takeWord 94 = .ok (.invokestatic 136, 3) := by decide +kernel
theorem dX6_takeWord_97 : decode cX6_takeWord 97 = .ok (.putfield 99, 3) := by decide +kernel
theorem dX6_takeWord_100 : decode cX6_takeWord 100 = .ok (.return_, 1) := by decide +kernel
theorem dX6_takeNumber_0 : decode cX6_takeNumber 0 = .ok (.iconst 0, 1) := by decide +kernel
theorem dX6_takeNumber_1 : decode cX6_takeNumber 1 = .ok (.istore_n 1, 1) := by decide +kernel
theorem dX6_takeNumber_2 : decode cX6_takeNumber 2 = .ok (.aload_n 0, 1) := by decide +kernel
theorem dX6_takeNumber_3 : decode cX6_takeNumber 3 = .ok (.getfield 38, 3) := by decide +kernel
theorem dX6_takeNumber_6 : decode cX6_takeNumber 6 = .ok (.aload_n 0, 1) := by decide +kernel
theorem dX6_takeNumber_7 : decode cX6_takeNumber 7 = .ok (.getfield 25, 3) := by decide +kernel
theorem dX6_takeNumber_10 : decode cX6_takeNumber 10 = .ok (.getfield 105, 3) := by decide +kernel
theorem dX6_takeNumber_13 : decode cX6_takeNumber 13 = .ok (.if_icmp .ge 53, 3) := by decide +kernel
theorem dX6_takeNumber_16 : decode cX6_takeNumber 16 = .ok (.aload_n 0, 1) := by decide +kernel
theorem dX6_takeNumber_17 : decode cX6_takeNumber 17 = .ok (.getfield 25, 3) := by decide +kernel
theorem dX6_takeNumber_20 : decode cX6_takeNumber 20 = .ok (.aload_n 0, 1) := by decide +kernel
theorem dX6_takeNumber_21 : decode cX6_takeNumber 21 = .ok (.getfield 38, 3) := by decide +kernel
theorem dX6_takeNumber_24 : decode cX6_takeNumber 24 = .ok (.invokevirtual 110, 3) := by decide +kernel
theorem dX6_takeNumber_27 : decode cX6_takeNumber 27 = .ok (.invokestatic 123, 3) := by decide +kernel
theorem dX6_takeNumber_30 : decode cX6_takeNumber 30 = .ok (.ifCond .eq 36, 3) := by decide +kernel
theorem dX6_takeNumber_33 : decode cX6_takeNumber 33 = .ok (.bipush 10, 2) := by decide +kernel
theorem dX6_takeNumber_35 : decode cX6_takeNumber 35 = .ok (.iload_n 1, 1) := by decide +kernel
theorem dX6_takeNumber_36 : decode cX6_takeNumber 36 = .ok (.imul, 1) := by decide +kernel
theorem dX6_takeNumber_37 : decode cX6_takeNumber 37 = .ok (.aload_n 0, 1) := by decide +kernel
theorem dX6_takeNumber_38 : decode cX6_takeNumber 38 = .ok (.getfield 25, 3) := by decide +kernel
theorem dX6_takeNumber_41 : decode cX6_takeNumber 41 = .ok (.aload_n 0, 1) := by decide +kernel
theorem dX6_takeNumber_42 : decode cX6_takeNumber 42 = .ok (.getfield 38, 3) := by decide +kernel
theorem dX6_takeNumber_45 : decode cX6_takeNumber 45 = .ok (.invokevirtual 110, 3) := by decide +kernel
theorem dX6_takeNumber_48 : decode cX6_takeNumber 48 = .ok (.iadd, 1) := by decide +kernel
theorem dX6_takeNumber_49 : decode cX6_takeNumber 49 = .ok (.bipush 48, 2) := by decide +kernel
theorem dX6_takeNumber_51 : decode cX6_takeNumber 51 = .ok (.isub, 1) := by decide +kernel
theorem dX6_takeNumber_52 : decode cX6_takeNumber 52 = .ok (.istore_n 1, 1) := by decide +kernel
theorem dX6_takeNumber_53 : decode cX6_takeNumber 53 = .ok (.aload_n 0, 1) := by decide +kernel
theorem dX6_takeNumber_54 : decode cX6_takeNumber 54 = .ok (.dup, 1) := by decide +kernel
theorem dX6_takeNumber_55 : decode cX6_takeNumber 55 = .ok (.getfield 38, 3) := by decide +kernel
theorem dX6_takeNumber_58 : decode cX6_takeNumber 58 = .ok (.iconst 1, 1) := by decide +kernel
theorem dX6_takeNumber_59 : decode cX6_takeNumber 59 = .ok (.iadd, 1) := by decide +kernel
theorem dX6_takeNumber_60 : decode cX6_takeNumber 60 = .ok (.putfield 38, 3) := by decide +kernel
theorem dX6_takeNumber_63 : decode cX6_takeNumber 63 = .ok (.goto (-61), 3) := by decide +kernel
theorem dX6_takeNumber_66 : decode cX6_takeNumber 66 = .ok (.aload_n 0, 1) := by decide +kernel
theorem dX6_takeNumber_67 : decode cX6_takeNumber 67 = .ok (.getfield 38, 3) := by decide +kernel
theorem dX6_takeNumber_70 : decode cX6_takeNumber 70 = .ok (.aload_n 0, 1) := by decide +kernel
theorem dX6_takeNumber_71 : decode cX6_takeNumber 71 = .ok (.getfield 102, 3) := by decide +kernel
theorem dX6_takeNumber_74 : decode cX6_takeNumber 74 = .ok (.isub, 1) := by decide +kernel
theorem dX6_takeNumber_75 : decode cX6_takeNumber 75 = .ok (.bipush 6, 2) := by decide +kernel
theorem dX6_takeNumber_77 : decode cX6_takeNumber 77 = .ok (.if_icmp .gt 20, 3) := by decide +kernel
theorem dX6_takeNumber_80 : decode cX6_takeNumber 80 = .ok (.aload_n 0, 1) := by decide +kernel
theorem dX6_takeNumber_81 : decode cX6_takeNumber 81 = .ok (.getfield 25, 3) := by decide +kernel
theorem dX6_takeNumber_84 : decode cX6_takeNumber 84 = .ok (.aload_n 0, 1) := by decide +kernel
theorem dX6_takeNumber_85 : decode cX6_takeNumber 85 = .ok (.getfield 38, 3) := by decide +kernel
theorem dX6_takeNumber_88 : decode cX6_takeNumber 88 = .ok (.invokevirtual 110, 3) := by decide +kernel
theorem dX6_takeNumber_91 : decode cX6_takeNumber 91 = .ok (.invokestatic 117, 3) := by decide +kernel
theorem dX6_takeNumber_94 : decode cX6_takeNumber 94 = .ok (.ifCond .eq 9, 3) := by decide +kernel
theorem dX6_takeNumber_97 : decode cX6_takeNumber 97 = .ok (.aload_n 0, 1) := by decide +kernel
theorem dX6_takeNumber_98 : decode cX6_takeNumber 98 = .ok (.iconst 1, 1) := by decide +kernel
theorem dX6_takeNumber_99 : decode cX6_takeNumber 99 = .ok (.invokevirtual 64, 3) := by decide +kernel
theorem dX6_takeNumber_102 : decode cX6_takeNumber 102 = .ok (.return_, 1) := by decide +kernel
theorem dX6_takeNumber_103 : decode cX6_takeNumber 103 = .ok (.aload_n 0, 1) := by decide +kernel
theorem dX6_takeNumber_104 : decode cX6_takeNumber 104 = .ok (.bipush 7, 2) := by decide +kernel
theorem dX6_takeNumber_106 : decode cX6_takeNumber 106 = .ok (.putfield 47, 3) := by decide +kernel
theorem dX6_takeNumber_109 : decode cX6_takeNumber 109 = .ok (.aload_n 0, 1) := by decide +kernel
theorem dX6_takeNumber_110 : decode cX6_takeNumber 110 = .ok (.iload_n 1, 1) := by decide +kernel
theorem dX6_takeNumber_111 : decode cX6_takeNumber 111 = .ok (.putfield 99, 3) := by decide +kernel
theorem dX6_takeNumber_114 : decode cX6_takeNumber 114 = .ok (.return_, 1) := by decide +kernel
theorem dX6_wordToken_0 : decode cX6_wordToken 0 = .ok (.lload_n 0, 1) := by decide +kernel
theorem dX6_wordToken_1 : decode cX6_wordToken 1 = .ok (.ldc2_w 139, 3) := by decide +kernel
theorem dX6_wordToken_4 : decode cX6_wordToken 4 = .ok (.lcmp, 1) := by decide +kernel
theorem dX6_wordToken_5 : decode cX6_wordToken 5 = .ok (.ifCond .ne 5, 3) := by decide +kernel
theorem dX6_wordToken_8 : decode cX6_wordToken 8 = .ok (.iconst 1, 1) := by decide +kernel
theorem dX6_wordToken_9 : decode cX6_wordToken 9 = .ok (.ireturn, 1) := by decide +kernel
theorem dX6_wordToken_10 : decode cX6_wordToken 10 = .ok (.lload_n 0, 1) := by decide +kernel
theorem dX6_wordToken_11 : decode cX6_wordToken 11 = .ok (.ldc2_w 141, 3) := by decide +kernel
theorem dX6_wordToken_14 : decode cX6_wordToken 14 = .ok (.lcmp, 1) := by decide +kernel
theorem dX6_wordToken_15 : decode cX6_wordToken 15 = .ok (.ifCond .ne 5, 3) := by decide +kernel
theorem dX6_wordToken_18 : decode cX6_wordToken 18 = .ok (.iconst 2, 1) := by decide +kernel
theorem dX6_wordToken_19 : decode cX6_wordToken 19 = .ok (.ireturn, 1) := by decide +kernel
theorem dX6_wordToken_20 : decode cX6_wordToken 20 = .ok (.lload_n 0, 1) := by decide +kernel
theorem dX6_wordToken_21 : decode cX6_wordToken 21 = .ok (.ldc2_w 143, 3) := by decide +kernel
theorem dX6_wordToken_24 : decode cX6_wordToken 24 = .ok (.lcmp, 1) := by decide +kernel
theorem dX6_wordToken_25 : decode cX6_wordToken 25 = .ok (.ifCond .ne 5, 3) := by decide +kernel
theorem dX6_wordToken_28 : decode cX6_wordToken 28 = .ok (.iconst 3, 1) := by decide +kernel
theorem dX6_wordToken_29 : decode cX6_wordToken 29 = .ok (.ireturn, 1) := by decide +kernel
theorem dX6_wordToken_30 : decode cX6_wordToken 30 = .ok (.lload_n 0, 1) := by decide +kernel
theorem dX6_wordToken_31 : decode cX6_wordToken 31 = .ok (.ldc2_w 145, 3) := by decide +kernel
theorem dX6_wordToken_34 : decode cX6_wordToken 34 = .ok (.lcmp, 1) := by decide +kernel
theorem dX6_wordToken_35 : decode cX6_wordToken 35 = .ok (.ifCond .ne 5, 3) := by decide +kernel
theorem dX6_wordToken_38 : decode cX6_wordToken 38 = .ok (.iconst 4, 1) := by decide +kernel
theorem dX6_wordToken_39 : decode cX6_wordToken 39 = .ok (.ireturn, 1) := by decide +kernel
theorem dX6_wordToken_40 : decode cX6_wordToken 40 = .ok (.lload_n 0, 1) := by decide +kernel
theorem dX6_wordToken_41 : decode cX6_wordToken 41 = .ok (.ldc2_w 147, 3) := by decide +kernel
theorem dX6_wordToken_44 : decode cX6_wordToken 44 = .ok (.lcmp, 1) := by decide +kernel
theorem dX6_wordToken_45 : decode cX6_wordToken 45 = .ok (.ifCond .ne 7, 3) := by decide +kernel
theorem dX6_wordToken_48 : decode cX6_wordToken 48 = .ok (.iconst 5, 1) := by decide +kernel
theorem dX6_wordToken_49 : decode cX6_wordToken 49 = .ok (.goto 5, 3) := by decide +kernel
theorem dX6_wordToken_52 : decode cX6_wordToken 52 = .ok (.bipush 6, 2) := by decide +kernel
theorem dX6_wordToken_54 : decode cX6_wordToken 54 = .ok (.ireturn, 1) := by decide +kernel
theorem dX6_nameCode_0 : decode cX6_nameCode 0 = .ok (.lload_n 0, 1) := by decide +kernel
theorem dX6_nameCode_1 : decode cX6_nameCode 1 = .ok (.ldc2_w 149, 3) := by decide +kernel
theorem dX6_nameCode_4 : decode cX6_nameCode 4 = .ok (.lcmp, 1) := by decide +kernel
theorem dX6_nameCode_5 : decode cX6_nameCode 5 = .ok (.ifCond .ne 5, 3) := by decide +kernel
theorem dX6_nameCode_8 : decode cX6_nameCode 8 = .ok (.iconst (-1), 1) := by decide +kernel
theorem dX6_nameCode_9 : decode cX6_nameCode 9 = .ok (.ireturn, 1) := by decide +kernel
theorem dX6_nameCode_10 : decode cX6_nameCode 10 = .ok (.lload_n 0, 1) := by decide +kernel
theorem dX6_nameCode_11 : decode cX6_nameCode 11 = .ok (.ldc2_w 151, 3) := by decide +kernel
theorem dX6_nameCode_14 : decode cX6_nameCode 14 = .ok (.lcmp, 1) := by decide +kernel
theorem dX6_nameCode_15 : decode cX6_nameCode 15 = .ok (.ifCond .ne 6, 3) := by decide +kernel
theorem dX6_nameCode_18 : decode cX6_nameCode 18 = .ok (.bipush (-2), 2) := by decide +kernel
theorem dX6_nameCode_20 : decode cX6_nameCode 20 = .ok (.ireturn, 1) := by decide +kernel
theorem dX6_nameCode_21 : decode cX6_nameCode 21 = .ok (.lload_n 0, 1) := by decide +kernel
theorem dX6_nameCode_22 : decode cX6_nameCode 22 = .ok (.ldc2_w 153, 3) := by decide +kernel
theorem dX6_nameCode_25 : decode cX6_nameCode 25 = .ok (.lcmp, 1) := by decide +kernel
theorem dX6_nameCode_26 : decode cX6_nameCode 26 = .ok (.ifCond .ne 6, 3) := by decide +kernel
theorem dX6_nameCode_29 : decode cX6_nameCode 29 = .ok (.bipush (-3), 2) := by decide +kernel
theorem dX6_nameCode_31 : decode cX6_nameCode 31 = .ok (.ireturn, 1) := by decide +kernel
theorem dX6_nameCode_32 : decode cX6_nameCode 32 = .ok (.lload_n 0, 1) := by decide +kernel
theorem dX6_nameCode_33 : decode cX6_nameCode 33 = .ok (.ldc2_w 155, 3) := by decide +kernel
theorem dX6_nameCode_36 : decode cX6_nameCode 36 = .ok (.lcmp, 1) := by decide +kernel
theorem dX6_nameCode_37 : decode cX6_nameCode 37 = .ok (.ifCond .ne 6, 3) := by decide +kernel
theorem dX6_nameCode_40 : decode cX6_nameCode 40 = .ok (.bipush (-4), 2) := by decide +kernel
theorem dX6_nameCode_42 : decode cX6_nameCode 42 = .ok (.ireturn, 1) := by decide +kernel
theorem dX6_nameCode_43 : decode cX6_nameCode 43 = .ok (.lload_n 0, 1) := by decide +kernel
theorem dX6_nameCode_44 : decode cX6_nameCode 44 = .ok (.ldc2_w 157, 3) := by decide +kernel
theorem dX6_nameCode_47 : decode cX6_nameCode 47 = .ok (.lcmp, 1) := by decide +kernel
theorem dX6_nameCode_48 : decode cX6_nameCode 48 = .ok (.ifCond .ne 6, 3) := by decide +kernel
theorem dX6_nameCode_51 : decode cX6_nameCode 51 = .ok (.bipush (-5), 2) := by decide +kernel
theorem dX6_nameCode_53 : decode cX6_nameCode 53 = .ok (.ireturn, 1) := by decide +kernel
theorem dX6_nameCode_54 : decode cX6_nameCode 54 = .ok (.lload_n 0, 1) := by decide +kernel
theorem dX6_nameCode_55 : decode cX6_nameCode 55 = .ok (.ldc2_w 159, 3) := by decide +kernel
theorem dX6_nameCode_58 : decode cX6_nameCode 58 = .ok (.lcmp, 1) := by decide +kernel
theorem dX6_nameCode_59 : decode cX6_nameCode 59 = .ok (.ifCond .ne 8, 3) := by decide +kernel
theorem dX6_nameCode_62 : decode cX6_nameCode 62 = .ok (.bipush (-6), 2) := by decide +kernel
theorem dX6_nameCode_64 : decode cX6_nameCode 64 = .ok (.goto 6, 3) := by decide +kernel
theorem dX6_nameCode_67 : decode cX6_nameCode 67 = .ok (.sipush (-1000), 3) := by decide +kernel
theorem dX6_nameCode_70 : decode cX6_nameCode 70 = .ok (.ireturn, 1) := by decide +kernel
theorem dX6_isBlank_0 : decode cX6_isBlank 0 = .ok (.iload_n 0, 1) := by decide +kernel
theorem dX6_isBlank_1 : decode cX6_isBlank 1 = .ok (.bipush 32, 2) := by decide +kernel
theorem dX6_isBlank_3 : decode cX6_isBlank 3 = .ok (.if_icmp .eq 9, 3) := by decide +kernel
theorem dX6_isBlank_6 : decode cX6_isBlank 6 = .ok (.iload_n 0, 1) := by decide +kernel
theorem dX6_isBlank_7 : decode cX6_isBlank 7 = .ok (.bipush 10, 2) := by decide +kernel
theorem dX6_isBlank_9 : decode cX6_isBlank 9 = .ok (.if_icmp .ne 7, 3) := by decide +kernel
theorem dX6_isBlank_12 : decode cX6_isBlank 12 = .ok (.iconst 1, 1) := by decide +kernel
theorem dX6_isBlank_13 : decode cX6_isBlank 13 = .ok (.goto 4, 3) := by decide +kernel
theorem dX6_isBlank_16 : decode cX6_isBlank 16 = .ok (.iconst 0, 1) := by decide +kernel
theorem dX6_isBlank_17 : decode cX6_isBlank 17 = .ok (.ireturn, 1) := by decide +kernel
theorem dX6_isLetter_0 : decode cX6_isLetter 0 = .ok (.iload_n 0, 1) := by decide +kernel
theorem dX6_isLetter_1 : decode cX6_isLetter 1 = .ok (.bipush 97, 2) := by decide +kernel
theorem dX6_isLetter_3 : decode cX6_isLetter 3 = .ok (.if_icmp .lt 13, 3) := by decide +kernel
theorem dX6_isLetter_6 : decode cX6_isLetter 6 = .ok (.iload_n 0, 1) := by decide +kernel
theorem dX6_isLetter_7 : decode cX6_isLetter 7 = .ok (.bipush 122, 2) := by decide +kernel
theorem dX6_isLetter_9 : decode cX6_isLetter 9 = .ok (.if_icmp .gt 7, 3) := by decide +kernel
theorem dX6_isLetter_12 : decode cX6_isLetter 12 = .ok (.iconst 1, 1) := by decide +kernel
theorem dX6_isLetter_13 : decode cX6_isLetter 13 = .ok (.goto 4, 3) := by decide +kernel
theorem dX6_isLetter_16 : decode cX6_isLetter 16 = .ok (.iconst 0, 1) := by decide +kernel
theorem dX6_isLetter_17 : decode cX6_isLetter 17 = .ok (.ireturn, 1) := by decide +kernel
theorem dX6_isDigit_0 : decode cX6_isDigit 0 = .ok (.iload_n 0, 1) := by decide +kernel
theorem dX6_isDigit_1 : decode cX6_isDigit 1 = .ok (.bipush 48, 2) := by decide +kernel
theorem dX6_isDigit_3 : decode cX6_isDigit 3 = .ok (.if_icmp .lt 13, 3) := by decide +kernel
theorem dX6_isDigit_6 : decode cX6_isDigit 6 = .ok (.iload_n 0, 1) := by decide +kernel
theorem dX6_isDigit_7 : decode cX6_isDigit 7 = .ok (.bipush 57, 2) := by decide +kernel
theorem dX6_isDigit_9 : decode cX6_isDigit 9 = .ok (.if_icmp .gt 7, 3) := by decide +kernel
theorem dX6_isDigit_12 : decode cX6_isDigit 12 = .ok (.iconst 1, 1) := by decide +kernel
theorem dX6_isDigit_13 : decode cX6_isDigit 13 = .ok (.goto 4, 3) := by decide +kernel
theorem dX6_isDigit_16 : decode cX6_isDigit 16 = .ok (.iconst 0, 1) := by decide +kernel
theorem dX6_isDigit_17 : decode cX6_isDigit 17 = .ok (.ireturn, 1) := by decide +kernel
theorem dX6_isSign_0 : decode cX6_isSign 0 = .ok (.iload_n 0, 1) := by decide +kernel
theorem dX6_isSign_1 : decode cX6_isSign 1 = .ok (.bipush 59, 2) := by decide +kernel
theorem dX6_isSign_3 : decode cX6_isSign 3 = .ok (.if_icmp .eq 37, 3) := by decide +kernel
theorem dX6_isSign_6 : decode cX6_isSign 6 = .ok (.iload_n 0, 1) := by decide +kernel
theorem dX6_isSign_7 : decode cX6_isSign 7 = .ok (.bipush 60, 2) := by decide +kernel
theorem dX6_isSign_9 : decode cX6_isSign 9 = .ok (.bipush 62, 2) := by decide +kernel
theorem dX6_isSign_11 : decode cX6_isSign 11 = .ok (.invokestatic 161, 3) := by decide +kernel
theorem dX6_isSign_14 : decode cX6_isSign 14 = .ok (.ifCond .ne 26, 3) := by decide +kernel
theorem dX6_isSign_17 : decode cX6_isSign 17 = .ok (.iload_n 0, 1) := by decide +kernel
theorem dX6_isSign_18 : decode cX6_isSign 18 = .ok (.bipush 40, 2) := by decide +kernel
theorem dX6_isSign_20 : decode cX6_isSign 20 = .ok (.bipush 43, 2) := by decide +kernel
theorem dX6_isSign_22 : decode cX6_isSign 22 = .ok (.invokestatic 161, 3) := by decide +kernel
theorem dX6_isSign_25 : decode cX6_isSign 25 = .ok (.ifCond .ne 15, 3) := by decide +kernel
theorem dX6_isSign_28 : decode cX6_isSign 28 = .ok (.iload_n 0, 1) := by decide +kernel
theorem dX6_isSign_29 : decode cX6_isSign 29 = .ok (.bipush 45, 2) := by decide +kernel
theorem dX6_isSign_31 : decode cX6_isSign 31 = .ok (.if_icmp .eq 9, 3) := by decide +kernel
theorem dX6_isSign_34 : decode cX6_isSign 34 = .ok (.iload_n 0, 1) := by decide +kernel
theorem dX6_isSign_35 : decode cX6_isSign 35 = .ok (.bipush 47, 2) := by decide +kernel
theorem dX6_isSign_37 : decode cX6_isSign 37 = .ok (.if_icmp .ne 7, 3) := by decide +kernel
theorem dX6_isSign_40 : decode cX6_isSign 40 = .ok (.iconst 1, 1) := by decide +kernel
theorem dX6_isSign_41 : decode cX6_isSign 41 = .ok (.goto 4, 3) := by decide +kernel
theorem dX6_isSign_44 : decode cX6_isSign 44 = .ok (.iconst 0, 1) := by decide +kernel
theorem dX6_isSign_45 : decode cX6_isSign 45 = .ok (.ireturn, 1) := by decide +kernel
theorem dX7_init_0 : decode cX7_init 0 = .ok (.aload_n 0, 1) := by decide +kernel
theorem dX7_init_1 : decode cX7_init 1 = .ok (.invokespecial 3, 3) := by decide +kernel
theorem dX7_init_4 : decode cX7_init 4 = .ok (.aload_n 0, 1) := by decide +kernel
theorem dX7_init_5 : decode cX7_init 5 = .ok (.bipush 100, 2) := by decide +kernel
theorem dX7_init_7 : decode cX7_init 7 = .ok (.newarray .int, 2) := by decide +kernel
theorem dX7_init_9 : decode cX7_init 9 = .ok (.putfield 9, 3) := by decide +kernel
theorem dX7_init_12 : decode cX7_init 12 = .ok (.aload_n 0, 1) := by decide +kernel
theorem dX7_init_13 : decode cX7_init 13 = .ok (.bipush 6, 2) := by decide +kernel
theorem dX7_init_15 : decode cX7_init 15 = .ok (.newarray .int, 2) := by decide +kernel
theorem dX7_init_17 : decode cX7_init 17 = .ok (.putfield 15, 3) := by decide +kernel
theorem dX7_init_20 : decode cX7_init 20 = .ok (.return_, 1) := by decide +kernel
theorem dX7_quote_0 : decode cX7_quote 0 = .ok (.aload_n 0, 1) := by decide +kernel
theorem dX7_quote_1 : decode cX7_quote 1 = .ok (.getfield 15, 3) := by decide +kernel
theorem dX7_quote_4 : decode cX7_quote 4 = .ok (.iconst 0, 1) := by decide +kernel
theorem dX7_quote_5 : decode cX7_quote 5 = .ok (.aload_n 1, 1) := by decide +kernel
theorem dX7_quote_6 : decode cX7_quote 6 = .ok (.getfield 18, 3) := by decide +kernel
theorem dX7_quote_9 : decode cX7_quote 9 = .ok (.iastore, 1) := by decide +kernel
theorem dX7_quote_10 : decode cX7_quote 10 = .ok (.aload_n 0, 1) := by decide +kernel
theorem dX7_quote_11 : decode cX7_quote 11 = .ok (.getfield 15, 3) := by decide +kernel
theorem dX7_quote_14 : decode cX7_quote 14 = .ok (.iconst 1, 1) := by decide +kernel
theorem dX7_quote_15 : decode cX7_quote 15 = .ok (.iload_n 2, 1) := by decide +kernel
theorem dX7_quote_16 : decode cX7_quote 16 = .ok (.iastore, 1) := by decide +kernel
theorem dX7_quote_17 : decode cX7_quote 17 = .ok (.aload_n 0, 1) := by decide +kernel
theorem dX7_quote_18 : decode cX7_quote 18 = .ok (.getfield 15, 3) := by decide +kernel
theorem dX7_quote_21 : decode cX7_quote 21 = .ok (.iconst 2, 1) := by decide +kernel
theorem dX7_quote_22 : decode cX7_quote 22 = .ok (.aload_n 1, 1) := by decide +kernel
theorem dX7_quote_23 : decode cX7_quote 23 = .ok (.getfield 24, 3) := by decide +kernel
theorem dX7_quote_26 : decode cX7_quote 26 = .ok (.iastore, 1) := by decide +kernel
theorem dX7_quote_27 : decode cX7_quote 27 = .ok (.aload_n 0, 1) := by decide +kernel
theorem dX7_quote_28 : decode cX7_quote 28 = .ok (.getfield 15, 3) := by decide +kernel
theorem dX7_quote_31 : decode cX7_quote 31 = .ok (.iconst 3, 1) := by decide +kernel
theorem dX7_quote_32 : decode cX7_quote 32 = .ok (.aload_n 1, 1) := by decide +kernel
theorem dX7_quote_33 : decode cX7_quote 33 = .ok (.getfield 27, 3) := by decide +kernel
theorem dX7_quote_36 : decode cX7_quote 36 = .ok (.iastore, 1) := by decide +kernel
theorem dX7_quote_37 : decode cX7_quote 37 = .ok (.aload_n 0, 1) := by decide +kernel
theorem dX7_quote_38 : decode cX7_quote 38 = .ok (.getfield 15, 3) := by decide +kernel
theorem dX7_quote_41 : decode cX7_quote 41 = .ok (.iconst 4, 1) := by decide +kernel
theorem dX7_quote_42 : decode cX7_quote 42 = .ok (.aload_n 1, 1) := by decide +kernel
theorem dX7_quote_43 : decode cX7_quote 43 = .ok (.getfield 30, 3) := by decide +kernel
theorem dX7_quote_46 : decode cX7_quote 46 = .ok (.iastore, 1) := by decide +kernel
theorem dX7_quote_47 : decode cX7_quote 47 = .ok (.aload_n 0, 1) := by decide +kernel
theorem dX7_quote_48 : decode cX7_quote 48 = .ok (.getfield 15, 3) := by decide +kernel
theorem dX7_quote_51 : decode cX7_quote 51 = .ok (.iconst 5, 1) := by decide +kernel
theorem dX7_quote_52 : decode cX7_quote 52 = .ok (.iload_n 3, 1) := by decide +kernel
theorem dX7_quote_53 : decode cX7_quote 53 = .ok (.iastore, 1) := by decide +kernel
theorem dX7_quote_54 : decode cX7_quote 54 = .ok (.aload_n 1, 1) := by decide +kernel
theorem dX7_quote_55 : decode cX7_quote 55 = .ok (.getfield 33, 3) := by decide +kernel
theorem dX7_quote_58 : decode cX7_quote 58 = .ok (.astore 4, 2) := by decide +kernel
theorem dX7_quote_60 : decode cX7_quote 60 = .ok (.iconst 0, 1) := by decide +kernel
theorem dX7_quote_61 : decode cX7_quote 61 = .ok (.istore 5, 2) := by decide +kernel
theorem dX7_quote_63 : decode cX7_quote 63 = .ok (.iconst 0, 1) := by decide +kernel
theorem dX7_quote_64 : decode cX7_quote 64 = .ok (.istore 6, 2) := by decide +kernel
theorem dX7_quote_66 : decode cX7_quote 66 = .ok (.iload 6, 2) := by decide +kernel
theorem dX7_quote_68 : decode cX7_quote 68 = .ok (.aload 4, 2) := by decide +kernel
theorem dX7_quote_70 : decode cX7_quote 70 = .ok (.invokevirtual 37, 3) := by decide +kernel
theorem dX7_quote_73 : decode cX7_quote 73 = .ok (.if_icmp .ge 70, 3) := by decide +kernel
theorem dX7_quote_76 : decode cX7_quote 76 = .ok (.aload 4, 2) := by decide +kernel
theorem dX7_quote_78 : decode cX7_quote 78 = .ok (.getfield 43, 3) := by decide +kernel
theorem dX7_quote_81 : decode cX7_quote 81 = .ok (.iload 6, 2) := by decide +kernel
theorem dX7_quote_83 : decode cX7_quote 83 = .ok (.iaload, 1) := by decide +kernel
theorem dX7_quote_84 : decode cX7_quote 84 = .ok (.istore 7, 2) := by decide +kernel
theorem dX7_quote_86 : decode cX7_quote 86 = .ok (.aload 4, 2) := by decide +kernel
theorem dX7_quote_88 : decode cX7_quote 88 = .ok (.getfield 46, 3) := by decide +kernel
theorem dX7_quote_91 : decode cX7_quote 91 = .ok (.iload 6, 2) := by decide +kernel
theorem dX7_quote_93 : decode cX7_quote 93 = .ok (.iaload, 1) := by decide +kernel
theorem dX7_quote_94 : decode cX7_quote 94 = .ok (.istore 8, 2) := by decide +kernel
theorem dX7_quote_96 : decode cX7_quote 96 = .ok (.iload 7, 2) := by decide +kernel
theorem dX7_quote_98 : decode cX7_quote 98 = .ok (.iload 5, 2) := by decide +kernel
theorem dX7_quote_100 : decode cX7_quote 100 = .ok (.if_icmp .eq 19, 3) := by decide +kernel
theorem dX7_quote_103 : decode cX7_quote 103 = .ok (.aload_n 0, 1) := by decide +kernel
theorem dX7_quote_104 : decode cX7_quote 104 = .ok (.aload 4, 2) := by decide +kernel
theorem dX7_quote_106 : decode cX7_quote 106 = .ok (.getfield 49, 3) := by decide +kernel
theorem dX7_quote_109 : decode cX7_quote 109 = .ok (.iload 5, 2) := by decide +kernel
theorem dX7_quote_111 : decode cX7_quote 111 = .ok (.iload 7, 2) := by decide +kernel
theorem dX7_quote_113 : decode cX7_quote 113 = .ok (.invokevirtual 52, 3) := by decide +kernel
theorem dX7_quote_116 : decode cX7_quote 116 = .ok (.ifCond .eq 17, 3) := by decide +kernel
theorem dX7_quote_119 : decode cX7_quote 119 = .ok (.aload_n 0, 1) := by decide +kernel
theorem dX7_quote_120 : decode cX7_quote 120 = .ok (.aload 4, 2) := by decide +kernel
theorem dX7_quote_122 : decode cX7_quote 122 = .ok (.getfield 49, 3) := by decide +kernel
theorem dX7_quote_125 : decode cX7_quote 125 = .ok (.iload 7, 2) := by decide +kernel
theorem dX7_quote_127 : decode cX7_quote 127 = .ok (.iload 8, 2) := by decide +kernel
theorem dX7_quote_129 : decode cX7_quote 129 = .ok (.invokevirtual 52, 3) := by decide +kernel
theorem dX7_quote_132 : decode cX7_quote 132 = .ok (.ireturn, 1) := by decide +kernel
theorem dX7_quote_133 : decode cX7_quote 133 = .ok (.iload 8, 2) := by decide +kernel
theorem dX7_quote_135 : decode cX7_quote 135 = .ok (.istore 5, 2) := by decide +kernel
theorem dX7_quote_137 : decode cX7_quote 137 = .ok (.iinc 6 1, 3) := by decide +kernel
theorem dX7_quote_140 : decode cX7_quote 140 = .ok (.goto (-74), 3) := by decide +kernel
theorem dX7_quote_143 : decode cX7_quote 143 = .ok (.iconst 0, 1) := by decide +kernel
theorem dX7_quote_144 : decode cX7_quote 144 = .ok (.ireturn, 1) := by decide +kernel
theorem dX7_valueOf_0 : decode cX7_valueOf 0 = .ok (.aload_n 0, 1) := by decide +kernel
theorem dX7_valueOf_1 : decode cX7_valueOf 1 = .ok (.iconst 0, 1) := by decide +kernel
theorem dX7_valueOf_2 : decode cX7_valueOf 2 = .ok (.putfield 56, 3) := by decide +kernel
theorem dX7_valueOf_5 : decode cX7_valueOf 5 = .ok (.iload_n 2, 1) := by decide +kernel
theorem dX7_valueOf_6 : decode cX7_valueOf 6 = .ok (.iconst 0, 1) := by decide +kernel
theorem dX7_valueOf_7 : decode cX7_valueOf 7 = .ok (.invokestatic 59, 3) := by decide +kernel
theorem dX7_valueOf_10 : decode cX7_valueOf 10 = .ok (.istore 4, 2) := by decide +kernel
theorem dX7_valueOf_12 : decode cX7_valueOf 12 = .ok (.iload 4, 2) := by decide +kernel
theorem dX7_valueOf_14 : decode cX7_valueOf 14 = .ok (.iload_n 3, 1) := by decide +kernel
theorem dX7_valueOf_15 : decode cX7_valueOf 15 = .ok (.if_icmp .ge 24, 3) := by decide +kernel
theorem dX7_valueOf_18 : decode cX7_valueOf 18 = .ok (.iload 4, 2) := by decide +kernel
theorem dX7_valueOf_20 : decode cX7_valueOf 20 = .ok (.aload_n 1, 1) := by decide +kernel
theorem dX7_valueOf_21 : decode cX7_valueOf 21 = .ok (.arraylength, 1) := by decide +kernel
theorem dX7_valueOf_22 : decode cX7_valueOf 22 = .ok (.if_icmp .ge 17, 3) := by decide +kernel
theorem dX7_valueOf_25 : decode cX7_valueOf 25 = .ok (.aload_n 0, 1) := by decide +kernel
theorem dX7_valueOf_26 : decode cX7_valueOf 26 = .ok (.aload_n 1, 1) := by decide +kernel
theorem dX7_valueOf_27 : decode cX7_valueOf 27 = .ok (.iload 4, 2) := by decide +kernel
theorem dX7_valueOf_29 : decode cX7_valueOf 29 = .ok (.iaload, 1) := by decide +kernel
theorem dX7_valueOf_30 : decode cX7_valueOf 30 = .ok (.invokevirtual 65, 3) := by decide +kernel
theorem dX7_valueOf_33 : decode cX7_valueOf 33 = .ok (.iinc 4 1, 3) := by decide +kernel
theorem dX7_valueOf_36 : decode cX7_valueOf 36 = .ok (.goto (-24), 3) := by decide +kernel
theorem dX7_valueOf_39 : decode cX7_valueOf 39 = .ok (.aload_n 0, 1) := by decide +kernel
theorem dX7_valueOf_40 : decode cX7_valueOf 40 = .ok (.invokevirtual 69, 3) := by decide +kernel
theorem dX7_valueOf_43 : decode cX7_valueOf 43 = .ok (.ireturn, 1) := by decide +kernel
theorem dX7_step_0 : decode cX7_step 0 = .ok (.iload_n 1, 1) := by decide +kernel
theorem dX7_step_1 : decode cX7_step 1 = .ok (.bipush (-6), 2) := by decide +kernel
theorem dX7_step_3 : decode cX7_step 3 = .ok (.if_icmp .lt 23, 3) := by decide +kernel
theorem dX7_step_6 : decode cX7_step 6 = .ok (.aload_n 0, 1) := by decide +kernel
theorem dX7_step_7 : decode cX7_step 7 = .ok (.iload_n 1, 1) := by decide +kernel
theorem dX7_step_8 : decode cX7_step 8 = .ok (.ifCond .lt 7, 3) := by decide +kernel
theorem dX7_step_11 : decode cX7_step 11 = .ok (.iload_n 1, 1) := by decide +kernel
theorem dX7_step_12 : decode cX7_step 12 = .ok (.goto 8, 3) := by decide +kernel
theorem dX7_step_15 : decode cX7_step 15 = .ok (.aload_n 0, 1) := by decide +kernel
theorem dX7_step_16 : decode cX7_step 16 = .ok (.iload_n 1, 1) := by decide +kernel
theorem dX7_step_17 : decode cX7_step 17 = .ok (.invokevirtual 72, 3) := by decide +kernel
theorem dX7_step_20 : decode cX7_step 20 = .ok (.invokevirtual 76, 3) := by decide +kernel
theorem dX7_step_23 : decode cX7_step 23 = .ok (.goto 66, 3) := by decide +kernel
theorem dX7_step_26 : decode cX7_step 26 = .ok (.iload_n 1, 1) := by decide +kernel
theorem dX7_step_27 : decode cX7_step 27 = .ok (.bipush (-9), 2) := by decide +kernel
theorem dX7_step_29 : decode cX7_step 29 = .ok (.if_icmp .ne 22, 3) := by decide +kernel
theorem dX7_step_32 : decode cX7_step 32 = .ok (.aload_n 0, 1) := by decide +kernel
theorem dX7_step_33 : decode cX7_step 33 = .ok (.aload_n 0, 1) := by decide +kernel
theorem dX7_step_34 : decode cX7_step 34 = .ok (.invokevirtual 69, 3) := by decide +kernel
theorem dX7_step_37 : decode cX7_step 37 = .ok (.ifCond .ne 7, 3) := by decide +kernel
theorem dX7_step_40 : decode cX7_step 40 = .ok (.iconst 1, 1) := by decide +kernel
theorem dX7_step_41 : decode cX7_step 41 = .ok (.goto 4, 3) := by decide +kernel
theorem dX7_step_44 : decode cX7_step 44 = .ok (.iconst 0, 1) := by decide +kernel
theorem dX7_step_45 : decode cX7_step 45 = .ok (.invokevirtual 76, 3) := by decide +kernel
theorem dX7_step_48 : decode cX7_step 48 = .ok (.goto 41, 3) := by decide +kernel
theorem dX7_step_51 : decode cX7_step 51 = .ok (.iload_n 1, 1) := by decide +kernel
theorem dX7_step_52 : decode cX7_step 52 = .ok (.bipush (-10), 2) := by decide +kernel
theorem dX7_step_54 : decode cX7_step 54 = .ok (.if_icmp .ne 15, 3) := by decide +kernel
theorem dX7_step_57 : decode cX7_step 57 = .ok (.aload_n 0, 1) := by decide +kernel
theorem dX7_step_58 : decode cX7_step 58 = .ok (.aload_n 0, 1) := by decide +kernel
theorem dX7_step_59 : decode cX7_step 59 = .ok (.invokevirtual 69, 3) := by decide +kernel
theorem dX7_step_62 : decode cX7_step 62 = .ok (.ineg, 1) := by decide +kernel
theorem dX7_step_63 : decode cX7_step 63 = .ok (.invokevirtual 76, 3) := by decide +kernel
theorem dX7_step_66 : decode cX7_step 66 = .ok (.goto 23, 3) := by decide +kernel
theorem dX7_step_69 : decode cX7_step 69 = .ok (.aload_n 0, 1) := by decide +kernel
theorem dX7_step_70 : decode cX7_step 70 = .ok (.invokevirtual 69, 3) := by decide +kernel
theorem dX7_step_73 : decode cX7_step 73 = .ok (.istore_n 2, 1) := by decide +kernel
theorem dX7_step_74 : decode cX7_step 74 = .ok (.aload_n 0, 1) := by decide +kernel
theorem dX7_step_75 : decode cX7_step 75 = .ok (.invokevirtual 69, 3) := by decide +kernel
theorem dX7_step_78 : decode cX7_step 78 = .ok (.istore_n 3, 1) := by decide +kernel
theorem dX7_step_79 : decode cX7_step 79 = .ok (.aload_n 0, 1) := by decide +kernel
theorem dX7_step_80 : decode cX7_step 80 = .ok (.iload_n 1, 1) := by decide +kernel
theorem dX7_step_81 : decode cX7_step 81 = .ok (.iload_n 3, 1) := by decide +kernel
theorem dX7_step_82 : decode cX7_step 82 = .ok (.iload_n 2, 1) := by decide +kernel
theorem dX7_step_83 : decode cX7_step 83 = .ok (.invokestatic 79, 3) := by decide +kernel
theorem dX7_step_86 : decode cX7_step 86 = .ok (.invokevirtual 76, 3) := by decide +kernel
theorem dX7_step_89 : decode cX7_step 89 = .ok (.return_, 1) := by decide +kernel
theorem dX7_valueOfName_0 : decode cX7_valueOfName 0 = .ok (.iconst (-1), 1) := by decide +kernel
theorem dX7_valueOfName_1 : decode cX7_valueOfName 1 = .ok (.iload_n 1, 1) := by decide +kernel
theorem dX7_valueOfName_2 : decode cX7_valueOfName 2 = .ok (.isub, 1) := by decide +kernel
theorem dX7_valueOfName_3 : decode cX7_valueOfName 3 = .ok (.istore_n 2, 1) := by decide +kernel
theorem dX7_valueOfName_4 : decode cX7_valueOfName 4 = .ok (.iload_n 2, 1) := by decide +kernel
theorem dX7_valueOfName_5 : decode cX7_valueOfName 5 = .ok (.ifCond .lt 21, 3) := by decide +kernel
theorem dX7_valueOfName_8 : decode cX7_valueOfName 8 = .ok (.iload_n 2, 1) := by decide +kernel
theorem dX7_valueOfName_9 : decode cX7_valueOfName 9 = .ok (.aload_n 0, 1) := by decide +kernel
theorem dX7_valueOfName_10 : decode cX7_valueOfName 10 = .ok (.getfield 15, 3) := by decide +kernel
theorem dX7_valueOfName_13 : decode cX7_valueOfName 13 = .ok (.arraylength, 1) := by decide +kernel
theorem dX7_valueOfName_14 : decode cX7_valueOfName 14 = .ok (.if_icmp .ge 12, 3) := by decide +kernel
theorem dX7_valueOfName_17 : decode cX7_valueOfName 17 = .ok (.aload_n 0, 1) := by decide +kernel
theorem dX7_valueOfName_18 : decode cX7_valueOfName 18 = .ok (.getfield 15, 3) := by decide +kernel
theorem dX7_valueOfName_21 : decode cX7_valueOfName 21 = .ok (.iload_n 2, 1) := by decide +kernel
theorem dX7_valueOfName_22 : decode cX7_valueOfName 22 = .ok (.iaload, 1) := by decide +kernel
theorem dX7_valueOfName_23 : decode cX7_valueOfName 23 = .ok (.goto 4, 3) := by decide +kernel
theorem dX7_valueOfName_26 : decode cX7_valueOfName 26 = .ok (.iconst 0, 1) := by decide +kernel
theorem dX7_valueOfName_27 : decode cX7_valueOfName 27 = .ok (.ireturn, 1) := by decide +kernel
theorem dX7_joined_0 : decode cX7_joined 0 = .ok (.iload_n 0, 1) := by decide +kernel
theorem dX7_joined_1 : decode cX7_joined 1 = .ok (.lookupswitch 168 #[(-62, 122), (-61, 133), (-60, 111), (-47, 156), (-45, 148), (-43, 144), (-42, 152), (-8, 97), (-7, 83)], 83) := by decide +kernel
theorem dX7_joined_84 : decode cX7_joined 84 = .ok (.iload_n 1, 1) := by decide +kernel
theorem dX7_joined_85 : decode cX7_joined 85 = .ok (.ifCond .ne 7, 3) := by decide +kernel
theorem dX7_joined_88 : decode cX7_joined 88 = .ok (.iload_n 2, 1) := by decide +kernel
theorem dX7_joined_89 : decode cX7_joined 89 = .ok (.ifCond .eq 7, 3) := by decide +kernel
theorem dX7_joined_92 : decode cX7_joined 92 = .ok (.iconst 1, 1) := by decide +kernel
theorem dX7_joined_93 : decode cX7_joined 93 = .ok (.goto 4, 3) := by decide +kernel
theorem dX7_joined_96 : decode cX7_joined 96 = .ok (.iconst 0, 1) := by decide +kernel
theorem dX7_joined_97 : decode cX7_joined 97 = .ok (.ireturn, 1) := by decide +kernel
theorem dX7_joined_98 : decode cX7_joined 98 = .ok (.iload_n 1, 1) := by decide +kernel
theorem dX7_joined_99 : decode cX7_joined 99 = .ok (.ifCond .eq 11, 3) := by decide +kernel
theorem dX7_joined_102 : decode cX7_joined 102 = .ok (.iload_n 2, 1) := by decide +kernel
theorem dX7_joined_103 : decode cX7_joined 103 = .ok (.ifCond .eq 7, 3) := by decide +kernel
theorem dX7_joined_106 : decode cX7_joined 106 = .ok (.iconst 1, 1) := by decide +kernel
theorem dX7_joined_107 : decode cX7_joined 107 = .ok (.goto 4, 3) := by decide +kernel
theorem dX7_joined_110 : decode cX7_joined 110 = .ok (.iconst 0, 1) := by decide +kernel
theorem dX7_joined_111 : decode cX7_joined 111 = .ok (.ireturn, 1) := by decide +kernel
theorem dX7_joined_112 : decode cX7_joined 112 = .ok (.iload_n 1, 1) := by decide +kernel
theorem dX7_joined_113 : decode cX7_joined 113 = .ok (.iload_n 2, 1) := by decide +kernel
theorem dX7_joined_114 : decode cX7_joined 114 = .ok (.if_icmp .ge 7, 3) := by decide +kernel
theorem dX7_joined_117 : decode cX7_joined 117 = .ok (.iconst 1, 1) := by decide +kernel
theorem dX7_joined_118 : decode cX7_joined 118 = .ok (.goto 4, 3) := by decide +kernel
theorem dX7_joined_121 : decode cX7_joined 121 = .ok (.iconst 0, 1) := by decide +kernel
theorem dX7_joined_122 : decode cX7_joined 122 = .ok (.ireturn, 1) := by decide +kernel
theorem dX7_joined_123 : decode cX7_joined 123 = .ok (.iload_n 1, 1) := by decide +kernel
theorem dX7_joined_124 : decode cX7_joined 124 = .ok (.iload_n 2, 1) := by decide +kernel
theorem dX7_joined_125 : decode cX7_joined 125 = .ok (.if_icmp .le 7, 3) := by decide +kernel
theorem dX7_joined_128 : decode cX7_joined 128 = .ok (.iconst 1, 1) := by decide +kernel
theorem dX7_joined_129 : decode cX7_joined 129 = .ok (.goto 4, 3) := by decide +kernel
theorem dX7_joined_132 : decode cX7_joined 132 = .ok (.iconst 0, 1) := by decide +kernel
theorem dX7_joined_133 : decode cX7_joined 133 = .ok (.ireturn, 1) := by decide +kernel
theorem dX7_joined_134 : decode cX7_joined 134 = .ok (.iload_n 1, 1) := by decide +kernel
theorem dX7_joined_135 : decode cX7_joined 135 = .ok (.iload_n 2, 1) := by decide +kernel
theorem dX7_joined_136 : decode cX7_joined 136 = .ok (.if_icmp .ne 7, 3) := by decide +kernel
theorem dX7_joined_139 : decode cX7_joined 139 = .ok (.iconst 1, 1) := by decide +kernel
theorem dX7_joined_140 : decode cX7_joined 140 = .ok (.goto 4, 3) := by decide +kernel
theorem dX7_joined_143 : decode cX7_joined 143 = .ok (.iconst 0, 1) := by decide +kernel
theorem dX7_joined_144 : decode cX7_joined 144 = .ok (.ireturn, 1) := by decide +kernel
theorem dX7_joined_145 : decode cX7_joined 145 = .ok (.iload_n 1, 1) := by decide +kernel
theorem dX7_joined_146 : decode cX7_joined 146 = .ok (.iload_n 2, 1) := by decide +kernel
theorem dX7_joined_147 : decode cX7_joined 147 = .ok (.iadd, 1) := by decide +kernel
theorem dX7_joined_148 : decode cX7_joined 148 = .ok (.ireturn, 1) := by decide +kernel
theorem dX7_joined_149 : decode cX7_joined 149 = .ok (.iload_n 1, 1) := by decide +kernel
theorem dX7_joined_150 : decode cX7_joined 150 = .ok (.iload_n 2, 1) := by decide +kernel
theorem dX7_joined_151 : decode cX7_joined 151 = .ok (.isub, 1) := by decide +kernel
theorem dX7_joined_152 : decode cX7_joined 152 = .ok (.ireturn, 1) := by decide +kernel
theorem dX7_joined_153 : decode cX7_joined 153 = .ok (.iload_n 1, 1) := by decide +kernel
theorem dX7_joined_154 : decode cX7_joined 154 = .ok (.iload_n 2, 1) := by decide +kernel
theorem dX7_joined_155 : decode cX7_joined 155 = .ok (.imul, 1) := by decide +kernel
theorem dX7_joined_156 : decode cX7_joined 156 = .ok (.ireturn, 1) := by decide +kernel
theorem dX7_joined_157 : decode cX7_joined 157 = .ok (.iload_n 2, 1) := by decide +kernel
theorem dX7_joined_158 : decode cX7_joined 158 = .ok (.ifCond .ne 7, 3) := by decide +kernel
theorem dX7_joined_161 : decode cX7_joined 161 = .ok (.iconst 0, 1) := by decide +kernel
theorem dX7_joined_162 : decode cX7_joined 162 = .ok (.goto 6, 3) := by decide +kernel
theorem dX7_joined_165 : decode cX7_joined 165 = .ok (.iload_n 1, 1) := by decide +kernel
theorem dX7_joined_166 : decode cX7_joined 166 = .ok (.iload_n 2, 1) := by decide +kernel
theorem dX7_joined_167 : decode cX7_joined 167 = .ok (.idiv, 1) := by decide +kernel
theorem dX7_joined_168 : decode cX7_joined 168 = .ok (.ireturn, 1) := by decide +kernel
theorem dX7_joined_169 : decode cX7_joined 169 = .ok (.iconst 0, 1) := by decide +kernel
theorem dX7_joined_170 : decode cX7_joined 170 = .ok (.ireturn, 1) := by decide +kernel
theorem dX7_push_0 : decode cX7_push 0 = .ok (.aload_n 0, 1) := by decide +kernel
theorem dX7_push_1 : decode cX7_push 1 = .ok (.getfield 56, 3) := by decide +kernel
theorem dX7_push_4 : decode cX7_push 4 = .ok (.aload_n 0, 1) := by decide +kernel
theorem dX7_push_5 : decode cX7_push 5 = .ok (.getfield 9, 3) := by decide +kernel
theorem dX7_push_8 : decode cX7_push 8 = .ok (.arraylength, 1) := by decide +kernel
theorem dX7_push_9 : decode cX7_push 9 = .ok (.if_icmp .ge 23, 3) := by decide +kernel
theorem dX7_push_12 : decode cX7_push 12 = .ok (.aload_n 0, 1) := by decide +kernel
theorem dX7_push_13 : decode cX7_push 13 = .ok (.getfield 9, 3) := by decide +kernel
theorem dX7_push_16 : decode cX7_push 16 = .ok (.aload_n 0, 1) := by decide +kernel
theorem dX7_push_17 : decode cX7_push 17 = .ok (.getfield 56, 3) := by decide +kernel
theorem dX7_push_20 : decode cX7_push 20 = .ok (.iload_n 1, 1) := by decide +kernel
theorem dX7_push_21 : decode cX7_push 21 = .ok (.iastore, 1) := by decide +kernel
theorem dX7_push_22 : decode cX7_push 22 = .ok (.aload_n 0, 1) := by decide +kernel
theorem dX7_push_23 : decode cX7_push 23 = .ok (.dup, 1) := by decide +kernel
theorem dX7_push_24 : decode cX7_push 24 = .ok (.getfield 56, 3) := by decide +kernel
theorem dX7_push_27 : decode cX7_push 27 = .ok (.iconst 1, 1) := by decide +kernel
theorem dX7_push_28 : decode cX7_push 28 = .ok (.iadd, 1) := by decide +kernel
theorem dX7_push_29 : decode cX7_push 29 = .ok (.putfield 56, 3) := by decide +kernel
theorem dX7_push_32 : decode cX7_push 32 = .ok (.return_, 1) := by decide +kernel
theorem dX7_pop_0 : decode cX7_pop 0 = .ok (.aload_n 0, 1) := by decide +kernel
theorem dX7_pop_1 : decode cX7_pop 1 = .ok (.getfield 56, 3) := by decide +kernel
theorem dX7_pop_4 : decode cX7_pop 4 = .ok (.ifCond .gt 5, 3) := by decide +kernel
theorem dX7_pop_7 : decode cX7_pop 7 = .ok (.iconst 0, 1) := by decide +kernel
theorem dX7_pop_8 : decode cX7_pop 8 = .ok (.ireturn, 1) := by decide +kernel
theorem dX7_pop_9 : decode cX7_pop 9 = .ok (.aload_n 0, 1) := by decide +kernel
theorem dX7_pop_10 : decode cX7_pop 10 = .ok (.dup, 1) := by decide +kernel
theorem dX7_pop_11 : decode cX7_pop 11 = .ok (.getfield 56, 3) := by decide +kernel
theorem dX7_pop_14 : decode cX7_pop 14 = .ok (.iconst 1, 1) := by decide +kernel
theorem dX7_pop_15 : decode cX7_pop 15 = .ok (.isub, 1) := by decide +kernel
theorem dX7_pop_16 : decode cX7_pop 16 = .ok (.putfield 56, 3) := by decide +kernel
theorem dX7_pop_19 : decode cX7_pop 19 = .ok (.aload_n 0, 1) := by decide +kernel
theorem dX7_pop_20 : decode cX7_pop 20 = .ok (.getfield 9, 3) := by decide +kernel
theorem dX7_pop_23 : decode cX7_pop 23 = .ok (.aload_n 0, 1) := by decide +kernel
theorem dX7_pop_24 : decode cX7_pop 24 = .ok (.getfield 56, 3) := by decide +kernel
theorem dX7_pop_27 : decode cX7_pop 27 = .ok (.iaload, 1) := by decide +kernel
theorem dX7_pop_28 : decode cX7_pop 28 = .ok (.ireturn, 1) := by decide +kernel
theorem dX8_init_0 : decode cX8_init 0 = .ok (.aload_n 0, 1) := by decide +kernel
theorem dX8_init_1 : decode cX8_init 1 = .ok (.invokespecial 3, 3) := by decide +kernel
theorem dX8_init_4 : decode cX8_init 4 = .ok (.aload_n 0, 1) := by decide +kernel
theorem dX8_init_5 : decode cX8_init 5 = .ok (.bipush 16, 2) := by decide +kernel
theorem dX8_init_7 : decode cX8_init 7 = .ok (.anewarray 9, 3) := by decide +kernel
theorem dX8_init_10 : decode cX8_init 10 = .ok (.putfield 11, 3) := by decide +kernel
theorem dX8_init_13 : decode cX8_init 13 = .ok (.aload_n 0, 1) := by decide +kernel
theorem dX8_init_14 : decode cX8_init 14 = .ok (.bipush 16, 2) := by decide +kernel
theorem dX8_init_16 : decode cX8_init 16 = .ok (.newarray .int, 2) := by decide +kernel
theorem dX8_init_18 : decode cX8_init 18 = .ok (.putfield 17, 3) := by decide +kernel
theorem dX8_init_21 : decode cX8_init 21 = .ok (.aload_n 0, 1) := by decide +kernel
theorem dX8_init_22 : decode cX8_init 22 = .ok (.iconst 5, 1) := by decide +kernel
theorem dX8_init_23 : decode cX8_init 23 = .ok (.putfield 21, 3) := by decide +kernel
theorem dX8_init_26 : decode cX8_init 26 = .ok (.aload_n 0, 1) := by decide +kernel
theorem dX8_init_27 : decode cX8_init 27 = .ok (.iconst 2, 1) := by decide +kernel
theorem dX8_init_28 : decode cX8_init 28 = .ok (.putfield 25, 3) := by decide +kernel
theorem dX8_init_31 : decode cX8_init 31 = .ok (.return_, 1) := by decide +kernel
theorem dX8_add_0 : decode cX8_add 0 = .ok (.iload_n 1, 1) := by decide +kernel
theorem dX8_add_1 : decode cX8_add 1 = .ok (.iconst 0, 1) := by decide +kernel
theorem dX8_add_2 : decode cX8_add 2 = .ok (.bipush 7, 2) := by decide +kernel
theorem dX8_add_4 : decode cX8_add 4 = .ok (.invokestatic 28, 3) := by decide +kernel
theorem dX8_add_7 : decode cX8_add 7 = .ok (.ifCond .eq 41, 3) := by decide +kernel
theorem dX8_add_10 : decode cX8_add 10 = .ok (.iload_n 2, 1) := by decide +kernel
theorem dX8_add_11 : decode cX8_add 11 = .ok (.bipush 100, 2) := by decide +kernel
theorem dX8_add_13 : decode cX8_add 13 = .ok (.sipush 200, 3) := by decide +kernel
theorem dX8_add_16 : decode cX8_add 16 = .ok (.invokestatic 28, 3) := by decide +kernel
theorem dX8_add_19 : decode cX8_add 19 = .ok (.ifCond .eq 29, 3) := by decide +kernel
theorem dX8_add_22 : decode cX8_add 22 = .ok (.iload_n 3, 1) := by decide +kernel
theorem dX8_add_23 : decode cX8_add 23 = .ok (.iconst 1, 1) := by decide +kernel
theorem dX8_add_24 : decode cX8_add 24 = .ok (.bipush 20, 2) := by decide +kernel
theorem dX8_add_26 : decode cX8_add 26 = .ok (.invokestatic 28, 3) := by decide +kernel
theorem dX8_add_29 : decode cX8_add 29 = .ok (.ifCond .eq 19, 3) := by decide +kernel
theorem dX8_add_32 : decode cX8_add 32 = .ok (.iload 4, 2) := by decide +kernel
theorem dX8_add_34 : decode cX8_add 34 = .ok (.iconst 0, 1) := by decide +kernel
theorem dX8_add_35 : decode cX8_add 35 = .ok (.sipush 1000, 3) := by decide +kernel
theorem dX8_add_38 : decode cX8_add 38 = .ok (.invokestatic 28, 3) := by decide +kernel
theorem dX8_add_41 : decode cX8_add 41 = .ok (.ifCond .eq 7, 3) := by decide +kernel
theorem dX8_add_44 : decode cX8_add 44 = .ok (.iconst 1, 1) := by decide +kernel
theorem dX8_add_45 : decode cX8_add 45 = .ok (.goto 4, 3) := by decide +kernel
theorem dX8_add_48 : decode cX8_add 48 = .ok (.iconst 0, 1) := by decide +kernel
theorem dX8_add_49 : decode cX8_add 49 = .ok (.istore 5, 2) := by decide +kernel
theorem dX8_add_51 : decode cX8_add 51 = .ok (.iload 5, 2) := by decide +kernel
theorem dX8_add_53 : decode cX8_add 53 = .ok (.ifCond .eq 12, 3) := by decide +kernel
theorem dX8_add_56 : decode cX8_add 56 = .ok (.aload_n 0, 1) := by decide +kernel
theorem dX8_add_57 : decode cX8_add 57 = .ok (.getfield 32, 3) := by decide +kernel
theorem dX8_add_60 : decode cX8_add 60 = .ok (.bipush 16, 2) := by decide +kernel
theorem dX8_add_62 : decode cX8_add 62 = .ok (.if_icmp .lt 5, 3) := by decide +kernel
theorem dX8_add_65 : decode cX8_add 65 = .ok (.iconst (-1), 1) := by decide +kernel
theorem dX8_add_66 : decode cX8_add 66 = .ok (.ireturn, 1) := by decide +kernel
theorem dX8_add_67 : decode cX8_add 67 = .ok (.aload_n 0, 1) := by decide +kernel
theorem dX8_add_68 : decode cX8_add 68 = .ok (.getfield 11, 3) := by decide +kernel
theorem dX8_add_71 : decode cX8_add 71 = .ok (.aload_n 0, 1) := by decide +kernel
theorem dX8_add_72 : decode cX8_add 72 = .ok (.getfield 32, 3) := by decide +kernel
theorem dX8_add_75 : decode cX8_add 75 = .ok (.new 9, 3) := by decide +kernel
theorem dX8_add_78 : decode cX8_add 78 = .ok (.dup, 1) := by decide +kernel
theorem dX8_add_79 : decode cX8_add 79 = .ok (.iload_n 1, 1) := by decide +kernel
theorem dX8_add_80 : decode cX8_add 80 = .ok (.iload_n 2, 1) := by decide +kernel
theorem dX8_add_81 : decode cX8_add 81 = .ok (.iload_n 3, 1) := by decide +kernel
theorem dX8_add_82 : decode cX8_add 82 = .ok (.iload 4, 2) := by decide +kernel
theorem dX8_add_84 : decode cX8_add 84 = .ok (.invokespecial 35, 3) := by decide +kernel
theorem dX8_add_87 : decode cX8_add 87 = .ok (.aastore, 1) := by decide +kernel
theorem dX8_add_88 : decode cX8_add 88 = .ok (.aload_n 0, 1) := by decide +kernel
theorem dX8_add_89 : decode cX8_add 89 = .ok (.dup, 1) := by decide +kernel
theorem dX8_add_90 : decode cX8_add 90 = .ok (.getfield 32, 3) := by decide +kernel
theorem dX8_add_93 : decode cX8_add 93 = .ok (.iconst 1, 1) := by decide +kernel
theorem dX8_add_94 : decode cX8_add 94 = .ok (.iadd, 1) := by decide +kernel
theorem dX8_add_95 : decode cX8_add 95 = .ok (.putfield 32, 3) := by decide +kernel
theorem dX8_add_98 : decode cX8_add 98 = .ok (.aload_n 0, 1) := by decide +kernel
theorem dX8_add_99 : decode cX8_add 99 = .ok (.getfield 32, 3) := by decide +kernel
theorem dX8_add_102 : decode cX8_add 102 = .ok (.iconst 1, 1) := by decide +kernel
theorem dX8_add_103 : decode cX8_add 103 = .ok (.isub, 1) := by decide +kernel
theorem dX8_add_104 : decode cX8_add 104 = .ok (.ireturn, 1) := by decide +kernel
theorem dX8_has_0 : decode cX8_has 0 = .ok (.iload_n 1, 1) := by decide +kernel
theorem dX8_has_1 : decode cX8_has 1 = .ok (.ifCond .lt 15, 3) := by decide +kernel
theorem dX8_has_4 : decode cX8_has 4 = .ok (.iload_n 1, 1) := by decide +kernel
theorem dX8_has_5 : decode cX8_has 5 = .ok (.aload_n 0, 1) := by decide +kernel
theorem dX8_has_6 : decode cX8_has 6 = .ok (.getfield 32, 3) := by decide +kernel
theorem dX8_has_9 : decode cX8_has 9 = .ok (.if_icmp .ge 7, 3) := by decide +kernel
theorem dX8_has_12 : decode cX8_has 12 = .ok (.iconst 1, 1) := by decide +kernel
theorem dX8_has_13 : decode cX8_has 13 = .ok (.goto 4, 3) := by decide +kernel
theorem dX8_has_16 : decode cX8_has 16 = .ok (.iconst 0, 1) := by decide +kernel
theorem dX8_has_17 : decode cX8_has 17 = .ok (.ireturn, 1) := by decide +kernel
theorem dX8_hasAll_0 : decode cX8_hasAll 0 = .ok (.iload_n 1, 1) := by decide +kernel
theorem dX8_hasAll_1 : decode cX8_hasAll 1 = .ok (.aload_n 0, 1) := by decide +kernel
theorem dX8_hasAll_2 : decode cX8_hasAll 2 = .ok (.getfield 32, 3) := by decide +kernel
theorem dX8_hasAll_5 : decode cX8_hasAll 5 = .ok (.iushr, 1) := by decide +kernel
theorem dX8_hasAll_6 : decode cX8_hasAll 6 = .ok (.ifCond .ne 7, 3) := by decide +kernel
theorem dX8_hasAll_9 : decode cX8_hasAll 9 = .ok (.iconst 1, 1) := by decide +kernel
theorem dX8_hasAll_10 : decode cX8_hasAll 10 = .ok (.goto 4, 3) := by decide +kernel
theorem dX8_hasAll_13 : decode cX8_hasAll 13 = .ok (.iconst 0, 1) := by decide +kernel
theorem dX8_hasAll_14 : decode cX8_hasAll 14 = .ok (.ireturn, 1) := by decide +kernel
theorem dX8_setLame_0 : decode cX8_setLame 0 = .ok (.aload_n 0, 1) := by decide +kernel
theorem dX8_setLame_1 : decode cX8_setLame 1 = .ok (.iload_n 1, 1) := by decide +kernel
theorem dX8_setLame_2 : decode cX8_setLame 2 = .ok (.invokevirtual 38, 3) := by decide +kernel
theorem dX8_setLame_5 : decode cX8_setLame 5 = .ok (.ifCond .ne 5, 3) := by decide +kernel
theorem dX8_setLame_8 : decode cX8_setLame 8 = .ok (.iconst 0, 1) := by decide +kernel
theorem dX8_setLame_9 : decode cX8_setLame 9 = .ok (.ireturn, 1) := by decide +kernel
theorem dX8_setLame_10 : decode cX8_setLame 10 = .ok (.aload_n 0, 1) := by decide +kernel
theorem dX8_setLame_11 : decode cX8_setLame 11 = .ok (.getfield 11, 3) := by decide +kernel
theorem dX8_setLame_14 : decode cX8_setLame 14 = .ok (.iload_n 1, 1) := by decide +kernel
theorem dX8_setLame_15 : decode cX8_setLame 15 = .ok (.aaload, 1) := by decide +kernel
theorem dX8_setLame_16 : decode cX8_setLame 16 = .ok (.iload_n 2, 1) := by decide +kernel
theorem dX8_setLame_17 : decode cX8_setLame 17 = .ok (.putfield 42, 3) := by decide +kernel
theorem dX8_setLame_20 : decode cX8_setLame 20 = .ok (.iconst 1, 1) := by decide +kernel
theorem dX8_setLame_21 : decode cX8_setLame 21 = .ok (.ireturn, 1) := by decide +kernel
theorem dX8_setSpans_0 : decode cX8_setSpans 0 = .ok (.iload_n 1, 1) := by decide +kernel
theorem dX8_setSpans_1 : decode cX8_setSpans 1 = .ok (.iconst 0, 1) := by decide +kernel
theorem dX8_setSpans_2 : decode cX8_setSpans 2 = .ok (.bipush 50, 2) := by decide +kernel
theorem dX8_setSpans_4 : decode cX8_setSpans 4 = .ok (.invokestatic 28, 3) := by decide +kernel
theorem dX8_setSpans_7 : decode cX8_setSpans 7 = .ok (.ifCond .eq 13, 3) := by decide +kernel
theorem dX8_setSpans_10 : decode cX8_setSpans 10 = .ok (.iload_n 2, 1) := by decide +kernel
theorem dX8_setSpans_11 : decode cX8_setSpans 11 = .ok (.iconst 0, 1) := by decide +kernel
theorem dX8_setSpans_12 : decode cX8_setSpans 12 = .ok (.bipush 10, 2) := by decide +kernel
theorem dX8_setSpans_14 : decode cX8_setSpans 14 = .ok (.invokestatic 28, 3) := by decide +kernel
theorem dX8_setSpans_17 : decode cX8_setSpans 17 = .ok (.ifCond .ne 5, 3) := by decide +kernel
theorem dX8_setSpans_20 : decode cX8_setSpans 20 = .ok (.iconst 0, 1) := by decide +kernel
theorem dX8_setSpans_21 : decode cX8_setSpans 21 = .ok (.ireturn, 1) := by decide +kernel
theorem dX8_setSpans_22 : decode cX8_setSpans 22 = .ok (.aload_n 0, 1) := by decide +kernel
theorem dX8_setSpans_23 : decode cX8_setSpans 23 = .ok (.iload_n 1, 1) := by decide +kernel
theorem dX8_setSpans_24 : decode cX8_setSpans 24 = .ok (.putfield 21, 3) := by decide +kernel
theorem dX8_setSpans_27 : decode cX8_setSpans 27 = .ok (.aload_n 0, 1) := by decide +kernel
theorem dX8_setSpans_28 : decode cX8_setSpans 28 = .ok (.iload_n 2, 1) := by decide +kernel
theorem dX8_setSpans_29 : decode cX8_setSpans 29 = .ok (.putfield 25, 3) := by decide +kernel
theorem dX8_setSpans_32 : decode cX8_setSpans 32 = .ok (.iconst 1, 1) := by decide +kernel
theorem dX8_setSpans_33 : decode cX8_setSpans 33 = .ok (.ireturn, 1) := by decide +kernel
theorem dX8_firstStrength_0 : decode cX8_firstStrength 0 = .ok (.aload_n 0, 1) := by decide +kernel
theorem dX8_firstStrength_1 : decode cX8_firstStrength 1 = .ok (.iload_n 1, 1) := by decide +kernel
theorem dX8_firstStrength_2 : decode cX8_firstStrength 2 = .ok (.invokevirtual 38, 3) := by decide +kernel
theorem dX8_firstStrength_5 : decode cX8_firstStrength 5 = .ok (.ifCond .eq 15, 3) := by decide +kernel
theorem dX8_firstStrength_8 : decode cX8_firstStrength 8 = .ok (.aload_n 0, 1) := by decide +kernel
theorem dX8_firstStrength_9 : decode cX8_firstStrength 9 = .ok (.getfield 11, 3) := by decide +kernel
theorem dX8_firstStrength_12 : decode cX8_firstStrength 12 = .ok (.iload_n 1, 1) := by decide +kernel
theorem dX8_firstStrength_13 : decode cX8_firstStrength 13 = .ok (.aaload, 1) := by decide +kernel
theorem dX8_firstStrength_14 : decode cX8_firstStrength 14 = .ok (.getfield 46, 3) := by decide +kernel
theorem dX8_firstStrength_17 : decode cX8_firstStrength 17 = .ok (.goto 4, 3) := by decide +kernel
theorem dX8_firstStrength_20 : decode cX8_firstStrength 20 = .ok (.iconst 0, 1) := by decide +kernel
theorem dX8_firstStrength_21 : decode cX8_firstStrength 21 = .ok (.ireturn, 1) := by decide +kernel
theorem dX8_difference_0 : decode cX8_difference 0 = .ok (.aload_n 0, 1) := by decide +kernel
theorem dX8_difference_1 : decode cX8_difference 1 = .ok (.iload_n 1, 1) := by decide +kernel
theorem dX8_difference_2 : decode cX8_difference 2 = .ok (.invokevirtual 38, 3) := by decide +kernel
theorem dX8_difference_5 : decode cX8_difference 5 = .ok (.ifCond .eq 11, 3) := by decide +kernel
theorem dX8_difference_8 : decode cX8_difference 8 = .ok (.aload_n 0, 1) := by decide +kernel
theorem dX8_difference_9 : decode cX8_difference 9 = .ok (.iload_n 2, 1) := by decide +kernel
theorem dX8_difference_10 : decode cX8_difference 10 = .ok (.invokevirtual 38, 3) := by decide +kernel
theorem dX8_difference_13 : decode cX8_difference 13 = .ok (.ifCond .ne 5, 3) := by decide +kernel
theorem dX8_difference_16 : decode cX8_difference 16 = .ok (.iconst 0, 1) := by decide +kernel
theorem dX8_difference_17 : decode cX8_difference 17 = .ok (.ireturn, 1) := by decide +kernel
theorem dX8_difference_18 : decode cX8_difference 18 = .ok (.aload_n 0, 1) := by decide +kernel
theorem dX8_difference_19 : decode cX8_difference 19 = .ok (.getfield 11, 3) := by decide +kernel
theorem dX8_difference_22 : decode cX8_difference 22 = .ok (.iload_n 1, 1) := by decide +kernel
theorem dX8_difference_23 : decode cX8_difference 23 = .ok (.aaload, 1) := by decide +kernel
theorem dX8_difference_24 : decode cX8_difference 24 = .ok (.getfield 49, 3) := by decide +kernel
theorem dX8_difference_27 : decode cX8_difference 27 = .ok (.aload_n 0, 1) := by decide +kernel
theorem dX8_difference_28 : decode cX8_difference 28 = .ok (.getfield 11, 3) := by decide +kernel
theorem dX8_difference_31 : decode cX8_difference 31 = .ok (.iload_n 2, 1) := by decide +kernel
theorem dX8_difference_32 : decode cX8_difference 32 = .ok (.aaload, 1) := by decide +kernel
theorem dX8_difference_33 : decode cX8_difference 33 = .ok (.getfield 49, 3) := by decide +kernel
theorem dX8_difference_36 : decode cX8_difference 36 = .ok (.isub, 1) := by decide +kernel
theorem dX8_difference_37 : decode cX8_difference 37 = .ok (.invokestatic 52, 3) := by decide +kernel
theorem dX8_difference_40 : decode cX8_difference 40 = .ok (.iconst 5, 1) := by decide +kernel
theorem dX8_difference_41 : decode cX8_difference 41 = .ok (.aload_n 0, 1) := by decide +kernel
theorem dX8_difference_42 : decode cX8_difference 42 = .ok (.getfield 11, 3) := by decide +kernel
theorem dX8_difference_45 : decode cX8_difference 45 = .ok (.iload_n 1, 1) := by decide +kernel
theorem dX8_difference_46 : decode cX8_difference 46 = .ok (.aaload, 1) := by decide +kernel
theorem dX8_difference_47 : decode cX8_difference 47 = .ok (.getfield 58, 3) := by decide +kernel
theorem dX8_difference_50 : decode cX8_difference 50 = .ok (.aload_n 0, 1) := by decide +kernel
theorem dX8_difference_51 : decode cX8_difference 51 = .ok (.getfield 11, 3) := by decide +kernel
theorem dX8_difference_54 : decode cX8_difference 54 = .ok (.iload_n 2, 1) := by decide +kernel
theorem dX8_difference_55 : decode cX8_difference 55 = .ok (.aaload, 1) := by decide +kernel
theorem dX8_difference_56 : decode cX8_difference 56 = .ok (.getfield 58, 3) := by decide +kernel
theorem dX8_difference_59 : decode cX8_difference 59 = .ok (.isub, 1) := by decide +kernel
theorem dX8_difference_60 : decode cX8_difference 60 = .ok (.invokestatic 52, 3) := by decide +kernel
theorem dX8_difference_63 : decode cX8_difference 63 = .ok (.imul, 1) := by decide +kernel
theorem dX8_difference_64 : decode cX8_difference 64 = .ok (.iadd, 1) := by decide +kernel
theorem dX8_difference_65 : decode cX8_difference 65 = .ok (.ireturn, 1) := by decide +kernel
theorem dX8_anyLame_0 : decode cX8_anyLame 0 = .ok (.iconst 0, 1) := by decide +kernel
theorem dX8_anyLame_1 : decode cX8_anyLame 1 = .ok (.istore_n 2, 1) := by decide +kernel
theorem dX8_anyLame_2 : decode cX8_anyLame 2 = .ok (.iload_n 2, 1) := by decide +kernel
theorem dX8_anyLame_3 : decode cX8_anyLame 3 = .ok (.aload_n 0, 1) := by decide +kernel
theorem dX8_anyLame_4 : decode cX8_anyLame 4 = .ok (.getfield 32, 3) := by decide +kernel
theorem dX8_anyLame_7 : decode cX8_anyLame 7 = .ok (.if_icmp .ge 31, 3) := by decide +kernel
theorem dX8_anyLame_10 : decode cX8_anyLame 10 = .ok (.iload_n 1, 1) := by decide +kernel
theorem dX8_anyLame_11 : decode cX8_anyLame 11 = .ok (.iload_n 2, 1) := by decide +kernel
theorem dX8_anyLame_12 : decode cX8_anyLame 12 = .ok (.invokestatic 61, 3) := by decide +kernel
theorem dX8_anyLame_15 : decode cX8_anyLame 15 = .ok (.ifCond .eq 17, 3) := by decide +kernel
theorem dX8_anyLame_18 : decode cX8_anyLame 18 = .ok (.aload_n 0, 1) := by decide +kernel
theorem dX8_anyLame_19 : decode cX8_anyLame 19 = .ok (.getfield 11, 3) := by decide +kernel
theorem dX8_anyLame_22 : decode cX8_anyLame 22 = .ok (.iload_n 2, 1) := by decide +kernel
theorem dX8_anyLame_23 : decode cX8_anyLame 23 = .ok (.aaload, 1) := by decide +kernel
theorem dX8_anyLame_24 : decode cX8_anyLame 24 = .ok (.getfield 42, 3) := by decide +kernel
theorem dX8_anyLame_27 : decode cX8_anyLame 27 = .ok (.ifCond .eq 5, 3) := by decide +kernel
theorem dX8_anyLame_30 : decode cX8_anyLame 30 = .ok (.iconst 1, 1) := by decide +kernel
theorem dX8_anyLame_31 : decode cX8_anyLame 31 = .ok (.ireturn, 1) := by decide +kernel
theorem dX8_anyLame_32 : decode cX8_anyLame 32 = .ok (.iinc 2 1, 3) := by decide +kernel
theorem dX8_anyLame_35 : decode cX8_anyLame 35 = .ok (.goto (-33), 3) := by decide +kernel
theorem dX8_anyLame_38 : decode cX8_anyLame 38 = .ok (.iconst 0, 1) := by decide +kernel
theorem dX8_anyLame_39 : decode cX8_anyLame 39 = .ok (.ireturn, 1) := by decide +kernel
theorem dX8_allAlike_0 : decode cX8_allAlike 0 = .ok (.iconst 0, 1) := by decide +kernel
theorem dX8_allAlike_1 : decode cX8_allAlike 1 = .ok (.istore_n 2, 1) := by decide +kernel
theorem dX8_allAlike_2 : decode cX8_allAlike 2 = .ok (.iload_n 2, 1) := by decide +kernel
theorem dX8_allAlike_3 : decode cX8_allAlike 3 = .ok (.aload_n 0, 1) := by decide +kernel
theorem dX8_allAlike_4 : decode cX8_allAlike 4 = .ok (.getfield 32, 3) := by decide +kernel
theorem dX8_allAlike_7 : decode cX8_allAlike 7 = .ok (.if_icmp .ge 64, 3) := by decide +kernel
theorem dX8_allAlike_10 : decode cX8_allAlike 10 = .ok (.iload_n 2, 1) := by decide +kernel
theorem dX8_allAlike_11 : decode cX8_allAlike 11 = .ok (.iconst 1, 1) := by decide +kernel
theorem dX8_allAlike_12 : decode cX8_allAlike 12 = .ok (.iadd, 1) := by decide +kernel
theorem dX8_allAlike_13 : decode cX8_allAlike 13 = .ok (.istore_n 3, 1) := by decide +kernel
theorem dX8_allAlike_14 : decode cX8_allAlike 14 = .ok (.iload_n 3, 1) := by decide +kernel
theorem dX8_allAlike_15 : decode cX8_allAlike 15 = .ok (.aload_n 0, 1) := by decide +kernel
theorem dX8_allAlike_16 : decode cX8_allAlike 16 = .ok (.getfield 32, 3) := by decide +kernel
theorem dX8_allAlike_19 : decode cX8_allAlike 19 = .ok (.if_icmp .ge 46, 3) := by decide +kernel
theorem dX8_allAlike_22 : decode cX8_allAlike 22 = .ok (.iload_n 1, 1) := by decide +kernel
theorem dX8_allAlike_23 : decode cX8_allAlike 23 = .ok (.iload_n 2, 1) := by decide +kernel
theorem dX8_allAlike_24 : decode cX8_allAlike 24 = .ok (.invokestatic 61, 3) := by decide +kernel
theorem dX8_allAlike_27 : decode cX8_allAlike 27 = .ok (.ifCond .eq 32, 3) := by decide +kernel
theorem dX8_allAlike_30 : decode cX8_allAlike 30 = .ok (.iload_n 1, 1) := by decide +kernel
theorem dX8_allAlike_31 : decode cX8_allAlike 31 = .ok (.iload_n 3, 1) := by decide +kernel
theorem dX8_allAlike_32 : decode cX8_allAlike 32 = .ok (.invokestatic 61, 3) := by decide +kernel
theorem dX8_allAlike_35 : decode cX8_allAlike 35 = .ok (.ifCond .eq 24, 3) := by decide +kernel
theorem dX8_allAlike_38 : decode cX8_allAlike 38 = .ok (.aload_n 0, 1) := by decide +kernel
theorem dX8_allAlike_39 : decode cX8_allAlike 39 = .ok (.aload_n 0, 1) := by decide +kernel
theorem dX8_allAlike_40 : decode cX8_allAlike 40 = .ok (.getfield 11, 3) := by decide +kernel
theorem dX8_allAlike_43 : decode cX8_allAlike 43 = .ok (.iload_n 2, 1) := by decide +kernel
theorem dX8_allAlike_44 : decode cX8_allAlike 44 = .ok (.aaload, 1) := by decide +kernel
theorem dX8_allAlike_45 : decode cX8_allAlike 45 = .ok (.aload_n 0, 1) := by decide +kernel
theorem dX8_allAlike_46 : decode cX8_allAlike 46 = .ok (.getfield 11, 3) := by decide +kernel
theorem dX8_allAlike_49 : decode cX8_allAlike 49 = .ok (.iload_n 3, 1) := by decide +kernel
theorem dX8_allAlike_50 : decode cX8_allAlike 50 = .ok (.aaload, 1) := by decide +kernel
theorem dX8_allAlike_51 : decode cX8_allAlike 51 = .ok (.invokevirtual 65, 3) := by decide +kernel
theorem dX8_allAlike_54 : decode cX8_allAlike 54 = .ok (.ifCond .ne 5, 3) := by decide +kernel
theorem dX8_allAlike_57 : decode cX8_allAlike 57 = .ok (.iconst 0, 1) := by decide +kernel
theorem dX8_allAlike_58 : decode cX8_allAlike 58 = .ok (.ireturn, 1) := by decide +kernel
theorem dX8_allAlike_59 : decode cX8_allAlike 59 = .ok (.iinc 3 1, 3) := by decide +kernel
theorem dX8_allAlike_62 : decode cX8_allAlike 62 = .ok (.goto (-48), 3) := by decide +kernel
theorem dX8_allAlike_65 : decode cX8_allAlike 65 = .ok (.iinc 2 1, 3) := by decide +kernel
theorem dX8_allAlike_68 : decode cX8_allAlike 68 = .ok (.goto (-66), 3) := by decide +kernel
theorem dX8_allAlike_71 : decode cX8_allAlike 71 = .ok (.iconst 1, 1) := by decide +kernel
theorem dX8_allAlike_72 : decode cX8_allAlike 72 = .ok (.ireturn, 1) := by decide +kernel
theorem dX8_alike_0 : decode cX8_alike 0 = .ok (.aload_n 1, 1) := by decide +kernel
theorem dX8_alike_1 : decode cX8_alike 1 = .ok (.getfield 69, 3) := by decide +kernel
theorem dX8_alike_4 : decode cX8_alike 4 = .ok (.aload_n 2, 1) := by decide +kernel
theorem dX8_alike_5 : decode cX8_alike 5 = .ok (.getfield 69, 3) := by decide +kernel
theorem dX8_alike_8 : decode cX8_alike 8 = .ok (.if_icmp .ne 45, 3) := by decide +kernel
theorem dX8_alike_11 : decode cX8_alike 11 = .ok (.aload_n 1, 1) := by decide +kernel
theorem dX8_alike_12 : decode cX8_alike 12 = .ok (.getfield 49, 3) := by decide +kernel
theorem dX8_alike_15 : decode cX8_alike 15 = .ok (.aload_n 2, 1) := by decide +kernel
theorem dX8_alike_16 : decode cX8_alike 16 = .ok (.getfield 49, 3) := by decide +kernel
theorem dX8_alike_19 : decode cX8_alike 19 = .ok (.isub, 1) := by decide +kernel
theorem dX8_alike_20 : decode cX8_alike 20 = .ok (.invokestatic 52, 3) := by decide +kernel
theorem dX8_alike_23 : decode cX8_alike 23 = .ok (.aload_n 0, 1) := by decide +kernel
theorem dX8_alike_24 : decode cX8_alike 24 = .ok (.getfield 21, 3) := by decide +kernel
theorem dX8_alike_27 : decode cX8_alike 27 = .ok (.if_icmp .gt 26, 3) := by decide +kernel
theorem dX8_alike_30 : decode cX8_alike 30 = .ok (.aload_n 1, 1) := by decide +kernel
theorem dX8_alike_31 : decode cX8_alike 31 = .ok (.getfield 58, 3) := by decide +kernel
theorem dX8_alike_34 : decode cX8_alike 34 = .ok (.aload_n 2, 1) := by decide +kernel
theorem dX8_alike_35 : decode cX8_alike 35 = .ok (.getfield 58, 3) := by decide +kernel
theorem dX8_alike_38 : decode cX8_alike 38 = .ok (.isub, 1) := by decide +kernel
theorem dX8_alike_39 : decode cX8_alike 39 = .ok (.invokestatic 52, 3) := by decide +kernel
theorem dX8_alike_42 : decode cX8_alike 42 = .ok (.aload_n 0, 1) := by decide +kernel
theorem dX8_alike_43 : decode cX8_alike 43 = .ok (.getfield 25, 3) := by decide +kernel
theorem dX8_alike_46 : decode cX8_alike 46 = .ok (.if_icmp .gt 7, 3) := by decide +kernel
theorem dX8_alike_49 : decode cX8_alike 49 = .ok (.iconst 1, 1) := by decide +kernel
theorem dX8_alike_50 : decode cX8_alike 50 = .ok (.goto 4, 3) := by decide +kernel
theorem dX8_alike_53 : decode cX8_alike 53 = .ok (.iconst 0, 1) := by decide +kernel
theorem dX8_alike_54 : decode cX8_alike 54 = .ok (.ireturn, 1) := by decide +kernel
theorem dX8_countSets_0 : decode cX8_countSets 0 = .ok (.aload_n 0, 1) := by decide +kernel
theorem dX8_countSets_1 : decode cX8_countSets 1 = .ok (.invokevirtual 72, 3) := by decide +kernel
theorem dX8_countSets_4 : decode cX8_countSets 4 = .ok (.iconst 0, 1) := by decide +kernel
theorem dX8_countSets_5 : decode cX8_countSets 5 = .ok (.istore_n 2, 1) := by decide +kernel
theorem dX8_countSets_6 : decode cX8_countSets 6 = .ok (.iconst 0, 1) := by decide +kernel
theorem dX8_countSets_7 : decode cX8_countSets 7 = .ok (.istore_n 3, 1) := by decide +kernel
theorem dX8_countSets_8 : decode cX8_countSets 8 = .ok (.iload_n 3, 1) := by decide +kernel
theorem dX8_countSets_9 : decode cX8_countSets 9 = .ok (.aload_n 0, 1) := by decide +kernel
theorem dX8_countSets_10 : decode cX8_countSets 10 = .ok (.getfield 32, 3) := by decide +kernel
theorem dX8_countSets_13 : decode cX8_countSets 13 = .ok (.if_icmp .ge 34, 3) := by decide +kernel
theorem dX8_countSets_16 : decode cX8_countSets 16 = .ok (.iload_n 2, 1) := by decide +kernel
theorem dX8_countSets_17 : decode cX8_countSets 17 = .ok (.iload_n 1, 1) := by decide +kernel
theorem dX8_countSets_18 : decode cX8_countSets 18 = .ok (.iconst 2, 1) := by decide +kernel
theorem dX8_countSets_19 : decode cX8_countSets 19 = .ok (.if_icmp .ne 15, 3) := by decide +kernel
theorem dX8_countSets_22 : decode cX8_countSets 22 = .ok (.aload_n 0, 1) := by decide +kernel
theorem dX8_countSets_23 : decode cX8_countSets 23 = .ok (.getfield 17, 3) := by decide +kernel
theorem dX8_countSets_26 : decode cX8_countSets 26 = .ok (.iload_n 3, 1) := by decide +kernel
theorem dX8_countSets_27 : decode cX8_countSets 27 = .ok (.iaload, 1) := by decide +kernel
theorem dX8_countSets_28 : decode cX8_countSets 28 = .ok (.invokestatic 75, 3) := by decide +kernel
theorem dX8_countSets_31 : decode cX8_countSets 31 = .ok (.goto 8, 3) := by decide +kernel
theorem dX8_countSets_34 : decode cX8_countSets 34 = .ok (.aload_n 0, 1) := by decide +kernel
theorem dX8_countSets_35 : decode cX8_countSets 35 = .ok (.iload_n 3, 1) := by decide +kernel
theorem dX8_countSets_36 : decode cX8_countSets 36 = .ok (.invokevirtual 80, 3) := by decide +kernel
theorem dX8_countSets_39 : decode cX8_countSets 39 = .ok (.iadd, 1) := by decide +kernel
theorem dX8_countSets_40 : decode cX8_countSets 40 = .ok (.istore_n 2, 1) := by decide +kernel
theorem dX8_countSets_41 : decode cX8_countSets 41 = .ok (.iinc 3 1, 3) := by decide +kernel
theorem dX8_countSets_44 : decode cX8_countSets 44 = .ok (.goto (-36), 3) := by decide +kernel
theorem dX8_countSets_47 : decode cX8_countSets 47 = .ok (.iload_n 2, 1) := by decide +kernel
theorem dX8_countSets_48 : decode cX8_countSets 48 = .ok (.ireturn, 1) := by decide +kernel
theorem dX8_pairUp_0 : decode cX8_pairUp 0 = .ok (.iconst 0, 1) := by decide +kernel
theorem dX8_pairUp_1 : decode cX8_pairUp 1 = .ok (.istore_n 1, 1) := by decide +kernel
theorem dX8_pairUp_2 : decode cX8_pairUp 2 = .ok (.iload_n 1, 1) := by decide +kernel
theorem dX8_pairUp_3 : decode cX8_pairUp 3 = .ok (.aload_n 0, 1) := by decide +kernel
theorem dX8_pairUp_4 : decode cX8_pairUp 4 = .ok (.getfield 32, 3) := by decide +kernel
theorem dX8_pairUp_7 : decode cX8_pairUp 7 = .ok (.if_icmp .ge 65, 3) := by decide +kernel
theorem dX8_pairUp_10 : decode cX8_pairUp 10 = .ok (.aload_n 0, 1) := by decide +kernel
theorem dX8_pairUp_11 : decode cX8_pairUp 11 = .ok (.getfield 17, 3) := by decide +kernel
theorem dX8_pairUp_14 : decode cX8_pairUp 14 = .ok (.iload_n 1, 1) := by decide +kernel
theorem dX8_pairUp_15 : decode cX8_pairUp 15 = .ok (.iconst 0, 1) := by decide +kernel
theorem dX8_pairUp_16 : decode cX8_pairUp 16 = .ok (.iastore, 1) := by decide +kernel
theorem dX8_pairUp_17 : decode cX8_pairUp 17 = .ok (.iload_n 1, 1) := by decide +kernel
theorem dX8_pairUp_18 : decode cX8_pairUp 18 = .ok (.iconst 1, 1) := by decide +kernel
theorem dX8_pairUp_19 : decode cX8_pairUp 19 = .ok (.iadd, 1) := by decide +kernel
theorem dX8_pairUp_20 : decode cX8_pairUp 20 = .ok (.istore_n 2, 1) := by decide +kernel
theorem dX8_pairUp_21 : decode cX8_pairUp 21 = .ok (.iload_n 2, 1) := by decide +kernel
theorem dX8_pairUp_22 : decode cX8_pairUp 22 = .ok (.aload_n 0, 1) := by decide +kernel
theorem dX8_pairUp_23 : decode cX8_pairUp 23 = .ok (.getfield 32, 3) := by decide +kernel
theorem dX8_pairUp_26 : decode cX8_pairUp 26 = .ok (.if_icmp .ge 40, 3) := by decide +kernel
theorem dX8_pairUp_29 : decode cX8_pairUp 29 = .ok (.aload_n 0, 1) := by decide +kernel
theorem dX8_pairUp_30 : decode cX8_pairUp 30 = .ok (.aload_n 0, 1) := by decide +kernel
theorem dX8_pairUp_31 : decode cX8_pairUp 31 = .ok (.getfield 11, 3) := by decide +kernel
theorem dX8_pairUp_34 : decode cX8_pairUp 34 = .ok (.iload_n 1, 1) := by decide +kernel
theorem dX8_pairUp_35 : decode cX8_pairUp 35 = .ok (.aaload, 1) := by decide +kernel
theorem dX8_pairUp_36 : decode cX8_pairUp 36 = .ok (.aload_n 0, 1) := by decide +kernel
theorem dX8_pairUp_37 : decode cX8_pairUp 37 = .ok (.getfield 11, 3) := by decide +kernel
theorem dX8_pairUp_40 : decode cX8_pairUp 40 = .ok (.iload_n 2, 1) := by decide +kernel
theorem dX8_pairUp_41 : decode cX8_pairUp 41 = .ok (.aaload, 1) := by decide +kernel
theorem dX8_pairUp_42 : decode cX8_pairUp 42 = .ok (.invokevirtual 65, 3) := by decide +kernel
theorem dX8_pairUp_45 : decode cX8_pairUp 45 = .ok (.ifCond .eq 15, 3) := by decide +kernel
theorem dX8_pairUp_48 : decode cX8_pairUp 48 = .ok (.aload_n 0, 1) := by decide +kernel
theorem dX8_pairUp_49 : decode cX8_pairUp 49 = .ok (.getfield 17, 3) := by decide +kernel
theorem dX8_pairUp_52 : decode cX8_pairUp 52 = .ok (.iload_n 1, 1) := by decide +kernel
theorem dX8_pairUp_53 : decode cX8_pairUp 53 = .ok (.dup2, 1) := by decide +kernel
theorem dX8_pairUp_54 : decode cX8_pairUp 54 = .ok (.iaload, 1) := by decide +kernel
theorem dX8_pairUp_55 : decode cX8_pairUp 55 = .ok (.iconst 1, 1) := by decide +kernel
theorem dX8_pairUp_56 : decode cX8_pairUp 56 = .ok (.iload_n 2, 1) := by decide +kernel
theorem dX8_pairUp_57 : decode cX8_pairUp 57 = .ok (.ishl, 1) := by decide +kernel
theorem dX8_pairUp_58 : decode cX8_pairUp 58 = .ok (.ior, 1) := by decide +kernel
theorem dX8_pairUp_59 : decode cX8_pairUp 59 = .ok (.iastore, 1) := by decide +kernel
theorem dX8_pairUp_60 : decode cX8_pairUp 60 = .ok (.iinc 2 1, 3) := by decide +kernel
theorem dX8_pairUp_63 : decode cX8_pairUp 63 = .ok (.goto (-42), 3) := by decide +kernel
theorem dX8_pairUp_66 : decode cX8_pairUp 66 = .ok (.iinc 1 1, 3) := by decide +kernel
theorem dX8_pairUp_69 : decode cX8_pairUp 69 = .ok (.goto (-67), 3) := by decide +kernel
theorem dX8_pairUp_72 : decode cX8_pairUp 72 = .ok (.return_, 1) := by decide +kernel
theorem dX8_countFours_0 : decode cX8_countFours 0 = .ok (.iconst 0, 1) := by decide +kernel
theorem dX8_countFours_1 : decode cX8_countFours 1 = .ok (.istore_n 2, 1) := by decide +kernel
theorem dX8_countFours_2 : decode cX8_countFours 2 = .ok (.iload_n 1, 1) := by decide +kernel
theorem dX8_countFours_3 : decode cX8_countFours 3 = .ok (.iconst 1, 1) := by decide +kernel
theorem dX8_countFours_4 : decode cX8_countFours 4 = .ok (.iadd, 1) := by decide +kernel
theorem dX8_countFours_5 : decode cX8_countFours 5 = .ok (.istore_n 3, 1) := by decide +kernel
theorem dX8_countFours_6 : decode cX8_countFours 6 = .ok (.iload_n 3, 1) := by decide +kernel
theorem dX8_countFours_7 : decode cX8_countFours 7 = .ok (.aload_n 0, 1) := by decide +kernel
theorem dX8_countFours_8 : decode cX8_countFours 8 = .ok (.getfield 32, 3) := by decide +kernel
theorem dX8_countFours_11 : decode cX8_countFours 11 = .ok (.if_icmp .ge 91, 3) := by decide +kernel
theorem dX8_countFours_14 : decode cX8_countFours 14 = .ok (.aload_n 0, 1) := by decide +kernel
theorem dX8_countFours_15 : decode cX8_countFours 15 = .ok (.getfield 17, 3) := by decide +kernel
theorem dX8_countFours_18 : decode cX8_countFours 18 = .ok (.iload_n 1, 1) := by decide +kernel
theorem dX8_countFours_19 : decode cX8_countFours 19 = .ok (.iaload, 1) := by decide +kernel
theorem dX8_countFours_20 : decode cX8_countFours 20 = .ok (.iload_n 3, 1) := by decide +kernel
theorem dX8_countFours_21 : decode cX8_countFours 21 = .ok (.invokestatic 61, 3) := by decide +kernel
theorem dX8_countFours_24 : decode cX8_countFours 24 = .ok (.ifCond .eq 19, 3) := by decide +kernel
theorem dX8_countFours_27 : decode cX8_countFours 27 = .ok (.aload_n 0, 1) := by decide +kernel
theorem dX8_countFours_28 : decode cX8_countFours 28 = .ok (.getfield 17, 3) := by decide +kernel
theorem dX8_countFours_31 : decode cX8_countFours 31 = .ok (.iload_n 1, 1) := by decide +kernel
theorem dX8_countFours_32 : decode cX8_countFours 32 = .ok (.iaload, 1) := by decide +kernel
theorem dX8_countFours_33 : decode cX8_countFours 33 = .ok (.aload_n 0, 1) := by decide +kernel
theorem dX8_countFours_34 : decode cX8_countFours 34 = .ok (.getfield 17, 3) := by decide +kernel
theorem dX8_countFours_37 : decode cX8_countFours 37 = .ok (.iload_n 3, 1) := by decide +kernel
theorem dX8_countFours_38 : decode cX8_countFours 38 = .ok (.iaload, 1) := by decide +kernel
theorem dX8_countFours_39 : decode cX8_countFours 39 = .ok (.iand, 1) := by decide +kernel
theorem dX8_countFours_40 : decode cX8_countFours 40 = .ok (.goto 4, 3) := by decide +kernel
theorem dX8_countFours_43 : decode cX8_countFours 43 = .ok (.iconst 0, 1) := by decide +kernel
theorem dX8_countFours_44 : decode cX8_countFours 44 = .ok (.istore 4, 2) := by decide +kernel
theorem dX8_countFours_46 : decode cX8_countFours 46 = .ok (.iload_n 3, 1) := by decide +kernel
theorem dX8_countFours_47 : decode cX8_countFours 47 = .ok (.iconst 1, 1) := by decide +kernel
theorem dX8_countFours_48 : decode cX8_countFours 48 = .ok (.iadd, 1) := by decide +kernel
theorem dX8_countFours_49 : decode cX8_countFours 49 = .ok (.istore 5, 2) := by decide +kernel
theorem dX8_countFours_51 : decode cX8_countFours 51 = .ok (.iload 5, 2) := by decide +kernel
theorem dX8_countFours_53 : decode cX8_countFours 53 = .ok (.aload_n 0, 1) := by decide +kernel
theorem dX8_countFours_54 : decode cX8_countFours 54 = .ok (.getfield 32, 3) := by decide +kernel
theorem dX8_countFours_57 : decode cX8_countFours 57 = .ok (.if_icmp .ge 39, 3) := by decide +kernel
theorem dX8_countFours_60 : decode cX8_countFours 60 = .ok (.iload_n 2, 1) := by decide +kernel
theorem dX8_countFours_61 : decode cX8_countFours 61 = .ok (.iload 4, 2) := by decide +kernel
theorem dX8_countFours_63 : decode cX8_countFours 63 = .ok (.iload 5, 2) := by decide +kernel
theorem dX8_countFours_65 : decode cX8_countFours 65 = .ok (.invokestatic 61, 3) := by decide +kernel
theorem dX8_countFours_68 : decode cX8_countFours 68 = .ok (.ifCond .eq 19, 3) := by decide +kernel
theorem dX8_countFours_71 : decode cX8_countFours 71 = .ok (.iload 4, 2) := by decide +kernel
theorem dX8_countFours_73 : decode cX8_countFours 73 = .ok (.aload_n 0, 1) := by decide +kernel
theorem dX8_countFours_74 : decode cX8_countFours 74 = .ok (.getfield 17, 3) := by decide +kernel
theorem dX8_countFours_77 : decode cX8_countFours 77 = .ok (.iload 5, 2) := by decide +kernel
theorem dX8_countFours_79 : decode cX8_countFours 79 = .ok (.iaload, 1) := by decide +kernel
theorem dX8_countFours_80 : decode cX8_countFours 80 = .ok (.iand, 1) := by decide +kernel
theorem dX8_countFours_81 : decode cX8_countFours 81 = .ok (.invokestatic 75, 3) := by decide +kernel
theorem dX8_countFours_84 : decode cX8_countFours 84 = .ok (.goto 4, 3) := by decide +kernel
theorem dX8_countFours_87 : decode cX8_countFours 87 = .ok (.iconst 0, 1) := by decide +kernel
theorem dX8_countFours_88 : decode cX8_countFours 88 = .ok (.iadd, 1) := by decide +kernel
theorem dX8_countFours_89 : decode cX8_countFours 89 = .ok (.istore_n 2, 1) := by decide +kernel
theorem dX8_countFours_90 : decode cX8_countFours 90 = .ok (.iinc 5 1, 3) := by decide +kernel
theorem dX8_countFours_93 : decode cX8_countFours 93 = .ok (.goto (-42), 3) := by decide +kernel
theorem dX8_countFours_96 : decode cX8_countFours 96 = .ok (.iinc 3 1, 3) := by decide +kernel
theorem dX8_countFours_99 : decode cX8_countFours 99 = .ok (.goto (-93), 3) := by decide +kernel
theorem dX8_countFours_102 : decode cX8_countFours 102 = .ok (.iload_n 2, 1) := by decide +kernel
theorem dX8_countFours_103 : decode cX8_countFours 103 = .ok (.ireturn, 1) := by decide +kernel
theorem dX9_init_0 : decode cX9_init 0 = .ok (.aload_n 0, 1) := by decide +kernel
theorem dX9_init_1 : decode cX9_init 1 = .ok (.invokespecial 3, 3) := by decide +kernel
theorem dX9_init_4 : decode cX9_init 4 = .ok (.aload_n 0, 1) := by decide +kernel
theorem dX9_init_5 : decode cX9_init 5 = .ok (.sipush 600, 3) := by decide +kernel
theorem dX9_init_8 : decode cX9_init 8 = .ok (.newarray .byte, 2) := by decide +kernel
theorem dX9_init_10 : decode cX9_init 10 = .ok (.putfield 9, 3) := by decide +kernel
theorem dX9_init_13 : decode cX9_init 13 = .ok (.return_, 1) := by decide +kernel
theorem dX9_appendAll_0 : decode cX9_appendAll 0 = .ok (.aload_n 0, 1) := by decide +kernel
theorem dX9_appendAll_1 : decode cX9_appendAll 1 = .ok (.getfield 15, 3) := by decide +kernel
theorem dX9_appendAll_4 : decode cX9_appendAll 4 = .ok (.bipush 20, 2) := by decide +kernel
theorem dX9_appendAll_6 : decode cX9_appendAll 6 = .ok (.iadd, 1) := by decide +kernel
theorem dX9_appendAll_7 : decode cX9_appendAll 7 = .ok (.sipush 600, 3) := by decide +kernel
theorem dX9_appendAll_10 : decode cX9_appendAll 10 = .ok (.if_icmp .le 5, 3) := by decide +kernel
theorem dX9_appendAll_13 : decode cX9_appendAll 13 = .ok (.iconst (-1), 1) := by decide +kernel
theorem dX9_appendAll_14 : decode cX9_appendAll 14 = .ok (.ireturn, 1) := by decide +kernel
theorem dX9_appendAll_15 : decode cX9_appendAll 15 = .ok (.aload_n 0, 1) := by decide +kernel
theorem dX9_appendAll_16 : decode cX9_appendAll 16 = .ok (.iload_n 1, 1) := by decide +kernel
theorem dX9_appendAll_17 : decode cX9_appendAll 17 = .ok (.invokevirtual 19, 3) := by decide +kernel
theorem dX9_appendAll_20 : decode cX9_appendAll 20 = .ok (.aload_n 0, 1) := by decide +kernel
theorem dX9_appendAll_21 : decode cX9_appendAll 21 = .ok (.iload_n 2, 1) := by decide +kernel
theorem dX9_appendAll_22 : decode cX9_appendAll 22 = .ok (.invokevirtual 19, 3) := by decide +kernel
theorem dX9_appendAll_25 : decode cX9_appendAll 25 = .ok (.aload_n 0, 1) := by decide +kernel
theorem dX9_appendAll_26 : decode cX9_appendAll 26 = .ok (.iload_n 3, 1) := by decide +kernel
theorem dX9_appendAll_27 : decode cX9_appendAll 27 = .ok (.invokevirtual 19, 3) := by decide +kernel
theorem dX9_appendAll_30 : decode cX9_appendAll 30 = .ok (.aload_n 0, 1) := by decide +kernel
theorem dX9_appendAll_31 : decode cX9_appendAll 31 = .ok (.iload 4, 2) := by decide +kernel
theorem dX9_appendAll_33 : decode cX9_appendAll 33 = .ok (.invokevirtual 19, 3) := by decide +kernel
theorem dX9_appendAll_36 : decode cX9_appendAll 36 = .ok (.aload_n 0, 1) := by decide +kernel
theorem dX9_appendAll_37 : decode cX9_appendAll 37 = .ok (.iload 5, 2) := by decide +kernel
theorem dX9_appendAll_39 : decode cX9_appendAll 39 = .ok (.invokevirtual 19, 3) := by decide +kernel
theorem dX9_appendAll_42 : decode cX9_appendAll 42 = .ok (.aload_n 0, 1) := by decide +kernel
theorem dX9_appendAll_43 : decode cX9_appendAll 43 = .ok (.getfield 15, 3) := by decide +kernel
theorem dX9_appendAll_46 : decode cX9_appendAll 46 = .ok (.ireturn, 1) := by decide +kernel
theorem dX9_append_0 : decode cX9_append 0 = .ok (.bipush 24, 2) := by decide +kernel
theorem dX9_append_2 : decode cX9_append 2 = .ok (.istore_n 2, 1) := by decide +kernel
theorem dX9_append_3 : decode cX9_append 3 = .ok (.iload_n 2, 1) := by decide +kernel
theorem dX9_append_4 : decode cX9_append 4 = .ok (.ifCond .lt 44, 3) := by decide +kernel
theorem dX9_append_7 : decode cX9_append 7 = .ok (.aload_n 0, 1) := by decide +kernel
theorem dX9_append_8 : decode cX9_append 8 = .ok (.getfield 15, 3) := by decide +kernel
theorem dX9_append_11 : decode cX9_append 11 = .ok (.aload_n 0, 1) := by decide +kernel
theorem dX9_append_12 : decode cX9_append 12 = .ok (.getfield 9, 3) := by decide +kernel
theorem dX9_append_15 : decode cX9_append 15 = .ok (.arraylength, 1) := by decide +kernel
theorem dX9_append_16 : decode cX9_append 16 = .ok (.if_icmp .ge 32, 3) := by decide +kernel
theorem dX9_append_19 : decode cX9_append 19 = .ok (.aload_n 0, 1) := by decide +kernel
theorem dX9_append_20 : decode cX9_append 20 = .ok (.getfield 9, 3) := by decide +kernel
theorem dX9_append_23 : decode cX9_append 23 = .ok (.aload_n 0, 1) := by decide +kernel
theorem dX9_append_24 : decode cX9_append 24 = .ok (.getfield 15, 3) := by decide +kernel
theorem dX9_append_27 : decode cX9_append 27 = .ok (.iload_n 1, 1) := by decide +kernel
theorem dX9_append_28 : decode cX9_append 28 = .ok (.iload_n 2, 1) := by decide +kernel
theorem dX9_append_29 : decode cX9_append 29 = .ok (.iushr, 1) := by decide +kernel
theorem dX9_append_30 : decode cX9_append 30 = .ok (.i2b, 1) := by decide +kernel
theorem dX9_append_31 : decode cX9_append 31 = .ok (.bastore, 1) := by decide +kernel
theorem dX9_append_32 : decode cX9_append 32 = .ok (.aload_n 0, 1) := by decide +kernel
theorem dX9_append_33 : decode cX9_append 33 = .ok (.dup, 1) := by decide +kernel
theorem dX9_append_34 : decode cX9_append 34 = .ok (.getfield 15, 3) := by decide +kernel
theorem dX9_append_37 : decode cX9_append 37 = .ok (.iconst 1, 1) := by decide +kernel
theorem dX9_append_38 : decode cX9_append 38 = .ok (.iadd, 1) := by decide +kernel
theorem dX9_append_39 : decode cX9_append 39 = .ok (.putfield 15, 3) := by decide +kernel
theorem dX9_append_42 : decode cX9_append 42 = .ok (.iinc 2 (-8), 3) := by decide +kernel
theorem dX9_append_45 : decode cX9_append 45 = .ok (.goto (-42), 3) := by decide +kernel
theorem dX9_append_48 : decode cX9_append 48 = .ok (.return_, 1) := by decide +kernel
theorem dX9_cutTo_0 : decode cX9_cutTo 0 = .ok (.iload_n 1, 1) := by decide +kernel
theorem dX9_cutTo_1 : decode cX9_cutTo 1 = .ok (.iconst 0, 1) := by decide +kernel
theorem dX9_cutTo_2 : decode cX9_cutTo 2 = .ok (.aload_n 0, 1) := by decide +kernel
theorem dX9_cutTo_3 : decode cX9_cutTo 3 = .ok (.getfield 15, 3) := by decide +kernel
theorem dX9_cutTo_6 : decode cX9_cutTo 6 = .ok (.invokestatic 23, 3) := by decide +kernel
theorem dX9_cutTo_9 : decode cX9_cutTo 9 = .ok (.ifCond .ne 5, 3) := by decide +kernel
theorem dX9_cutTo_12 : decode cX9_cutTo 12 = .ok (.iconst (-1), 1) := by decide +kernel
theorem dX9_cutTo_13 : decode cX9_cutTo 13 = .ok (.ireturn, 1) := by decide +kernel
theorem dX9_cutTo_14 : decode cX9_cutTo 14 = .ok (.aload_n 0, 1) := by decide +kernel
theorem dX9_cutTo_15 : decode cX9_cutTo 15 = .ok (.iload_n 1, 1) := by decide +kernel
theorem dX9_cutTo_16 : decode cX9_cutTo 16 = .ok (.putfield 15, 3) := by decide +kernel
theorem dX9_cutTo_19 : decode cX9_cutTo 19 = .ok (.iload_n 1, 1) := by decide +kernel
theorem dX9_cutTo_20 : decode cX9_cutTo 20 = .ok (.ireturn, 1) := by decide +kernel
theorem dX9_byteAt_0 : decode cX9_byteAt 0 = .ok (.iload_n 1, 1) := by decide +kernel
theorem dX9_byteAt_1 : decode cX9_byteAt 1 = .ok (.ifCond .lt 24, 3) := by decide +kernel
theorem dX9_byteAt_4 : decode cX9_byteAt 4 = .ok (.iload_n 1, 1) := by decide +kernel
theorem dX9_byteAt_5 : decode cX9_byteAt 5 = .ok (.aload_n 0, 1) := by decide +kernel
theorem dX9_byteAt_6 : decode cX9_byteAt 6 = .ok (.getfield 15, 3) := by decide +kernel
theorem dX9_byteAt_9 : decode cX9_byteAt 9 = .ok (.if_icmp .ge 16, 3) := by decide +kernel
theorem dX9_byteAt_12 : decode cX9_byteAt 12 = .ok (.aload_n 0, 1) := by decide +kernel
theorem dX9_byteAt_13 : decode cX9_byteAt 13 = .ok (.getfield 9, 3) := by decide +kernel
theorem dX9_byteAt_16 : decode cX9_byteAt 16 = .ok (.iload_n 1, 1) := by decide +kernel
theorem dX9_byteAt_17 : decode cX9_byteAt 17 = .ok (.baload, 1) := by decide +kernel
theorem dX9_byteAt_18 : decode cX9_byteAt 18 = .ok (.sipush 255, 3) := by decide +kernel
theorem dX9_byteAt_21 : decode cX9_byteAt 21 = .ok (.iand, 1) := by decide +kernel
theorem dX9_byteAt_22 : decode cX9_byteAt 22 = .ok (.goto 4, 3) := by decide +kernel
theorem dX9_byteAt_25 : decode cX9_byteAt 25 = .ok (.iconst (-1), 1) := by decide +kernel
theorem dX9_byteAt_26 : decode cX9_byteAt 26 = .ok (.ireturn, 1) := by decide +kernel
theorem dX10_init_0 : decode cX10_init 0 = .ok (.aload_n 0, 1) := by decide +kernel
theorem dX10_init_1 : decode cX10_init 1 = .ok (.invokespecial 3, 3) := by decide +kernel
theorem dX10_init_4 : decode cX10_init 4 = .ok (.aload_n 0, 1) := by decide +kernel
theorem dX10_init_5 : decode cX10_init 5 = .ok (.aload_n 1, 1) := by decide +kernel
theorem dX10_init_6 : decode cX10_init 6 = .ok (.putfield 9, 3) := by decide +kernel
theorem dX10_init_9 : decode cX10_init 9 = .ok (.aload_n 0, 1) := by decide +kernel
theorem dX10_init_10 : decode cX10_init 10 = .ok (.aload_n 2, 1) := by decide +kernel
theorem dX10_init_11 : decode cX10_init 11 = .ok (.putfield 15, 3) := by decide +kernel
theorem dX10_init_14 : decode cX10_init 14 = .ok (.return_, 1) := by decide +kernel
theorem dX10_setLeast_0 : decode cX10_setLeast 0 = .ok (.iload_n 1, 1) := by decide +kernel
theorem dX10_setLeast_1 : decode cX10_setLeast 1 = .ok (.iconst 0, 1) := by decide +kernel
theorem dX10_setLeast_2 : decode cX10_setLeast 2 = .ok (.sipush 500, 3) := by decide +kernel
theorem dX10_setLeast_5 : decode cX10_setLeast 5 = .ok (.invokestatic 19, 3) := by decide +kernel
theorem dX10_setLeast_8 : decode cX10_setLeast 8 = .ok (.ifCond .ne 5, 3) := by decide +kernel
theorem dX10_setLeast_11 : decode cX10_setLeast 11 = .ok (.iconst 0, 1) := by decide +kernel
theorem dX10_setLeast_12 : decode cX10_setLeast 12 = .ok (.ireturn, 1) := by decide +kernel
theorem dX10_setLeast_13 : decode cX10_setLeast 13 = .ok (.aload_n 0, 1) := by decide +kernel
theorem dX10_setLeast_14 : decode cX10_setLeast 14 = .ok (.iload_n 1, 1) := by decide +kernel
theorem dX10_setLeast_15 : decode cX10_setLeast 15 = .ok (.putfield 23, 3) := by decide +kernel
theorem dX10_setLeast_18 : decode cX10_setLeast 18 = .ok (.iconst 1, 1) := by decide +kernel
theorem dX10_setLeast_19 : decode cX10_setLeast 19 = .ok (.ireturn, 1) := by decide +kernel
theorem dX10_harness_0 : decode cX10_harness 0 = .ok (.aload_n 0, 1) := by decide +kernel
theorem dX10_harness_1 : decode cX10_harness 1 = .ok (.getfield 15, 3) := by decide +kernel
theorem dX10_harness_4 : decode cX10_harness 4 = .ok (.iload_n 1, 1) := by decide +kernel
theorem dX10_harness_5 : decode cX10_harness 5 = .ok (.invokevirtual 27, 3) := by decide +kernel
theorem dX10_harness_8 : decode cX10_harness 8 = .ok (.astore_n 3, 1) := by decide +kernel
theorem dX10_harness_9 : decode cX10_harness 9 = .ok (.aload_n 3, 1) := by decide +kernel
theorem dX10_harness_10 : decode cX10_harness 10 = .ok (.ifnull 33, 3) := by decide +kernel
theorem dX10_harness_13 : decode cX10_harness 13 = .ok (.aload_n 0, 1) := by decide +kernel
theorem dX10_harness_14 : decode cX10_harness 14 = .ok (.getfield 9, 3) := by decide +kernel
theorem dX10_harness_17 : decode cX10_harness 17 = .ok (.iload_n 2, 1) := by decide +kernel
theorem dX10_harness_18 : decode cX10_harness 18 = .ok (.invokevirtual 33, 3) := by decide +kernel
theorem dX10_harness_21 : decode cX10_harness 21 = .ok (.ifCond .eq 22, 3) := by decide +kernel
theorem dX10_harness_24 : decode cX10_harness 24 = .ok (.iload_n 2, 1) := by decide +kernel
theorem dX10_harness_25 : decode cX10_harness 25 = .ok (.ifCond .eq 14, 3) := by decide +kernel
theorem dX10_harness_28 : decode cX10_harness 28 = .ok (.iload_n 2, 1) := by decide +kernel
theorem dX10_harness_29 : decode cX10_harness 29 = .ok (.invokestatic 39, 3) := by decide +kernel
theorem dX10_harness_32 : decode cX10_harness 32 = .ok (.aload_n 3, 1) := by decide +kernel
theorem dX10_harness_33 : decode cX10_harness 33 = .ok (.getfield 45, 3) := by decide +kernel
theorem dX10_harness_36 : decode cX10_harness 36 = .ok (.if_icmp .ne 7, 3) := by decide +kernel
theorem dX10_harness_39 : decode cX10_harness 39 = .ok (.iconst 1, 1) := by decide +kernel
theorem dX10_harness_40 : decode cX10_harness 40 = .ok (.goto 4, 3) := by decide +kernel
theorem dX10_harness_43 : decode cX10_harness 43 = .ok (.iconst 0, 1) := by decide +kernel
theorem dX10_harness_44 : decode cX10_harness 44 = .ok (.istore 4, 2) := by decide +kernel
theorem dX10_harness_46 : decode cX10_harness 46 = .ok (.iload 4, 2) := by decide +kernel
theorem dX10_harness_48 : decode cX10_harness 48 = .ok (.ifCond .eq 8, 3) := by decide +kernel
theorem dX10_harness_51 : decode cX10_harness 51 = .ok (.aload_n 3, 1) := by decide +kernel
theorem dX10_harness_52 : decode cX10_harness 52 = .ok (.iload_n 2, 1) := by decide +kernel
theorem dX10_harness_53 : decode cX10_harness 53 = .ok (.putfield 50, 3) := by decide +kernel
theorem dX10_harness_56 : decode cX10_harness 56 = .ok (.iload 4, 2) := by decide +kernel
theorem dX10_harness_58 : decode cX10_harness 58 = .ok (.ireturn, 1) := by decide +kernel
theorem dX10_isHarnessed_0 : decode cX10_isHarnessed 0 = .ok (.aload_n 0, 1) := by decide +kernel
theorem dX10_isHarnessed_1 : decode cX10_isHarnessed 1 = .ok (.getfield 15, 3) := by decide +kernel
theorem dX10_isHarnessed_4 : decode cX10_isHarnessed 4 = .ok (.iload_n 1, 1) := by decide +kernel
theorem dX10_isHarnessed_5 : decode cX10_isHarnessed 5 = .ok (.invokevirtual 27, 3) := by decide +kernel
theorem dX10_isHarnessed_8 : decode cX10_isHarnessed 8 = .ok (.astore_n 3, 1) := by decide +kernel
theorem dX10_isHarnessed_9 : decode cX10_isHarnessed 9 = .ok (.aload_n 3, 1) := by decide +kernel
theorem dX10_isHarnessed_10 : decode cX10_isHarnessed 10 = .ok (.ifnull 29, 3) := by decide +kernel
theorem dX10_isHarnessed_13 : decode cX10_isHarnessed 13 = .ok (.aload_n 0, 1) := by decide +kernel
theorem dX10_isHarnessed_14 : decode cX10_isHarnessed 14 = .ok (.getfield 9, 3) := by decide +kernel
theorem dX10_isHarnessed_17 : decode cX10_isHarnessed 17 = .ok (.iload_n 2, 1) := by decide +kernel
theorem dX10_isHarnessed_18 : decode cX10_isHarnessed 18 = .ok (.invokevirtual 53, 3) := by decide +kernel
theorem dX10_isHarnessed_21 : decode cX10_isHarnessed 21 = .ok (.ifCond .eq 18, 3) := by decide +kernel
theorem dX10_isHarnessed_24 : decode cX10_isHarnessed 24 = .ok (.aload_n 3, 1) := by decide +kernel
theorem dX10_isHarnessed_25 : decode cX10_isHarnessed 25 = .ok (.getfield 50, 3) := by decide +kernel
theorem dX10_isHarnessed_28 : decode cX10_isHarnessed 28 = .ok (.iload_n 2, 1) := by decide +kernel
theorem dX10_isHarnessed_29 : decode cX10_isHarnessed 29 = .ok (.invokestatic 56, 3) := by decide +kernel
theorem dX10_isHarnessed_32 : decode cX10_isHarnessed 32 = .ok (.ifCond .eq 7, 3) := by decide +kernel
theorem dX10_isHarnessed_35 : decode cX10_isHarnessed 35 = .ok (.iconst 1, 1) := by decide +kernel
theorem dX10_isHarnessed_36 : decode cX10_isHarnessed 36 = .ok (.goto 4, 3) := by decide +kernel
theorem dX10_isHarnessed_39 : decode cX10_isHarnessed 39 = .ok (.iconst 0, 1) := by decide +kernel
theorem dX10_isHarnessed_40 : decode cX10_isHarnessed 40 = .ok (.ireturn, 1) := by decide +kernel
theorem dX10_standingOf_0 : decode cX10_standingOf 0 = .ok (.aload_n 0, 1) := by decide +kernel
theorem dX10_standingOf_1 : decode cX10_standingOf 1 = .ok (.getfield 15, 3) := by decide +kernel
theorem dX10_standingOf_4 : decode cX10_standingOf 4 = .ok (.iload_n 1, 1) := by decide +kernel
theorem dX10_standingOf_5 : decode cX10_standingOf 5 = .ok (.invokevirtual 27, 3) := by decide +kernel
theorem dX10_standingOf_8 : decode cX10_standingOf 8 = .ok (.astore_n 2, 1) := by decide +kernel
theorem dX10_standingOf_9 : decode cX10_standingOf 9 = .ok (.aload_n 2, 1) := by decide +kernel
theorem dX10_standingOf_10 : decode cX10_standingOf 10 = .ok (.ifnonnull 5, 3) := by decide +kernel
theorem dX10_standingOf_13 : decode cX10_standingOf 13 = .ok (.iconst (-1), 1) := by decide +kernel
theorem dX10_standingOf_14 : decode cX10_standingOf 14 = .ok (.ireturn, 1) := by decide +kernel
theorem dX10_standingOf_15 : decode cX10_standingOf 15 = .ok (.aload_n 2, 1) := by decide +kernel
theorem dX10_standingOf_16 : decode cX10_standingOf 16 = .ok (.getfield 50, 3) := by decide +kernel
theorem dX10_standingOf_19 : decode cX10_standingOf 19 = .ok (.ifCond .ne 7, 3) := by decide +kernel
theorem dX10_standingOf_22 : decode cX10_standingOf 22 = .ok (.iconst 1, 1) := by decide +kernel
theorem dX10_standingOf_23 : decode cX10_standingOf 23 = .ok (.goto 13, 3) := by decide +kernel
theorem dX10_standingOf_26 : decode cX10_standingOf 26 = .ok (.aload_n 0, 1) := by decide +kernel
theorem dX10_standingOf_27 : decode cX10_standingOf 27 = .ok (.iload_n 1, 1) := by decide +kernel
theorem dX10_standingOf_28 : decode cX10_standingOf 28 = .ok (.aload_n 2, 1) := by decide +kernel
theorem dX10_standingOf_29 : decode cX10_standingOf 29 = .ok (.aload_n 2, 1) := by decide +kernel
theorem dX10_standingOf_30 : decode cX10_standingOf 30 = .ok (.getfield 50, 3) := by decide +kernel
theorem dX10_standingOf_33 : decode cX10_standingOf 33 = .ok (.invokevirtual 60, 3) := by decide +kernel
theorem dX10_standingOf_36 : decode cX10_standingOf 36 = .ok (.ireturn, 1) := by decide +kernel
theorem dX10_flawOf_0 : decode cX10_flawOf 0 = .ok (.aload_n 0, 1) := by decide +kernel
theorem dX10_flawOf_1 : decode cX10_flawOf 1 = .ok (.getfield 9, 3) := by decide +kernel
theorem dX10_flawOf_4 : decode cX10_flawOf 4 = .ok (.iload_n 3, 1) := by decide +kernel
theorem dX10_flawOf_5 : decode cX10_flawOf 5 = .ok (.invokevirtual 64, 3) := by decide +kernel
theorem dX10_flawOf_8 : decode cX10_flawOf 8 = .ok (.ifCond .ne 5, 3) := by decide +kernel
theorem dX10_flawOf_11 : decode cX10_flawOf 11 = .ok (.iconst 2, 1) := by decide +kernel
theorem dX10_flawOf_12 : decode cX10_flawOf 12 = .ok (.ireturn, 1) := by decide +kernel
theorem dX10_flawOf_13 : decode cX10_flawOf 13 = .ok (.aload_n 0, 1) := by decide +kernel
theorem dX10_flawOf_14 : decode cX10_flawOf 14 = .ok (.getfield 9, 3) := by decide +kernel
theorem dX10_flawOf_17 : decode cX10_flawOf 17 = .ok (.iload_n 3, 1) := by decide +kernel
theorem dX10_flawOf_18 : decode cX10_flawOf 18 = .ok (.invokevirtual 67, 3) := by decide +kernel
theorem dX10_flawOf_21 : decode cX10_flawOf 21 = .ok (.ifCond .eq 5, 3) := by decide +kernel
theorem dX10_flawOf_24 : decode cX10_flawOf 24 = .ok (.iconst 3, 1) := by decide +kernel
theorem dX10_flawOf_25 : decode cX10_flawOf 25 = .ok (.ireturn, 1) := by decide +kernel
theorem dX10_flawOf_26 : decode cX10_flawOf 26 = .ok (.aload_n 0, 1) := by decide +kernel
theorem dX10_flawOf_27 : decode cX10_flawOf 27 = .ok (.iload_n 1, 1) := by decide +kernel
theorem dX10_flawOf_28 : decode cX10_flawOf 28 = .ok (.aload_n 2, 1) := by decide +kernel
theorem dX10_flawOf_29 : decode cX10_flawOf 29 = .ok (.iload_n 3, 1) := by decide +kernel
theorem dX10_flawOf_30 : decode cX10_flawOf 30 = .ok (.invokevirtual 70, 3) := by decide +kernel
theorem dX10_flawOf_33 : decode cX10_flawOf 33 = .ok (.ifCond .eq 5, 3) := by decide +kernel
theorem dX10_flawOf_36 : decode cX10_flawOf 36 = .ok (.iconst 4, 1) := by decide +kernel
theorem dX10_flawOf_37 : decode cX10_flawOf 37 = .ok (.ireturn, 1) := by decide +kernel
theorem dX10_flawOf_38 : decode cX10_flawOf 38 = .ok (.aload_n 0, 1) := by decide +kernel
theorem dX10_flawOf_39 : decode cX10_flawOf 39 = .ok (.iload_n 1, 1) := by decide +kernel
theorem dX10_flawOf_40 : decode cX10_flawOf 40 = .ok (.aload_n 2, 1) := by decide +kernel
theorem dX10_flawOf_41 : decode cX10_flawOf 41 = .ok (.iload_n 3, 1) := by decide +kernel
theorem dX10_flawOf_42 : decode cX10_flawOf 42 = .ok (.invokevirtual 74, 3) := by decide +kernel
theorem dX10_flawOf_45 : decode cX10_flawOf 45 = .ok (.ifCond .eq 7, 3) := by decide +kernel
theorem dX10_flawOf_48 : decode cX10_flawOf 48 = .ok (.iconst 0, 1) := by decide +kernel
theorem dX10_flawOf_49 : decode cX10_flawOf 49 = .ok (.goto 4, 3) := by decide +kernel
theorem dX10_flawOf_52 : decode cX10_flawOf 52 = .ok (.iconst 5, 1) := by decide +kernel
theorem dX10_flawOf_53 : decode cX10_flawOf 53 = .ok (.ireturn, 1) := by decide +kernel
theorem dX10_isElsewhere_0 : decode cX10_isElsewhere 0 = .ok (.iconst 0, 1) := by decide +kernel
theorem dX10_isElsewhere_1 : decode cX10_isElsewhere 1 = .ok (.istore 4, 2) := by decide +kernel
theorem dX10_isElsewhere_3 : decode cX10_isElsewhere 3 = .ok (.iload 4, 2) := by decide +kernel
theorem dX10_isElsewhere_5 : decode cX10_isElsewhere 5 = .ok (.aload_n 0, 1) := by decide +kernel
theorem dX10_isElsewhere_6 : decode cX10_isElsewhere 6 = .ok (.getfield 15, 3) := by decide +kernel
theorem dX10_isElsewhere_9 : decode cX10_isElsewhere 9 = .ok (.getfield 77, 3) := by decide +kernel
theorem dX10_isElsewhere_12 : decode cX10_isElsewhere 12 = .ok (.if_icmp .ge 69, 3) := by decide +kernel
theorem dX10_isElsewhere_15 : decode cX10_isElsewhere 15 = .ok (.aload_n 0, 1) := by decide +kernel
theorem dX10_isElsewhere_16 : decode cX10_isElsewhere 16 = .ok (.getfield 15, 3) := by decide +kernel
theorem dX10_isElsewhere_19 : decode cX10_isElsewhere 19 = .ok (.iload 4, 2) := by decide +kernel
theorem dX10_isElsewhere_21 : decode cX10_isElsewhere 21 = .ok (.invokevirtual 27, 3) := by decide +kernel
theorem dX10_isElsewhere_24 : decode cX10_isElsewhere 24 = .ok (.astore 5, 2) := by decide +kernel
theorem dX10_isElsewhere_26 : decode cX10_isElsewhere 26 = .ok (.aload 5, 2) := by decide +kernel
theorem dX10_isElsewhere_28 : decode cX10_isElsewhere 28 = .ok (.ifnull 47, 3) := by decide +kernel
theorem dX10_isElsewhere_31 : decode cX10_isElsewhere 31 = .ok (.iload 4, 2) := by decide +kernel
theorem dX10_isElsewhere_33 : decode cX10_isElsewhere 33 = .ok (.iload_n 1, 1) := by decide +kernel
theorem dX10_isElsewhere_34 : decode cX10_isElsewhere 34 = .ok (.if_icmp .eq 41, 3) := by decide +kernel
theorem dX10_isElsewhere_37 : decode cX10_isElsewhere 37 = .ok (.aload 5, 2) := by decide +kernel
theorem dX10_isElsewhere_39 : decode cX10_isElsewhere 39 = .ok (.getfield 50, 3) := by decide +kernel
theorem dX10_isElsewhere_42 : decode cX10_isElsewhere 42 = .ok (.iload_n 3, 1) := by decide +kernel
theorem dX10_isElsewhere_43 : decode cX10_isElsewhere 43 = .ok (.iand, 1) := by decide +kernel
theorem dX10_isElsewhere_44 : decode cX10_isElsewhere 44 = .ok (.ifCond .eq 31, 3) := by decide +kernel
theorem dX10_isElsewhere_47 : decode cX10_isElsewhere 47 = .ok (.aload_n 0, 1) := by decide +kernel
theorem dX10_isElsewhere_48 : decode cX10_isElsewhere 48 = .ok (.getfield 15, 3) := by decide +kernel
theorem dX10_isElsewhere_51 : decode cX10_isElsewhere 51 = .ok (.aload_n 2, 1) := by decide +kernel
theorem dX10_isElsewhere_52 : decode cX10_isElsewhere 52 = .ok (.aload 5, 2) := by decide +kernel
theorem dX10_isElsewhere_54 : decode cX10_isElsewhere 54 = .ok (.invokevirtual 80, 3) := by decide +kernel
theorem dX10_isElsewhere_57 : decode cX10_isElsewhere 57 = .ok (.ifCond .ne 18, 3) := by decide +kernel
theorem dX10_isElsewhere_60 : decode cX10_isElsewhere 60 = .ok (.aload_n 0, 1) := by decide +kernel
theorem dX10_isElsewhere_61 : decode cX10_isElsewhere 61 = .ok (.getfield 15, 3) := by decide +kernel
theorem dX10_isElsewhere_64 : decode cX10_isElsewhere 64 = .ok (.aload 5, 2) := by decide +kernel
theorem dX10_isElsewhere_66 : decode cX10_isElsewhere 66 = .ok (.aload_n 2, 1) := by decide +kernel
theorem dX10_isElsewhere_67 : decode cX10_isElsewhere 67 = .ok (.invokevirtual 80, 3) := by decide +kernel
theorem dX10_isElsewhere_70 : decode cX10_isElsewhere 70 = .ok (.ifCond .ne 5, 3) := by decide +kernel
theorem dX10_isElsewhere_73 : decode cX10_isElsewhere 73 = .ok (.iconst 1, 1) := by decide +kernel
theorem dX10_isElsewhere_74 : decode cX10_isElsewhere 74 = .ok (.ireturn, 1) := by decide +kernel
theorem dX10_isElsewhere_75 : decode cX10_isElsewhere 75 = .ok (.iinc 4 1, 3) := by decide +kernel
theorem dX10_isElsewhere_78 : decode cX10_isElsewhere 78 = .ok (.goto (-75), 3) := by decide +kernel
theorem dX10_isElsewhere_81 : decode cX10_isElsewhere 81 = .ok (.iconst 0, 1) := by decide +kernel
theorem dX10_isElsewhere_82 : decode cX10_isElsewhere 82 = .ok (.ireturn, 1) := by decide +kernel
theorem dX10_allFresh_0 : decode cX10_allFresh 0 = .ok (.aload_n 0, 1) := by decide +kernel
theorem dX10_allFresh_1 : decode cX10_allFresh 1 = .ok (.getfield 15, 3) := by decide +kernel
theorem dX10_allFresh_4 : decode cX10_allFresh 4 = .ok (.aload_n 2, 1) := by decide +kernel
theorem dX10_allFresh_5 : decode cX10_allFresh 5 = .ok (.invokevirtual 84, 3) := by decide +kernel
theorem dX10_allFresh_8 : decode cX10_allFresh 8 = .ok (.aload_n 0, 1) := by decide +kernel
theorem dX10_allFresh_9 : decode cX10_allFresh 9 = .ok (.getfield 23, 3) := by decide +kernel
theorem dX10_allFresh_12 : decode cX10_allFresh 12 = .ok (.invokestatic 88, 3) := by decide +kernel
theorem dX10_allFresh_15 : decode cX10_allFresh 15 = .ok (.istore 4, 2) := by decide +kernel
theorem dX10_allFresh_17 : decode cX10_allFresh 17 = .ok (.iconst 0, 1) := by decide +kernel
theorem dX10_allFresh_18 : decode cX10_allFresh 18 = .ok (.istore 5, 2) := by decide +kernel
theorem dX10_allFresh_20 : decode cX10_allFresh 20 = .ok (.iload 5, 2) := by decide +kernel
theorem dX10_allFresh_22 : decode cX10_allFresh 22 = .ok (.aload_n 0, 1) := by decide +kernel
theorem dX10_allFresh_23 : decode cX10_allFresh 23 = .ok (.getfield 9, 3) := by decide +kernel
theorem dX10_allFresh_26 : decode cX10_allFresh 26 = .ok (.getfield 94, 3) := by decide +kernel
theorem dX10_allFresh_29 : decode cX10_allFresh 29 = .ok (.if_icmp .ge 32, 3) := by decide +kernel
theorem dX10_allFresh_32 : decode cX10_allFresh 32 = .ok (.iload_n 3, 1) := by decide +kernel
theorem dX10_allFresh_33 : decode cX10_allFresh 33 = .ok (.iload 5, 2) := by decide +kernel
theorem dX10_allFresh_35 : decode cX10_allFresh 35 = .ok (.invokestatic 56, 3) := by decide +kernel
theorem dX10_allFresh_38 : decode cX10_allFresh 38 = .ok (.ifCond .eq 17, 3) := by decide +kernel
theorem dX10_allFresh_41 : decode cX10_allFresh 41 = .ok (.aload_n 0, 1) := by decide +kernel
theorem dX10_allFresh_42 : decode cX10_allFresh 42 = .ok (.iload_n 1, 1) := by decide +kernel
theorem dX10_allFresh_43 : decode cX10_allFresh 43 = .ok (.iload 5, 2) := by decide +kernel
theorem dX10_allFresh_45 : decode cX10_allFresh 45 = .ok (.invokevirtual 95, 3) := by decide +kernel
theorem dX10_allFresh_48 : decode cX10_allFresh 48 = .ok (.iload 4, 2) := by decide +kernel
theorem dX10_allFresh_50 : decode cX10_allFresh 50 = .ok (.if_icmp .ge 5, 3) := by decide +kernel
theorem dX10_allFresh_53 : decode cX10_allFresh 53 = .ok (.iconst 0, 1) := by decide +kernel
theorem dX10_allFresh_54 : decode cX10_allFresh 54 = .ok (.ireturn, 1) := by decide +kernel
theorem dX10_allFresh_55 : decode cX10_allFresh 55 = .ok (.iinc 5 1, 3) := by decide +kernel
theorem dX10_allFresh_58 : decode cX10_allFresh 58 = .ok (.goto (-38), 3) := by decide +kernel
theorem dX10_allFresh_61 : decode cX10_allFresh 61 = .ok (.iconst 1, 1) := by decide +kernel
theorem dX10_allFresh_62 : decode cX10_allFresh 62 = .ok (.ireturn, 1) := by decide +kernel
theorem dX10_strengthAt_0 : decode cX10_strengthAt 0 = .ok (.aload_n 0, 1) := by decide +kernel
theorem dX10_strengthAt_1 : decode cX10_strengthAt 1 = .ok (.getfield 9, 3) := by decide +kernel
theorem dX10_strengthAt_4 : decode cX10_strengthAt 4 = .ok (.iload_n 2, 1) := by decide +kernel
theorem dX10_strengthAt_5 : decode cX10_strengthAt 5 = .ok (.invokevirtual 98, 3) := by decide +kernel
theorem dX10_strengthAt_8 : decode cX10_strengthAt 8 = .ok (.istore_n 3, 1) := by decide +kernel
theorem dX10_strengthAt_9 : decode cX10_strengthAt 9 = .ok (.aconst_null, 1) := by decide +kernel
theorem dX10_strengthAt_10 : decode cX10_strengthAt 10 = .ok (.astore 4, 2) := by decide +kernel
theorem dX10_strengthAt_12 : decode cX10_strengthAt 12 = .ok (.iconst 0, 1) := by decide +kernel
theorem dX10_strengthAt_13 : decode cX10_strengthAt 13 = .ok (.istore 5, 2) := by decide +kernel
theorem dX10_strengthAt_15 : decode cX10_strengthAt 15 = .ok (.iload 5, 2) := by decide +kernel
theorem dX10_strengthAt_17 : decode cX10_strengthAt 17 = .ok (.aload_n 0, 1) := by decide +kernel
theorem dX10_strengthAt_18 : decode cX10_strengthAt 18 = .ok (.getfield 15, 3) := by decide +kernel
theorem dX10_strengthAt_21 : decode cX10_strengthAt 21 = .ok (.getfield 77, 3) := by decide +kernel
theorem dX10_strengthAt_24 : decode cX10_strengthAt 24 = .ok (.if_icmp .ge 122, 3) := by decide +kernel
theorem dX10_strengthAt_27 : decode cX10_strengthAt 27 = .ok (.aload_n 0, 1) := by decide +kernel
theorem dX10_strengthAt_28 : decode cX10_strengthAt 28 = .ok (.getfield 15, 3) := by decide +kernel
theorem dX10_strengthAt_31 : decode cX10_strengthAt 31 = .ok (.iload 5, 2) := by decide +kernel
theorem dX10_strengthAt_33 : decode cX10_strengthAt 33 = .ok (.invokevirtual 101, 3) := by decide +kernel
theorem dX10_strengthAt_36 : decode cX10_strengthAt 36 = .ok (.istore 6, 2) := by decide +kernel
theorem dX10_strengthAt_38 : decode cX10_strengthAt 38 = .ok (.aload_n 0, 1) := by decide +kernel
theorem dX10_strengthAt_39 : decode cX10_strengthAt 39 = .ok (.getfield 15, 3) := by decide +kernel
theorem dX10_strengthAt_42 : decode cX10_strengthAt 42 = .ok (.iload 6, 2) := by decide +kernel
theorem dX10_strengthAt_44 : decode cX10_strengthAt 44 = .ok (.invokevirtual 27, 3) := by decide +kernel
theorem dX10_strengthAt_47 : decode cX10_strengthAt 47 = .ok (.astore 7, 2) := by decide +kernel
theorem dX10_strengthAt_49 : decode cX10_strengthAt 49 = .ok (.aload 7, 2) := by decide +kernel
theorem dX10_strengthAt_51 : decode cX10_strengthAt 51 = .ok (.ifnull 89, 3) := by decide +kernel
theorem dX10_strengthAt_54 : decode cX10_strengthAt 54 = .ok (.iload 6, 2) := by decide +kernel
theorem dX10_strengthAt_56 : decode cX10_strengthAt 56 = .ok (.iload_n 1, 1) := by decide +kernel
theorem dX10_strengthAt_57 : decode cX10_strengthAt 57 = .ok (.if_icmp .eq 18, 3) := by decide +kernel
theorem dX10_strengthAt_60 : decode cX10_strengthAt 60 = .ok (.aload 7, 2) := by decide +kernel
theorem dX10_strengthAt_62 : decode cX10_strengthAt 62 = .ok (.getfield 50, 3) := by decide +kernel
theorem dX10_strengthAt_65 : decode cX10_strengthAt 65 = .ok (.iload_n 2, 1) := by decide +kernel
theorem dX10_strengthAt_66 : decode cX10_strengthAt 66 = .ok (.invokestatic 56, 3) := by decide +kernel
theorem dX10_strengthAt_69 : decode cX10_strengthAt 69 = .ok (.ifCond .ne 6, 3) := by decide +kernel
theorem dX10_strengthAt_72 : decode cX10_strengthAt 72 = .ok (.goto 68, 3) := by decide +kernel
theorem dX10_strengthAt_75 : decode cX10_strengthAt 75 = .ok (.aload 4, 2) := by decide +kernel
theorem dX10_strengthAt_77 : decode cX10_strengthAt 77 = .ok (.ifnull 35, 3) := by decide +kernel
theorem dX10_strengthAt_80 : decode cX10_strengthAt 80 = .ok (.aload 7, 2) := by decide +kernel
theorem dX10_strengthAt_82 : decode cX10_strengthAt 82 = .ok (.getfield 104, 3) := by decide +kernel
theorem dX10_strengthAt_85 : decode cX10_strengthAt 85 = .ok (.aload_n 0, 1) := by decide +kernel
theorem dX10_strengthAt_86 : decode cX10_strengthAt 86 = .ok (.getfield 15, 3) := by decide +kernel
theorem dX10_strengthAt_89 : decode cX10_strengthAt 89 = .ok (.aload 4, 2) := by decide +kernel
theorem dX10_strengthAt_91 : decode cX10_strengthAt 91 = .ok (.invokevirtual 107, 3) := by decide +kernel
theorem dX10_strengthAt_94 : decode cX10_strengthAt 94 = .ok (.isub, 1) := by decide +kernel
theorem dX10_strengthAt_95 : decode cX10_strengthAt 95 = .ok (.iconst 0, 1) := by decide +kernel
theorem dX10_strengthAt_96 : decode cX10_strengthAt 96 = .ok (.invokestatic 88, 3) := by decide +kernel
theorem dX10_strengthAt_99 : decode cX10_strengthAt 99 = .ok (.istore 8, 2) := by decide +kernel
theorem dX10_strengthAt_101 : decode cX10_strengthAt 101 = .ok (.iload_n 3, 1) := by decide +kernel
theorem dX10_strengthAt_102 : decode cX10_strengthAt 102 = .ok (.iload 8, 2) := by decide +kernel
theorem dX10_strengthAt_104 : decode cX10_strengthAt 104 = .ok (.iadd, 1) := by decide +kernel
theorem dX10_strengthAt_105 : decode cX10_strengthAt 105 = .ok (.sipush 1000, 3) := by decide +kernel
theorem dX10_strengthAt_108 : decode cX10_strengthAt 108 = .ok (.invokestatic 110, 3) := by decide +kernel
theorem dX10_strengthAt_111 : decode cX10_strengthAt 111 = .ok (.istore_n 3, 1) := by decide +kernel
theorem dX10_strengthAt_112 : decode cX10_strengthAt 112 = .ok (.iload 6, 2) := by decide +kernel
theorem dX10_strengthAt_114 : decode cX10_strengthAt 114 = .ok (.iload_n 1, 1) := by decide +kernel
theorem dX10_strengthAt_115 : decode cX10_strengthAt 115 = .ok (.if_icmp .ne 5, 3) := by decide +kernel
theorem dX10_strengthAt_118 : decode cX10_strengthAt 118 = .ok (.iload_n 3, 1) := by decide +kernel
theorem dX10_strengthAt_119 : decode cX10_strengthAt 119 = .ok (.ireturn, 1) := by decide +kernel
theorem dX10_strengthAt_120 : decode cX10_strengthAt 120 = .ok (.iload_n 3, 1) := by decide +kernel
theorem dX10_strengthAt_121 : decode cX10_strengthAt 121 = .ok (.aload_n 0, 1) := by decide +kernel
theorem dX10_strengthAt_122 : decode cX10_strengthAt 122 = .ok (.getfield 15, 3) := by decide +kernel
theorem dX10_strengthAt_125 : decode cX10_strengthAt 125 = .ok (.aload 7, 2) := by decide +kernel
theorem dX10_strengthAt_127 : decode cX10_strengthAt 127 = .ok (.invokevirtual 84, 3) := by decide +kernel
theorem dX10_strengthAt_130 : decode cX10_strengthAt 130 = .ok (.isub, 1) := by decide +kernel
theorem dX10_strengthAt_131 : decode cX10_strengthAt 131 = .ok (.iconst 0, 1) := by decide +kernel
theorem dX10_strengthAt_132 : decode cX10_strengthAt 132 = .ok (.invokestatic 88, 3) := by decide +kernel
theorem dX10_strengthAt_135 : decode cX10_strengthAt 135 = .ok (.istore_n 3, 1) := by decide +kernel
theorem dX10_strengthAt_136 : decode cX10_strengthAt 136 = .ok (.aload 7, 2) := by decide +kernel
theorem dX10_strengthAt_138 : decode cX10_strengthAt 138 = .ok (.astore 4, 2) := by decide +kernel
theorem dX10_strengthAt_140 : decode cX10_strengthAt 140 = .ok (.iinc 5 1, 3) := by decide +kernel
theorem dX10_strengthAt_143 : decode cX10_strengthAt 143 = .ok (.goto (-128), 3) := by decide +kernel
theorem dX10_strengthAt_146 : decode cX10_strengthAt 146 = .ok (.iload_n 3, 1) := by decide +kernel
theorem dX10_strengthAt_147 : decode cX10_strengthAt 147 = .ok (.ireturn, 1) := by decide +kernel
theorem dX10_bestStandIn_0 : decode cX10_bestStandIn 0 = .ok (.aload_n 0, 1) := by decide +kernel
theorem dX10_bestStandIn_1 : decode cX10_bestStandIn 1 = .ok (.getfield 15, 3) := by decide +kernel
theorem dX10_bestStandIn_4 : decode cX10_bestStandIn 4 = .ok (.iload_n 1, 1) := by decide +kernel
theorem dX10_bestStandIn_5 : decode cX10_bestStandIn 5 = .ok (.invokevirtual 27, 3) := by decide +kernel
theorem dX10_bestStandIn_8 : decode cX10_bestStandIn 8 = .ok (.astore_n 3, 1) := by decide +kernel
theorem dX10_bestStandIn_9 : decode cX10_bestStandIn 9 = .ok (.aload_n 3, 1) := by decide +kernel
theorem dX10_bestStandIn_10 : decode cX10_bestStandIn 10 = .ok (.ifnonnull 5, 3) := by decide +kernel
theorem dX10_bestStandIn_13 : decode cX10_bestStandIn 13 = .ok (.iconst (-1), 1) := by decide +kernel
theorem dX10_bestStandIn_14 : decode cX10_bestStandIn 14 = .ok (.ireturn, 1) := by decide +kernel
theorem dX10_bestStandIn_15 : decode cX10_bestStandIn 15 = .ok (.iconst (-1), 1) := by decide +kernel
theorem dX10_bestStandIn_16 : decode cX10_bestStandIn 16 = .ok (.istore 4, 2) := by decide +kernel
theorem dX10_bestStandIn_18 : decode cX10_bestStandIn 18 = .ok (.iconst 0, 1) := by decide +kernel
theorem dX10_bestStandIn_19 : decode cX10_bestStandIn 19 = .ok (.istore 5, 2) := by decide +kernel
theorem dX10_bestStandIn_21 : decode cX10_bestStandIn 21 = .ok (.iload 5, 2) := by decide +kernel
theorem dX10_bestStandIn_23 : decode cX10_bestStandIn 23 = .ok (.aload_n 0, 1) := by decide +kernel
theorem dX10_bestStandIn_24 : decode cX10_bestStandIn 24 = .ok (.getfield 9, 3) := by decide +kernel
theorem dX10_bestStandIn_27 : decode cX10_bestStandIn 27 = .ok (.getfield 94, 3) := by decide +kernel
theorem dX10_bestStandIn_30 : decode cX10_bestStandIn 30 = .ok (.if_icmp .ge 94, 3) := by decide +kernel
theorem dX10_bestStandIn_33 : decode cX10_bestStandIn 33 = .ok (.iload 4, 2) := by decide +kernel
theorem dX10_bestStandIn_35 : decode cX10_bestStandIn 35 = .ok (.iconst (-1), 1) := by decide +kernel
theorem dX10_bestStandIn_36 : decode cX10_bestStandIn 36 = .ok (.if_icmp .eq 26, 3) := by decide +kernel
theorem dX10_bestStandIn_39 : decode cX10_bestStandIn 39 = .ok (.aload_n 0, 1) := by decide +kernel
theorem dX10_bestStandIn_40 : decode cX10_bestStandIn 40 = .ok (.getfield 9, 3) := by decide +kernel
theorem dX10_bestStandIn_43 : decode cX10_bestStandIn 43 = .ok (.iload 5, 2) := by decide +kernel
theorem dX10_bestStandIn_45 : decode cX10_bestStandIn 45 = .ok (.iload_n 2, 1) := by decide +kernel
theorem dX10_bestStandIn_46 : decode cX10_bestStandIn 46 = .ok (.invokevirtual 113, 3) := by decide +kernel
theorem dX10_bestStandIn_49 : decode cX10_bestStandIn 49 = .ok (.aload_n 0, 1) := by decide +kernel
theorem dX10_bestStandIn_50 : decode cX10_bestStandIn 50 = .ok (.getfield 9, 3) := by decide +kernel
theorem dX10_bestStandIn_53 : decode cX10_bestStandIn 53 = .ok (.iload 4, 2) := by decide +kernel
theorem dX10_bestStandIn_55 : decode cX10_bestStandIn 55 = .ok (.iload_n 2, 1) := by decide +kernel
theorem dX10_bestStandIn_56 : decode cX10_bestStandIn 56 = .ok (.invokevirtual 113, 3) := by decide +kernel
theorem dX10_bestStandIn_59 : decode cX10_bestStandIn 59 = .ok (.if_icmp .ge 7, 3) := by decide +kernel
theorem dX10_bestStandIn_62 : decode cX10_bestStandIn 62 = .ok (.iconst 1, 1) := by decide +kernel
theorem dX10_bestStandIn_63 : decode cX10_bestStandIn 63 = .ok (.goto 4, 3) := by decide +kernel
theorem dX10_bestStandIn_66 : decode cX10_bestStandIn 66 = .ok (.iconst 0, 1) := by decide +kernel
theorem dX10_bestStandIn_67 : decode cX10_bestStandIn 67 = .ok (.istore 6, 2) := by decide +kernel
theorem dX10_bestStandIn_69 : decode cX10_bestStandIn 69 = .ok (.aload_n 3, 1) := by decide +kernel
theorem dX10_bestStandIn_70 : decode cX10_bestStandIn 70 = .ok (.getfield 50, 3) := by decide +kernel
theorem dX10_bestStandIn_73 : decode cX10_bestStandIn 73 = .ok (.iconst 1, 1) := by decide +kernel
theorem dX10_bestStandIn_74 : decode cX10_bestStandIn 74 = .ok (.iload_n 2, 1) := by decide +kernel
theorem dX10_bestStandIn_75 : decode cX10_bestStandIn 75 = .ok (.ishl, 1) := by decide +kernel
theorem dX10_bestStandIn_76 : decode cX10_bestStandIn 76 = .ok (.iconst (-1), 1) := by decide +kernel
theorem dX10_bestStandIn_77 : decode cX10_bestStandIn 77 = .ok (.ixor, 1) := by decide +kernel
theorem dX10_bestStandIn_78 : decode cX10_bestStandIn 78 = .ok (.iand, 1) := by decide +kernel
theorem dX10_bestStandIn_79 : decode cX10_bestStandIn 79 = .ok (.iconst 1, 1) := by decide +kernel
theorem dX10_bestStandIn_80 : decode cX10_bestStandIn 80 = .ok (.iload 5, 2) := by decide +kernel
theorem dX10_bestStandIn_82 : decode cX10_bestStandIn 82 = .ok (.ishl, 1) := by decide +kernel
theorem dX10_bestStandIn_83 : decode cX10_bestStandIn 83 = .ok (.ior, 1) := by decide +kernel
theorem dX10_bestStandIn_84 : decode cX10_bestStandIn 84 = .ok (.istore 7, 2) := by decide +kernel
theorem dX10_bestStandIn_86 : decode cX10_bestStandIn 86 = .ok (.iload 6, 2) := by decide +kernel
theorem dX10_bestStandIn_88 : decode cX10_bestStandIn 88 = .ok (.ifCond .eq 30, 3) := by decide +kernel
theorem dX10_bestStandIn_91 : decode cX10_bestStandIn 91 = .ok (.aload_n 3, 1) := by decide +kernel
theorem dX10_bestStandIn_92 : decode cX10_bestStandIn 92 = .ok (.getfield 50, 3) := by decide +kernel
theorem dX10_bestStandIn_95 : decode cX10_bestStandIn 95 = .ok (.iload 5, 2) := by decide +kernel
theorem dX10_bestStandIn_97 : decode cX10_bestStandIn 97 = .ok (.invokestatic 56, 3) := by decide +kernel
theorem dX10_bestStandIn_100 : decode cX10_bestStandIn 100 = .ok (.ifCond .ne 18, 3) := by decide +kernel
theorem dX10_bestStandIn_103 : decode cX10_bestStandIn 103 = .ok (.aload_n 0, 1) := by decide +kernel
theorem dX10_bestStandIn_104 : decode cX10_bestStandIn 104 = .ok (.iload_n 1, 1) := by decide +kernel
theorem dX10_bestStandIn_105 : decode cX10_bestStandIn 105 = .ok (.aload_n 3, 1) := by decide +kernel
theorem dX10_bestStandIn_106 : decode cX10_bestStandIn 106 = .ok (.iload 7, 2) := by decide +kernel
theorem dX10_bestStandIn_108 : decode cX10_bestStandIn 108 = .ok (.invokevirtual 60, 3) := by decide +kernel
theorem dX10_bestStandIn_111 : decode cX10_bestStandIn 111 = .ok (.ifCond .ne 7, 3) := by decide +kernel
theorem dX10_bestStandIn_114 : decode cX10_bestStandIn 114 = .ok (.iload 5, 2) := by decide +kernel
theorem dX10_bestStandIn_116 : decode cX10_bestStandIn 116 = .ok (.istore 4, 2) := by decide +kernel
theorem dX10_bestStandIn_118 : decode cX10_bestStandIn 118 = .ok (.iinc 5 1, 3) := by decide +kernel
theorem dX10_bestStandIn_121 : decode cX10_bestStandIn 121 = .ok (.goto (-100), 3) := by decide +kernel
theorem dX10_bestStandIn_124 : decode cX10_bestStandIn 124 = .ok (.iload 4, 2) := by decide +kernel
theorem dX10_bestStandIn_126 : decode cX10_bestStandIn 126 = .ok (.ireturn, 1) := by decide +kernel
theorem dX11_init_0 : decode cX11_init 0 = .ok (.aload_n 0, 1) := by decide +kernel
theorem dX11_init_1 : decode cX11_init 1 = .ok (.invokespecial 1, 3) := by decide +kernel
theorem dX11_init_4 : decode cX11_init 4 = .ok (.aload_n 0, 1) := by decide +kernel
theorem dX11_init_5 : decode cX11_init 5 = .ok (.new 7, 3) := by decide +kernel
theorem dX11_init_8 : decode cX11_init 8 = .ok (.dup, 1) := by decide +kernel
theorem dX11_init_9 : decode cX11_init 9 = .ok (.invokespecial 9, 3) := by decide +kernel
theorem dX11_init_12 : decode cX11_init 12 = .ok (.putfield 10, 3) := by decide +kernel
theorem dX11_init_15 : decode cX11_init 15 = .ok (.aload_n 0, 1) := by decide +kernel
theorem dX11_init_16 : decode cX11_init 16 = .ok (.new 16, 3) := by decide +kernel
theorem dX11_init_19 : decode cX11_init 19 = .ok (.dup, 1) := by decide +kernel
theorem dX11_init_20 : decode cX11_init 20 = .ok (.invokespecial 18, 3) := by decide +kernel
theorem dX11_init_23 : decode cX11_init 23 = .ok (.putfield 19, 3) := by decide +kernel
theorem dX11_init_26 : decode cX11_init 26 = .ok (.aload_n 0, 1) := by decide +kernel
theorem dX11_init_27 : decode cX11_init 27 = .ok (.new 23, 3) := by decide +kernel
theorem dX11_init_30 : decode cX11_init 30 = .ok (.dup, 1) := by decide +kernel
theorem dX11_init_31 : decode cX11_init 31 = .ok (.aload_n 0, 1) := by decide +kernel
theorem dX11_init_32 : decode cX11_init 32 = .ok (.getfield 19, 3) := by decide +kernel
theorem dX11_init_35 : decode cX11_init 35 = .ok (.invokespecial 25, 3) := by decide +kernel
theorem dX11_init_38 : decode cX11_init 38 = .ok (.putfield 28, 3) := by decide +kernel
theorem dX11_init_41 : decode cX11_init 41 = .ok (.aload_n 0, 1) := by decide +kernel
theorem dX11_init_42 : decode cX11_init 42 = .ok (.new 32, 3) := by decide +kernel
theorem dX11_init_45 : decode cX11_init 45 = .ok (.dup, 1) := by decide +kernel
theorem dX11_init_46 : decode cX11_init 46 = .ok (.aload_n 0, 1) := by decide +kernel
theorem dX11_init_47 : decode cX11_init 47 = .ok (.getfield 10, 3) := by decide +kernel
theorem dX11_init_50 : decode cX11_init 50 = .ok (.aload_n 0, 1) := by decide +kernel
theorem dX11_init_51 : decode cX11_init 51 = .ok (.getfield 19, 3) := by decide +kernel
theorem dX11_init_54 : decode cX11_init 54 = .ok (.invokespecial 34, 3) := by decide +kernel
theorem dX11_init_57 : decode cX11_init 57 = .ok (.putfield 37, 3) := by decide +kernel
theorem dX11_init_60 : decode cX11_init 60 = .ok (.aload_n 0, 1) := by decide +kernel
theorem dX11_init_61 : decode cX11_init 61 = .ok (.new 41, 3) := by decide +kernel
theorem dX11_init_64 : decode cX11_init 64 = .ok (.dup, 1) := by decide +kernel
theorem dX11_init_65 : decode cX11_init 65 = .ok (.invokespecial 43, 3) := by decide +kernel
theorem dX11_init_68 : decode cX11_init 68 = .ok (.putfield 44, 3) := by decide +kernel
theorem dX11_init_71 : decode cX11_init 71 = .ok (.aload_n 0, 1) := by decide +kernel
theorem dX11_init_72 : decode cX11_init 72 = .ok (.new 48, 3) := by decide +kernel
theorem dX11_init_75 : decode cX11_init 75 = .ok (.dup, 1) := by decide +kernel
theorem dX11_init_76 : decode cX11_init 76 = .ok (.aload_n 0, 1) := by decide +kernel
theorem dX11_init_77 : decode cX11_init 77 = .ok (.getfield 44, 3) := by decide +kernel
theorem dX11_init_80 : decode cX11_init 80 = .ok (.invokespecial 50, 3) := by decide +kernel
theorem dX11_init_83 : decode cX11_init 83 = .ok (.putfield 53, 3) := by decide +kernel
theorem dX11_init_86 : decode cX11_init 86 = .ok (.aload_n 0, 1) := by decide +kernel
theorem dX11_init_87 : decode cX11_init 87 = .ok (.new 57, 3) := by decide +kernel
theorem dX11_init_90 : decode cX11_init 90 = .ok (.dup, 1) := by decide +kernel
theorem dX11_init_91 : decode cX11_init 91 = .ok (.invokespecial 59, 3) := by decide +kernel
theorem dX11_init_94 : decode cX11_init 94 = .ok (.putfield 60, 3) := by decide +kernel
theorem dX11_init_97 : decode cX11_init 97 = .ok (.aload_n 0, 1) := by decide +kernel
theorem dX11_init_98 : decode cX11_init 98 = .ok (.new 64, 3) := by decide +kernel
theorem dX11_init_101 : decode cX11_init 101 = .ok (.dup, 1) := by decide +kernel
theorem dX11_init_102 : decode cX11_init 102 = .ok (.invokespecial 66, 3) := by decide +kernel
theorem dX11_init_105 : decode cX11_init 105 = .ok (.putfield 67, 3) := by decide +kernel
theorem dX11_init_108 : decode cX11_init 108 = .ok (.aload_n 0, 1) := by decide +kernel
theorem dX11_init_109 : decode cX11_init 109 = .ok (.new 71, 3) := by decide +kernel
theorem dX11_init_112 : decode cX11_init 112 = .ok (.dup, 1) := by decide +kernel
theorem dX11_init_113 : decode cX11_init 113 = .ok (.iconst 0, 1) := by decide +kernel
theorem dX11_init_114 : decode cX11_init 114 = .ok (.newarray .int, 2) := by decide +kernel
theorem dX11_init_116 : decode cX11_init 116 = .ok (.iconst 0, 1) := by decide +kernel
theorem dX11_init_117 : decode cX11_init 117 = .ok (.newarray .int, 2) := by decide +kernel
theorem dX11_init_119 : decode cX11_init 119 = .ok (.iconst 0, 1) := by decide +kernel
theorem dX11_init_120 : decode cX11_init 120 = .ok (.newarray .int, 2) := by decide +kernel
theorem dX11_init_122 : decode cX11_init 122 = .ok (.invokespecial 73, 3) := by decide +kernel
theorem dX11_init_125 : decode cX11_init 125 = .ok (.putfield 76, 3) := by decide +kernel
theorem dX11_init_128 : decode cX11_init 128 = .ok (.return_, 1) := by decide +kernel
theorem dX11_horse_0 : decode cX11_horse 0 = .ok (.aload_n 0, 1) := by decide +kernel
theorem dX11_horse_1 : decode cX11_horse 1 = .ok (.getfield 10, 3) := by decide +kernel
theorem dX11_horse_4 : decode cX11_horse 4 = .ok (.iload_n 1, 1) := by decide +kernel
theorem dX11_horse_5 : decode cX11_horse 5 = .ok (.iload_n 2, 1) := by decide +kernel
theorem dX11_horse_6 : decode cX11_horse 6 = .ok (.iload_n 3, 1) := by decide +kernel
theorem dX11_horse_7 : decode cX11_horse 7 = .ok (.iload 4, 2) := by decide +kernel
theorem dX11_horse_9 : decode cX11_horse 9 = .ok (.invokevirtual 80, 3) := by decide +kernel
theorem dX11_horse_12 : decode cX11_horse 12 = .ok (.ireturn, 1) := by decide +kernel
theorem dX11_lame_0 : decode cX11_lame 0 = .ok (.aload_n 0, 1) := by decide +kernel
theorem dX11_lame_1 : decode cX11_lame 1 = .ok (.getfield 10, 3) := by decide +kernel
theorem dX11_lame_4 : decode cX11_lame 4 = .ok (.iload_n 1, 1) := by decide +kernel
theorem dX11_lame_5 : decode cX11_lame 5 = .ok (.iload_n 2, 1) := by decide +kernel
theorem dX11_lame_6 : decode cX11_lame 6 = .ok (.invokevirtual 84, 3) := by decide +kernel
theorem dX11_lame_9 : decode cX11_lame 9 = .ok (.ireturn, 1) := by decide +kernel
theorem dX11_spans_0 : decode cX11_spans 0 = .ok (.aload_n 0, 1) := by decide +kernel
theorem dX11_spans_1 : decode cX11_spans 1 = .ok (.getfield 10, 3) := by decide +kernel
theorem dX11_spans_4 : decode cX11_spans 4 = .ok (.iload_n 1, 1) := by decide +kernel
theorem dX11_spans_5 : decode cX11_spans 5 = .ok (.iload_n 2, 1) := by decide +kernel
theorem dX11_spans_6 : decode cX11_spans 6 = .ok (.invokevirtual 88, 3) := by decide +kernel
theorem dX11_spans_9 : decode cX11_spans 9 = .ok (.ireturn, 1) := by decide +kernel
theorem dX11_way_0 : decode cX11_way 0 = .ok (.aload_n 0, 1) := by decide +kernel
theorem dX11_way_1 : decode cX11_way 1 = .ok (.getfield 19, 3) := by decide +kernel
theorem dX11_way_4 : decode cX11_way 4 = .ok (.iload_n 1, 1) := by decide +kernel
theorem dX11_way_5 : decode cX11_way 5 = .ok (.iload_n 2, 1) := by decide +kernel
theorem dX11_way_6 : decode cX11_way 6 = .ok (.iload_n 3, 1) := by decide +kernel
theorem dX11_way_7 : decode cX11_way 7 = .ok (.invokevirtual 92, 3) := by decide +kernel
theorem dX11_way_10 : decode cX11_way 10 = .ok (.ireturn, 1) := by decide +kernel
theorem dX11_carriages_0 : decode cX11_carriages 0 = .ok (.aload_n 0, 1) := by decide +kernel
theorem dX11_carriages_1 : decode cX11_carriages 1 = .ok (.getfield 19, 3) := by decide +kernel
theorem dX11_carriages_4 : decode cX11_carriages 4 = .ok (.iload_n 1, 1) := by decide +kernel
theorem dX11_carriages_5 : decode cX11_carriages 5 = .ok (.invokevirtual 96, 3) := by decide +kernel
theorem dX11_carriages_8 : decode cX11_carriages 8 = .ok (.ireturn, 1) := by decide +kernel
theorem dX11_need_0 : decode cX11_need 0 = .ok (.aload_n 0, 1) := by decide +kernel
theorem dX11_need_1 : decode cX11_need 1 = .ok (.getfield 37, 3) := by decide +kernel
theorem dX11_need_4 : decode cX11_need 4 = .ok (.iload_n 1, 1) := by decide +kernel
theorem dX11_need_5 : decode cX11_need 5 = .ok (.invokevirtual 100, 3) := by decide +kernel
theorem dX11_need_8 : decode cX11_need 8 = .ok (.ireturn, 1) := by decide +kernel
theorem dX11_match_0 : decode cX11_match 0 = .ok (.iload_n 1, 1) := by decide +kernel
theorem dX11_match_1 : decode cX11_match 1 = .ok (.invokestatic 103, 3) := by decide +kernel
theorem dX11_match_4 : decode cX11_match 4 = .ok (.iconst 2, 1) := by decide +kernel
theorem dX11_match_5 : decode cX11_match 5 = .ok (.if_icmp .lt 29, 3) := by decide +kernel
theorem dX11_match_8 : decode cX11_match 8 = .ok (.aload_n 0, 1) := by decide +kernel
theorem dX11_match_9 : decode cX11_match 9 = .ok (.getfield 10, 3) := by decide +kernel
theorem dX11_match_12 : decode cX11_match 12 = .ok (.iload_n 1, 1) := by decide +kernel
theorem dX11_match_13 : decode cX11_match 13 = .ok (.invokevirtual 109, 3) := by decide +kernel
theorem dX11_match_16 : decode cX11_match 16 = .ok (.ifCond .eq 18, 3) := by decide +kernel
theorem dX11_match_19 : decode cX11_match 19 = .ok (.aload_n 0, 1) := by decide +kernel
theorem dX11_match_20 : decode cX11_match 20 = .ok (.getfield 10, 3) := by decide +kernel
theorem dX11_match_23 : decode cX11_match 23 = .ok (.iload_n 1, 1) := by decide +kernel
theorem dX11_match_24 : decode cX11_match 24 = .ok (.invokevirtual 112, 3) := by decide +kernel
theorem dX11_match_27 : decode cX11_match 27 = .ok (.ifCond .eq 7, 3) := by decide +kernel
theorem dX11_match_30 : decode cX11_match 30 = .ok (.iconst 1, 1) := by decide +kernel
theorem dX11_match_31 : decode cX11_match 31 = .ok (.goto 4, 3) := by decide +kernel
theorem dX11_match_34 : decode cX11_match 34 = .ok (.iconst 0, 1) := by decide +kernel
theorem dX11_match_35 : decode cX11_match 35 = .ok (.ireturn, 1) := by decide +kernel
theorem dX11_matches_0 : decode cX11_matches 0 = .ok (.iload_n 1, 1) := by decide +kernel
theorem dX11_matches_1 : decode cX11_matches 1 = .ok (.iconst 2, 1) := by decide +kernel
theorem dX11_matches_2 : decode cX11_matches 2 = .ok (.if_icmp .eq 8, 3) := by decide +kernel
theorem dX11_matches_5 : decode cX11_matches 5 = .ok (.iload_n 1, 1) := by decide +kernel
theorem dX11_matches_6 : decode cX11_matches 6 = .ok (.iconst 4, 1) := by decide +kernel
theorem dX11_matches_7 : decode cX11_matches 7 = .ok (.if_icmp .ne 14, 3) := by decide +kernel
theorem dX11_matches_10 : decode cX11_matches 10 = .ok (.aload_n 0, 1) := by decide +kernel
theorem dX11_matches_11 : decode cX11_matches 11 = .ok (.getfield 10, 3) := by decide +kernel
theorem dX11_matches_14 : decode cX11_matches 14 = .ok (.iload_n 1, 1) := by decide +kernel
theorem dX11_matches_15 : decode cX11_matches 15 = .ok (.invokevirtual 115, 3) := by decide +kernel
