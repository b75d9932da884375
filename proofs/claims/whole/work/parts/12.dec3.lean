theorem dX12_costOf_5 : decode cX12_costOf 5 = .ok (.iaload, 1) := by decide +kernel
theorem dX12_costOf_6 : decode cX12_costOf 6 = .ok (.iconst 2, 1) := by decide +kernel
theorem dX12_costOf_7 : decode cX12_costOf 7 = .ok (.if_icmp .ne 7, 3) := by decide +kernel
theorem dX12_costOf_10 : decode cX12_costOf 10 = .ok (.iconst 3, 1) := by decide +kernel
theorem dX12_costOf_11 : decode cX12_costOf 11 = .ok (.goto 4, 3) := by decide +kernel
theorem dX12_costOf_14 : decode cX12_costOf 14 = .ok (.iconst 2, 1) := by decide +kernel
theorem dX12_costOf_15 : decode cX12_costOf 15 = .ok (.aload_n 0, 1) := by decide +kernel
theorem dX12_costOf_16 : decode cX12_costOf 16 = .ok (.iload_n 1, 1) := by decide +kernel
theorem dX12_costOf_17 : decode cX12_costOf 17 = .ok (.invokevirtual 175, 3) := by decide +kernel
theorem dX12_costOf_20 : decode cX12_costOf 20 = .ok (.imul, 1) := by decide +kernel
theorem dX12_costOf_21 : decode cX12_costOf 21 = .ok (.aload_n 0, 1) := by decide +kernel
theorem dX12_costOf_22 : decode cX12_costOf 22 = .ok (.getfield 51, 3) := by decide +kernel
theorem dX12_costOf_25 : decode cX12_costOf 25 = .ok (.iload_n 1, 1) := by decide +kernel
theorem dX12_costOf_26 : decode cX12_costOf 26 = .ok (.iaload, 1) := by decide +kernel
theorem dX12_costOf_27 : decode cX12_costOf 27 = .ok (.iconst 2, 1) := by decide +kernel
theorem dX12_costOf_28 : decode cX12_costOf 28 = .ok (.idiv, 1) := by decide +kernel
theorem dX12_costOf_29 : decode cX12_costOf 29 = .ok (.iadd, 1) := by decide +kernel
theorem dX12_costOf_30 : decode cX12_costOf 30 = .ok (.ireturn, 1) := by decide +kernel
theorem dX12_strengthAt_0 : decode cX12_strengthAt 0 = .ok (.aload_n 0, 1) := by decide +kernel
theorem dX12_strengthAt_1 : decode cX12_strengthAt 1 = .ok (.getfield 29, 3) := by decide +kernel
theorem dX12_strengthAt_4 : decode cX12_strengthAt 4 = .ok (.iload_n 2, 1) := by decide +kernel
theorem dX12_strengthAt_5 : decode cX12_strengthAt 5 = .ok (.iaload, 1) := by decide +kernel
theorem dX12_strengthAt_6 : decode cX12_strengthAt 6 = .ok (.istore_n 3, 1) := by decide +kernel
theorem dX12_strengthAt_7 : decode cX12_strengthAt 7 = .ok (.iconst (-1), 1) := by decide +kernel
theorem dX12_strengthAt_8 : decode cX12_strengthAt 8 = .ok (.istore 4, 2) := by decide +kernel
theorem dX12_strengthAt_10 : decode cX12_strengthAt 10 = .ok (.iconst 0, 1) := by decide +kernel
theorem dX12_strengthAt_11 : decode cX12_strengthAt 11 = .ok (.istore 5, 2) := by decide +kernel
theorem dX12_strengthAt_13 : decode cX12_strengthAt 13 = .ok (.iload 5, 2) := by decide +kernel
theorem dX12_strengthAt_15 : decode cX12_strengthAt 15 = .ok (.aload_n 0, 1) := by decide +kernel
theorem dX12_strengthAt_16 : decode cX12_strengthAt 16 = .ok (.getfield 159, 3) := by decide +kernel
theorem dX12_strengthAt_19 : decode cX12_strengthAt 19 = .ok (.if_icmp .gt 194, 3) := by decide +kernel
theorem dX12_strengthAt_22 : decode cX12_strengthAt 22 = .ok (.iconst (-1), 1) := by decide +kernel
theorem dX12_strengthAt_23 : decode cX12_strengthAt 23 = .ok (.istore 6, 2) := by decide +kernel
theorem dX12_strengthAt_25 : decode cX12_strengthAt 25 = .ok (.iconst 0, 1) := by decide +kernel
theorem dX12_strengthAt_26 : decode cX12_strengthAt 26 = .ok (.istore 7, 2) := by decide +kernel
theorem dX12_strengthAt_28 : decode cX12_strengthAt 28 = .ok (.iload 7, 2) := by decide +kernel
theorem dX12_strengthAt_30 : decode cX12_strengthAt 30 = .ok (.aload_n 0, 1) := by decide +kernel
theorem dX12_strengthAt_31 : decode cX12_strengthAt 31 = .ok (.getfield 159, 3) := by decide +kernel
theorem dX12_strengthAt_34 : decode cX12_strengthAt 34 = .ok (.if_icmp .ge 88, 3) := by decide +kernel
theorem dX12_strengthAt_37 : decode cX12_strengthAt 37 = .ok (.aload_n 0, 1) := by decide +kernel
theorem dX12_strengthAt_38 : decode cX12_strengthAt 38 = .ok (.getfield 60, 3) := by decide +kernel
theorem dX12_strengthAt_41 : decode cX12_strengthAt 41 = .ok (.iload 7, 2) := by decide +kernel
theorem dX12_strengthAt_43 : decode cX12_strengthAt 43 = .ok (.baload, 1) := by decide +kernel
theorem dX12_strengthAt_44 : decode cX12_strengthAt 44 = .ok (.ifCond .ne 28, 3) := by decide +kernel
theorem dX12_strengthAt_47 : decode cX12_strengthAt 47 = .ok (.iload 7, 2) := by decide +kernel
theorem dX12_strengthAt_49 : decode cX12_strengthAt 49 = .ok (.iload_n 1, 1) := by decide +kernel
theorem dX12_strengthAt_50 : decode cX12_strengthAt 50 = .ok (.if_icmp .eq 18, 3) := by decide +kernel
theorem dX12_strengthAt_53 : decode cX12_strengthAt 53 = .ok (.aload_n 0, 1) := by decide +kernel
theorem dX12_strengthAt_54 : decode cX12_strengthAt 54 = .ok (.getfield 57, 3) := by decide +kernel
theorem dX12_strengthAt_57 : decode cX12_strengthAt 57 = .ok (.iload 7, 2) := by decide +kernel
theorem dX12_strengthAt_59 : decode cX12_strengthAt 59 = .ok (.iaload, 1) := by decide +kernel
theorem dX12_strengthAt_60 : decode cX12_strengthAt 60 = .ok (.iload_n 2, 1) := by decide +kernel
theorem dX12_strengthAt_61 : decode cX12_strengthAt 61 = .ok (.ishr, 1) := by decide +kernel
theorem dX12_strengthAt_62 : decode cX12_strengthAt 62 = .ok (.iconst 1, 1) := by decide +kernel
theorem dX12_strengthAt_63 : decode cX12_strengthAt 63 = .ok (.iand, 1) := by decide +kernel
theorem dX12_strengthAt_64 : decode cX12_strengthAt 64 = .ok (.iconst 1, 1) := by decide +kernel
theorem dX12_strengthAt_65 : decode cX12_strengthAt 65 = .ok (.if_icmp .ne 7, 3) := by decide +kernel
theorem dX12_strengthAt_68 : decode cX12_strengthAt 68 = .ok (.iconst 1, 1) := by decide +kernel
theorem dX12_strengthAt_69 : decode cX12_strengthAt 69 = .ok (.goto 4, 3) := by decide +kernel
theorem dX12_strengthAt_72 : decode cX12_strengthAt 72 = .ok (.iconst 0, 1) := by decide +kernel
theorem dX12_strengthAt_73 : decode cX12_strengthAt 73 = .ok (.istore 8, 2) := by decide +kernel
theorem dX12_strengthAt_75 : decode cX12_strengthAt 75 = .ok (.iload 8, 2) := by decide +kernel
theorem dX12_strengthAt_77 : decode cX12_strengthAt 77 = .ok (.ifCond .eq 39, 3) := by decide +kernel
theorem dX12_strengthAt_80 : decode cX12_strengthAt 80 = .ok (.iload 4, 2) := by decide +kernel
theorem dX12_strengthAt_82 : decode cX12_strengthAt 82 = .ok (.ifCond .lt 14, 3) := by decide +kernel
theorem dX12_strengthAt_85 : decode cX12_strengthAt 85 = .ok (.aload_n 0, 1) := by decide +kernel
theorem dX12_strengthAt_86 : decode cX12_strengthAt 86 = .ok (.iload 4, 2) := by decide +kernel
theorem dX12_strengthAt_88 : decode cX12_strengthAt 88 = .ok (.iload 7, 2) := by decide +kernel
theorem dX12_strengthAt_90 : decode cX12_strengthAt 90 = .ok (.invokevirtual 188, 3) := by decide +kernel
theorem dX12_strengthAt_93 : decode cX12_strengthAt 93 = .ok (.ifCond .eq 23, 3) := by decide +kernel
theorem dX12_strengthAt_96 : decode cX12_strengthAt 96 = .ok (.iload 6, 2) := by decide +kernel
theorem dX12_strengthAt_98 : decode cX12_strengthAt 98 = .ok (.ifCond .lt 14, 3) := by decide +kernel
theorem dX12_strengthAt_101 : decode cX12_strengthAt 101 = .ok (.aload_n 0, 1) := by decide +kernel
theorem dX12_strengthAt_102 : decode cX12_strengthAt 102 = .ok (.iload 7, 2) := by decide +kernel
theorem dX12_strengthAt_104 : decode cX12_strengthAt 104 = .ok (.iload 6, 2) := by decide +kernel
theorem dX12_strengthAt_106 : decode cX12_strengthAt 106 = .ok (.invokevirtual 188, 3) := by decide +kernel
theorem dX12_strengthAt_109 : decode cX12_strengthAt 109 = .ok (.ifCond .eq 7, 3) := by decide +kernel
theorem dX12_strengthAt_112 : decode cX12_strengthAt 112 = .ok (.iload 7, 2) := by decide +kernel
theorem dX12_strengthAt_114 : decode cX12_strengthAt 114 = .ok (.istore 6, 2) := by decide +kernel
theorem dX12_strengthAt_116 : decode cX12_strengthAt 116 = .ok (.iinc 7 1, 3) := by decide +kernel
theorem dX12_strengthAt_119 : decode cX12_strengthAt 119 = .ok (.goto (-91), 3) := by decide +kernel
theorem dX12_strengthAt_122 : decode cX12_strengthAt 122 = .ok (.iload 4, 2) := by decide +kernel
theorem dX12_strengthAt_124 : decode cX12_strengthAt 124 = .ok (.ifCond .lt 71, 3) := by decide +kernel
theorem dX12_strengthAt_127 : decode cX12_strengthAt 127 = .ok (.iload_n 3, 1) := by decide +kernel
theorem dX12_strengthAt_128 : decode cX12_strengthAt 128 = .ok (.aload_n 0, 1) := by decide +kernel
theorem dX12_strengthAt_129 : decode cX12_strengthAt 129 = .ok (.iload 4, 2) := by decide +kernel
theorem dX12_strengthAt_131 : decode cX12_strengthAt 131 = .ok (.invokevirtual 204, 3) := by decide +kernel
theorem dX12_strengthAt_134 : decode cX12_strengthAt 134 = .ok (.if_icmp .ge 7, 3) := by decide +kernel
theorem dX12_strengthAt_137 : decode cX12_strengthAt 137 = .ok (.iconst 0, 1) := by decide +kernel
theorem dX12_strengthAt_138 : decode cX12_strengthAt 138 = .ok (.goto 11, 3) := by decide +kernel
theorem dX12_strengthAt_141 : decode cX12_strengthAt 141 = .ok (.iload_n 3, 1) := by decide +kernel
theorem dX12_strengthAt_142 : decode cX12_strengthAt 142 = .ok (.aload_n 0, 1) := by decide +kernel
theorem dX12_strengthAt_143 : decode cX12_strengthAt 143 = .ok (.iload 4, 2) := by decide +kernel
theorem dX12_strengthAt_145 : decode cX12_strengthAt 145 = .ok (.invokevirtual 204, 3) := by decide +kernel
theorem dX12_strengthAt_148 : decode cX12_strengthAt 148 = .ok (.isub, 1) := by decide +kernel
theorem dX12_strengthAt_149 : decode cX12_strengthAt 149 = .ok (.istore_n 3, 1) := by decide +kernel
theorem dX12_strengthAt_150 : decode cX12_strengthAt 150 = .ok (.aload_n 0, 1) := by decide +kernel
theorem dX12_strengthAt_151 : decode cX12_strengthAt 151 = .ok (.getfield 48, 3) := by decide +kernel
theorem dX12_strengthAt_154 : decode cX12_strengthAt 154 = .ok (.iload 6, 2) := by decide +kernel
theorem dX12_strengthAt_156 : decode cX12_strengthAt 156 = .ok (.iaload, 1) := by decide +kernel
theorem dX12_strengthAt_157 : decode cX12_strengthAt 157 = .ok (.aload_n 0, 1) := by decide +kernel
theorem dX12_strengthAt_158 : decode cX12_strengthAt 158 = .ok (.iload 4, 2) := by decide +kernel
theorem dX12_strengthAt_160 : decode cX12_strengthAt 160 = .ok (.invokevirtual 178, 3) := by decide +kernel
theorem dX12_strengthAt_163 : decode cX12_strengthAt 163 = .ok (.isub, 1) := by decide +kernel
theorem dX12_strengthAt_164 : decode cX12_strengthAt 164 = .ok (.istore 7, 2) := by decide +kernel
theorem dX12_strengthAt_166 : decode cX12_strengthAt 166 = .ok (.iload 7, 2) := by decide +kernel
theorem dX12_strengthAt_168 : decode cX12_strengthAt 168 = .ok (.ifCond .le 10, 3) := by decide +kernel
theorem dX12_strengthAt_171 : decode cX12_strengthAt 171 = .ok (.iload_n 3, 1) := by decide +kernel
theorem dX12_strengthAt_172 : decode cX12_strengthAt 172 = .ok (.iload 7, 2) := by decide +kernel
theorem dX12_strengthAt_174 : decode cX12_strengthAt 174 = .ok (.iadd, 1) := by decide +kernel
theorem dX12_strengthAt_175 : decode cX12_strengthAt 175 = .ok (.goto 4, 3) := by decide +kernel
theorem dX12_strengthAt_178 : decode cX12_strengthAt 178 = .ok (.iload_n 3, 1) := by decide +kernel
theorem dX12_strengthAt_179 : decode cX12_strengthAt 179 = .ok (.istore_n 3, 1) := by decide +kernel
theorem dX12_strengthAt_180 : decode cX12_strengthAt 180 = .ok (.iload_n 3, 1) := by decide +kernel
theorem dX12_strengthAt_181 : decode cX12_strengthAt 181 = .ok (.sipush 1000, 3) := by decide +kernel
theorem dX12_strengthAt_184 : decode cX12_strengthAt 184 = .ok (.if_icmp .le 9, 3) := by decide +kernel
theorem dX12_strengthAt_187 : decode cX12_strengthAt 187 = .ok (.sipush 1000, 3) := by decide +kernel
theorem dX12_strengthAt_190 : decode cX12_strengthAt 190 = .ok (.goto 4, 3) := by decide +kernel
theorem dX12_strengthAt_193 : decode cX12_strengthAt 193 = .ok (.iload_n 3, 1) := by decide +kernel
theorem dX12_strengthAt_194 : decode cX12_strengthAt 194 = .ok (.istore_n 3, 1) := by decide +kernel
theorem dX12_strengthAt_195 : decode cX12_strengthAt 195 = .ok (.iload 6, 2) := by decide +kernel
theorem dX12_strengthAt_197 : decode cX12_strengthAt 197 = .ok (.iload_n 1, 1) := by decide +kernel
theorem dX12_strengthAt_198 : decode cX12_strengthAt 198 = .ok (.if_icmp .ne 5, 3) := by decide +kernel
theorem dX12_strengthAt_201 : decode cX12_strengthAt 201 = .ok (.iload_n 3, 1) := by decide +kernel
theorem dX12_strengthAt_202 : decode cX12_strengthAt 202 = .ok (.ireturn, 1) := by decide +kernel
theorem dX12_strengthAt_203 : decode cX12_strengthAt 203 = .ok (.iload 6, 2) := by decide +kernel
theorem dX12_strengthAt_205 : decode cX12_strengthAt 205 = .ok (.istore 4, 2) := by decide +kernel
theorem dX12_strengthAt_207 : decode cX12_strengthAt 207 = .ok (.iinc 5 1, 3) := by decide +kernel
theorem dX12_strengthAt_210 : decode cX12_strengthAt 210 = .ok (.goto (-197), 3) := by decide +kernel
theorem dX12_strengthAt_213 : decode cX12_strengthAt 213 = .ok (.iload_n 3, 1) := by decide +kernel
theorem dX12_strengthAt_214 : decode cX12_strengthAt 214 = .ok (.ireturn, 1) := by decide +kernel
theorem dX12_strength_0 : decode cX12_strength 0 = .ok (.aload_n 0, 1) := by decide +kernel
theorem dX12_strength_1 : decode cX12_strength 1 = .ok (.iload_n 1, 1) := by decide +kernel
theorem dX12_strength_2 : decode cX12_strength 2 = .ok (.invokevirtual 169, 3) := by decide +kernel
theorem dX12_strength_5 : decode cX12_strength 5 = .ok (.ifCond .eq 34, 3) := by decide +kernel
theorem dX12_strength_8 : decode cX12_strength 8 = .ok (.aload_n 0, 1) := by decide +kernel
theorem dX12_strength_9 : decode cX12_strength 9 = .ok (.iload_n 2, 1) := by decide +kernel
theorem dX12_strength_10 : decode cX12_strength 10 = .ok (.invokevirtual 135, 3) := by decide +kernel
theorem dX12_strength_13 : decode cX12_strength 13 = .ok (.ifCond .eq 26, 3) := by decide +kernel
theorem dX12_strength_16 : decode cX12_strength 16 = .ok (.aload_n 0, 1) := by decide +kernel
theorem dX12_strength_17 : decode cX12_strength 17 = .ok (.getfield 57, 3) := by decide +kernel
theorem dX12_strength_20 : decode cX12_strength 20 = .ok (.iload_n 1, 1) := by decide +kernel
theorem dX12_strength_21 : decode cX12_strength 21 = .ok (.iaload, 1) := by decide +kernel
theorem dX12_strength_22 : decode cX12_strength 22 = .ok (.iload_n 2, 1) := by decide +kernel
theorem dX12_strength_23 : decode cX12_strength 23 = .ok (.ishr, 1) := by decide +kernel
theorem dX12_strength_24 : decode cX12_strength 24 = .ok (.iconst 1, 1) := by decide +kernel
theorem dX12_strength_25 : decode cX12_strength 25 = .ok (.iand, 1) := by decide +kernel
theorem dX12_strength_26 : decode cX12_strength 26 = .ok (.iconst 1, 1) := by decide +kernel
theorem dX12_strength_27 : decode cX12_strength 27 = .ok (.if_icmp .ne 12, 3) := by decide +kernel
theorem dX12_strength_30 : decode cX12_strength 30 = .ok (.aload_n 0, 1) := by decide +kernel
theorem dX12_strength_31 : decode cX12_strength 31 = .ok (.iload_n 1, 1) := by decide +kernel
theorem dX12_strength_32 : decode cX12_strength 32 = .ok (.iload_n 2, 1) := by decide +kernel
theorem dX12_strength_33 : decode cX12_strength 33 = .ok (.invokevirtual 207, 3) := by decide +kernel
theorem dX12_strength_36 : decode cX12_strength 36 = .ok (.goto 4, 3) := by decide +kernel
theorem dX12_strength_39 : decode cX12_strength 39 = .ok (.iconst (-1), 1) := by decide +kernel
theorem dX12_strength_40 : decode cX12_strength 40 = .ok (.ireturn, 1) := by decide +kernel
theorem dX12_rightOf_0 : decode cX12_rightOf 0 = .ok (.iload_n 2, 1) := by decide +kernel
theorem dX12_rightOf_1 : decode cX12_rightOf 1 = .ok (.ifCond .ne 5, 3) := by decide +kernel
theorem dX12_rightOf_4 : decode cX12_rightOf 4 = .ok (.iconst 1, 1) := by decide +kernel
theorem dX12_rightOf_5 : decode cX12_rightOf 5 = .ok (.ireturn, 1) := by decide +kernel
theorem dX12_rightOf_6 : decode cX12_rightOf 6 = .ok (.aload_n 0, 1) := by decide +kernel
theorem dX12_rightOf_7 : decode cX12_rightOf 7 = .ok (.iload_n 2, 1) := by decide +kernel
theorem dX12_rightOf_8 : decode cX12_rightOf 8 = .ok (.invokevirtual 156, 3) := by decide +kernel
theorem dX12_rightOf_11 : decode cX12_rightOf 11 = .ok (.ifCond .ne 5, 3) := by decide +kernel
theorem dX12_rightOf_14 : decode cX12_rightOf 14 = .ok (.iconst 2, 1) := by decide +kernel
theorem dX12_rightOf_15 : decode cX12_rightOf 15 = .ok (.ireturn, 1) := by decide +kernel
theorem dX12_rightOf_16 : decode cX12_rightOf 16 = .ok (.iconst 0, 1) := by decide +kernel
theorem dX12_rightOf_17 : decode cX12_rightOf 17 = .ok (.istore_n 3, 1) := by decide +kernel
theorem dX12_rightOf_18 : decode cX12_rightOf 18 = .ok (.iload_n 3, 1) := by decide +kernel
theorem dX12_rightOf_19 : decode cX12_rightOf 19 = .ok (.aload_n 0, 1) := by decide +kernel
theorem dX12_rightOf_20 : decode cX12_rightOf 20 = .ok (.getfield 132, 3) := by decide +kernel
theorem dX12_rightOf_23 : decode cX12_rightOf 23 = .ok (.if_icmp .ge 29, 3) := by decide +kernel
theorem dX12_rightOf_26 : decode cX12_rightOf 26 = .ok (.iload_n 2, 1) := by decide +kernel
theorem dX12_rightOf_27 : decode cX12_rightOf 27 = .ok (.iload_n 3, 1) := by decide +kernel
theorem dX12_rightOf_28 : decode cX12_rightOf 28 = .ok (.ishr, 1) := by decide +kernel
theorem dX12_rightOf_29 : decode cX12_rightOf 29 = .ok (.iconst 1, 1) := by decide +kernel
theorem dX12_rightOf_30 : decode cX12_rightOf 30 = .ok (.iand, 1) := by decide +kernel
theorem dX12_rightOf_31 : decode cX12_rightOf 31 = .ok (.iconst 1, 1) := by decide +kernel
theorem dX12_rightOf_32 : decode cX12_rightOf 32 = .ok (.if_icmp .ne 14, 3) := by decide +kernel
theorem dX12_rightOf_35 : decode cX12_rightOf 35 = .ok (.aload_n 0, 1) := by decide +kernel
theorem dX12_rightOf_36 : decode cX12_rightOf 36 = .ok (.getfield 32, 3) := by decide +kernel
theorem dX12_rightOf_39 : decode cX12_rightOf 39 = .ok (.iload_n 3, 1) := by decide +kernel
theorem dX12_rightOf_40 : decode cX12_rightOf 40 = .ok (.baload, 1) := by decide +kernel
theorem dX12_rightOf_41 : decode cX12_rightOf 41 = .ok (.ifCond .eq 5, 3) := by decide +kernel
theorem dX12_rightOf_44 : decode cX12_rightOf 44 = .ok (.iconst 3, 1) := by decide +kernel
theorem dX12_rightOf_45 : decode cX12_rightOf 45 = .ok (.ireturn, 1) := by decide +kernel
theorem dX12_rightOf_46 : decode cX12_rightOf 46 = .ok (.iinc 3 1, 3) := by decide +kernel
theorem dX12_rightOf_49 : decode cX12_rightOf 49 = .ok (.goto (-31), 3) := by decide +kernel
theorem dX12_rightOf_52 : decode cX12_rightOf 52 = .ok (.iconst 0, 1) := by decide +kernel
theorem dX12_rightOf_53 : decode cX12_rightOf 53 = .ok (.istore_n 3, 1) := by decide +kernel
theorem dX12_rightOf_54 : decode cX12_rightOf 54 = .ok (.iload_n 3, 1) := by decide +kernel
theorem dX12_rightOf_55 : decode cX12_rightOf 55 = .ok (.aload_n 0, 1) := by decide +kernel
theorem dX12_rightOf_56 : decode cX12_rightOf 56 = .ok (.getfield 159, 3) := by decide +kernel
theorem dX12_rightOf_59 : decode cX12_rightOf 59 = .ok (.if_icmp .ge 54, 3) := by decide +kernel
theorem dX12_rightOf_62 : decode cX12_rightOf 62 = .ok (.iload_n 3, 1) := by decide +kernel
theorem dX12_rightOf_63 : decode cX12_rightOf 63 = .ok (.iload_n 1, 1) := by decide +kernel
theorem dX12_rightOf_64 : decode cX12_rightOf 64 = .ok (.if_icmp .eq 43, 3) := by decide +kernel
theorem dX12_rightOf_67 : decode cX12_rightOf 67 = .ok (.aload_n 0, 1) := by decide +kernel
theorem dX12_rightOf_68 : decode cX12_rightOf 68 = .ok (.getfield 60, 3) := by decide +kernel
theorem dX12_rightOf_71 : decode cX12_rightOf 71 = .ok (.iload_n 3, 1) := by decide +kernel
theorem dX12_rightOf_72 : decode cX12_rightOf 72 = .ok (.baload, 1) := by decide +kernel
theorem dX12_rightOf_73 : decode cX12_rightOf 73 = .ok (.ifCond .ne 34, 3) := by decide +kernel
theorem dX12_rightOf_76 : decode cX12_rightOf 76 = .ok (.aload_n 0, 1) := by decide +kernel
theorem dX12_rightOf_77 : decode cX12_rightOf 77 = .ok (.getfield 57, 3) := by decide +kernel
theorem dX12_rightOf_80 : decode cX12_rightOf 80 = .ok (.iload_n 3, 1) := by decide +kernel
theorem dX12_rightOf_81 : decode cX12_rightOf 81 = .ok (.iaload, 1) := by decide +kernel
theorem dX12_rightOf_82 : decode cX12_rightOf 82 = .ok (.iload_n 2, 1) := by decide +kernel
theorem dX12_rightOf_83 : decode cX12_rightOf 83 = .ok (.iand, 1) := by decide +kernel
theorem dX12_rightOf_84 : decode cX12_rightOf 84 = .ok (.ifCond .eq 23, 3) := by decide +kernel
theorem dX12_rightOf_87 : decode cX12_rightOf 87 = .ok (.aload_n 0, 1) := by decide +kernel
theorem dX12_rightOf_88 : decode cX12_rightOf 88 = .ok (.iload_n 3, 1) := by decide +kernel
theorem dX12_rightOf_89 : decode cX12_rightOf 89 = .ok (.iload_n 1, 1) := by decide +kernel
theorem dX12_rightOf_90 : decode cX12_rightOf 90 = .ok (.invokevirtual 181, 3) := by decide +kernel
theorem dX12_rightOf_93 : decode cX12_rightOf 93 = .ok (.ifCond .ne 14, 3) := by decide +kernel
theorem dX12_rightOf_96 : decode cX12_rightOf 96 = .ok (.aload_n 0, 1) := by decide +kernel
theorem dX12_rightOf_97 : decode cX12_rightOf 97 = .ok (.iload_n 1, 1) := by decide +kernel
theorem dX12_rightOf_98 : decode cX12_rightOf 98 = .ok (.iload_n 3, 1) := by decide +kernel
theorem dX12_rightOf_99 : decode cX12_rightOf 99 = .ok (.invokevirtual 181, 3) := by decide +kernel
theorem dX12_rightOf_102 : decode cX12_rightOf 102 = .ok (.ifCond .ne 5, 3) := by decide +kernel
theorem dX12_rightOf_105 : decode cX12_rightOf 105 = .ok (.iconst 4, 1) := by decide +kernel
theorem dX12_rightOf_106 : decode cX12_rightOf 106 = .ok (.ireturn, 1) := by decide +kernel
theorem dX12_rightOf_107 : decode cX12_rightOf 107 = .ok (.iinc 3 1, 3) := by decide +kernel
theorem dX12_rightOf_110 : decode cX12_rightOf 110 = .ok (.goto (-56), 3) := by decide +kernel
theorem dX12_rightOf_113 : decode cX12_rightOf 113 = .ok (.iconst 0, 1) := by decide +kernel
theorem dX12_rightOf_114 : decode cX12_rightOf 114 = .ok (.istore_n 3, 1) := by decide +kernel
theorem dX12_rightOf_115 : decode cX12_rightOf 115 = .ok (.iload_n 3, 1) := by decide +kernel
theorem dX12_rightOf_116 : decode cX12_rightOf 116 = .ok (.aload_n 0, 1) := by decide +kernel
theorem dX12_rightOf_117 : decode cX12_rightOf 117 = .ok (.getfield 132, 3) := by decide +kernel
theorem dX12_rightOf_120 : decode cX12_rightOf 120 = .ok (.if_icmp .ge 47, 3) := by decide +kernel
theorem dX12_rightOf_123 : decode cX12_rightOf 123 = .ok (.iload_n 2, 1) := by decide +kernel
theorem dX12_rightOf_124 : decode cX12_rightOf 124 = .ok (.iload_n 3, 1) := by decide +kernel
theorem dX12_rightOf_125 : decode cX12_rightOf 125 = .ok (.ishr, 1) := by decide +kernel
theorem dX12_rightOf_126 : decode cX12_rightOf 126 = .ok (.iconst 1, 1) := by decide +kernel
theorem dX12_rightOf_127 : decode cX12_rightOf 127 = .ok (.iand, 1) := by decide +kernel
theorem dX12_rightOf_128 : decode cX12_rightOf 128 = .ok (.iconst 1, 1) := by decide +kernel
theorem dX12_rightOf_129 : decode cX12_rightOf 129 = .ok (.if_icmp .ne 32, 3) := by decide +kernel
theorem dX12_rightOf_132 : decode cX12_rightOf 132 = .ok (.aload_n 0, 1) := by decide +kernel
theorem dX12_rightOf_133 : decode cX12_rightOf 133 = .ok (.iload_n 1, 1) := by decide +kernel
theorem dX12_rightOf_134 : decode cX12_rightOf 134 = .ok (.iload_n 3, 1) := by decide +kernel
theorem dX12_rightOf_135 : decode cX12_rightOf 135 = .ok (.invokevirtual 207, 3) := by decide +kernel
theorem dX12_rightOf_138 : decode cX12_rightOf 138 = .ok (.aload_n 0, 1) := by decide +kernel
theorem dX12_rightOf_139 : decode cX12_rightOf 139 = .ok (.iload_n 1, 1) := by decide +kernel
theorem dX12_rightOf_140 : decode cX12_rightOf 140 = .ok (.invokevirtual 204, 3) := by decide +kernel
theorem dX12_rightOf_143 : decode cX12_rightOf 143 = .ok (.if_icmp .lt 16, 3) := by decide +kernel
theorem dX12_rightOf_146 : decode cX12_rightOf 146 = .ok (.aload_n 0, 1) := by decide +kernel
theorem dX12_rightOf_147 : decode cX12_rightOf 147 = .ok (.iload_n 1, 1) := by decide +kernel
theorem dX12_rightOf_148 : decode cX12_rightOf 148 = .ok (.iload_n 3, 1) := by decide +kernel
theorem dX12_rightOf_149 : decode cX12_rightOf 149 = .ok (.invokevirtual 207, 3) := by decide +kernel
theorem dX12_rightOf_152 : decode cX12_rightOf 152 = .ok (.aload_n 0, 1) := by decide +kernel
theorem dX12_rightOf_153 : decode cX12_rightOf 153 = .ok (.getfield 142, 3) := by decide +kernel
theorem dX12_rightOf_156 : decode cX12_rightOf 156 = .ok (.if_icmp .ge 5, 3) := by decide +kernel
theorem dX12_rightOf_159 : decode cX12_rightOf 159 = .ok (.iconst 5, 1) := by decide +kernel
theorem dX12_rightOf_160 : decode cX12_rightOf 160 = .ok (.ireturn, 1) := by decide +kernel
theorem dX12_rightOf_161 : decode cX12_rightOf 161 = .ok (.iinc 3 1, 3) := by decide +kernel
theorem dX12_rightOf_164 : decode cX12_rightOf 164 = .ok (.goto (-49), 3) := by decide +kernel
theorem dX12_rightOf_167 : decode cX12_rightOf 167 = .ok (.iconst 0, 1) := by decide +kernel
theorem dX12_rightOf_168 : decode cX12_rightOf 168 = .ok (.ireturn, 1) := by decide +kernel
theorem dX12_right_0 : decode cX12_right 0 = .ok (.aload_n 0, 1) := by decide +kernel
theorem dX12_right_1 : decode cX12_right 1 = .ok (.iload_n 1, 1) := by decide +kernel
theorem dX12_right_2 : decode cX12_right 2 = .ok (.invokevirtual 169, 3) := by decide +kernel
theorem dX12_right_5 : decode cX12_right 5 = .ok (.ifCond .eq 17, 3) := by decide +kernel
theorem dX12_right_8 : decode cX12_right 8 = .ok (.aload_n 0, 1) := by decide +kernel
theorem dX12_right_9 : decode cX12_right 9 = .ok (.iload_n 1, 1) := by decide +kernel
theorem dX12_right_10 : decode cX12_right 10 = .ok (.aload_n 0, 1) := by decide +kernel
theorem dX12_right_11 : decode cX12_right 11 = .ok (.getfield 57, 3) := by decide +kernel
theorem dX12_right_14 : decode cX12_right 14 = .ok (.iload_n 1, 1) := by decide +kernel
theorem dX12_right_15 : decode cX12_right 15 = .ok (.iaload, 1) := by decide +kernel
theorem dX12_right_16 : decode cX12_right 16 = .ok (.invokevirtual 210, 3) := by decide +kernel
theorem dX12_right_19 : decode cX12_right 19 = .ok (.goto 4, 3) := by decide +kernel
theorem dX12_right_22 : decode cX12_right 22 = .ok (.iconst (-1), 1) := by decide +kernel
theorem dX12_right_23 : decode cX12_right 23 = .ok (.ireturn, 1) := by decide +kernel
theorem dX12_standIn_0 : decode cX12_standIn 0 = .ok (.aload_n 0, 1) := by decide +kernel
theorem dX12_standIn_1 : decode cX12_standIn 1 = .ok (.iload_n 1, 1) := by decide +kernel
theorem dX12_standIn_2 : decode cX12_standIn 2 = .ok (.invokevirtual 169, 3) := by decide +kernel
theorem dX12_standIn_5 : decode cX12_standIn 5 = .ok (.ifCond .eq 24, 3) := by decide +kernel
theorem dX12_standIn_8 : decode cX12_standIn 8 = .ok (.aload_n 0, 1) := by decide +kernel
theorem dX12_standIn_9 : decode cX12_standIn 9 = .ok (.iload_n 2, 1) := by decide +kernel
theorem dX12_standIn_10 : decode cX12_standIn 10 = .ok (.invokevirtual 135, 3) := by decide +kernel
theorem dX12_standIn_13 : decode cX12_standIn 13 = .ok (.ifCond .eq 16, 3) := by decide +kernel
theorem dX12_standIn_16 : decode cX12_standIn 16 = .ok (.aload_n 0, 1) := by decide +kernel
theorem dX12_standIn_17 : decode cX12_standIn 17 = .ok (.getfield 57, 3) := by decide +kernel
theorem dX12_standIn_20 : decode cX12_standIn 20 = .ok (.iload_n 1, 1) := by decide +kernel
theorem dX12_standIn_21 : decode cX12_standIn 21 = .ok (.iaload, 1) := by decide +kernel
theorem dX12_standIn_22 : decode cX12_standIn 22 = .ok (.iload_n 2, 1) := by decide +kernel
theorem dX12_standIn_23 : decode cX12_standIn 23 = .ok (.ishr, 1) := by decide +kernel
theorem dX12_standIn_24 : decode cX12_standIn 24 = .ok (.iconst 1, 1) := by decide +kernel
theorem dX12_standIn_25 : decode cX12_standIn 25 = .ok (.iand, 1) := by decide +kernel
theorem dX12_standIn_26 : decode cX12_standIn 26 = .ok (.ifCond .ne 5, 3) := by decide +kernel
theorem dX12_standIn_29 : decode cX12_standIn 29 = .ok (.iconst (-1), 1) := by decide +kernel
theorem dX12_standIn_30 : decode cX12_standIn 30 = .ok (.ireturn, 1) := by decide +kernel
theorem dX12_standIn_31 : decode cX12_standIn 31 = .ok (.aload_n 0, 1) := by decide +kernel
theorem dX12_standIn_32 : decode cX12_standIn 32 = .ok (.getfield 57, 3) := by decide +kernel
theorem dX12_standIn_35 : decode cX12_standIn 35 = .ok (.iload_n 1, 1) := by decide +kernel
theorem dX12_standIn_36 : decode cX12_standIn 36 = .ok (.iaload, 1) := by decide +kernel
theorem dX12_standIn_37 : decode cX12_standIn 37 = .ok (.iconst 1, 1) := by decide +kernel
theorem dX12_standIn_38 : decode cX12_standIn 38 = .ok (.iload_n 2, 1) := by decide +kernel
theorem dX12_standIn_39 : decode cX12_standIn 39 = .ok (.ishl, 1) := by decide +kernel
theorem dX12_standIn_40 : decode cX12_standIn 40 = .ok (.iconst (-1), 1) := by decide +kernel
theorem dX12_standIn_41 : decode cX12_standIn 41 = .ok (.ixor, 1) := by decide +kernel
theorem dX12_standIn_42 : decode cX12_standIn 42 = .ok (.iand, 1) := by decide +kernel
theorem dX12_standIn_43 : decode cX12_standIn 43 = .ok (.istore_n 3, 1) := by decide +kernel
theorem dX12_standIn_44 : decode cX12_standIn 44 = .ok (.iconst (-1), 1) := by decide +kernel
theorem dX12_standIn_45 : decode cX12_standIn 45 = .ok (.istore 4, 2) := by decide +kernel
theorem dX12_standIn_47 : decode cX12_standIn 47 = .ok (.iconst 0, 1) := by decide +kernel
theorem dX12_standIn_48 : decode cX12_standIn 48 = .ok (.istore 5, 2) := by decide +kernel
theorem dX12_standIn_50 : decode cX12_standIn 50 = .ok (.iconst 0, 1) := by decide +kernel
theorem dX12_standIn_51 : decode cX12_standIn 51 = .ok (.istore 6, 2) := by decide +kernel
theorem dX12_standIn_53 : decode cX12_standIn 53 = .ok (.iload 6, 2) := by decide +kernel
theorem dX12_standIn_55 : decode cX12_standIn 55 = .ok (.aload_n 0, 1) := by decide +kernel
theorem dX12_standIn_56 : decode cX12_standIn 56 = .ok (.getfield 132, 3) := by decide +kernel
theorem dX12_standIn_59 : decode cX12_standIn 59 = .ok (.if_icmp .ge 101, 3) := by decide +kernel
theorem dX12_standIn_62 : decode cX12_standIn 62 = .ok (.aload_n 0, 1) := by decide +kernel
theorem dX12_standIn_63 : decode cX12_standIn 63 = .ok (.getfield 57, 3) := by decide +kernel
theorem dX12_standIn_66 : decode cX12_standIn 66 = .ok (.iload_n 1, 1) := by decide +kernel
theorem dX12_standIn_67 : decode cX12_standIn 67 = .ok (.iaload, 1) := by decide +kernel
theorem dX12_standIn_68 : decode cX12_standIn 68 = .ok (.iload 6, 2) := by decide +kernel
theorem dX12_standIn_70 : decode cX12_standIn 70 = .ok (.ishr, 1) := by decide +kernel
theorem dX12_standIn_71 : decode cX12_standIn 71 = .ok (.iconst 1, 1) := by decide +kernel
theorem dX12_standIn_72 : decode cX12_standIn 72 = .ok (.iand, 1) := by decide +kernel
theorem dX12_standIn_73 : decode cX12_standIn 73 = .ok (.iconst 1, 1) := by decide +kernel
theorem dX12_standIn_74 : decode cX12_standIn 74 = .ok (.if_icmp .eq 80, 3) := by decide +kernel
theorem dX12_standIn_77 : decode cX12_standIn 77 = .ok (.aload_n 0, 1) := by decide +kernel
theorem dX12_standIn_78 : decode cX12_standIn 78 = .ok (.iload_n 1, 1) := by decide +kernel
theorem dX12_standIn_79 : decode cX12_standIn 79 = .ok (.iload_n 3, 1) := by decide +kernel
theorem dX12_standIn_80 : decode cX12_standIn 80 = .ok (.iconst 1, 1) := by decide +kernel
theorem dX12_standIn_81 : decode cX12_standIn 81 = .ok (.iload 6, 2) := by decide +kernel
theorem dX12_standIn_83 : decode cX12_standIn 83 = .ok (.ishl, 1) := by decide +kernel
theorem dX12_standIn_84 : decode cX12_standIn 84 = .ok (.ior, 1) := by decide +kernel
theorem dX12_standIn_85 : decode cX12_standIn 85 = .ok (.invokevirtual 210, 3) := by decide +kernel
theorem dX12_standIn_88 : decode cX12_standIn 88 = .ok (.ifCond .eq 6, 3) := by decide +kernel
theorem dX12_standIn_91 : decode cX12_standIn 91 = .ok (.goto 63, 3) := by decide +kernel
theorem dX12_standIn_94 : decode cX12_standIn 94 = .ok (.aload_n 0, 1) := by decide +kernel
theorem dX12_standIn_95 : decode cX12_standIn 95 = .ok (.getfield 23, 3) := by decide +kernel
theorem dX12_standIn_98 : decode cX12_standIn 98 = .ok (.iload 6, 2) := by decide +kernel
theorem dX12_standIn_100 : decode cX12_standIn 100 = .ok (.iaload, 1) := by decide +kernel
theorem dX12_standIn_101 : decode cX12_standIn 101 = .ok (.aload_n 0, 1) := by decide +kernel
theorem dX12_standIn_102 : decode cX12_standIn 102 = .ok (.getfield 23, 3) := by decide +kernel
theorem dX12_standIn_105 : decode cX12_standIn 105 = .ok (.iload_n 2, 1) := by decide +kernel
theorem dX12_standIn_106 : decode cX12_standIn 106 = .ok (.iaload, 1) := by decide +kernel
theorem dX12_standIn_107 : decode cX12_standIn 107 = .ok (.invokestatic 145, 3) := by decide +kernel
theorem dX12_standIn_110 : decode cX12_standIn 110 = .ok (.iconst 5, 1) := by decide +kernel
theorem dX12_standIn_111 : decode cX12_standIn 111 = .ok (.aload_n 0, 1) := by decide +kernel
theorem dX12_standIn_112 : decode cX12_standIn 112 = .ok (.getfield 26, 3) := by decide +kernel
theorem dX12_standIn_115 : decode cX12_standIn 115 = .ok (.iload 6, 2) := by decide +kernel
theorem dX12_standIn_117 : decode cX12_standIn 117 = .ok (.iaload, 1) := by decide +kernel
theorem dX12_standIn_118 : decode cX12_standIn 118 = .ok (.aload_n 0, 1) := by decide +kernel
theorem dX12_standIn_119 : decode cX12_standIn 119 = .ok (.getfield 26, 3) := by decide +kernel
theorem dX12_standIn_122 : decode cX12_standIn 122 = .ok (.iload_n 2, 1) := by decide +kernel
theorem dX12_standIn_123 : decode cX12_standIn 123 = .ok (.iaload, 1) := by decide +kernel
theorem dX12_standIn_124 : decode cX12_standIn 124 = .ok (.invokestatic 145, 3) := by decide +kernel
theorem dX12_standIn_127 : decode cX12_standIn 127 = .ok (.imul, 1) := by decide +kernel
theorem dX12_standIn_128 : decode cX12_standIn 128 = .ok (.iadd, 1) := by decide +kernel
theorem dX12_standIn_129 : decode cX12_standIn 129 = .ok (.istore 7, 2) := by decide +kernel
theorem dX12_standIn_131 : decode cX12_standIn 131 = .ok (.iload 4, 2) := by decide +kernel
theorem dX12_standIn_133 : decode cX12_standIn 133 = .ok (.ifCond .lt 13, 3) := by decide +kernel
theorem dX12_standIn_136 : decode cX12_standIn 136 = .ok (.iload 7, 2) := by decide +kernel
theorem dX12_standIn_138 : decode cX12_standIn 138 = .ok (.iload 5, 2) := by decide +kernel
theorem dX12_standIn_140 : decode cX12_standIn 140 = .ok (.if_icmp .lt 6, 3) := by decide +kernel
theorem dX12_standIn_143 : decode cX12_standIn 143 = .ok (.goto 11, 3) := by decide +kernel
theorem dX12_standIn_146 : decode cX12_standIn 146 = .ok (.iload 6, 2) := by decide +kernel
theorem dX12_standIn_148 : decode cX12_standIn 148 = .ok (.istore 4, 2) := by decide +kernel
theorem dX12_standIn_150 : decode cX12_standIn 150 = .ok (.iload 7, 2) := by decide +kernel
theorem dX12_standIn_152 : decode cX12_standIn 152 = .ok (.istore 5, 2) := by decide +kernel
theorem dX12_standIn_154 : decode cX12_standIn 154 = .ok (.iinc 6 1, 3) := by decide +kernel
theorem dX12_standIn_157 : decode cX12_standIn 157 = .ok (.goto (-104), 3) := by decide +kernel
theorem dX12_standIn_160 : decode cX12_standIn 160 = .ok (.iload 4, 2) := by decide +kernel
theorem dX12_standIn_162 : decode cX12_standIn 162 = .ok (.ireturn, 1) := by decide +kernel
theorem dX12_feed_0 : decode cX12_feed 0 = .ok (.aload_n 0, 1) := by decide +kernel
theorem dX12_feed_1 : decode cX12_feed 1 = .ok (.getfield 213, 3) := by decide +kernel
theorem dX12_feed_4 : decode cX12_feed 4 = .ok (.bipush 20, 2) := by decide +kernel
theorem dX12_feed_6 : decode cX12_feed 6 = .ok (.iadd, 1) := by decide +kernel
theorem dX12_feed_7 : decode cX12_feed 7 = .ok (.sipush 600, 3) := by decide +kernel
theorem dX12_feed_10 : decode cX12_feed 10 = .ok (.if_icmp .le 5, 3) := by decide +kernel
theorem dX12_feed_13 : decode cX12_feed 13 = .ok (.iconst (-1), 1) := by decide +kernel
theorem dX12_feed_14 : decode cX12_feed 14 = .ok (.ireturn, 1) := by decide +kernel
theorem dX12_feed_15 : decode cX12_feed 15 = .ok (.aload_n 0, 1) := by decide +kernel
theorem dX12_feed_16 : decode cX12_feed 16 = .ok (.iload_n 1, 1) := by decide +kernel
theorem dX12_feed_17 : decode cX12_feed 17 = .ok (.invokevirtual 216, 3) := by decide +kernel
theorem dX12_feed_20 : decode cX12_feed 20 = .ok (.aload_n 0, 1) := by decide +kernel
theorem dX12_feed_21 : decode cX12_feed 21 = .ok (.iload_n 2, 1) := by decide +kernel
theorem dX12_feed_22 : decode cX12_feed 22 = .ok (.invokevirtual 216, 3) := by decide +kernel
theorem dX12_feed_25 : decode cX12_feed 25 = .ok (.aload_n 0, 1) := by decide +kernel
theorem dX12_feed_26 : decode cX12_feed 26 = .ok (.iload_n 3, 1) := by decide +kernel
theorem dX12_feed_27 : decode cX12_feed 27 = .ok (.invokevirtual 216, 3) := by decide +kernel
theorem dX12_feed_30 : decode cX12_feed 30 = .ok (.aload_n 0, 1) := by decide +kernel
theorem dX12_feed_31 : decode cX12_feed 31 = .ok (.iload 4, 2) := by decide +kernel
theorem dX12_feed_33 : decode cX12_feed 33 = .ok (.invokevirtual 216, 3) := by decide +kernel
theorem dX12_feed_36 : decode cX12_feed 36 = .ok (.aload_n 0, 1) := by decide +kernel
theorem dX12_feed_37 : decode cX12_feed 37 = .ok (.iload 5, 2) := by decide +kernel
theorem dX12_feed_39 : decode cX12_feed 39 = .ok (.invokevirtual 216, 3) := by decide +kernel
theorem dX12_feed_42 : decode cX12_feed 42 = .ok (.aload_n 0, 1) := by decide +kernel
theorem dX12_feed_43 : decode cX12_feed 43 = .ok (.getfield 213, 3) := by decide +kernel
theorem dX12_feed_46 : decode cX12_feed 46 = .ok (.ireturn, 1) := by decide +kernel
theorem dX12_four_0 : decode cX12_four 0 = .ok (.bipush 24, 2) := by decide +kernel
theorem dX12_four_2 : decode cX12_four 2 = .ok (.istore_n 2, 1) := by decide +kernel
theorem dX12_four_3 : decode cX12_four 3 = .ok (.iload_n 2, 1) := by decide +kernel
theorem dX12_four_4 : decode cX12_four 4 = .ok (.ifCond .lt 35, 3) := by decide +kernel
theorem dX12_four_7 : decode cX12_four 7 = .ok (.aload_n 0, 1) := by decide +kernel
theorem dX12_four_8 : decode cX12_four 8 = .ok (.getfield 102, 3) := by decide +kernel
theorem dX12_four_11 : decode cX12_four 11 = .ok (.aload_n 0, 1) := by decide +kernel
theorem dX12_four_12 : decode cX12_four 12 = .ok (.getfield 213, 3) := by decide +kernel
theorem dX12_four_15 : decode cX12_four 15 = .ok (.iload_n 1, 1) := by decide +kernel
theorem dX12_four_16 : decode cX12_four 16 = .ok (.iload_n 2, 1) := by decide +kernel
theorem dX12_four_17 : decode cX12_four 17 = .ok (.ishr, 1) := by decide +kernel
theorem dX12_four_18 : decode cX12_four 18 = .ok (.sipush 255, 3) := by decide +kernel
theorem dX12_four_21 : decode cX12_four 21 = .ok (.iand, 1) := by decide +kernel
theorem dX12_four_22 : decode cX12_four 22 = .ok (.iastore, 1) := by decide +kernel
theorem dX12_four_23 : decode cX12_four 23 = .ok (.aload_n 0, 1) := by decide +kernel
theorem dX12_four_24 : decode cX12_four 24 = .ok (.dup, 1) := by decide +kernel
theorem dX12_four_25 : decode cX12_four 25 = .ok (.getfield 213, 3) := by decide +kernel
theorem dX12_four_28 : decode cX12_four 28 = .ok (.iconst 1, 1) := by decide +kernel
theorem dX12_four_29 : decode cX12_four 29 = .ok (.iadd, 1) := by decide +kernel
theorem dX12_four_30 : decode cX12_four 30 = .ok (.putfield 213, 3) := by decide +kernel
theorem dX12_four_33 : decode cX12_four 33 = .ok (.iinc 2 (-8), 3) := by decide +kernel
theorem dX12_four_36 : decode cX12_four 36 = .ok (.goto (-33), 3) := by decide +kernel
theorem dX12_four_39 : decode cX12_four 39 = .ok (.return_, 1) := by decide +kernel
theorem dX12_end_0 : decode cX12_end 0 = .ok (.iload_n 1, 1) := by decide +kernel
theorem dX12_end_1 : decode cX12_end 1 = .ok (.ifCond .lt 11, 3) := by decide +kernel
theorem dX12_end_4 : decode cX12_end 4 = .ok (.iload_n 1, 1) := by decide +kernel
theorem dX12_end_5 : decode cX12_end 5 = .ok (.aload_n 0, 1) := by decide +kernel
theorem dX12_end_6 : decode cX12_end 6 = .ok (.getfield 213, 3) := by decide +kernel
theorem dX12_end_9 : decode cX12_end 9 = .ok (.if_icmp .le 5, 3) := by decide +kernel
theorem dX12_end_12 : decode cX12_end 12 = .ok (.iconst (-1), 1) := by decide +kernel
theorem dX12_end_13 : decode cX12_end 13 = .ok (.ireturn, 1) := by decide +kernel
theorem dX12_end_14 : decode cX12_end 14 = .ok (.aload_n 0, 1) := by decide +kernel
theorem dX12_end_15 : decode cX12_end 15 = .ok (.iload_n 1, 1) := by decide +kernel
theorem dX12_end_16 : decode cX12_end 16 = .ok (.putfield 213, 3) := by decide +kernel
theorem dX12_end_19 : decode cX12_end 19 = .ok (.iload_n 1, 1) := by decide +kernel
theorem dX12_end_20 : decode cX12_end 20 = .ok (.ireturn, 1) := by decide +kernel
theorem dX12_here_0 : decode cX12_here 0 = .ok (.aload_n 0, 1) := by decide +kernel
theorem dX12_here_1 : decode cX12_here 1 = .ok (.getfield 219, 3) := by decide +kernel
theorem dX12_here_4 : decode cX12_here 4 = .ok (.iload_n 1, 1) := by decide +kernel
theorem dX12_here_5 : decode cX12_here 5 = .ok (.iadd, 1) := by decide +kernel
theorem dX12_here_6 : decode cX12_here 6 = .ok (.aload_n 0, 1) := by decide +kernel
theorem dX12_here_7 : decode cX12_here 7 = .ok (.getfield 222, 3) := by decide +kernel
theorem dX12_here_10 : decode cX12_here 10 = .ok (.if_icmp .ge 17, 3) := by decide +kernel
theorem dX12_here_13 : decode cX12_here 13 = .ok (.aload_n 0, 1) := by decide +kernel
theorem dX12_here_14 : decode cX12_here 14 = .ok (.getfield 102, 3) := by decide +kernel
theorem dX12_here_17 : decode cX12_here 17 = .ok (.aload_n 0, 1) := by decide +kernel
theorem dX12_here_18 : decode cX12_here 18 = .ok (.getfield 219, 3) := by decide +kernel
theorem dX12_here_21 : decode cX12_here 21 = .ok (.iload_n 1, 1) := by decide +kernel
theorem dX12_here_22 : decode cX12_here 22 = .ok (.iadd, 1) := by decide +kernel
theorem dX12_here_23 : decode cX12_here 23 = .ok (.iaload, 1) := by decide +kernel
theorem dX12_here_24 : decode cX12_here 24 = .ok (.goto 4, 3) := by decide +kernel
theorem dX12_here_27 : decode cX12_here 27 = .ok (.iconst (-1), 1) := by decide +kernel
theorem dX12_here_28 : decode cX12_here 28 = .ok (.ireturn, 1) := by decide +kernel
theorem dX12_isLetter_0 : decode cX12_isLetter 0 = .ok (.iload_n 0, 1) := by decide +kernel
theorem dX12_isLetter_1 : decode cX12_isLetter 1 = .ok (.bipush 97, 2) := by decide +kernel
theorem dX12_isLetter_3 : decode cX12_isLetter 3 = .ok (.if_icmp .lt 13, 3) := by decide +kernel
theorem dX12_isLetter_6 : decode cX12_isLetter 6 = .ok (.iload_n 0, 1) := by decide +kernel
theorem dX12_isLetter_7 : decode cX12_isLetter 7 = .ok (.bipush 122, 2) := by decide +kernel
theorem dX12_isLetter_9 : decode cX12_isLetter 9 = .ok (.if_icmp .gt 7, 3) := by decide +kernel
theorem dX12_isLetter_12 : decode cX12_isLetter 12 = .ok (.iconst 1, 1) := by decide +kernel
theorem dX12_isLetter_13 : decode cX12_isLetter 13 = .ok (.goto 4, 3) := by decide +kernel
theorem dX12_isLetter_16 : decode cX12_isLetter 16 = .ok (.iconst 0, 1) := by decide +kernel
theorem dX12_isLetter_17 : decode cX12_isLetter 17 = .ok (.ireturn, 1) := by decide +kernel
theorem dX12_isDigit_0 : decode cX12_isDigit 0 = .ok (.iload_n 0, 1) := by decide +kernel
theorem dX12_isDigit_1 : decode cX12_isDigit 1 = .ok (.bipush 48, 2) := by decide +kernel
theorem dX12_isDigit_3 : decode cX12_isDigit 3 = .ok (.if_icmp .lt 13, 3) := by decide +kernel
theorem dX12_isDigit_6 : decode cX12_isDigit 6 = .ok (.iload_n 0, 1) := by decide +kernel
theorem dX12_isDigit_7 : decode cX12_isDigit 7 = .ok (.bipush 57, 2) := by decide +kernel
theorem dX12_isDigit_9 : decode cX12_isDigit 9 = .ok (.if_icmp .gt 7, 3) := by decide +kernel
theorem dX12_isDigit_12 : decode cX12_isDigit 12 = .ok (.iconst 1, 1) := by decide +kernel
theorem dX12_isDigit_13 : decode cX12_isDigit 13 = .ok (.goto 4, 3) := by decide +kernel
theorem dX12_isDigit_16 : decode cX12_isDigit 16 = .ok (.iconst 0, 1) := by decide +kernel
theorem dX12_isDigit_17 : decode cX12_isDigit 17 = .ok (.ireturn, 1) := by decide +kernel
theorem dX12_isSign_0 : decode cX12_isSign 0 = .ok (.iload_n 0, 1) := by decide +kernel
theorem dX12_isSign_1 : decode cX12_isSign 1 = .ok (.bipush 59, 2) := by decide +kernel
theorem dX12_isSign_3 : decode cX12_isSign 3 = .ok (.if_icmp .eq 57, 3) := by decide +kernel
theorem dX12_isSign_6 : decode cX12_isSign 6 = .ok (.iload_n 0, 1) := by decide +kernel
theorem dX12_isSign_7 : decode cX12_isSign 7 = .ok (.bipush 61, 2) := by decide +kernel
theorem dX12_isSign_9 : decode cX12_isSign 9 = .ok (.if_icmp .eq 51, 3) := by decide +kernel
theorem dX12_isSign_12 : decode cX12_isSign 12 = .ok (.iload_n 0, 1) := by decide +kernel
theorem dX12_isSign_13 : decode cX12_isSign 13 = .ok (.bipush 60, 2) := by decide +kernel
theorem dX12_isSign_15 : decode cX12_isSign 15 = .ok (.if_icmp .eq 45, 3) := by decide +kernel
theorem dX12_isSign_18 : decode cX12_isSign 18 = .ok (.iload_n 0, 1) := by decide +kernel
theorem dX12_isSign_19 : decode cX12_isSign 19 = .ok (.bipush 62, 2) := by decide +kernel
theorem dX12_isSign_21 : decode cX12_isSign 21 = .ok (.if_icmp .eq 39, 3) := by decide +kernel
theorem dX12_isSign_24 : decode cX12_isSign 24 = .ok (.iload_n 0, 1) := by decide +kernel
theorem dX12_isSign_25 : decode cX12_isSign 25 = .ok (.bipush 43, 2) := by decide +kernel
theorem dX12_isSign_27 : decode cX12_isSign 27 = .ok (.if_icmp .eq 33, 3) := by decide +kernel
theorem dX12_isSign_30 : decode cX12_isSign 30 = .ok (.iload_n 0, 1) := by decide +kernel
theorem dX12_isSign_31 : decode cX12_isSign 31 = .ok (.bipush 45, 2) := by decide +kernel
theorem dX12_isSign_33 : decode cX12_isSign 33 = .ok (.if_icmp .eq 27, 3) := by decide +kernel
theorem dX12_isSign_36 : decode cX12_isSign 36 = .ok (.iload_n 0, 1) := by decide +kernel
theorem dX12_isSign_37 : decode cX12_isSign 37 = .ok (.bipush 42, 2) := by decide +kernel
theorem dX12_isSign_39 : decode cX12_isSign 39 = .ok (.if_icmp .eq 21, 3) := by decide +kernel
theorem dX12_isSign_42 : decode cX12_isSign 42 = .ok (.iload_n 0, 1) := by decide +kernel
theorem dX12_isSign_43 : decode cX12_isSign 43 = .ok (.bipush 47, 2) := by decide +kernel
theorem dX12_isSign_45 : decode cX12_isSign 45 = .ok (.if_icmp .eq 15, 3) := by decide +kernel
theorem dX12_isSign_48 : decode cX12_isSign 48 = .ok (.iload_n 0, 1) := by decide +kernel
theorem dX12_isSign_49 : decode cX12_isSign 49 = .ok (.bipush 40, 2) := by decide +kernel
theorem dX12_isSign_51 : decode cX12_isSign 51 = .ok (.if_icmp .eq 9, 3) := by decide +kernel
theorem dX12_isSign_54 : decode cX12_isSign 54 = .ok (.iload_n 0, 1) := by decide +kernel
theorem dX12_isSign_55 : decode cX12_isSign 55 = .ok (.bipush 41, 2) := by decide +kernel
theorem dX12_isSign_57 : decode cX12_isSign 57 = .ok (.if_icmp .ne 7, 3) := by decide +kernel
theorem dX12_isSign_60 : decode cX12_isSign 60 = .ok (.iconst 1, 1) := by decide +kernel
theorem dX12_isSign_61 : decode cX12_isSign 61 = .ok (.goto 4, 3) := by decide +kernel
theorem dX12_isSign_64 : decode cX12_isSign 64 = .ok (.iconst 0, 1) := by decide +kernel
theorem dX12_isSign_65 : decode cX12_isSign 65 = .ok (.ireturn, 1) := by decide +kernel
theorem dX12_next_0 : decode cX12_next 0 = .ok (.aload_n 0, 1) := by decide +kernel
theorem dX12_next_1 : decode cX12_next 1 = .ok (.iconst 0, 1) := by decide +kernel
theorem dX12_next_2 : decode cX12_next 2 = .ok (.invokevirtual 225, 3) := by decide +kernel
theorem dX12_next_5 : decode cX12_next 5 = .ok (.bipush 32, 2) := by decide +kernel
theorem dX12_next_7 : decode cX12_next 7 = .ok (.if_icmp .eq 13, 3) := by decide +kernel
theorem dX12_next_10 : decode cX12_next 10 = .ok (.aload_n 0, 1) := by decide +kernel
theorem dX12_next_11 : decode cX12_next 11 = .ok (.iconst 0, 1) := by decide +kernel
theorem dX12_next_12 : decode cX12_next 12 = .ok (.invokevirtual 225, 3) := by decide +kernel
theorem dX12_next_15 : decode cX12_next 15 = .ok (.bipush 10, 2) := by decide +kernel
theorem dX12_next_17 : decode cX12_next 17 = .ok (.if_icmp .ne 16, 3) := by decide +kernel
theorem dX12_next_20 : decode cX12_next 20 = .ok (.aload_n 0, 1) := by decide +kernel
theorem dX12_next_21 : decode cX12_next 21 = .ok (.dup, 1) := by decide +kernel
theorem dX12_next_22 : decode cX12_next 22 = .ok (.getfield 219, 3) := by decide +kernel
theorem dX12_next_25 : decode cX12_next 25 = .ok (.iconst 1, 1) := by decide +kernel
theorem dX12_next_26 : decode cX12_next 26 = .ok (.iadd, 1) := by decide +kernel
theorem dX12_next_27 : decode cX12_next 27 = .ok (.putfield 219, 3) := by decide +kernel
theorem dX12_next_30 : decode cX12_next 30 = .ok (.goto (-30), 3) := by decide +kernel
theorem dX12_next_33 : decode cX12_next 33 = .ok (.aload_n 0, 1) := by decide +kernel
theorem dX12_next_34 : decode cX12_next 34 = .ok (.aload_n 0, 1) := by decide +kernel
theorem dX12_next_35 : decode cX12_next 35 = .ok (.getfield 219, 3) := by decide +kernel
theorem dX12_next_38 : decode cX12_next 38 = .ok (.putfield 228, 3) := by decide +kernel
theorem dX12_next_41 : decode cX12_next 41 = .ok (.aload_n 0, 1) := by decide +kernel
theorem dX12_next_42 : decode cX12_next 42 = .ok (.iconst 0, 1) := by decide +kernel
theorem dX12_next_43 : decode cX12_next 43 = .ok (.invokevirtual 225, 3) := by decide +kernel
theorem dX12_next_46 : decode cX12_next 46 = .ok (.istore_n 1, 1) := by decide +kernel
theorem dX12_next_47 : decode cX12_next 47 = .ok (.iconst 0, 1) := by decide +kernel
theorem dX12_next_48 : decode cX12_next 48 = .ok (.istore_n 2, 1) := by decide +kernel
theorem dX12_next_49 : decode cX12_next 49 = .ok (.aload_n 0, 1) := by decide +kernel
theorem dX12_next_50 : decode cX12_next 50 = .ok (.lconst 0, 1) := by decide +kernel
theorem dX12_next_51 : decode cX12_next 51 = .ok (.putfield 231, 3) := by decide +kernel
theorem dX12_next_54 : decode cX12_next 54 = .ok (.aload_n 0, 1) := by decide +kernel
theorem dX12_next_55 : decode cX12_next 55 = .ok (.iconst 0, 1) := by decide +kernel
theorem dX12_next_56 : decode cX12_next 56 = .ok (.putfield 235, 3) := by decide +kernel
theorem dX12_next_59 : decode cX12_next 59 = .ok (.iload_n 1, 1) := by decide +kernel
theorem dX12_next_60 : decode cX12_next 60 = .ok (.ifCond .ge 11, 3) := by decide +kernel
theorem dX12_next_63 : decode cX12_next 63 = .ok (.aload_n 0, 1) := by decide +kernel
theorem dX12_next_64 : decode cX12_next 64 = .ok (.iconst 0, 1) := by decide +kernel
theorem dX12_next_65 : decode cX12_next 65 = .ok (.putfield 238, 3) := by decide +kernel
theorem dX12_next_68 : decode cX12_next 68 = .ok (.goto 166, 3) := by decide +kernel
theorem dX12_next_71 : decode cX12_next 71 = .ok (.iload_n 1, 1) := by decide +kernel
theorem dX12_next_72 : decode cX12_next 72 = .ok (.invokestatic 241, 3) := by decide +kernel
theorem dX12_next_75 : decode cX12_next 75 = .ok (.ifCond .eq 62, 3) := by decide +kernel
theorem dX12_next_78 : decode cX12_next 78 = .ok (.aload_n 0, 1) := by decide +kernel
theorem dX12_next_79 : decode cX12_next 79 = .ok (.iload_n 2, 1) := by decide +kernel
theorem dX12_next_80 : decode cX12_next 80 = .ok (.invokevirtual 225, 3) := by decide +kernel
theorem dX12_next_83 : decode cX12_next 83 = .ok (.invokestatic 241, 3) := by decide +kernel
theorem dX12_next_86 : decode cX12_next 86 = .ok (.ifCond .eq 33, 3) := by decide +kernel
theorem dX12_next_89 : decode cX12_next 89 = .ok (.iload_n 2, 1) := by decide +kernel
theorem dX12_next_90 : decode cX12_next 90 = .ok (.bipush 8, 2) := by decide +kernel
theorem dX12_next_92 : decode cX12_next 92 = .ok (.if_icmp .ge 21, 3) := by decide +kernel
theorem dX12_next_95 : decode cX12_next 95 = .ok (.aload_n 0, 1) := by decide +kernel
theorem dX12_next_96 : decode cX12_next 96 = .ok (.aload_n 0, 1) := by decide +kernel
theorem dX12_next_97 : decode cX12_next 97 = .ok (.getfield 231, 3) := by decide +kernel
theorem dX12_next_100 : decode cX12_next 100 = .ok (.bipush 8, 2) := by decide +kernel
theorem dX12_next_102 : decode cX12_next 102 = .ok (.lshl, 1) := by decide +kernel
theorem dX12_next_103 : decode cX12_next 103 = .ok (.aload_n 0, 1) := by decide +kernel
theorem dX12_next_104 : decode cX12_next 104 = .ok (.iload_n 2, 1) := by decide +kernel
theorem dX12_next_105 : decode cX12_next 105 = .ok (.invokevirtual 225, 3) := by decide +kernel
theorem dX12_next_108 : decode cX12_next 108 = .ok (.i2l, 1) := by decide +kernel
theorem dX12_next_109 : decode cX12_next 109 = .ok (.lor, 1) := by decide +kernel
theorem dX12_next_110 : decode cX12_next 110 = .ok (.putfield 231, 3) := by decide +kernel
theorem dX12_next_113 : decode cX12_next 113 = .ok (.iinc 2 1, 3) := by decide +kernel
theorem dX12_next_116 : decode cX12_next 116 = .ok (.goto (-38), 3) := by decide +kernel
theorem dX12_next_119 : decode cX12_next 119 = .ok (.aload_n 0, 1) := by decide +kernel
theorem dX12_next_120 : decode cX12_next 120 = .ok (.iload_n 2, 1) := by decide +kernel
theorem dX12_next_121 : decode cX12_next 121 = .ok (.bipush 8, 2) := by decide +kernel
theorem dX12_next_123 : decode cX12_next 123 = .ok (.if_icmp .le 7, 3) := by decide +kernel
theorem dX12_next_126 : decode cX12_next 126 = .ok (.iconst 3, 1) := by decide +kernel
theorem dX12_next_127 : decode cX12_next 127 = .ok (.goto 4, 3) := by decide +kernel
theorem dX12_next_130 : decode cX12_next 130 = .ok (.iconst 1, 1) := by decide +kernel
theorem dX12_next_131 : decode cX12_next 131 = .ok (.putfield 238, 3) := by decide +kernel
theorem dX12_next_134 : decode cX12_next 134 = .ok (.goto 100, 3) := by decide +kernel
theorem dX12_next_137 : decode cX12_next 137 = .ok (.iload_n 1, 1) := by decide +kernel
theorem dX12_next_138 : decode cX12_next 138 = .ok (.invokestatic 244, 3) := by decide +kernel
theorem dX12_next_141 : decode cX12_next 141 = .ok (.ifCond .eq 75, 3) := by decide +kernel
theorem dX12_next_144 : decode cX12_next 144 = .ok (.aload_n 0, 1) := by decide +kernel
theorem dX12_next_145 : decode cX12_next 145 = .ok (.iload_n 2, 1) := by decide +kernel
theorem dX12_next_146 : decode cX12_next 146 = .ok (.invokevirtual 225, 3) := by decide +kernel
theorem dX12_next_149 : decode cX12_next 149 = .ok (.invokestatic 244, 3) := by decide +kernel
theorem dX12_next_152 : decode cX12_next 152 = .ok (.ifCond .eq 35, 3) := by decide +kernel
theorem dX12_next_155 : decode cX12_next 155 = .ok (.iload_n 2, 1) := by decide +kernel
theorem dX12_next_156 : decode cX12_next 156 = .ok (.bipush 6, 2) := by decide +kernel
theorem dX12_next_158 : decode cX12_next 158 = .ok (.if_icmp .ge 23, 3) := by decide +kernel
theorem dX12_next_161 : decode cX12_next 161 = .ok (.aload_n 0, 1) := by decide +kernel
theorem dX12_next_162 : decode cX12_next 162 = .ok (.bipush 10, 2) := by decide +kernel
theorem dX12_next_164 : decode cX12_next 164 = .ok (.aload_n 0, 1) := by decide +kernel
theorem dX12_next_165 : decode cX12_next 165 = .ok (.getfield 235, 3) := by decide +kernel
theorem dX12_next_168 : decode cX12_next 168 = .ok (.imul, 1) := by decide +kernel
theorem dX12_next_169 : decode cX12_next 169 = .ok (.aload_n 0, 1) := by decide +kernel
theorem dX12_next_170 : decode cX12_next 170 = .ok (.iload_n 2, 1) := by decide +kernel
theorem dX12_next_171 : decode cX12_next 171 = .ok (.invokevirtual 225, 3) := by decide +kernel
theorem dX12_next_174 : decode cX12_next 174 = .ok (.iadd, 1) := by decide +kernel
theorem dX12_next_175 : decode cX12_next 175 = .ok (.bipush 48, 2) := by decide +kernel
theorem dX12_next_177 : decode cX12_next 177 = .ok (.isub, 1) := by decide +kernel
theorem dX12_next_178 : decode cX12_next 178 = .ok (.putfield 235, 3) := by decide +kernel
theorem dX12_next_181 : decode cX12_next 181 = .ok (.iinc 2 1, 3) := by decide +kernel
theorem dX12_next_184 : decode cX12_next 184 = .ok (.goto (-40), 3) := by decide +kernel
theorem dX12_next_187 : decode cX12_next 187 = .ok (.aload_n 0, 1) := by decide +kernel
theorem dX12_next_188 : decode cX12_next 188 = .ok (.iload_n 2, 1) := by decide +kernel
theorem dX12_next_189 : decode cX12_next 189 = .ok (.bipush 6, 2) := by decide +kernel
theorem dX12_next_191 : decode cX12_next 191 = .ok (.if_icmp .gt 14, 3) := by decide +kernel
theorem dX12_next_194 : decode cX12_next 194 = .ok (.aload_n 0, 1) := by decide +kernel
theorem dX12_next_195 : decode cX12_next 195 = .ok (.iload_n 2, 1) := by decide +kernel
theorem dX12_next_196 : decode cX12_next 196 = .ok (.invokevirtual 225, 3) := by decide +kernel
theorem dX12_next_199 : decode cX12_next 199 = .ok (.invokestatic 241, 3) := by decide +kernel
theorem dX12_next_202 : decode cX12_next 202 = .ok (.ifCond .eq 7, 3) := by decide +kernel
theorem dX12_next_205 : decode cX12_next 205 = .ok (.iconst 3, 1) := by decide +kernel
theorem dX12_next_206 : decode cX12_next 206 = .ok (.goto 4, 3) := by decide +kernel
theorem dX12_next_209 : decode cX12_next 209 = .ok (.iconst 2, 1) := by decide +kernel
theorem dX12_next_210 : decode cX12_next 210 = .ok (.putfield 238, 3) := by decide +kernel
theorem dX12_next_213 : decode cX12_next 213 = .ok (.goto 21, 3) := by decide +kernel
theorem dX12_next_216 : decode cX12_next 216 = .ok (.iconst 1, 1) := by decide +kernel
theorem dX12_next_217 : decode cX12_next 217 = .ok (.istore_n 2, 1) := by decide +kernel
theorem dX12_next_218 : decode cX12_next 218 = .ok (.aload_n 0, 1) := by decide +kernel
theorem dX12_next_219 : decode cX12_next 219 = .ok (.iload_n 1, 1) := by decide +kernel
theorem dX12_next_220 : decode cX12_next 220 = .ok (.invokestatic 247, 3) := by decide +kernel
theorem dX12_next_223 : decode cX12_next 223 = .ok (.ifCond .eq 7, 3) := by decide +kernel
theorem dX12_next_226 : decode cX12_next 226 = .ok (.iload_n 1, 1) := by decide +kernel
theorem dX12_next_227 : decode cX12_next 227 = .ok (.goto 4, 3) := by decide +kernel
theorem dX12_next_230 : decode cX12_next 230 = .ok (.iconst 3, 1) := by decide +kernel
theorem dX12_next_231 : decode cX12_next 231 = .ok (.putfield 238, 3) := by decide +kernel
theorem dX12_next_234 : decode cX12_next 234 = .ok (.aload_n 0, 1) := by decide +kernel
theorem dX12_next_235 : decode cX12_next 235 = .ok (.getfield 238, 3) := by decide +kernel
theorem dX12_next_238 : decode cX12_next 238 = .ok (.iconst 3, 1) := by decide +kernel
theorem dX12_next_239 : decode cX12_next 239 = .ok (.if_icmp .eq 13, 3) := by decide +kernel
theorem dX12_next_242 : decode cX12_next 242 = .ok (.aload_n 0, 1) := by decide +kernel
theorem dX12_next_243 : decode cX12_next 243 = .ok (.dup, 1) := by decide +kernel
theorem dX12_next_244 : decode cX12_next 244 = .ok (.getfield 219, 3) := by decide +kernel
theorem dX12_next_247 : decode cX12_next 247 = .ok (.iload_n 2, 1) := by decide +kernel
theorem dX12_next_248 : decode cX12_next 248 = .ok (.iadd, 1) := by decide +kernel
theorem dX12_next_249 : decode cX12_next 249 = .ok (.putfield 219, 3) := by decide +kernel
theorem dX12_next_252 : decode cX12_next 252 = .ok (.return_, 1) := by decide +kernel
theorem dX12_wrong_0 : decode cX12_wrong 0 = .ok (.aload_n 0, 1) := by decide +kernel
theorem dX12_wrong_1 : decode cX12_wrong 1 = .ok (.getfield 250, 3) := by decide +kernel
theorem dX12_wrong_4 : decode cX12_wrong 4 = .ok (.ifCond .le 4, 3) := by decide +kernel
theorem dX12_wrong_7 : decode cX12_wrong 7 = .ok (.return_, 1) := by decide +kernel
theorem dX12_wrong_8 : decode cX12_wrong 8 = .ok (.aload_n 0, 1) := by decide +kernel
theorem dX12_wrong_9 : decode cX12_wrong 9 = .ok (.aload_n 0, 1) := by decide +kernel
theorem dX12_wrong_10 : decode cX12_wrong 10 = .ok (.getfield 238, 3) := by decide +kernel
theorem dX12_wrong_13 : decode cX12_wrong 13 = .ok (.iconst 3, 1) := by decide +kernel
theorem dX12_wrong_14 : decode cX12_wrong 14 = .ok (.if_icmp .ne 7, 3) := by decide +kernel
theorem dX12_wrong_17 : decode cX12_wrong 17 = .ok (.iconst 1, 1) := by decide +kernel
theorem dX12_wrong_18 : decode cX12_wrong 18 = .ok (.goto 4, 3) := by decide +kernel
theorem dX12_wrong_21 : decode cX12_wrong 21 = .ok (.iload_n 1, 1) := by decide +kernel
theorem dX12_wrong_22 : decode cX12_wrong 22 = .ok (.putfield 250, 3) := by decide +kernel
theorem dX12_wrong_25 : decode cX12_wrong 25 = .ok (.aload_n 0, 1) := by decide +kernel
theorem dX12_wrong_26 : decode cX12_wrong 26 = .ok (.aload_n 0, 1) := by decide +kernel
theorem dX12_wrong_27 : decode cX12_wrong 27 = .ok (.getfield 228, 3) := by decide +kernel
theorem dX12_wrong_30 : decode cX12_wrong 30 = .ok (.putfield 105, 3) := by decide +kernel
theorem dX12_wrong_33 : decode cX12_wrong 33 = .ok (.return_, 1) := by decide +kernel
theorem dX12_isWord_0 : decode cX12_isWord 0 = .ok (.aload_n 0, 1) := by decide +kernel
theorem dX12_isWord_1 : decode cX12_isWord 1 = .ok (.getfield 238, 3) := by decide +kernel
theorem dX12_isWord_4 : decode cX12_isWord 4 = .ok (.iconst 1, 1) := by decide +kernel
theorem dX12_isWord_5 : decode cX12_isWord 5 = .ok (.if_icmp .ne 16, 3) := by decide +kernel
theorem dX12_isWord_8 : decode cX12_isWord 8 = .ok (.aload_n 0, 1) := by decide +kernel
theorem dX12_isWord_9 : decode cX12_isWord 9 = .ok (.getfield 231, 3) := by decide +kernel
theorem dX12_isWord_12 : decode cX12_isWord 12 = .ok (.lload_n 1, 1) := by decide +kernel
theorem dX12_isWord_13 : decode cX12_isWord 13 = .ok (.lcmp, 1) := by decide +kernel
theorem dX12_isWord_14 : decode cX12_isWord 14 = .ok (.ifCond .ne 7, 3) := by decide +kernel
theorem dX12_isWord_17 : decode cX12_isWord 17 = .ok (.iconst 1, 1) := by decide +kernel
theorem dX12_isWord_18 : decode cX12_isWord 18 = .ok (.goto 4, 3) := by decide +kernel
theorem dX12_isWord_21 : decode cX12_isWord 21 = .ok (.iconst 0, 1) := by decide +kernel
theorem dX12_isWord_22 : decode cX12_isWord 22 = .ok (.ireturn, 1) := by decide +kernel
theorem dX12_named_0 : decode cX12_named 0 = .ok (.aload_n 0, 1) := by decide +kernel
theorem dX12_named_1 : decode cX12_named 1 = .ok (.getfield 231, 3) := by decide +kernel
theorem dX12_named_4 : decode cX12_named 4 = .ok (.ldc2_w 253, 3) := by decide +kernel
theorem dX12_named_7 : decode cX12_named 7 = .ok (.lcmp, 1) := by decide +kernel
theorem dX12_named_8 : decode cX12_named 8 = .ok (.ifCond .ne 5, 3) := by decide +kernel
theorem dX12_named_11 : decode cX12_named 11 = .ok (.iconst 0, 1) := by decide +kernel
theorem dX12_named_12 : decode cX12_named 12 = .ok (.ireturn, 1) := by decide +kernel
theorem dX12_named_13 : decode cX12_named 13 = .ok (.aload_n 0, 1) := by decide +kernel
theorem dX12_named_14 : decode cX12_named 14 = .ok (.getfield 231, 3) := by decide +kernel
theorem dX12_named_17 : decode cX12_named 17 = .ok (.ldc2_w 255, 3) := by decide +kernel
theorem dX12_named_20 : decode cX12_named 20 = .ok (.lcmp, 1) := by decide +kernel
theorem dX12_named_21 : decode cX12_named 21 = .ok (.ifCond .ne 5, 3) := by decide +kernel
theorem dX12_named_24 : decode cX12_named 24 = .ok (.iconst 1, 1) := by decide +kernel
theorem dX12_named_25 : decode cX12_named 25 = .ok (.ireturn, 1) := by decide +kernel
theorem dX12_named_26 : decode cX12_named 26 = .ok (.aload_n 0, 1) := by decide +kernel
theorem dX12_named_27 : decode cX12_named 27 = .ok (.getfield 231, 3) := by decide +kernel
theorem dX12_named_30 : decode cX12_named 30 = .ok (.ldc2_w 257, 3) := by decide +kernel
theorem dX12_named_33 : decode cX12_named 33 = .ok (.lcmp, 1) := by decide +kernel
theorem dX12_named_34 : decode cX12_named 34 = .ok (.ifCond .ne 5, 3) := by decide +kernel
theorem dX12_named_37 : decode cX12_named 37 = .ok (.iconst 2, 1) := by decide +kernel
theorem dX12_named_38 : decode cX12_named 38 = .ok (.ireturn, 1) := by decide +kernel
theorem dX12_named_39 : decode cX12_named 39 = .ok (.aload_n 0, 1) := by decide +kernel
theorem dX12_named_40 : decode cX12_named 40 = .ok (.getfield 231, 3) := by decide +kernel
theorem dX12_named_43 : decode cX12_named 43 = .ok (.ldc2_w 259, 3) := by decide +kernel
theorem dX12_named_46 : decode cX12_named 46 = .ok (.lcmp, 1) := by decide +kernel
theorem dX12_named_47 : decode cX12_named 47 = .ok (.ifCond .ne 5, 3) := by decide +kernel
theorem dX12_named_50 : decode cX12_named 50 = .ok (.iconst 3, 1) := by decide +kernel
theorem dX12_named_51 : decode cX12_named 51 = .ok (.ireturn, 1) := by decide +kernel
theorem dX12_named_52 : decode cX12_named 52 = .ok (.aload_n 0, 1) := by decide +kernel
theorem dX12_named_53 : decode cX12_named 53 = .ok (.getfield 231, 3) := by decide +kernel
theorem dX12_named_56 : decode cX12_named 56 = .ok (.ldc2_w 261, 3) := by decide +kernel
theorem dX12_named_59 : decode cX12_named 59 = .ok (.lcmp, 1) := by decide +kernel
theorem dX12_named_60 : decode cX12_named 60 = .ok (.ifCond .ne 5, 3) := by decide +kernel
theorem dX12_named_63 : decode cX12_named 63 = .ok (.iconst 4, 1) := by decide +kernel
theorem dX12_named_64 : decode cX12_named 64 = .ok (.ireturn, 1) := by decide +kernel
theorem dX12_named_65 : decode cX12_named 65 = .ok (.aload_n 0, 1) := by decide +kernel
theorem dX12_named_66 : decode cX12_named 66 = .ok (.getfield 231, 3) := by decide +kernel
theorem dX12_named_69 : decode cX12_named 69 = .ok (.ldc2_w 263, 3) := by decide +kernel
theorem dX12_named_72 : decode cX12_named 72 = .ok (.lcmp, 1) := by decide +kernel
theorem dX12_named_73 : decode cX12_named 73 = .ok (.ifCond .ne 7, 3) := by decide +kernel
theorem dX12_named_76 : decode cX12_named 76 = .ok (.iconst 5, 1) := by decide +kernel
theorem dX12_named_77 : decode cX12_named 77 = .ok (.goto 4, 3) := by decide +kernel
theorem dX12_named_80 : decode cX12_named 80 = .ok (.iconst (-1), 1) := by decide +kernel
theorem dX12_named_81 : decode cX12_named 81 = .ok (.ireturn, 1) := by decide +kernel
theorem dX12_step_0 : decode cX12_step 0 = .ok (.aload_n 0, 1) := by decide +kernel
theorem dX12_step_1 : decode cX12_step 1 = .ok (.getfield 93, 3) := by decide +kernel
theorem dX12_step_4 : decode cX12_step 4 = .ok (.aload_n 0, 1) := by decide +kernel
theorem dX12_step_5 : decode cX12_step 5 = .ok (.getfield 265, 3) := by decide +kernel
theorem dX12_step_8 : decode cX12_step 8 = .ok (.iload_n 1, 1) := by decide +kernel
theorem dX12_step_9 : decode cX12_step 9 = .ok (.iastore, 1) := by decide +kernel
theorem dX12_step_10 : decode cX12_step 10 = .ok (.aload_n 0, 1) := by decide +kernel
theorem dX12_step_11 : decode cX12_step 11 = .ok (.getfield 96, 3) := by decide +kernel
theorem dX12_step_14 : decode cX12_step 14 = .ok (.aload_n 0, 1) := by decide +kernel
theorem dX12_step_15 : decode cX12_step 15 = .ok (.getfield 265, 3) := by decide +kernel
theorem dX12_step_18 : decode cX12_step 18 = .ok (.iload_n 2, 1) := by decide +kernel
theorem dX12_step_19 : decode cX12_step 19 = .ok (.iastore, 1) := by decide +kernel
theorem dX12_step_20 : decode cX12_step 20 = .ok (.aload_n 0, 1) := by decide +kernel
theorem dX12_step_21 : decode cX12_step 21 = .ok (.dup, 1) := by decide +kernel
theorem dX12_step_22 : decode cX12_step 22 = .ok (.getfield 265, 3) := by decide +kernel
theorem dX12_step_25 : decode cX12_step 25 = .ok (.iconst 1, 1) := by decide +kernel
theorem dX12_step_26 : decode cX12_step 26 = .ok (.iadd, 1) := by decide +kernel
theorem dX12_step_27 : decode cX12_step 27 = .ok (.putfield 265, 3) := by decide +kernel
theorem dX12_step_30 : decode cX12_step 30 = .ok (.return_, 1) := by decide +kernel
theorem dX12_hold_0 : decode cX12_hold 0 = .ok (.aload_n 0, 1) := by decide +kernel
theorem dX12_hold_1 : decode cX12_hold 1 = .ok (.getfield 108, 3) := by decide +kernel
theorem dX12_hold_4 : decode cX12_hold 4 = .ok (.aload_n 0, 1) := by decide +kernel
theorem dX12_hold_5 : decode cX12_hold 5 = .ok (.getfield 268, 3) := by decide +kernel
theorem dX12_hold_8 : decode cX12_hold 8 = .ok (.iload_n 1, 1) := by decide +kernel
theorem dX12_hold_9 : decode cX12_hold 9 = .ok (.iastore, 1) := by decide +kernel
theorem dX12_hold_10 : decode cX12_hold 10 = .ok (.aload_n 0, 1) := by decide +kernel
theorem dX12_hold_11 : decode cX12_hold 11 = .ok (.dup, 1) := by decide +kernel
theorem dX12_hold_12 : decode cX12_hold 12 = .ok (.getfield 268, 3) := by decide +kernel
theorem dX12_hold_15 : decode cX12_hold 15 = .ok (.iconst 1, 1) := by decide +kernel
theorem dX12_hold_16 : decode cX12_hold 16 = .ok (.iadd, 1) := by decide +kernel
theorem dX12_hold_17 : decode cX12_hold 17 = .ok (.putfield 268, 3) := by decide +kernel
theorem dX12_hold_20 : decode cX12_hold 20 = .ok (.iload_n 1, 1) := by decide +kernel
theorem dX12_hold_21 : decode cX12_hold 21 = .ok (.bipush 51, 2) := by decide +kernel
theorem dX12_hold_23 : decode cX12_hold 23 = .ok (.if_icmp .eq 15, 3) := by decide +kernel
theorem dX12_hold_26 : decode cX12_hold 26 = .ok (.iload_n 1, 1) := by decide +kernel
theorem dX12_hold_27 : decode cX12_hold 27 = .ok (.bipush 40, 2) := by decide +kernel
theorem dX12_hold_29 : decode cX12_hold 29 = .ok (.if_icmp .eq 9, 3) := by decide +kernel
theorem dX12_hold_32 : decode cX12_hold 32 = .ok (.iload_n 1, 1) := by decide +kernel
theorem dX12_hold_33 : decode cX12_hold 33 = .ok (.bipush 50, 2) := by decide +kernel
theorem dX12_hold_35 : decode cX12_hold 35 = .ok (.if_icmp .ne 13, 3) := by decide +kernel
theorem dX12_hold_38 : decode cX12_hold 38 = .ok (.aload_n 0, 1) := by decide +kernel
theorem dX12_hold_39 : decode cX12_hold 39 = .ok (.dup, 1) := by decide +kernel
theorem dX12_hold_40 : decode cX12_hold 40 = .ok (.getfield 271, 3) := by decide +kernel
theorem dX12_hold_43 : decode cX12_hold 43 = .ok (.iconst 1, 1) := by decide +kernel
theorem dX12_hold_44 : decode cX12_hold 44 = .ok (.iadd, 1) := by decide +kernel
theorem dX12_hold_45 : decode cX12_hold 45 = .ok (.putfield 271, 3) := by decide +kernel
theorem dX12_hold_48 : decode cX12_hold 48 = .ok (.return_, 1) := by decide +kernel
theorem dX12_pop_0 : decode cX12_pop 0 = .ok (.aload_n 0, 1) := by decide +kernel
theorem dX12_pop_1 : decode cX12_pop 1 = .ok (.dup, 1) := by decide +kernel
theorem dX12_pop_2 : decode cX12_pop 2 = .ok (.getfield 268, 3) := by decide +kernel
theorem dX12_pop_5 : decode cX12_pop 5 = .ok (.iconst 1, 1) := by decide +kernel
theorem dX12_pop_6 : decode cX12_pop 6 = .ok (.isub, 1) := by decide +kernel
theorem dX12_pop_7 : decode cX12_pop 7 = .ok (.putfield 268, 3) := by decide +kernel
theorem dX12_pop_10 : decode cX12_pop 10 = .ok (.aload_n 0, 1) := by decide +kernel
theorem dX12_pop_11 : decode cX12_pop 11 = .ok (.getfield 108, 3) := by decide +kernel
theorem dX12_pop_14 : decode cX12_pop 14 = .ok (.aload_n 0, 1) := by decide +kernel
theorem dX12_pop_15 : decode cX12_pop 15 = .ok (.getfield 268, 3) := by decide +kernel
theorem dX12_pop_18 : decode cX12_pop 18 = .ok (.iaload, 1) := by decide +kernel
theorem dX12_pop_19 : decode cX12_pop 19 = .ok (.bipush 40, 2) := by decide +kernel
theorem dX12_pop_21 : decode cX12_pop 21 = .ok (.if_icmp .eq 17, 3) := by decide +kernel
theorem dX12_pop_24 : decode cX12_pop 24 = .ok (.aload_n 0, 1) := by decide +kernel
theorem dX12_pop_25 : decode cX12_pop 25 = .ok (.getfield 108, 3) := by decide +kernel
theorem dX12_pop_28 : decode cX12_pop 28 = .ok (.aload_n 0, 1) := by decide +kernel
theorem dX12_pop_29 : decode cX12_pop 29 = .ok (.getfield 268, 3) := by decide +kernel
theorem dX12_pop_32 : decode cX12_pop 32 = .ok (.iaload, 1) := by decide +kernel
theorem dX12_pop_33 : decode cX12_pop 33 = .ok (.bipush 50, 2) := by decide +kernel
theorem dX12_pop_35 : decode cX12_pop 35 = .ok (.if_icmp .ne 13, 3) := by decide +kernel
theorem dX12_pop_38 : decode cX12_pop 38 = .ok (.aload_n 0, 1) := by decide +kernel
theorem dX12_pop_39 : decode cX12_pop 39 = .ok (.dup, 1) := by decide +kernel
theorem dX12_pop_40 : decode cX12_pop 40 = .ok (.getfield 271, 3) := by decide +kernel
theorem dX12_pop_43 : decode cX12_pop 43 = .ok (.iconst 1, 1) := by decide +kernel
theorem dX12_pop_44 : decode cX12_pop 44 = .ok (.isub, 1) := by decide +kernel
theorem dX12_pop_45 : decode cX12_pop 45 = .ok (.putfield 271, 3) := by decide +kernel
theorem dX12_pop_48 : decode cX12_pop 48 = .ok (.aload_n 0, 1) := by decide +kernel
theorem dX12_pop_49 : decode cX12_pop 49 = .ok (.aload_n 0, 1) := by decide +kernel
theorem dX12_pop_50 : decode cX12_pop 50 = .ok (.getfield 108, 3) := by decide +kernel
theorem dX12_pop_53 : decode cX12_pop 53 = .ok (.aload_n 0, 1) := by decide +kernel
theorem dX12_pop_54 : decode cX12_pop 54 = .ok (.getfield 268, 3) := by decide +kernel
theorem dX12_pop_57 : decode cX12_pop 57 = .ok (.iaload, 1) := by decide +kernel
theorem dX12_pop_58 : decode cX12_pop 58 = .ok (.iconst 0, 1) := by decide +kernel
theorem dX12_pop_59 : decode cX12_pop 59 = .ok (.invokevirtual 274, 3) := by decide +kernel
theorem dX12_pop_62 : decode cX12_pop 62 = .ok (.return_, 1) := by decide +kernel
theorem dX12_settle_0 : decode cX12_settle 0 = .ok (.aload_n 0, 1) := by decide +kernel
theorem dX12_settle_1 : decode cX12_settle 1 = .ok (.getfield 268, 3) := by decide +kernel
theorem dX12_settle_4 : decode cX12_settle 4 = .ok (.ifCond .le 41, 3) := by decide +kernel
theorem dX12_settle_7 : decode cX12_settle 7 = .ok (.aload_n 0, 1) := by decide +kernel
theorem dX12_settle_8 : decode cX12_settle 8 = .ok (.getfield 108, 3) := by decide +kernel
theorem dX12_settle_11 : decode cX12_settle 11 = .ok (.aload_n 0, 1) := by decide +kernel
theorem dX12_settle_12 : decode cX12_settle 12 = .ok (.getfield 268, 3) := by decide +kernel
theorem dX12_settle_15 : decode cX12_settle 15 = .ok (.iconst 1, 1) := by decide +kernel
theorem dX12_settle_16 : decode cX12_settle 16 = .ok (.isub, 1) := by decide +kernel
theorem dX12_settle_17 : decode cX12_settle 17 = .ok (.iaload, 1) := by decide +kernel
theorem dX12_settle_18 : decode cX12_settle 18 = .ok (.bipush 51, 2) := by decide +kernel
theorem dX12_settle_20 : decode cX12_settle 20 = .ok (.if_icmp .eq 25, 3) := by decide +kernel
theorem dX12_settle_23 : decode cX12_settle 23 = .ok (.aload_n 0, 1) := by decide +kernel
theorem dX12_settle_24 : decode cX12_settle 24 = .ok (.getfield 108, 3) := by decide +kernel
theorem dX12_settle_27 : decode cX12_settle 27 = .ok (.aload_n 0, 1) := by decide +kernel
theorem dX12_settle_28 : decode cX12_settle 28 = .ok (.getfield 268, 3) := by decide +kernel
theorem dX12_settle_31 : decode cX12_settle 31 = .ok (.iconst 1, 1) := by decide +kernel
theorem dX12_settle_32 : decode cX12_settle 32 = .ok (.isub, 1) := by decide +kernel
theorem dX12_settle_33 : decode cX12_settle 33 = .ok (.iaload, 1) := by decide +kernel
theorem dX12_settle_34 : decode cX12_settle 34 = .ok (.iload_n 1, 1) := by decide +kernel
theorem dX12_settle_35 : decode cX12_settle 35 = .ok (.if_icmp .lt 10, 3) := by decide +kernel
theorem dX12_settle_38 : decode cX12_settle 38 = .ok (.aload_n 0, 1) := by decide +kernel
theorem dX12_settle_39 : decode cX12_settle 39 = .ok (.invokevirtual 277, 3) := by decide +kernel
theorem dX12_settle_42 : decode cX12_settle 42 = .ok (.goto (-42), 3) := by decide +kernel
theorem dX12_settle_45 : decode cX12_settle 45 = .ok (.return_, 1) := by decide +kernel
theorem dX12_isOpen_0 : decode cX12_isOpen 0 = .ok (.iconst 0, 1) := by decide +kernel
theorem dX12_isOpen_1 : decode cX12_isOpen 1 = .ok (.istore_n 1, 1) := by decide +kernel
theorem dX12_isOpen_2 : decode cX12_isOpen 2 = .ok (.iconst 0, 1) := by decide +kernel
theorem dX12_isOpen_3 : decode cX12_isOpen 3 = .ok (.istore_n 2, 1) := by decide +kernel
theorem dX12_isOpen_4 : decode cX12_isOpen 4 = .ok (.iload_n 2, 1) := by decide +kernel
theorem dX12_isOpen_5 : decode cX12_isOpen 5 = .ok (.aload_n 0, 1) := by decide +kernel
theorem dX12_isOpen_6 : decode cX12_isOpen 6 = .ok (.getfield 268, 3) := by decide +kernel
theorem dX12_isOpen_9 : decode cX12_isOpen 9 = .ok (.if_icmp .ge 30, 3) := by decide +kernel
theorem dX12_isOpen_12 : decode cX12_isOpen 12 = .ok (.iload_n 1, 1) := by decide +kernel
theorem dX12_isOpen_13 : decode cX12_isOpen 13 = .ok (.ifCond .ne 14, 3) := by decide +kernel
theorem dX12_isOpen_16 : decode cX12_isOpen 16 = .ok (.aload_n 0, 1) := by decide +kernel
theorem dX12_isOpen_17 : decode cX12_isOpen 17 = .ok (.getfield 108, 3) := by decide +kernel
theorem dX12_isOpen_20 : decode cX12_isOpen 20 = .ok (.iload_n 2, 1) := by decide +kernel
theorem dX12_isOpen_21 : decode cX12_isOpen 21 = .ok (.iaload, 1) := by decide +kernel
theorem dX12_isOpen_22 : decode cX12_isOpen 22 = .ok (.bipush 51, 2) := by decide +kernel
theorem dX12_isOpen_24 : decode cX12_isOpen 24 = .ok (.if_icmp .ne 7, 3) := by decide +kernel
theorem dX12_isOpen_27 : decode cX12_isOpen 27 = .ok (.iconst 1, 1) := by decide +kernel
theorem dX12_isOpen_28 : decode cX12_isOpen 28 = .ok (.goto 4, 3) := by decide +kernel
theorem dX12_isOpen_31 : decode cX12_isOpen 31 = .ok (.iconst 0, 1) := by decide +kernel
theorem dX12_isOpen_32 : decode cX12_isOpen 32 = .ok (.istore_n 1, 1) := by decide +kernel
theorem dX12_isOpen_33 : decode cX12_isOpen 33 = .ok (.iinc 2 1, 3) := by decide +kernel
theorem dX12_isOpen_36 : decode cX12_isOpen 36 = .ok (.goto (-32), 3) := by decide +kernel
theorem dX12_isOpen_39 : decode cX12_isOpen 39 = .ok (.iload_n 1, 1) := by decide +kernel
theorem dX12_isOpen_40 : decode cX12_isOpen 40 = .ok (.ireturn, 1) := by decide +kernel
theorem dX12_readE_0 : decode cX12_readE 0 = .ok (.aload_n 0, 1) := by decide +kernel
theorem dX12_readE_1 : decode cX12_readE 1 = .ok (.iconst 0, 1) := by decide +kernel
theorem dX12_readE_2 : decode cX12_readE 2 = .ok (.putfield 268, 3) := by decide +kernel
theorem dX12_readE_5 : decode cX12_readE 5 = .ok (.aload_n 0, 1) := by decide +kernel
theorem dX12_readE_6 : decode cX12_readE 6 = .ok (.iconst 0, 1) := by decide +kernel
theorem dX12_readE_7 : decode cX12_readE 7 = .ok (.putfield 271, 3) := by decide +kernel
theorem dX12_readE_10 : decode cX12_readE 10 = .ok (.iconst 0, 1) := by decide +kernel
theorem dX12_readE_11 : decode cX12_readE 11 = .ok (.istore_n 2, 1) := by decide +kernel
theorem dX12_readE_12 : decode cX12_readE 12 = .ok (.aload_n 0, 1) := by decide +kernel
theorem dX12_readE_13 : decode cX12_readE 13 = .ok (.getfield 250, 3) := by decide +kernel
theorem dX12_readE_16 : decode cX12_readE 16 = .ok (.ifCond .ne 63, 3) := by decide +kernel
theorem dX12_readE_19 : decode cX12_readE 19 = .ok (.iload_n 2, 1) := by decide +kernel
theorem dX12_readE_20 : decode cX12_readE 20 = .ok (.iconst 2, 1) := by decide +kernel
theorem dX12_readE_21 : decode cX12_readE 21 = .ok (.if_icmp .ne 36, 3) := by decide +kernel
theorem dX12_readE_24 : decode cX12_readE 24 = .ok (.aload_n 0, 1) := by decide +kernel
theorem dX12_readE_25 : decode cX12_readE 25 = .ok (.invokevirtual 280, 3) := by decide +kernel
theorem dX12_readE_28 : decode cX12_readE 28 = .ok (.ifCond .ne 29, 3) := by decide +kernel
theorem dX12_readE_31 : decode cX12_readE 31 = .ok (.iload_n 1, 1) := by decide +kernel
theorem dX12_readE_32 : decode cX12_readE 32 = .ok (.ifCond .eq 16, 3) := by decide +kernel
theorem dX12_readE_35 : decode cX12_readE 35 = .ok (.aload_n 0, 1) := by decide +kernel
theorem dX12_readE_36 : decode cX12_readE 36 = .ok (.ldc2_w 284, 3) := by decide +kernel
theorem dX12_readE_39 : decode cX12_readE 39 = .ok (.invokevirtual 286, 3) := by decide +kernel
theorem dX12_readE_42 : decode cX12_readE 42 = .ok (.ifCond .eq 15, 3) := by decide +kernel
theorem dX12_readE_45 : decode cX12_readE 45 = .ok (.goto 34, 3) := by decide +kernel
theorem dX12_readE_48 : decode cX12_readE 48 = .ok (.aload_n 0, 1) := by decide +kernel
theorem dX12_readE_49 : decode cX12_readE 49 = .ok (.getfield 238, 3) := by decide +kernel
theorem dX12_readE_52 : decode cX12_readE 52 = .ok (.bipush 59, 2) := by decide +kernel
theorem dX12_readE_54 : decode cX12_readE 54 = .ok (.if_icmp .eq 25, 3) := by decide +kernel
theorem dX12_readE_57 : decode cX12_readE 57 = .ok (.iload_n 2, 1) := by decide +kernel
theorem dX12_readE_58 : decode cX12_readE 58 = .ok (.iconst 2, 1) := by decide +kernel
theorem dX12_readE_59 : decode cX12_readE 59 = .ok (.if_icmp .ne 11, 3) := by decide +kernel
theorem dX12_readE_62 : decode cX12_readE 62 = .ok (.aload_n 0, 1) := by decide +kernel
theorem dX12_readE_63 : decode cX12_readE 63 = .ok (.invokevirtual 290, 3) := by decide +kernel
theorem dX12_readE_66 : decode cX12_readE 66 = .ok (.istore_n 2, 1) := by decide +kernel
theorem dX12_readE_67 : decode cX12_readE 67 = .ok (.goto (-55), 3) := by decide +kernel
theorem dX12_readE_70 : decode cX12_readE 70 = .ok (.aload_n 0, 1) := by decide +kernel
theorem dX12_readE_71 : decode cX12_readE 71 = .ok (.iload_n 2, 1) := by decide +kernel
theorem dX12_readE_72 : decode cX12_readE 72 = .ok (.invokevirtual 294, 3) := by decide +kernel
theorem dX12_readE_75 : decode cX12_readE 75 = .ok (.istore_n 2, 1) := by decide +kernel
theorem dX12_readE_76 : decode cX12_readE 76 = .ok (.goto (-64), 3) := by decide +kernel
theorem dX12_readE_79 : decode cX12_readE 79 = .ok (.aload_n 0, 1) := by decide +kernel
theorem dX12_readE_80 : decode cX12_readE 80 = .ok (.getfield 250, 3) := by decide +kernel
theorem dX12_readE_83 : decode cX12_readE 83 = .ok (.ifCond .ne 8, 3) := by decide +kernel
theorem dX12_readE_86 : decode cX12_readE 86 = .ok (.aload_n 0, 1) := by decide +kernel
theorem dX12_readE_87 : decode cX12_readE 87 = .ok (.iconst 0, 1) := by decide +kernel
theorem dX12_readE_88 : decode cX12_readE 88 = .ok (.invokevirtual 297, 3) := by decide +kernel
theorem dX12_readE_91 : decode cX12_readE 91 = .ok (.return_, 1) := by decide +kernel
theorem dX12_operand_0 : decode cX12_operand 0 = .ok (.aload_n 0, 1) := by decide +kernel
theorem dX12_operand_1 : decode cX12_operand 1 = .ok (.getfield 231, 3) := by decide +kernel
theorem dX12_operand_4 : decode cX12_operand 4 = .ok (.ldc2_w 300, 3) := by decide +kernel
theorem dX12_operand_7 : decode cX12_operand 7 = .ok (.lcmp, 1) := by decide +kernel
theorem dX12_operand_8 : decode cX12_operand 8 = .ok (.ifCond .eq 47, 3) := by decide +kernel
theorem dX12_operand_11 : decode cX12_operand 11 = .ok (.aload_n 0, 1) := by decide +kernel
theorem dX12_operand_12 : decode cX12_operand 12 = .ok (.getfield 231, 3) := by decide +kernel
theorem dX12_operand_15 : decode cX12_operand 15 = .ok (.ldc2_w 284, 3) := by decide +kernel
theorem dX12_operand_18 : decode cX12_operand 18 = .ok (.lcmp, 1) := by decide +kernel
theorem dX12_operand_19 : decode cX12_operand 19 = .ok (.ifCond .eq 36, 3) := by decide +kernel
theorem dX12_operand_22 : decode cX12_operand 22 = .ok (.aload_n 0, 1) := by decide +kernel
theorem dX12_operand_23 : decode cX12_operand 23 = .ok (.getfield 231, 3) := by decide +kernel
theorem dX12_operand_26 : decode cX12_operand 26 = .ok (.ldc2_w 302, 3) := by decide +kernel
theorem dX12_operand_29 : decode cX12_operand 29 = .ok (.lcmp, 1) := by decide +kernel
theorem dX12_operand_30 : decode cX12_operand 30 = .ok (.ifCond .eq 25, 3) := by decide +kernel
theorem dX12_operand_33 : decode cX12_operand 33 = .ok (.aload_n 0, 1) := by decide +kernel
theorem dX12_operand_34 : decode cX12_operand 34 = .ok (.getfield 231, 3) := by decide +kernel
theorem dX12_operand_37 : decode cX12_operand 37 = .ok (.ldc2_w 304, 3) := by decide +kernel
theorem dX12_operand_40 : decode cX12_operand 40 = .ok (.lcmp, 1) := by decide +kernel
theorem dX12_operand_41 : decode cX12_operand 41 = .ok (.ifCond .eq 14, 3) := by decide +kernel
theorem dX12_operand_44 : decode cX12_operand 44 = .ok (.aload_n 0, 1) := by decide +kernel
theorem dX12_operand_45 : decode cX12_operand 45 = .ok (.getfield 231, 3) := by decide +kernel
theorem dX12_operand_48 : decode cX12_operand 48 = .ok (.ldc2_w 306, 3) := by decide +kernel
theorem dX12_operand_51 : decode cX12_operand 51 = .ok (.lcmp, 1) := by decide +kernel
theorem dX12_operand_52 : decode cX12_operand 52 = .ok (.ifCond .ne 7, 3) := by decide +kernel
theorem dX12_operand_55 : decode cX12_operand 55 = .ok (.iconst 1, 1) := by decide +kernel
theorem dX12_operand_56 : decode cX12_operand 56 = .ok (.goto 4, 3) := by decide +kernel
theorem dX12_operand_59 : decode cX12_operand 59 = .ok (.iconst 0, 1) := by decide +kernel
theorem dX12_operand_60 : decode cX12_operand 60 = .ok (.istore_n 2, 1) := by decide +kernel
theorem dX12_operand_61 : decode cX12_operand 61 = .ok (.aload_n 0, 1) := by decide +kernel
theorem dX12_operand_62 : decode cX12_operand 62 = .ok (.getfield 238, 3) := by decide +kernel
theorem dX12_operand_65 : decode cX12_operand 65 = .ok (.iconst 2, 1) := by decide +kernel
theorem dX12_operand_66 : decode cX12_operand 66 = .ok (.if_icmp .eq 15, 3) := by decide +kernel
theorem dX12_operand_69 : decode cX12_operand 69 = .ok (.aload_n 0, 1) := by decide +kernel
theorem dX12_operand_70 : decode cX12_operand 70 = .ok (.getfield 238, 3) := by decide +kernel
theorem dX12_operand_73 : decode cX12_operand 73 = .ok (.iconst 1, 1) := by decide +kernel
theorem dX12_operand_74 : decode cX12_operand 74 = .ok (.if_icmp .ne 11, 3) := by decide +kernel
theorem dX12_operand_77 : decode cX12_operand 77 = .ok (.iload_n 2, 1) := by decide +kernel
theorem dX12_operand_78 : decode cX12_operand 78 = .ok (.ifCond .ne 7, 3) := by decide +kernel
theorem dX12_operand_81 : decode cX12_operand 81 = .ok (.iconst 1, 1) := by decide +kernel
theorem dX12_operand_82 : decode cX12_operand 82 = .ok (.goto 4, 3) := by decide +kernel
theorem dX12_operand_85 : decode cX12_operand 85 = .ok (.iconst 0, 1) := by decide +kernel
theorem dX12_operand_86 : decode cX12_operand 86 = .ok (.istore_n 3, 1) := by decide +kernel
theorem dX12_operand_87 : decode cX12_operand 87 = .ok (.aload_n 0, 1) := by decide +kernel
theorem dX12_operand_88 : decode cX12_operand 88 = .ok (.getfield 271, 3) := by decide +kernel
theorem dX12_operand_91 : decode cX12_operand 91 = .ok (.bipush 8, 2) := by decide +kernel
theorem dX12_operand_93 : decode cX12_operand 93 = .ok (.if_icmp .lt 11, 3) := by decide +kernel
theorem dX12_operand_96 : decode cX12_operand 96 = .ok (.aload_n 0, 1) := by decide +kernel
theorem dX12_operand_97 : decode cX12_operand 97 = .ok (.iconst 2, 1) := by decide +kernel
theorem dX12_operand_98 : decode cX12_operand 98 = .ok (.invokevirtual 308, 3) := by decide +kernel
theorem dX12_operand_101 : decode cX12_operand 101 = .ok (.goto 181, 3) := by decide +kernel
theorem dX12_operand_104 : decode cX12_operand 104 = .ok (.iload_n 3, 1) := by decide +kernel
theorem dX12_operand_105 : decode cX12_operand 105 = .ok (.ifCond .eq 104, 3) := by decide +kernel
theorem dX12_operand_108 : decode cX12_operand 108 = .ok (.aload_n 0, 1) := by decide +kernel
theorem dX12_operand_109 : decode cX12_operand 109 = .ok (.getfield 238, 3) := by decide +kernel
theorem dX12_operand_112 : decode cX12_operand 112 = .ok (.iconst 1, 1) := by decide +kernel
theorem dX12_operand_113 : decode cX12_operand 113 = .ok (.if_icmp .ne 10, 3) := by decide +kernel
theorem dX12_operand_116 : decode cX12_operand 116 = .ok (.aload_n 0, 1) := by decide +kernel
theorem dX12_operand_117 : decode cX12_operand 117 = .ok (.invokevirtual 311, 3) := by decide +kernel
theorem dX12_operand_120 : decode cX12_operand 120 = .ok (.goto 4, 3) := by decide +kernel
theorem dX12_operand_123 : decode cX12_operand 123 = .ok (.iconst 0, 1) := by decide +kernel
theorem dX12_operand_124 : decode cX12_operand 124 = .ok (.istore 4, 2) := by decide +kernel
theorem dX12_operand_126 : decode cX12_operand 126 = .ok (.aload_n 0, 1) := by decide +kernel
theorem dX12_operand_127 : decode cX12_operand 127 = .ok (.getfield 314, 3) := by decide +kernel
theorem dX12_operand_130 : decode cX12_operand 130 = .ok (.bipush 100, 2) := by decide +kernel
theorem dX12_operand_132 : decode cX12_operand 132 = .ok (.if_icmp .ne 11, 3) := by decide +kernel
theorem dX12_operand_135 : decode cX12_operand 135 = .ok (.aload_n 0, 1) := by decide +kernel
theorem dX12_operand_136 : decode cX12_operand 136 = .ok (.iconst 2, 1) := by decide +kernel
theorem dX12_operand_137 : decode cX12_operand 137 = .ok (.invokevirtual 308, 3) := by decide +kernel
theorem dX12_operand_140 : decode cX12_operand 140 = .ok (.goto 13, 3) := by decide +kernel
theorem dX12_operand_143 : decode cX12_operand 143 = .ok (.iload 4, 2) := by decide +kernel
theorem dX12_operand_145 : decode cX12_operand 145 = .ok (.ifCond .ge 8, 3) := by decide +kernel
theorem dX12_operand_148 : decode cX12_operand 148 = .ok (.aload_n 0, 1) := by decide +kernel
theorem dX12_operand_149 : decode cX12_operand 149 = .ok (.iconst 3, 1) := by decide +kernel
theorem dX12_operand_150 : decode cX12_operand 150 = .ok (.invokevirtual 308, 3) := by decide +kernel
theorem dX12_operand_153 : decode cX12_operand 153 = .ok (.aload_n 0, 1) := by decide +kernel
theorem dX12_operand_154 : decode cX12_operand 154 = .ok (.getfield 250, 3) := by decide +kernel
theorem dX12_operand_157 : decode cX12_operand 157 = .ok (.ifCond .le 5, 3) := by decide +kernel
theorem dX12_operand_160 : decode cX12_operand 160 = .ok (.iload_n 1, 1) := by decide +kernel
theorem dX12_operand_161 : decode cX12_operand 161 = .ok (.ireturn, 1) := by decide +kernel
theorem dX12_operand_162 : decode cX12_operand 162 = .ok (.aload_n 0, 1) := by decide +kernel
theorem dX12_operand_163 : decode cX12_operand 163 = .ok (.aload_n 0, 1) := by decide +kernel
theorem dX12_operand_164 : decode cX12_operand 164 = .ok (.getfield 238, 3) := by decide +kernel
theorem dX12_operand_167 : decode cX12_operand 167 = .ok (.iconst 2, 1) := by decide +kernel
theorem dX12_operand_168 : decode cX12_operand 168 = .ok (.if_icmp .ne 7, 3) := by decide +kernel
theorem dX12_operand_171 : decode cX12_operand 171 = .ok (.iconst 0, 1) := by decide +kernel
theorem dX12_operand_172 : decode cX12_operand 172 = .ok (.goto 8, 3) := by decide +kernel
theorem dX12_operand_175 : decode cX12_operand 175 = .ok (.bipush 20, 2) := by decide +kernel
theorem dX12_operand_177 : decode cX12_operand 177 = .ok (.iload 4, 2) := by decide +kernel
theorem dX12_operand_179 : decode cX12_operand 179 = .ok (.iadd, 1) := by decide +kernel
theorem dX12_operand_180 : decode cX12_operand 180 = .ok (.aload_n 0, 1) := by decide +kernel
theorem dX12_operand_181 : decode cX12_operand 181 = .ok (.getfield 235, 3) := by decide +kernel
theorem dX12_operand_184 : decode cX12_operand 184 = .ok (.invokevirtual 274, 3) := by decide +kernel
theorem dX12_operand_187 : decode cX12_operand 187 = .ok (.aload_n 0, 1) := by decide +kernel
theorem dX12_operand_188 : decode cX12_operand 188 = .ok (.dup, 1) := by decide +kernel
theorem dX12_operand_189 : decode cX12_operand 189 = .ok (.getfield 314, 3) := by decide +kernel
theorem dX12_operand_192 : decode cX12_operand 192 = .ok (.iconst 1, 1) := by decide +kernel
theorem dX12_operand_193 : decode cX12_operand 193 = .ok (.iadd, 1) := by decide +kernel
theorem dX12_operand_194 : decode cX12_operand 194 = .ok (.putfield 314, 3) := by decide +kernel
theorem dX12_operand_197 : decode cX12_operand 197 = .ok (.aload_n 0, 1) := by decide +kernel
theorem dX12_operand_198 : decode cX12_operand 198 = .ok (.invokevirtual 317, 3) := by decide +kernel
theorem dX12_operand_201 : decode cX12_operand 201 = .ok (.aload_n 0, 1) := by decide +kernel
theorem dX12_operand_202 : decode cX12_operand 202 = .ok (.bipush 50, 2) := by decide +kernel
theorem dX12_operand_204 : decode cX12_operand 204 = .ok (.invokevirtual 297, 3) := by decide +kernel
theorem dX12_operand_207 : decode cX12_operand 207 = .ok (.iconst 2, 1) := by decide +kernel
theorem dX12_operand_208 : decode cX12_operand 208 = .ok (.ireturn, 1) := by decide +kernel
theorem dX12_operand_209 : decode cX12_operand 209 = .ok (.aload_n 0, 1) := by decide +kernel
theorem dX12_operand_210 : decode cX12_operand 210 = .ok (.getfield 238, 3) := by decide +kernel
theorem dX12_operand_213 : decode cX12_operand 213 = .ok (.bipush 40, 2) := by decide +kernel
theorem dX12_operand_215 : decode cX12_operand 215 = .ok (.if_icmp .ne 15, 3) := by decide +kernel
theorem dX12_operand_218 : decode cX12_operand 218 = .ok (.aload_n 0, 1) := by decide +kernel
theorem dX12_operand_219 : decode cX12_operand 219 = .ok (.bipush 51, 2) := by decide +kernel
theorem dX12_operand_221 : decode cX12_operand 221 = .ok (.invokevirtual 320, 3) := by decide +kernel
theorem dX12_operand_224 : decode cX12_operand 224 = .ok (.aload_n 0, 1) := by decide +kernel
theorem dX12_operand_225 : decode cX12_operand 225 = .ok (.invokevirtual 317, 3) := by decide +kernel
theorem dX12_operand_228 : decode cX12_operand 228 = .ok (.iconst 0, 1) := by decide +kernel
theorem dX12_operand_229 : decode cX12_operand 229 = .ok (.ireturn, 1) := by decide +kernel
theorem dX12_operand_230 : decode cX12_operand 230 = .ok (.aload_n 0, 1) := by decide +kernel
theorem dX12_operand_231 : decode cX12_operand 231 = .ok (.getfield 238, 3) := by decide +kernel
theorem dX12_operand_234 : decode cX12_operand 234 = .ok (.bipush 45, 2) := by decide +kernel
theorem dX12_operand_236 : decode cX12_operand 236 = .ok (.if_icmp .ne 15, 3) := by decide +kernel
theorem dX12_operand_239 : decode cX12_operand 239 = .ok (.aload_n 0, 1) := by decide +kernel
theorem dX12_operand_240 : decode cX12_operand 240 = .ok (.bipush 50, 2) := by decide +kernel
theorem dX12_operand_242 : decode cX12_operand 242 = .ok (.invokevirtual 320, 3) := by decide +kernel
theorem dX12_operand_245 : decode cX12_operand 245 = .ok (.aload_n 0, 1) := by decide +kernel
theorem dX12_operand_246 : decode cX12_operand 246 = .ok (.invokevirtual 317, 3) := by decide +kernel
theorem dX12_operand_249 : decode cX12_operand 249 = .ok (.iconst 1, 1) := by decide +kernel
theorem dX12_operand_250 : decode cX12_operand 250 = .ok (.ireturn, 1) := by decide +kernel
theorem dX12_operand_251 : decode cX12_operand 251 = .ok (.iload_n 1, 1) := by decide +kernel
theorem dX12_operand_252 : decode cX12_operand 252 = .ok (.ifCond .ne 25, 3) := by decide +kernel
theorem dX12_operand_255 : decode cX12_operand 255 = .ok (.aload_n 0, 1) := by decide +kernel
theorem dX12_operand_256 : decode cX12_operand 256 = .ok (.ldc2_w 306, 3) := by decide +kernel
theorem dX12_operand_259 : decode cX12_operand 259 = .ok (.invokevirtual 286, 3) := by decide +kernel
theorem dX12_operand_262 : decode cX12_operand 262 = .ok (.ifCond .eq 15, 3) := by decide +kernel
theorem dX12_operand_265 : decode cX12_operand 265 = .ok (.aload_n 0, 1) := by decide +kernel
theorem dX12_operand_266 : decode cX12_operand 266 = .ok (.bipush 40, 2) := by decide +kernel
theorem dX12_operand_268 : decode cX12_operand 268 = .ok (.invokevirtual 320, 3) := by decide +kernel
theorem dX12_operand_271 : decode cX12_operand 271 = .ok (.aload_n 0, 1) := by decide +kernel
theorem dX12_operand_272 : decode cX12_operand 272 = .ok (.invokevirtual 317, 3) := by decide +kernel
theorem dX12_operand_275 : decode cX12_operand 275 = .ok (.iconst 0, 1) := by decide +kernel
theorem dX12_operand_276 : decode cX12_operand 276 = .ok (.ireturn, 1) := by decide +kernel
theorem dX12_operand_277 : decode cX12_operand 277 = .ok (.aload_n 0, 1) := by decide +kernel
theorem dX12_operand_278 : decode cX12_operand 278 = .ok (.iconst 2, 1) := by decide +kernel
theorem dX12_operand_279 : decode cX12_operand 279 = .ok (.invokevirtual 308, 3) := by decide +kernel
theorem dX12_operand_282 : decode cX12_operand 282 = .ok (.iload_n 1, 1) := by decide +kernel
theorem dX12_operand_283 : decode cX12_operand 283 = .ok (.ireturn, 1) := by decide +kernel
theorem dX12_sign_0 : decode cX12_sign 0 = .ok (.aload_n 0, 1) := by decide +kernel
theorem dX12_sign_1 : decode cX12_sign 1 = .ok (.getfield 238, 3) := by decide +kernel
theorem dX12_sign_4 : decode cX12_sign 4 = .ok (.bipush 43, 2) := by decide +kernel
theorem dX12_sign_6 : decode cX12_sign 6 = .ok (.if_icmp .eq 30, 3) := by decide +kernel
theorem dX12_sign_9 : decode cX12_sign 9 = .ok (.aload_n 0, 1) := by decide +kernel
theorem dX12_sign_10 : decode cX12_sign 10 = .ok (.getfield 238, 3) := by decide +kernel
theorem dX12_sign_13 : decode cX12_sign 13 = .ok (.bipush 45, 2) := by decide +kernel
theorem dX12_sign_15 : decode cX12_sign 15 = .ok (.if_icmp .eq 21, 3) := by decide +kernel
theorem dX12_sign_18 : decode cX12_sign 18 = .ok (.aload_n 0, 1) := by decide +kernel
theorem dX12_sign_19 : decode cX12_sign 19 = .ok (.getfield 238, 3) := by decide +kernel
theorem dX12_sign_22 : decode cX12_sign 22 = .ok (.bipush 42, 2) := by decide +kernel
theorem dX12_sign_24 : decode cX12_sign 24 = .ok (.if_icmp .eq 12, 3) := by decide +kernel
theorem dX12_sign_27 : decode cX12_sign 27 = .ok (.aload_n 0, 1) := by decide +kernel
theorem dX12_sign_28 : decode cX12_sign 28 = .ok (.getfield 238, 3) := by decide +kernel
theorem dX12_sign_31 : decode cX12_sign 31 = .ok (.bipush 47, 2) := by decide +kernel
theorem dX12_sign_33 : decode cX12_sign 33 = .ok (.if_icmp .ne 96, 3) := by decide +kernel
theorem dX12_sign_36 : decode cX12_sign 36 = .ok (.aload_n 0, 1) := by decide +kernel
theorem dX12_sign_37 : decode cX12_sign 37 = .ok (.getfield 238, 3) := by decide +kernel
theorem dX12_sign_40 : decode cX12_sign 40 = .ok (.bipush 43, 2) := by decide +kernel
theorem dX12_sign_42 : decode cX12_sign 42 = .ok (.if_icmp .eq 12, 3) := by decide +kernel
theorem dX12_sign_45 : decode cX12_sign 45 = .ok (.aload_n 0, 1) := by decide +kernel
theorem dX12_sign_46 : decode cX12_sign 46 = .ok (.getfield 238, 3) := by decide +kernel
theorem dX12_sign_49 : decode cX12_sign 49 = .ok (.bipush 45, 2) := by decide +kernel
theorem dX12_sign_51 : decode cX12_sign 51 = .ok (.if_icmp .ne 7, 3) := by decide +kernel
theorem dX12_sign_54 : decode cX12_sign 54 = .ok (.iconst 1, 1) := by decide +kernel
theorem dX12_sign_55 : decode cX12_sign 55 = .ok (.goto 4, 3) := by decide +kernel
theorem dX12_sign_58 : decode cX12_sign 58 = .ok (.iconst 0, 1) := by decide +kernel
theorem dX12_sign_59 : decode cX12_sign 59 = .ok (.istore_n 1, 1) := by decide +kernel
theorem dX12_sign_60 : decode cX12_sign 60 = .ok (.aload_n 0, 1) := by decide +kernel
theorem dX12_sign_61 : decode cX12_sign 61 = .ok (.iload_n 1, 1) := by decide +kernel
theorem dX12_sign_62 : decode cX12_sign 62 = .ok (.ifCond .eq 8, 3) := by decide +kernel
theorem dX12_sign_65 : decode cX12_sign 65 = .ok (.bipush 46, 2) := by decide +kernel
theorem dX12_sign_67 : decode cX12_sign 67 = .ok (.goto 5, 3) := by decide +kernel
theorem dX12_sign_70 : decode cX12_sign 70 = .ok (.bipush 48, 2) := by decide +kernel
theorem dX12_sign_72 : decode cX12_sign 72 = .ok (.invokevirtual 297, 3) := by decide +kernel
theorem dX12_sign_75 : decode cX12_sign 75 = .ok (.aload_n 0, 1) := by decide +kernel
theorem dX12_sign_76 : decode cX12_sign 76 = .ok (.aload_n 0, 1) := by decide +kernel
theorem dX12_sign_77 : decode cX12_sign 77 = .ok (.getfield 238, 3) := by decide +kernel
theorem dX12_sign_80 : decode cX12_sign 80 = .ok (.bipush 43, 2) := by decide +kernel
theorem dX12_sign_82 : decode cX12_sign 82 = .ok (.if_icmp .ne 8, 3) := by decide +kernel
theorem dX12_sign_85 : decode cX12_sign 85 = .ok (.bipush 46, 2) := by decide +kernel
theorem dX12_sign_87 : decode cX12_sign 87 = .ok (.goto 33, 3) := by decide +kernel
theorem dX12_sign_90 : decode cX12_sign 90 = .ok (.aload_n 0, 1) := by decide +kernel
theorem dX12_sign_91 : decode cX12_sign 91 = .ok (.getfield 238, 3) := by decide +kernel
theorem dX12_sign_94 : decode cX12_sign 94 = .ok (.bipush 45, 2) := by decide +kernel
theorem dX12_sign_96 : decode cX12_sign 96 = .ok (.if_icmp .ne 8, 3) := by decide +kernel
theorem dX12_sign_99 : decode cX12_sign 99 = .ok (.bipush 47, 2) := by decide +kernel
theorem dX12_sign_101 : decode cX12_sign 101 = .ok (.goto 19, 3) := by decide +kernel
theorem dX12_sign_104 : decode cX12_sign 104 = .ok (.aload_n 0, 1) := by decide +kernel
theorem dX12_sign_105 : decode cX12_sign 105 = .ok (.getfield 238, 3) := by decide +kernel
theorem dX12_sign_108 : decode cX12_sign 108 = .ok (.bipush 42, 2) := by decide +kernel
theorem dX12_sign_110 : decode cX12_sign 110 = .ok (.if_icmp .ne 8, 3) := by decide +kernel
theorem dX12_sign_113 : decode cX12_sign 113 = .ok (.bipush 48, 2) := by decide +kernel
theorem dX12_sign_115 : decode cX12_sign 115 = .ok (.goto 5, 3) := by decide +kernel
theorem dX12_sign_118 : decode cX12_sign 118 = .ok (.bipush 49, 2) := by decide +kernel
theorem dX12_sign_120 : decode cX12_sign 120 = .ok (.invokevirtual 320, 3) := by decide +kernel
theorem dX12_sign_123 : decode cX12_sign 123 = .ok (.aload_n 0, 1) := by decide +kernel
theorem dX12_sign_124 : decode cX12_sign 124 = .ok (.invokevirtual 317, 3) := by decide +kernel
theorem dX12_sign_127 : decode cX12_sign 127 = .ok (.iconst 1, 1) := by decide +kernel
theorem dX12_sign_128 : decode cX12_sign 128 = .ok (.ireturn, 1) := by decide +kernel
theorem dX12_sign_129 : decode cX12_sign 129 = .ok (.aload_n 0, 1) := by decide +kernel
theorem dX12_sign_130 : decode cX12_sign 130 = .ok (.getfield 238, 3) := by decide +kernel
theorem dX12_sign_133 : decode cX12_sign 133 = .ok (.bipush 61, 2) := by decide +kernel
theorem dX12_sign_135 : decode cX12_sign 135 = .ok (.if_icmp .eq 21, 3) := by decide +kernel
theorem dX12_sign_138 : decode cX12_sign 138 = .ok (.aload_n 0, 1) := by decide +kernel
theorem dX12_sign_139 : decode cX12_sign 139 = .ok (.getfield 238, 3) := by decide +kernel
theorem dX12_sign_142 : decode cX12_sign 142 = .ok (.bipush 60, 2) := by decide +kernel
theorem dX12_sign_144 : decode cX12_sign 144 = .ok (.if_icmp .eq 12, 3) := by decide +kernel
theorem dX12_sign_147 : decode cX12_sign 147 = .ok (.aload_n 0, 1) := by decide +kernel
theorem dX12_sign_148 : decode cX12_sign 148 = .ok (.getfield 238, 3) := by decide +kernel
theorem dX12_sign_151 : decode cX12_sign 151 = .ok (.bipush 62, 2) := by decide +kernel
theorem dX12_sign_153 : decode cX12_sign 153 = .ok (.if_icmp .ne 98, 3) := by decide +kernel
theorem dX12_sign_156 : decode cX12_sign 156 = .ok (.aload_n 0, 1) := by decide +kernel
theorem dX12_sign_157 : decode cX12_sign 157 = .ok (.bipush 46, 2) := by decide +kernel
theorem dX12_sign_159 : decode cX12_sign 159 = .ok (.invokevirtual 297, 3) := by decide +kernel
theorem dX12_sign_162 : decode cX12_sign 162 = .ok (.aload_n 0, 1) := by decide +kernel
theorem dX12_sign_163 : decode cX12_sign 163 = .ok (.getfield 268, 3) := by decide +kernel
theorem dX12_sign_166 : decode cX12_sign 166 = .ok (.ifCond .ne 7, 3) := by decide +kernel
theorem dX12_sign_169 : decode cX12_sign 169 = .ok (.iconst (-1), 1) := by decide +kernel
theorem dX12_sign_170 : decode cX12_sign 170 = .ok (.goto 14, 3) := by decide +kernel
theorem dX12_sign_173 : decode cX12_sign 173 = .ok (.aload_n 0, 1) := by decide +kernel
theorem dX12_sign_174 : decode cX12_sign 174 = .ok (.getfield 108, 3) := by decide +kernel
theorem dX12_sign_177 : decode cX12_sign 177 = .ok (.aload_n 0, 1) := by decide +kernel
theorem dX12_sign_178 : decode cX12_sign 178 = .ok (.getfield 268, 3) := by decide +kernel
theorem dX12_sign_181 : decode cX12_sign 181 = .ok (.iconst 1, 1) := by decide +kernel
theorem dX12_sign_182 : decode cX12_sign 182 = .ok (.isub, 1) := by decide +kernel
theorem dX12_sign_183 : decode cX12_sign 183 = .ok (.iaload, 1) := by decide +kernel
theorem dX12_sign_184 : decode cX12_sign 184 = .ok (.istore_n 1, 1) := by decide +kernel
theorem dX12_sign_185 : decode cX12_sign 185 = .ok (.iload_n 1, 1) := by decide +kernel
theorem dX12_sign_186 : decode cX12_sign 186 = .ok (.bipush 43, 2) := by decide +kernel
theorem dX12_sign_188 : decode cX12_sign 188 = .ok (.if_icmp .lt 14, 3) := by decide +kernel
theorem dX12_sign_191 : decode cX12_sign 191 = .ok (.iload_n 1, 1) := by decide +kernel
theorem dX12_sign_192 : decode cX12_sign 192 = .ok (.bipush 45, 2) := by decide +kernel
theorem dX12_sign_194 : decode cX12_sign 194 = .ok (.if_icmp .gt 8, 3) := by decide +kernel
theorem dX12_sign_197 : decode cX12_sign 197 = .ok (.aload_n 0, 1) := by decide +kernel
theorem dX12_sign_198 : decode cX12_sign 198 = .ok (.iconst 2, 1) := by decide +kernel
theorem dX12_sign_199 : decode cX12_sign 199 = .ok (.invokevirtual 308, 3) := by decide +kernel
theorem dX12_sign_202 : decode cX12_sign 202 = .ok (.aload_n 0, 1) := by decide +kernel
theorem dX12_sign_203 : decode cX12_sign 203 = .ok (.getfield 250, 3) := by decide +kernel
theorem dX12_sign_206 : decode cX12_sign 206 = .ok (.ifCond .le 5, 3) := by decide +kernel
theorem dX12_sign_209 : decode cX12_sign 209 = .ok (.iconst 2, 1) := by decide +kernel
theorem dX12_sign_210 : decode cX12_sign 210 = .ok (.ireturn, 1) := by decide +kernel
theorem dX12_sign_211 : decode cX12_sign 211 = .ok (.aload_n 0, 1) := by decide +kernel
theorem dX12_sign_212 : decode cX12_sign 212 = .ok (.aload_n 0, 1) := by decide +kernel
theorem dX12_sign_213 : decode cX12_sign 213 = .ok (.getfield 238, 3) := by decide +kernel
theorem dX12_sign_216 : decode cX12_sign 216 = .ok (.bipush 61, 2) := by decide +kernel
theorem dX12_sign_218 : decode cX12_sign 218 = .ok (.if_icmp .ne 8, 3) := by decide +kernel
theorem dX12_sign_221 : decode cX12_sign 221 = .ok (.bipush 43, 2) := by decide +kernel
theorem dX12_sign_223 : decode cX12_sign 223 = .ok (.goto 19, 3) := by decide +kernel
theorem dX12_sign_226 : decode cX12_sign 226 = .ok (.aload_n 0, 1) := by decide +kernel
theorem dX12_sign_227 : decode cX12_sign 227 = .ok (.getfield 238, 3) := by decide +kernel
theorem dX12_sign_230 : decode cX12_sign 230 = .ok (.bipush 60, 2) := by decide +kernel
theorem dX12_sign_232 : decode cX12_sign 232 = .ok (.if_icmp .ne 8, 3) := by decide +kernel
theorem dX12_sign_235 : decode cX12_sign 235 = .ok (.bipush 44, 2) := by decide +kernel
theorem dX12_sign_237 : decode cX12_sign 237 = .ok (.goto 5, 3) := by decide +kernel
theorem dX12_sign_240 : decode cX12_sign 240 = .ok (.bipush 45, 2) := by decide +kernel
theorem dX12_sign_242 : decode cX12_sign 242 = .ok (.invokevirtual 320, 3) := by decide +kernel
theorem dX12_sign_245 : decode cX12_sign 245 = .ok (.aload_n 0, 1) := by decide +kernel
theorem dX12_sign_246 : decode cX12_sign 246 = .ok (.invokevirtual 317, 3) := by decide +kernel
theorem dX12_sign_249 : decode cX12_sign 249 = .ok (.iconst 1, 1) := by decide +kernel
theorem dX12_sign_250 : decode cX12_sign 250 = .ok (.ireturn, 1) := by decide +kernel
theorem dX12_sign_251 : decode cX12_sign 251 = .ok (.aload_n 0, 1) := by decide +kernel
theorem dX12_sign_252 : decode cX12_sign 252 = .ok (.ldc2_w 304, 3) := by decide +kernel
theorem dX12_sign_255 : decode cX12_sign 255 = .ok (.invokevirtual 286, 3) := by decide +kernel
theorem dX12_sign_258 : decode cX12_sign 258 = .ok (.ifCond .ne 13, 3) := by decide +kernel
theorem dX12_sign_261 : decode cX12_sign 261 = .ok (.aload_n 0, 1) := by decide +kernel
theorem dX12_sign_262 : decode cX12_sign 262 = .ok (.ldc2_w 302, 3) := by decide +kernel
theorem dX12_sign_265 : decode cX12_sign 265 = .ok (.invokevirtual 286, 3) := by decide +kernel
theorem dX12_sign_268 : decode cX12_sign 268 = .ok (.ifCond .eq 37, 3) := by decide +kernel
theorem dX12_sign_271 : decode cX12_sign 271 = .ok (.aload_n 0, 1) := by decide +kernel
theorem dX12_sign_272 : decode cX12_sign 272 = .ok (.ldc2_w 304, 3) := by decide +kernel
theorem dX12_sign_275 : decode cX12_sign 275 = .ok (.invokevirtual 286, 3) := by decide +kernel
theorem dX12_sign_278 : decode cX12_sign 278 = .ok (.istore_n 1, 1) := by decide +kernel
theorem dX12_sign_279 : decode cX12_sign 279 = .ok (.aload_n 0, 1) := by decide +kernel
theorem dX12_sign_280 : decode cX12_sign 280 = .ok (.iload_n 1, 1) := by decide +kernel
theorem dX12_sign_281 : decode cX12_sign 281 = .ok (.invokevirtual 323, 3) := by decide +kernel
theorem dX12_sign_284 : decode cX12_sign 284 = .ok (.aload_n 0, 1) := by decide +kernel
theorem dX12_sign_285 : decode cX12_sign 285 = .ok (.iload_n 1, 1) := by decide +kernel
theorem dX12_sign_286 : decode cX12_sign 286 = .ok (.ifCond .eq 8, 3) := by decide +kernel
theorem dX12_sign_289 : decode cX12_sign 289 = .ok (.bipush 42, 2) := by decide +kernel
theorem dX12_sign_291 : decode cX12_sign 291 = .ok (.goto 5, 3) := by decide +kernel
theorem dX12_sign_294 : decode cX12_sign 294 = .ok (.bipush 41, 2) := by decide +kernel
theorem dX12_sign_296 : decode cX12_sign 296 = .ok (.invokevirtual 320, 3) := by decide +kernel
theorem dX12_sign_299 : decode cX12_sign 299 = .ok (.aload_n 0, 1) := by decide +kernel
theorem dX12_sign_300 : decode cX12_sign 300 = .ok (.invokevirtual 317, 3) := by decide +kernel
theorem dX12_sign_303 : decode cX12_sign 303 = .ok (.iconst 0, 1) := by decide +kernel
theorem dX12_sign_304 : decode cX12_sign 304 = .ok (.ireturn, 1) := by decide +kernel
theorem dX12_sign_305 : decode cX12_sign 305 = .ok (.aload_n 0, 1) := by decide +kernel
theorem dX12_sign_306 : decode cX12_sign 306 = .ok (.getfield 238, 3) := by decide +kernel
theorem dX12_sign_309 : decode cX12_sign 309 = .ok (.bipush 41, 2) := by decide +kernel
theorem dX12_sign_311 : decode cX12_sign 311 = .ok (.if_icmp .ne 47, 3) := by decide +kernel
theorem dX12_sign_314 : decode cX12_sign 314 = .ok (.aload_n 0, 1) := by decide +kernel
theorem dX12_sign_315 : decode cX12_sign 315 = .ok (.invokevirtual 280, 3) := by decide +kernel
theorem dX12_sign_318 : decode cX12_sign 318 = .ok (.ifCond .eq 40, 3) := by decide +kernel
theorem dX12_sign_321 : decode cX12_sign 321 = .ok (.aload_n 0, 1) := by decide +kernel
theorem dX12_sign_322 : decode cX12_sign 322 = .ok (.iconst 0, 1) := by decide +kernel
theorem dX12_sign_323 : decode cX12_sign 323 = .ok (.invokevirtual 297, 3) := by decide +kernel
theorem dX12_sign_326 : decode cX12_sign 326 = .ok (.aload_n 0, 1) := by decide +kernel
theorem dX12_sign_327 : decode cX12_sign 327 = .ok (.dup, 1) := by decide +kernel
theorem dX12_sign_328 : decode cX12_sign 328 = .ok (.getfield 268, 3) := by decide +kernel
theorem dX12_sign_331 : decode cX12_sign 331 = .ok (.iconst 1, 1) := by decide +kernel
theorem dX12_sign_332 : decode cX12_sign 332 = .ok (.isub, 1) := by decide +kernel
theorem dX12_sign_333 : decode cX12_sign 333 = .ok (.putfield 268, 3) := by decide +kernel
theorem dX12_sign_336 : decode cX12_sign 336 = .ok (.aload_n 0, 1) := by decide +kernel
theorem dX12_sign_337 : decode cX12_sign 337 = .ok (.dup, 1) := by decide +kernel
theorem dX12_sign_338 : decode cX12_sign 338 = .ok (.getfield 271, 3) := by decide +kernel
theorem dX12_sign_341 : decode cX12_sign 341 = .ok (.iconst 1, 1) := by decide +kernel
theorem dX12_sign_342 : decode cX12_sign 342 = .ok (.isub, 1) := by decide +kernel
theorem dX12_sign_343 : decode cX12_sign 343 = .ok (.putfield 271, 3) := by decide +kernel
theorem dX12_sign_346 : decode cX12_sign 346 = .ok (.aload_n 0, 1) := by decide +kernel
theorem dX12_sign_347 : decode cX12_sign 347 = .ok (.invokevirtual 317, 3) := by decide +kernel
theorem dX12_sign_350 : decode cX12_sign 350 = .ok (.aload_n 0, 1) := by decide +kernel
theorem dX12_sign_351 : decode cX12_sign 351 = .ok (.bipush 50, 2) := by decide +kernel
theorem dX12_sign_353 : decode cX12_sign 353 = .ok (.invokevirtual 297, 3) := by decide +kernel
theorem dX12_sign_356 : decode cX12_sign 356 = .ok (.iconst 2, 1) := by decide +kernel
theorem dX12_sign_357 : decode cX12_sign 357 = .ok (.ireturn, 1) := by decide +kernel
theorem dX12_sign_358 : decode cX12_sign 358 = .ok (.aload_n 0, 1) := by decide +kernel
theorem dX12_sign_359 : decode cX12_sign 359 = .ok (.iconst 2, 1) := by decide +kernel
theorem dX12_sign_360 : decode cX12_sign 360 = .ok (.invokevirtual 308, 3) := by decide +kernel
theorem dX12_sign_363 : decode cX12_sign 363 = .ok (.iconst 2, 1) := by decide +kernel
theorem dX12_sign_364 : decode cX12_sign 364 = .ok (.ireturn, 1) := by decide +kernel
theorem dX12_settleOnes_0 : decode cX12_settleOnes 0 = .ok (.iconst 1, 1) := by decide +kernel
theorem dX12_settleOnes_1 : decode cX12_settleOnes 1 = .ok (.istore_n 2, 1) := by decide +kernel
theorem dX12_settleOnes_2 : decode cX12_settleOnes 2 = .ok (.iload_n 2, 1) := by decide +kernel
theorem dX12_settleOnes_3 : decode cX12_settleOnes 3 = .ok (.ifCond .eq 60, 3) := by decide +kernel
theorem dX12_settleOnes_6 : decode cX12_settleOnes 6 = .ok (.aload_n 0, 1) := by decide +kernel
theorem dX12_settleOnes_7 : decode cX12_settleOnes 7 = .ok (.getfield 268, 3) := by decide +kernel
theorem dX12_settleOnes_10 : decode cX12_settleOnes 10 = .ok (.ifCond .ne 8, 3) := by decide +kernel
theorem dX12_settleOnes_13 : decode cX12_settleOnes 13 = .ok (.bipush 51, 2) := by decide +kernel
theorem dX12_settleOnes_15 : decode cX12_settleOnes 15 = .ok (.goto 14, 3) := by decide +kernel
theorem dX12_settleOnes_18 : decode cX12_settleOnes 18 = .ok (.aload_n 0, 1) := by decide +kernel
theorem dX12_settleOnes_19 : decode cX12_settleOnes 19 = .ok (.getfield 108, 3) := by decide +kernel
theorem dX12_settleOnes_22 : decode cX12_settleOnes 22 = .ok (.aload_n 0, 1) := by decide +kernel
theorem dX12_settleOnes_23 : decode cX12_settleOnes 23 = .ok (.getfield 268, 3) := by decide +kernel
theorem dX12_settleOnes_26 : decode cX12_settleOnes 26 = .ok (.iconst 1, 1) := by decide +kernel
theorem dX12_settleOnes_27 : decode cX12_settleOnes 27 = .ok (.isub, 1) := by decide +kernel
theorem dX12_settleOnes_28 : decode cX12_settleOnes 28 = .ok (.iaload, 1) := by decide +kernel
theorem dX12_settleOnes_29 : decode cX12_settleOnes 29 = .ok (.istore_n 3, 1) := by decide +kernel
theorem dX12_settleOnes_30 : decode cX12_settleOnes 30 = .ok (.iload_n 3, 1) := by decide +kernel
theorem dX12_settleOnes_31 : decode cX12_settleOnes 31 = .ok (.bipush 51, 2) := by decide +kernel
theorem dX12_settleOnes_33 : decode cX12_settleOnes 33 = .ok (.if_icmp .eq 17, 3) := by decide +kernel
theorem dX12_settleOnes_36 : decode cX12_settleOnes 36 = .ok (.iload_n 1, 1) := by decide +kernel
theorem dX12_settleOnes_37 : decode cX12_settleOnes 37 = .ok (.ifCond .eq 9, 3) := by decide +kernel
theorem dX12_settleOnes_40 : decode cX12_settleOnes 40 = .ok (.iload_n 3, 1) := by decide +kernel
theorem dX12_settleOnes_41 : decode cX12_settleOnes 41 = .ok (.bipush 41, 2) := by decide +kernel
theorem dX12_settleOnes_43 : decode cX12_settleOnes 43 = .ok (.if_icmp .eq 7, 3) := by decide +kernel
theorem dX12_settleOnes_46 : decode cX12_settleOnes 46 = .ok (.iconst 1, 1) := by decide +kernel
theorem dX12_settleOnes_47 : decode cX12_settleOnes 47 = .ok (.goto 4, 3) := by decide +kernel
theorem dX12_settleOnes_50 : decode cX12_settleOnes 50 = .ok (.iconst 0, 1) := by decide +kernel
theorem dX12_settleOnes_51 : decode cX12_settleOnes 51 = .ok (.istore_n 2, 1) := by decide +kernel
theorem dX12_settleOnes_52 : decode cX12_settleOnes 52 = .ok (.iload_n 2, 1) := by decide +kernel
theorem dX12_settleOnes_53 : decode cX12_settleOnes 53 = .ok (.ifCond .eq 7, 3) := by decide +kernel
theorem dX12_settleOnes_56 : decode cX12_settleOnes 56 = .ok (.aload_n 0, 1) := by decide +kernel
theorem dX12_settleOnes_57 : decode cX12_settleOnes 57 = .ok (.invokevirtual 277, 3) := by decide +kernel
theorem dX12_settleOnes_60 : decode cX12_settleOnes 60 = .ok (.goto (-58), 3) := by decide +kernel
theorem dX12_settleOnes_63 : decode cX12_settleOnes 63 = .ok (.return_, 1) := by decide +kernel
theorem dX12_prices_0 : decode cX12_prices 0 = .ok (.aload_n 0, 1) := by decide +kernel
theorem dX12_prices_1 : decode cX12_prices 1 = .ok (.aload_n 0, 1) := by decide +kernel
theorem dX12_prices_2 : decode cX12_prices 2 = .ok (.getfield 213, 3) := by decide +kernel
theorem dX12_prices_5 : decode cX12_prices 5 = .ok (.putfield 222, 3) := by decide +kernel
theorem dX12_prices_8 : decode cX12_prices 8 = .ok (.aload_n 0, 1) := by decide +kernel
theorem dX12_prices_9 : decode cX12_prices 9 = .ok (.iconst 0, 1) := by decide +kernel
theorem dX12_prices_10 : decode cX12_prices 10 = .ok (.putfield 213, 3) := by decide +kernel
theorem dX12_prices_13 : decode cX12_prices 13 = .ok (.aload_n 0, 1) := by decide +kernel
theorem dX12_prices_14 : decode cX12_prices 14 = .ok (.iconst 0, 1) := by decide +kernel
theorem dX12_prices_15 : decode cX12_prices 15 = .ok (.putfield 219, 3) := by decide +kernel
theorem dX12_prices_18 : decode cX12_prices 18 = .ok (.aload_n 0, 1) := by decide +kernel
theorem dX12_prices_19 : decode cX12_prices 19 = .ok (.iconst 0, 1) := by decide +kernel
theorem dX12_prices_20 : decode cX12_prices 20 = .ok (.putfield 250, 3) := by decide +kernel
theorem dX12_prices_23 : decode cX12_prices 23 = .ok (.aload_n 0, 1) := by decide +kernel
theorem dX12_prices_24 : decode cX12_prices 24 = .ok (.iconst (-1), 1) := by decide +kernel
theorem dX12_prices_25 : decode cX12_prices 25 = .ok (.putfield 105, 3) := by decide +kernel
theorem dX12_prices_28 : decode cX12_prices 28 = .ok (.aload_n 0, 1) := by decide +kernel
theorem dX12_prices_29 : decode cX12_prices 29 = .ok (.iconst 0, 1) := by decide +kernel
theorem dX12_prices_30 : decode cX12_prices 30 = .ok (.putfield 327, 3) := by decide +kernel
theorem dX12_prices_33 : decode cX12_prices 33 = .ok (.aload_n 0, 1) := by decide +kernel
theorem dX12_prices_34 : decode cX12_prices 34 = .ok (.iconst 0, 1) := by decide +kernel
theorem dX12_prices_35 : decode cX12_prices 35 = .ok (.putfield 265, 3) := by decide +kernel
theorem dX12_prices_38 : decode cX12_prices 38 = .ok (.aload_n 0, 1) := by decide +kernel
theorem dX12_prices_39 : decode cX12_prices 39 = .ok (.iconst 0, 1) := by decide +kernel
theorem dX12_prices_40 : decode cX12_prices 40 = .ok (.putfield 314, 3) := by decide +kernel
theorem dX12_prices_43 : decode cX12_prices 43 = .ok (.aload_n 0, 1) := by decide +kernel
theorem dX12_prices_44 : decode cX12_prices 44 = .ok (.invokevirtual 317, 3) := by decide +kernel
theorem dX12_prices_47 : decode cX12_prices 47 = .ok (.aload_n 0, 1) := by decide +kernel
theorem dX12_prices_48 : decode cX12_prices 48 = .ok (.getfield 250, 3) := by decide +kernel
theorem dX12_prices_51 : decode cX12_prices 51 = .ok (.ifCond .ne 144, 3) := by decide +kernel
theorem dX12_prices_54 : decode cX12_prices 54 = .ok (.aload_n 0, 1) := by decide +kernel
theorem dX12_prices_55 : decode cX12_prices 55 = .ok (.getfield 238, 3) := by decide +kernel
theorem dX12_prices_58 : decode cX12_prices 58 = .ok (.ifCond .eq 137, 3) := by decide +kernel
theorem dX12_prices_61 : decode cX12_prices 61 = .ok (.aload_n 0, 1) := by decide +kernel
theorem dX12_prices_62 : decode cX12_prices 62 = .ok (.ldc2_w 300, 3) := by decide +kernel
theorem dX12_prices_65 : decode cX12_prices 65 = .ok (.invokevirtual 286, 3) := by decide +kernel
theorem dX12_prices_68 : decode cX12_prices 68 = .ok (.istore_n 1, 1) := by decide +kernel
theorem dX12_prices_69 : decode cX12_prices 69 = .ok (.iload_n 1, 1) := by decide +kernel
theorem dX12_prices_70 : decode cX12_prices 70 = .ok (.ifCond .ne 13, 3) := by decide +kernel
theorem dX12_prices_73 : decode cX12_prices 73 = .ok (.aload_n 0, 1) := by decide +kernel
theorem dX12_prices_74 : decode cX12_prices 74 = .ok (.ldc2_w 284, 3) := by decide +kernel
theorem dX12_prices_77 : decode cX12_prices 77 = .ok (.invokevirtual 286, 3) := by decide +kernel
theorem dX12_prices_80 : decode cX12_prices 80 = .ok (.ifCond .eq 12, 3) := by decide +kernel
theorem dX12_prices_83 : decode cX12_prices 83 = .ok (.aload_n 0, 1) := by decide +kernel
theorem dX12_prices_84 : decode cX12_prices 84 = .ok (.getfield 327, 3) := by decide +kernel
theorem dX12_prices_87 : decode cX12_prices 87 = .ok (.bipush 10, 2) := by decide +kernel
theorem dX12_prices_89 : decode cX12_prices 89 = .ok (.if_icmp .ne 8, 3) := by decide +kernel
theorem dX12_prices_92 : decode cX12_prices 92 = .ok (.aload_n 0, 1) := by decide +kernel
theorem dX12_prices_93 : decode cX12_prices 93 = .ok (.iconst 2, 1) := by decide +kernel
theorem dX12_prices_94 : decode cX12_prices 94 = .ok (.invokevirtual 308, 3) := by decide +kernel
theorem dX12_prices_97 : decode cX12_prices 97 = .ok (.aload_n 0, 1) := by decide +kernel
theorem dX12_prices_98 : decode cX12_prices 98 = .ok (.getfield 250, 3) := by decide +kernel
theorem dX12_prices_101 : decode cX12_prices 101 = .ok (.ifCond .le 5, 3) := by decide +kernel
theorem dX12_prices_104 : decode cX12_prices 104 = .ok (.iconst (-1), 1) := by decide +kernel
theorem dX12_prices_105 : decode cX12_prices 105 = .ok (.ireturn, 1) := by decide +kernel
theorem dX12_prices_106 : decode cX12_prices 106 = .ok (.aload_n 0, 1) := by decide +kernel
theorem dX12_prices_107 : decode cX12_prices 107 = .ok (.getfield 99, 3) := by decide +kernel
theorem dX12_prices_110 : decode cX12_prices 110 = .ok (.iconst 2, 1) := by decide +kernel
theorem dX12_prices_111 : decode cX12_prices 111 = .ok (.aload_n 0, 1) := by decide +kernel
theorem dX12_prices_112 : decode cX12_prices 112 = .ok (.getfield 327, 3) := by decide +kernel
theorem dX12_prices_115 : decode cX12_prices 115 = .ok (.imul, 1) := by decide +kernel
theorem dX12_prices_116 : decode cX12_prices 116 = .ok (.aload_n 0, 1) := by decide +kernel
theorem dX12_prices_117 : decode cX12_prices 117 = .ok (.getfield 265, 3) := by decide +kernel
theorem dX12_prices_120 : decode cX12_prices 120 = .ok (.iastore, 1) := by decide +kernel
theorem dX12_prices_121 : decode cX12_prices 121 = .ok (.iload_n 1, 1) := by decide +kernel
theorem dX12_prices_122 : decode cX12_prices 122 = .ok (.ifCond .eq 21, 3) := by decide +kernel
theorem dX12_prices_125 : decode cX12_prices 125 = .ok (.aload_n 0, 1) := by decide +kernel
theorem dX12_prices_126 : decode cX12_prices 126 = .ok (.invokevirtual 317, 3) := by decide +kernel
theorem dX12_prices_129 : decode cX12_prices 129 = .ok (.aload_n 0, 1) := by decide +kernel
theorem dX12_prices_130 : decode cX12_prices 130 = .ok (.iconst 1, 1) := by decide +kernel
theorem dX12_prices_131 : decode cX12_prices 131 = .ok (.invokevirtual 330, 3) := by decide +kernel
theorem dX12_prices_134 : decode cX12_prices 134 = .ok (.aload_n 0, 1) := by decide +kernel
theorem dX12_prices_135 : decode cX12_prices 135 = .ok (.getfield 250, 3) := by decide +kernel
theorem dX12_prices_138 : decode cX12_prices 138 = .ok (.ifCond .le 5, 3) := by decide +kernel
theorem dX12_prices_141 : decode cX12_prices 141 = .ok (.iconst (-1), 1) := by decide +kernel
theorem dX12_prices_142 : decode cX12_prices 142 = .ok (.ireturn, 1) := by decide +kernel
theorem dX12_prices_143 : decode cX12_prices 143 = .ok (.aload_n 0, 1) := by decide +kernel
theorem dX12_prices_144 : decode cX12_prices 144 = .ok (.getfield 99, 3) := by decide +kernel
theorem dX12_prices_147 : decode cX12_prices 147 = .ok (.iconst 2, 1) := by decide +kernel
theorem dX12_prices_148 : decode cX12_prices 148 = .ok (.aload_n 0, 1) := by decide +kernel
theorem dX12_prices_149 : decode cX12_prices 149 = .ok (.getfield 327, 3) := by decide +kernel
theorem dX12_prices_152 : decode cX12_prices 152 = .ok (.imul, 1) := by decide +kernel
theorem dX12_prices_153 : decode cX12_prices 153 = .ok (.iconst 1, 1) := by decide +kernel
theorem dX12_prices_154 : decode cX12_prices 154 = .ok (.iadd, 1) := by decide +kernel
theorem dX12_prices_155 : decode cX12_prices 155 = .ok (.aload_n 0, 1) := by decide +kernel
theorem dX12_prices_156 : decode cX12_prices 156 = .ok (.getfield 265, 3) := by decide +kernel
theorem dX12_prices_159 : decode cX12_prices 159 = .ok (.iastore, 1) := by decide +kernel
theorem dX12_prices_160 : decode cX12_prices 160 = .ok (.aload_n 0, 1) := by decide +kernel
theorem dX12_prices_161 : decode cX12_prices 161 = .ok (.invokevirtual 317, 3) := by decide +kernel
theorem dX12_prices_164 : decode cX12_prices 164 = .ok (.aload_n 0, 1) := by decide +kernel
theorem dX12_prices_165 : decode cX12_prices 165 = .ok (.iconst 0, 1) := by decide +kernel
theorem dX12_prices_166 : decode cX12_prices 166 = .ok (.invokevirtual 330, 3) := by decide +kernel
theorem dX12_prices_169 : decode cX12_prices 169 = .ok (.aload_n 0, 1) := by decide +kernel
theorem dX12_prices_170 : decode cX12_prices 170 = .ok (.getfield 250, 3) := by decide +kernel
theorem dX12_prices_173 : decode cX12_prices 173 = .ok (.ifCond .le 5, 3) := by decide +kernel
theorem dX12_prices_176 : decode cX12_prices 176 = .ok (.iconst (-1), 1) := by decide +kernel
theorem dX12_prices_177 : decode cX12_prices 177 = .ok (.ireturn, 1) := by decide +kernel
theorem dX12_prices_178 : decode cX12_prices 178 = .ok (.aload_n 0, 1) := by decide +kernel
theorem dX12_prices_179 : decode cX12_prices 179 = .ok (.invokevirtual 317, 3) := by decide +kernel
theorem dX12_prices_182 : decode cX12_prices 182 = .ok (.aload_n 0, 1) := by decide +kernel
theorem dX12_prices_183 : decode cX12_prices 183 = .ok (.dup, 1) := by decide +kernel
theorem dX12_prices_184 : decode cX12_prices 184 = .ok (.getfield 327, 3) := by decide +kernel
theorem dX12_prices_187 : decode cX12_prices 187 = .ok (.iconst 1, 1) := by decide +kernel
theorem dX12_prices_188 : decode cX12_prices 188 = .ok (.iadd, 1) := by decide +kernel
theorem dX12_prices_189 : decode cX12_prices 189 = .ok (.putfield 327, 3) := by decide +kernel
theorem dX12_prices_192 : decode cX12_prices 192 = .ok (.goto (-145), 3) := by decide +kernel
theorem dX12_prices_195 : decode cX12_prices 195 = .ok (.aload_n 0, 1) := by decide +kernel
theorem dX12_prices_196 : decode cX12_prices 196 = .ok (.getfield 250, 3) := by decide +kernel
theorem dX12_prices_199 : decode cX12_prices 199 = .ok (.ifCond .le 5, 3) := by decide +kernel
theorem dX12_prices_202 : decode cX12_prices 202 = .ok (.iconst (-1), 1) := by decide +kernel
theorem dX12_prices_203 : decode cX12_prices 203 = .ok (.ireturn, 1) := by decide +kernel
theorem dX12_prices_204 : decode cX12_prices 204 = .ok (.aload_n 0, 1) := by decide +kernel
theorem dX12_prices_205 : decode cX12_prices 205 = .ok (.getfield 99, 3) := by decide +kernel
theorem dX12_prices_208 : decode cX12_prices 208 = .ok (.iconst 2, 1) := by decide +kernel
theorem dX12_prices_209 : decode cX12_prices 209 = .ok (.aload_n 0, 1) := by decide +kernel
theorem dX12_prices_210 : decode cX12_prices 210 = .ok (.getfield 327, 3) := by decide +kernel
theorem dX12_prices_213 : decode cX12_prices 213 = .ok (.imul, 1) := by decide +kernel
theorem dX12_prices_214 : decode cX12_prices 214 = .ok (.aload_n 0, 1) := by decide +kernel
theorem dX12_prices_215 : decode cX12_prices 215 = .ok (.getfield 265, 3) := by decide +kernel
theorem dX12_prices_218 : decode cX12_prices 218 = .ok (.iastore, 1) := by decide +kernel
theorem dX12_prices_219 : decode cX12_prices 219 = .ok (.iconst 0, 1) := by decide +kernel
theorem dX12_prices_220 : decode cX12_prices 220 = .ok (.istore_n 1, 1) := by decide +kernel
theorem dX12_prices_221 : decode cX12_prices 221 = .ok (.iload_n 1, 1) := by decide +kernel
theorem dX12_prices_222 : decode cX12_prices 222 = .ok (.aload_n 0, 1) := by decide +kernel
theorem dX12_prices_223 : decode cX12_prices 223 = .ok (.getfield 265, 3) := by decide +kernel
theorem dX12_prices_226 : decode cX12_prices 226 = .ok (.if_icmp .ge 41, 3) := by decide +kernel
theorem dX12_prices_229 : decode cX12_prices 229 = .ok (.aload_n 0, 1) := by decide +kernel
theorem dX12_prices_230 : decode cX12_prices 230 = .ok (.getfield 63, 3) := by decide +kernel
theorem dX12_prices_233 : decode cX12_prices 233 = .ok (.sipush 6000, 3) := by decide +kernel
theorem dX12_prices_236 : decode cX12_prices 236 = .ok (.iload_n 1, 1) := by decide +kernel
theorem dX12_prices_237 : decode cX12_prices 237 = .ok (.iadd, 1) := by decide +kernel
theorem dX12_prices_238 : decode cX12_prices 238 = .ok (.aload_n 0, 1) := by decide +kernel
theorem dX12_prices_239 : decode cX12_prices 239 = .ok (.getfield 93, 3) := by decide +kernel
theorem dX12_prices_242 : decode cX12_prices 242 = .ok (.iload_n 1, 1) := by decide +kernel
theorem dX12_prices_243 : decode cX12_prices 243 = .ok (.iaload, 1) := by decide +kernel
theorem dX12_prices_244 : decode cX12_prices 244 = .ok (.iastore, 1) := by decide +kernel
theorem dX12_prices_245 : decode cX12_prices 245 = .ok (.aload_n 0, 1) := by decide +kernel
theorem dX12_prices_246 : decode cX12_prices 246 = .ok (.getfield 66, 3) := by decide +kernel
theorem dX12_prices_249 : decode cX12_prices 249 = .ok (.sipush 6000, 3) := by decide +kernel
theorem dX12_prices_252 : decode cX12_prices 252 = .ok (.iload_n 1, 1) := by decide +kernel
theorem dX12_prices_253 : decode cX12_prices 253 = .ok (.iadd, 1) := by decide +kernel
theorem dX12_prices_254 : decode cX12_prices 254 = .ok (.aload_n 0, 1) := by decide +kernel
theorem dX12_prices_255 : decode cX12_prices 255 = .ok (.getfield 96, 3) := by decide +kernel
theorem dX12_prices_258 : decode cX12_prices 258 = .ok (.iload_n 1, 1) := by decide +kernel
theorem dX12_prices_259 : decode cX12_prices 259 = .ok (.iaload, 1) := by decide +kernel
theorem dX12_prices_260 : decode cX12_prices 260 = .ok (.iastore, 1) := by decide +kernel
theorem dX12_prices_261 : decode cX12_prices 261 = .ok (.iinc 1 1, 3) := by decide +kernel
theorem dX12_prices_264 : decode cX12_prices 264 = .ok (.goto (-43), 3) := by decide +kernel
theorem dX12_prices_267 : decode cX12_prices 267 = .ok (.iconst 0, 1) := by decide +kernel
theorem dX12_prices_268 : decode cX12_prices 268 = .ok (.istore_n 1, 1) := by decide +kernel
theorem dX12_prices_269 : decode cX12_prices 269 = .ok (.iload_n 1, 1) := by decide +kernel
theorem dX12_prices_270 : decode cX12_prices 270 = .ok (.iconst 2, 1) := by decide +kernel
theorem dX12_prices_271 : decode cX12_prices 271 = .ok (.aload_n 0, 1) := by decide +kernel
theorem dX12_prices_272 : decode cX12_prices 272 = .ok (.getfield 327, 3) := by decide +kernel
theorem dX12_prices_275 : decode cX12_prices 275 = .ok (.imul, 1) := by decide +kernel
theorem dX12_prices_276 : decode cX12_prices 276 = .ok (.if_icmp .gt 25, 3) := by decide +kernel
theorem dX12_prices_279 : decode cX12_prices 279 = .ok (.aload_n 0, 1) := by decide +kernel
theorem dX12_prices_280 : decode cX12_prices 280 = .ok (.getfield 69, 3) := by decide +kernel
theorem dX12_prices_283 : decode cX12_prices 283 = .ok (.sipush 220, 3) := by decide +kernel
theorem dX12_prices_286 : decode cX12_prices 286 = .ok (.iload_n 1, 1) := by decide +kernel
theorem dX12_prices_287 : decode cX12_prices 287 = .ok (.iadd, 1) := by decide +kernel
theorem dX12_prices_288 : decode cX12_prices 288 = .ok (.aload_n 0, 1) := by decide +kernel
theorem dX12_prices_289 : decode cX12_prices 289 = .ok (.getfield 99, 3) := by decide +kernel
theorem dX12_prices_292 : decode cX12_prices 292 = .ok (.iload_n 1, 1) := by decide +kernel
theorem dX12_prices_293 : decode cX12_prices 293 = .ok (.iaload, 1) := by decide +kernel
theorem dX12_prices_294 : decode cX12_prices 294 = .ok (.iastore, 1) := by decide +kernel
theorem dX12_prices_295 : decode cX12_prices 295 = .ok (.iinc 1 1, 3) := by decide +kernel
theorem dX12_prices_298 : decode cX12_prices 298 = .ok (.goto (-29), 3) := by decide +kernel
theorem dX12_prices_301 : decode cX12_prices 301 = .ok (.aload_n 0, 1) := by decide +kernel
theorem dX12_prices_302 : decode cX12_prices 302 = .ok (.getfield 72, 3) := by decide +kernel
theorem dX12_prices_305 : decode cX12_prices 305 = .ok (.bipush 10, 2) := by decide +kernel
theorem dX12_prices_307 : decode cX12_prices 307 = .ok (.aload_n 0, 1) := by decide +kernel
theorem dX12_prices_308 : decode cX12_prices 308 = .ok (.getfield 327, 3) := by decide +kernel
theorem dX12_prices_311 : decode cX12_prices 311 = .ok (.iastore, 1) := by decide +kernel
theorem dX12_prices_312 : decode cX12_prices 312 = .ok (.aload_n 0, 1) := by decide +kernel
theorem dX12_prices_313 : decode cX12_prices 313 = .ok (.getfield 327, 3) := by decide +kernel
theorem dX12_prices_316 : decode cX12_prices 316 = .ok (.ireturn, 1) := by decide +kernel
theorem dX12_fault_0 : decode cX12_fault 0 = .ok (.iload_n 1, 1) := by decide +kernel
theorem dX12_fault_1 : decode cX12_fault 1 = .ok (.ifCond .ne 10, 3) := by decide +kernel
theorem dX12_fault_4 : decode cX12_fault 4 = .ok (.aload_n 0, 1) := by decide +kernel
theorem dX12_fault_5 : decode cX12_fault 5 = .ok (.getfield 250, 3) := by decide +kernel
theorem dX12_fault_8 : decode cX12_fault 8 = .ok (.goto 16, 3) := by decide +kernel
theorem dX12_fault_11 : decode cX12_fault 11 = .ok (.iload_n 1, 1) := by decide +kernel
theorem dX12_fault_12 : decode cX12_fault 12 = .ok (.iconst 1, 1) := by decide +kernel
theorem dX12_fault_13 : decode cX12_fault 13 = .ok (.if_icmp .ne 10, 3) := by decide +kernel
theorem dX12_fault_16 : decode cX12_fault 16 = .ok (.aload_n 0, 1) := by decide +kernel
theorem dX12_fault_17 : decode cX12_fault 17 = .ok (.getfield 105, 3) := by decide +kernel
theorem dX12_fault_20 : decode cX12_fault 20 = .ok (.goto 4, 3) := by decide +kernel
theorem dX12_fault_23 : decode cX12_fault 23 = .ok (.iconst (-1), 1) := by decide +kernel
theorem dX12_fault_24 : decode cX12_fault 24 = .ok (.ireturn, 1) := by decide +kernel
theorem dX12_worked_0 : decode cX12_worked 0 = .ok (.iconst 0, 1) := by decide +kernel
theorem dX12_worked_1 : decode cX12_worked 1 = .ok (.istore 4, 2) := by decide +kernel
theorem dX12_worked_3 : decode cX12_worked 3 = .ok (.sipush 600, 3) := by decide +kernel
theorem dX12_worked_6 : decode cX12_worked 6 = .ok (.iload_n 1, 1) := by decide +kernel
theorem dX12_worked_7 : decode cX12_worked 7 = .ok (.imul, 1) := by decide +kernel
theorem dX12_worked_8 : decode cX12_worked 8 = .ok (.iload_n 2, 1) := by decide +kernel
theorem dX12_worked_9 : decode cX12_worked 9 = .ok (.iadd, 1) := by decide +kernel
theorem dX12_worked_10 : decode cX12_worked 10 = .ok (.istore 5, 2) := by decide +kernel
theorem dX12_worked_12 : decode cX12_worked 12 = .ok (.iload 5, 2) := by decide +kernel
theorem dX12_worked_14 : decode cX12_worked 14 = .ok (.sipush 600, 3) := by decide +kernel
theorem dX12_worked_17 : decode cX12_worked 17 = .ok (.iload_n 1, 1) := by decide +kernel
theorem dX12_worked_18 : decode cX12_worked 18 = .ok (.imul, 1) := by decide +kernel
theorem dX12_worked_19 : decode cX12_worked 19 = .ok (.iload_n 3, 1) := by decide +kernel
theorem dX12_worked_20 : decode cX12_worked 20 = .ok (.iadd, 1) := by decide +kernel
theorem dX12_worked_21 : decode cX12_worked 21 = .ok (.if_icmp .ge 397, 3) := by decide +kernel
theorem dX12_worked_24 : decode cX12_worked 24 = .ok (.aload_n 0, 1) := by decide +kernel
theorem dX12_worked_25 : decode cX12_worked 25 = .ok (.getfield 63, 3) := by decide +kernel
theorem dX12_worked_28 : decode cX12_worked 28 = .ok (.iload 5, 2) := by decide +kernel
theorem dX12_worked_30 : decode cX12_worked 30 = .ok (.iaload, 1) := by decide +kernel
theorem dX12_worked_31 : decode cX12_worked 31 = .ok (.istore 6, 2) := by decide +kernel
theorem dX12_worked_33 : decode cX12_worked 33 = .ok (.iload 6, 2) := by decide +kernel
theorem dX12_worked_35 : decode cX12_worked 35 = .ok (.bipush 40, 2) := by decide +kernel
theorem dX12_worked_37 : decode cX12_worked 37 = .ok (.if_icmp .ge 41, 3) := by decide +kernel
theorem dX12_worked_40 : decode cX12_worked 40 = .ok (.aload_n 0, 1) := by decide +kernel
theorem dX12_worked_41 : decode cX12_worked 41 = .ok (.getfield 111, 3) := by decide +kernel
theorem dX12_worked_44 : decode cX12_worked 44 = .ok (.iload 4, 2) := by decide +kernel
theorem dX12_worked_46 : decode cX12_worked 46 = .ok (.iload 6, 2) := by decide +kernel
theorem dX12_worked_48 : decode cX12_worked 48 = .ok (.ifCond .ne 13, 3) := by decide +kernel
theorem dX12_worked_51 : decode cX12_worked 51 = .ok (.aload_n 0, 1) := by decide +kernel
theorem dX12_worked_52 : decode cX12_worked 52 = .ok (.getfield 66, 3) := by decide +kernel
theorem dX12_worked_55 : decode cX12_worked 55 = .ok (.iload 5, 2) := by decide +kernel
theorem dX12_worked_57 : decode cX12_worked 57 = .ok (.iaload, 1) := by decide +kernel
theorem dX12_worked_58 : decode cX12_worked 58 = .ok (.goto 13, 3) := by decide +kernel
theorem dX12_worked_61 : decode cX12_worked 61 = .ok (.aload_n 0, 1) := by decide +kernel
theorem dX12_worked_62 : decode cX12_worked 62 = .ok (.getfield 114, 3) := by decide +kernel
theorem dX12_worked_65 : decode cX12_worked 65 = .ok (.iload 6, 2) := by decide +kernel
theorem dX12_worked_67 : decode cX12_worked 67 = .ok (.bipush 20, 2) := by decide +kernel
theorem dX12_worked_69 : decode cX12_worked 69 = .ok (.isub, 1) := by decide +kernel
theorem dX12_worked_70 : decode cX12_worked 70 = .ok (.iaload, 1) := by decide +kernel
theorem dX12_worked_71 : decode cX12_worked 71 = .ok (.iastore, 1) := by decide +kernel
theorem dX12_worked_72 : decode cX12_worked 72 = .ok (.iinc 4 1, 3) := by decide +kernel
theorem dX12_worked_75 : decode cX12_worked 75 = .ok (.goto 337, 3) := by decide +kernel
theorem dX12_worked_78 : decode cX12_worked 78 = .ok (.iload 6, 2) := by decide +kernel
theorem dX12_worked_80 : decode cX12_worked 80 = .ok (.bipush 40, 2) := by decide +kernel
theorem dX12_worked_82 : decode cX12_worked 82 = .ok (.if_icmp .eq 10, 3) := by decide +kernel
theorem dX12_worked_85 : decode cX12_worked 85 = .ok (.iload 6, 2) := by decide +kernel
theorem dX12_worked_87 : decode cX12_worked 87 = .ok (.bipush 50, 2) := by decide +kernel
theorem dX12_worked_89 : decode cX12_worked 89 = .ok (.if_icmp .ne 52, 3) := by decide +kernel
theorem dX12_worked_92 : decode cX12_worked 92 = .ok (.aload_n 0, 1) := by decide +kernel
theorem dX12_worked_93 : decode cX12_worked 93 = .ok (.getfield 111, 3) := by decide +kernel
theorem dX12_worked_96 : decode cX12_worked 96 = .ok (.iload 4, 2) := by decide +kernel
theorem dX12_worked_98 : decode cX12_worked 98 = .ok (.iconst 1, 1) := by decide +kernel
theorem dX12_worked_99 : decode cX12_worked 99 = .ok (.isub, 1) := by decide +kernel
theorem dX12_worked_100 : decode cX12_worked 100 = .ok (.iload 6, 2) := by decide +kernel
theorem dX12_worked_102 : decode cX12_worked 102 = .ok (.bipush 50, 2) := by decide +kernel
theorem dX12_worked_104 : decode cX12_worked 104 = .ok (.if_icmp .ne 16, 3) := by decide +kernel
theorem dX12_worked_107 : decode cX12_worked 107 = .ok (.aload_n 0, 1) := by decide +kernel
theorem dX12_worked_108 : decode cX12_worked 108 = .ok (.getfield 111, 3) := by decide +kernel
theorem dX12_worked_111 : decode cX12_worked 111 = .ok (.iload 4, 2) := by decide +kernel
theorem dX12_worked_113 : decode cX12_worked 113 = .ok (.iconst 1, 1) := by decide +kernel
theorem dX12_worked_114 : decode cX12_worked 114 = .ok (.isub, 1) := by decide +kernel
theorem dX12_worked_115 : decode cX12_worked 115 = .ok (.iaload, 1) := by decide +kernel
theorem dX12_worked_116 : decode cX12_worked 116 = .ok (.ineg, 1) := by decide +kernel
