theorem i_27_87 : a_ins 27 87 = some (.iload 7, (0, 0, 0)) := by decide +kernel
theorem i_27_89 : a_ins 27 89 = some (.invokevirtual 109, (0, 16, 1)) := by decide +kernel
theorem i_27_92 : a_ins 27 92 = some (.aload_n 2, (0, 0, 0)) := by decide +kernel
theorem i_27_93 : a_ins 27 93 = some (.getfield 67, (5, 0, 515)) := by decide +kernel
theorem i_27_96 : a_ins 27 96 = some (.iload 9, (0, 0, 0)) := by decide +kernel
theorem i_27_98 : a_ins 27 98 = some (.iload 8, (0, 0, 0)) := by decide +kernel
theorem i_27_100 : a_ins 27 100 = some (.invokestatic 113, (1, 25, 5)) := by decide +kernel
theorem i_27_103 : a_ins 27 103 = some (.ifCond .eq 87, (0, 0, 0)) := by decide +kernel
theorem i_27_106 : a_ins 27 106 = some (.aload_n 2, (0, 0, 0)) := by decide +kernel
theorem i_27_107 : a_ins 27 107 = some (.getfield 67, (5, 0, 515)) := by decide +kernel
theorem i_27_110 : a_ins 27 110 = some (.iload 4, (0, 0, 0)) := by decide +kernel
theorem i_27_112 : a_ins 27 112 = some (.aload_n 0, (0, 0, 0)) := by decide +kernel
theorem i_27_113 : a_ins 27 113 = some (.getfield 39, (2, 7, 364)) := by decide +kernel
theorem i_27_116 : a_ins 27 116 = some (.iconst 0, (0, 0, 0)) := by decide +kernel
theorem i_27_117 : a_ins 27 117 = some (.iload 5, (0, 0, 0)) := by decide +kernel
theorem i_27_119 : a_ins 27 119 = some (.invokestatic 123, (7, 0, 5)) := by decide +kernel
theorem i_27_122 : a_ins 27 122 = some (.aload 6, (0, 0, 0)) := by decide +kernel
theorem i_27_124 : a_ins 27 124 = some (.getfield 106, (3, 0, 150)) := by decide +kernel
theorem i_27_127 : a_ins 27 127 = some (.aload 6, (0, 0, 0)) := by decide +kernel
theorem i_27_129 : a_ins 27 129 = some (.iload 7, (0, 0, 0)) := by decide +kernel
theorem i_27_131 : a_ins 27 131 = some (.invokevirtual 109, (0, 16, 1)) := by decide +kernel
theorem i_27_134 : a_ins 27 134 = some (.aload_n 0, (0, 0, 0)) := by decide +kernel
theorem i_27_135 : a_ins 27 135 = some (.getfield 39, (2, 7, 364)) := by decide +kernel
theorem i_27_138 : a_ins 27 138 = some (.iload 5, (0, 0, 0)) := by decide +kernel
theorem i_27_140 : a_ins 27 140 = some (.iload 8, (0, 0, 0)) := by decide +kernel
theorem i_27_142 : a_ins 27 142 = some (.isub, (0, 0, 0)) := by decide +kernel
theorem i_27_143 : a_ins 27 143 = some (.iload 8, (0, 0, 0)) := by decide +kernel
theorem i_27_145 : a_ins 27 145 = some (.invokestatic 123, (7, 0, 5)) := by decide +kernel
theorem i_27_148 : a_ins 27 148 = some (.aload_n 0, (0, 0, 0)) := by decide +kernel
theorem i_27_149 : a_ins 27 149 = some (.iload_n 1, (0, 0, 0)) := by decide +kernel
theorem i_27_150 : a_ins 27 150 = some (.aload_n 0, (0, 0, 0)) := by decide +kernel
theorem i_27_151 : a_ins 27 151 = some (.getfield 39, (2, 7, 364)) := by decide +kernel
theorem i_27_154 : a_ins 27 154 = some (.iconst 0, (0, 0, 0)) := by decide +kernel
theorem i_27_155 : a_ins 27 155 = some (.iload 5, (0, 0, 0)) := by decide +kernel
theorem i_27_157 : a_ins 27 157 = some (.invokevirtual 129, (0, 28, 4)) := by decide +kernel
theorem i_27_160 : a_ins 27 160 = some (.ifCond .eq 30, (0, 0, 0)) := by decide +kernel
theorem i_27_163 : a_ins 27 163 = some (.aload_n 0, (0, 0, 0)) := by decide +kernel
theorem i_27_164 : a_ins 27 164 = some (.iload_n 1, (0, 0, 0)) := by decide +kernel
theorem i_27_165 : a_ins 27 165 = some (.aload_n 0, (0, 0, 0)) := by decide +kernel
theorem i_27_166 : a_ins 27 166 = some (.getfield 39, (2, 7, 364)) := by decide +kernel
theorem i_27_169 : a_ins 27 169 = some (.iconst 0, (0, 0, 0)) := by decide +kernel
theorem i_27_170 : a_ins 27 170 = some (.iload 5, (0, 0, 0)) := by decide +kernel
theorem i_27_172 : a_ins 27 172 = some (.aload_n 3, (0, 0, 0)) := by decide +kernel
theorem i_27_173 : a_ins 27 173 = some (.getfield 132, (0, 7, 194)) := by decide +kernel
theorem i_27_176 : a_ins 27 176 = some (.iload 7, (0, 0, 0)) := by decide +kernel
theorem i_27_178 : a_ins 27 178 = some (.iaload, (0, 0, 0)) := by decide +kernel
theorem i_27_179 : a_ins 27 179 = some (.aload_n 3, (0, 0, 0)) := by decide +kernel
theorem i_27_180 : a_ins 27 180 = some (.getfield 135, (0, 8, 197)) := by decide +kernel
theorem i_27_183 : a_ins 27 183 = some (.iload 7, (0, 0, 0)) := by decide +kernel
theorem i_27_185 : a_ins 27 185 = some (.iaload, (0, 0, 0)) := by decide +kernel
theorem i_27_186 : a_ins 27 186 = some (.invokevirtual 76, (0, 18, 6)) := by decide +kernel
theorem i_27_189 : a_ins 27 189 = some (.pop, (0, 0, 0)) := by decide +kernel
theorem i_27_190 : a_ins 27 190 = some (.iinc 7 1, (0, 0, 0)) := by decide +kernel
theorem i_27_193 : a_ins 27 193 = some (.goto (-168), (0, 0, 0)) := by decide +kernel
theorem i_27_196 : a_ins 27 196 = some (.aload_n 0, (0, 0, 0)) := by decide +kernel
theorem i_27_197 : a_ins 27 197 = some (.iload_n 1, (0, 0, 0)) := by decide +kernel
theorem i_27_198 : a_ins 27 198 = some (.aload_n 2, (0, 0, 0)) := by decide +kernel
theorem i_27_199 : a_ins 27 199 = some (.getfield 67, (5, 0, 515)) := by decide +kernel
theorem i_27_202 : a_ins 27 202 = some (.iload 4, (0, 0, 0)) := by decide +kernel
theorem i_27_204 : a_ins 27 204 = some (.iload 5, (0, 0, 0)) := by decide +kernel
theorem i_27_206 : a_ins 27 206 = some (.invokevirtual 129, (0, 28, 4)) := by decide +kernel
theorem i_27_209 : a_ins 27 209 = some (.ifCond .eq 25, (0, 0, 0)) := by decide +kernel
theorem i_27_212 : a_ins 27 212 = some (.aload_n 0, (0, 0, 0)) := by decide +kernel
theorem i_27_213 : a_ins 27 213 = some (.iload_n 1, (0, 0, 0)) := by decide +kernel
theorem i_27_214 : a_ins 27 214 = some (.aload_n 2, (0, 0, 0)) := by decide +kernel
theorem i_27_215 : a_ins 27 215 = some (.getfield 67, (5, 0, 515)) := by decide +kernel
theorem i_27_218 : a_ins 27 218 = some (.iload 4, (0, 0, 0)) := by decide +kernel
theorem i_27_220 : a_ins 27 220 = some (.iload 5, (0, 0, 0)) := by decide +kernel
theorem i_27_222 : a_ins 27 222 = some (.aload_n 3, (0, 0, 0)) := by decide +kernel
theorem i_27_223 : a_ins 27 223 = some (.getfield 138, (0, 14, 211)) := by decide +kernel
theorem i_27_226 : a_ins 27 226 = some (.aload_n 3, (0, 0, 0)) := by decide +kernel
theorem i_27_227 : a_ins 27 227 = some (.getfield 141, (0, 15, 214)) := by decide +kernel
theorem i_27_230 : a_ins 27 230 = some (.invokevirtual 76, (0, 18, 6)) := by decide +kernel
theorem i_27_233 : a_ins 27 233 = some (.pop, (0, 0, 0)) := by decide +kernel
theorem i_27_234 : a_ins 27 234 = some (.return_, (0, 0, 0)) := by decide +kernel
theorem i_28_0 : a_ins 28 0 = some (.iload_n 1, (0, 0, 0)) := by decide +kernel
theorem i_28_1 : a_ins 28 1 = some (.bipush 12, (0, 0, 0)) := by decide +kernel
theorem i_28_3 : a_ins 28 3 = some (.imul, (0, 0, 0)) := by decide +kernel
theorem i_28_4 : a_ins 28 4 = some (.istore 5, (0, 0, 0)) := by decide +kernel
theorem i_28_6 : a_ins 28 6 = some (.iload 5, (0, 0, 0)) := by decide +kernel
theorem i_28_8 : a_ins 28 8 = some (.istore 6, (0, 0, 0)) := by decide +kernel
theorem i_28_10 : a_ins 28 10 = some (.iload 6, (0, 0, 0)) := by decide +kernel
theorem i_28_12 : a_ins 28 12 = some (.iload 5, (0, 0, 0)) := by decide +kernel
theorem i_28_14 : a_ins 28 14 = some (.aload_n 0, (0, 0, 0)) := by decide +kernel
theorem i_28_15 : a_ins 28 15 = some (.getfield 9, (2, 0, 341)) := by decide +kernel
theorem i_28_18 : a_ins 28 18 = some (.iload_n 1, (0, 0, 0)) := by decide +kernel
theorem i_28_19 : a_ins 28 19 = some (.iaload, (0, 0, 0)) := by decide +kernel
theorem i_28_20 : a_ins 28 20 = some (.iadd, (0, 0, 0)) := by decide +kernel
theorem i_28_21 : a_ins 28 21 = some (.if_icmp .ge 27, (0, 0, 0)) := by decide +kernel
theorem i_28_24 : a_ins 28 24 = some (.aload_n 0, (0, 0, 0)) := by decide +kernel
theorem i_28_25 : a_ins 28 25 = some (.getfield 23, (2, 2, 349)) := by decide +kernel
theorem i_28_28 : a_ins 28 28 = some (.iload 6, (0, 0, 0)) := by decide +kernel
theorem i_28_30 : a_ins 28 30 = some (.aload_n 2, (0, 0, 0)) := by decide +kernel
theorem i_28_31 : a_ins 28 31 = some (.iload_n 3, (0, 0, 0)) := by decide +kernel
theorem i_28_32 : a_ins 28 32 = some (.iload 4, (0, 0, 0)) := by decide +kernel
theorem i_28_34 : a_ins 28 34 = some (.invokevirtual 144, (0, 29, 4)) := by decide +kernel
theorem i_28_37 : a_ins 28 37 = some (.ifCond .eq 5, (0, 0, 0)) := by decide +kernel
theorem i_28_40 : a_ins 28 40 = some (.iconst 0, (0, 0, 0)) := by decide +kernel
theorem i_28_41 : a_ins 28 41 = some (.ireturn, (0, 0, 0)) := by decide +kernel
theorem i_28_42 : a_ins 28 42 = some (.iinc 6 1, (0, 0, 0)) := by decide +kernel
theorem i_28_45 : a_ins 28 45 = some (.goto (-35), (0, 0, 0)) := by decide +kernel
theorem i_28_48 : a_ins 28 48 = some (.iconst 1, (0, 0, 0)) := by decide +kernel
theorem i_28_49 : a_ins 28 49 = some (.ireturn, (0, 0, 0)) := by decide +kernel
theorem i_29_0 : a_ins 29 0 = some (.aload_n 0, (0, 0, 0)) := by decide +kernel
theorem i_29_1 : a_ins 29 1 = some (.getfield 19, (3, 1, 151)) := by decide +kernel
theorem i_29_4 : a_ins 29 4 = some (.iload_n 1, (0, 0, 0)) := by decide +kernel
theorem i_29_5 : a_ins 29 5 = some (.iaload, (0, 0, 0)) := by decide +kernel
theorem i_29_6 : a_ins 29 6 = some (.iload 4, (0, 0, 0)) := by decide +kernel
theorem i_29_8 : a_ins 29 8 = some (.if_icmp .ne 26, (0, 0, 0)) := by decide +kernel
theorem i_29_11 : a_ins 29 11 = some (.aload_n 0, (0, 0, 0)) := by decide +kernel
theorem i_29_12 : a_ins 29 12 = some (.getfield 15, (3, 0, 149)) := by decide +kernel
theorem i_29_15 : a_ins 29 15 = some (.aload_n 0, (0, 0, 0)) := by decide +kernel
theorem i_29_16 : a_ins 29 16 = some (.iload_n 1, (0, 0, 0)) := by decide +kernel
theorem i_29_17 : a_ins 29 17 = some (.invokevirtual 33, (0, 16, 1)) := by decide +kernel
theorem i_29_20 : a_ins 29 20 = some (.aload_n 2, (0, 0, 0)) := by decide +kernel
theorem i_29_21 : a_ins 29 21 = some (.iload_n 3, (0, 0, 0)) := by decide +kernel
theorem i_29_22 : a_ins 29 22 = some (.iload 4, (0, 0, 0)) := by decide +kernel
theorem i_29_24 : a_ins 29 24 = some (.invokestatic 37, (1, 30, 5)) := by decide +kernel
theorem i_29_27 : a_ins 29 27 = some (.ifCond .eq 7, (0, 0, 0)) := by decide +kernel
theorem i_29_30 : a_ins 29 30 = some (.iconst 1, (0, 0, 0)) := by decide +kernel
theorem i_29_31 : a_ins 29 31 = some (.goto 4, (0, 0, 0)) := by decide +kernel
theorem i_29_34 : a_ins 29 34 = some (.iconst 0, (0, 0, 0)) := by decide +kernel
theorem i_29_35 : a_ins 29 35 = some (.ireturn, (0, 0, 0)) := by decide +kernel
theorem i_30_0 : a_ins 30 0 = some (.iconst 0, (0, 0, 0)) := by decide +kernel
theorem i_30_1 : a_ins 30 1 = some (.istore 5, (0, 0, 0)) := by decide +kernel
theorem i_30_3 : a_ins 30 3 = some (.iload 5, (0, 0, 0)) := by decide +kernel
theorem i_30_5 : a_ins 30 5 = some (.iload 4, (0, 0, 0)) := by decide +kernel
theorem i_30_7 : a_ins 30 7 = some (.if_icmp .ge 26, (0, 0, 0)) := by decide +kernel
theorem i_30_10 : a_ins 30 10 = some (.aload_n 0, (0, 0, 0)) := by decide +kernel
theorem i_30_11 : a_ins 30 11 = some (.iload_n 1, (0, 0, 0)) := by decide +kernel
theorem i_30_12 : a_ins 30 12 = some (.iload 5, (0, 0, 0)) := by decide +kernel
theorem i_30_14 : a_ins 30 14 = some (.iadd, (0, 0, 0)) := by decide +kernel
theorem i_30_15 : a_ins 30 15 = some (.caload, (0, 0, 0)) := by decide +kernel
theorem i_30_16 : a_ins 30 16 = some (.aload_n 2, (0, 0, 0)) := by decide +kernel
theorem i_30_17 : a_ins 30 17 = some (.iload_n 3, (0, 0, 0)) := by decide +kernel
theorem i_30_18 : a_ins 30 18 = some (.iload 5, (0, 0, 0)) := by decide +kernel
theorem i_30_20 : a_ins 30 20 = some (.iadd, (0, 0, 0)) := by decide +kernel
theorem i_30_21 : a_ins 30 21 = some (.caload, (0, 0, 0)) := by decide +kernel
theorem i_30_22 : a_ins 30 22 = some (.if_icmp .eq 5, (0, 0, 0)) := by decide +kernel
theorem i_30_25 : a_ins 30 25 = some (.iconst 0, (0, 0, 0)) := by decide +kernel
theorem i_30_26 : a_ins 30 26 = some (.ireturn, (0, 0, 0)) := by decide +kernel
theorem i_30_27 : a_ins 30 27 = some (.iinc 5 1, (0, 0, 0)) := by decide +kernel
theorem i_30_30 : a_ins 30 30 = some (.goto (-27), (0, 0, 0)) := by decide +kernel
theorem i_30_33 : a_ins 30 33 = some (.iconst 1, (0, 0, 0)) := by decide +kernel
theorem i_30_34 : a_ins 30 34 = some (.ireturn, (0, 0, 0)) := by decide +kernel
theorem i_31_0 : a_ins 31 0 = some (.iload_n 1, (0, 0, 0)) := by decide +kernel
theorem i_31_1 : a_ins 31 1 = some (.bipush 12, (0, 0, 0)) := by decide +kernel
theorem i_31_3 : a_ins 31 3 = some (.imul, (0, 0, 0)) := by decide +kernel
theorem i_31_4 : a_ins 31 4 = some (.istore_n 2, (0, 0, 0)) := by decide +kernel
theorem i_31_5 : a_ins 31 5 = some (.iload_n 2, (0, 0, 0)) := by decide +kernel
theorem i_31_6 : a_ins 31 6 = some (.istore_n 3, (0, 0, 0)) := by decide +kernel
theorem i_31_7 : a_ins 31 7 = some (.iload_n 3, (0, 0, 0)) := by decide +kernel
theorem i_31_8 : a_ins 31 8 = some (.iload_n 2, (0, 0, 0)) := by decide +kernel
theorem i_31_9 : a_ins 31 9 = some (.aload_n 0, (0, 0, 0)) := by decide +kernel
theorem i_31_10 : a_ins 31 10 = some (.getfield 9, (2, 0, 341)) := by decide +kernel
theorem i_31_13 : a_ins 31 13 = some (.iload_n 1, (0, 0, 0)) := by decide +kernel
theorem i_31_14 : a_ins 31 14 = some (.iaload, (0, 0, 0)) := by decide +kernel
theorem i_31_15 : a_ins 31 15 = some (.iadd, (0, 0, 0)) := by decide +kernel
theorem i_31_16 : a_ins 31 16 = some (.if_icmp .ge 95, (0, 0, 0)) := by decide +kernel
theorem i_31_19 : a_ins 31 19 = some (.iconst 0, (0, 0, 0)) := by decide +kernel
theorem i_31_20 : a_ins 31 20 = some (.istore 4, (0, 0, 0)) := by decide +kernel
theorem i_31_22 : a_ins 31 22 = some (.iconst 0, (0, 0, 0)) := by decide +kernel
theorem i_31_23 : a_ins 31 23 = some (.istore 5, (0, 0, 0)) := by decide +kernel
theorem i_31_25 : a_ins 31 25 = some (.iconst 0, (0, 0, 0)) := by decide +kernel
theorem i_31_26 : a_ins 31 26 = some (.istore 6, (0, 0, 0)) := by decide +kernel
theorem i_31_28 : a_ins 31 28 = some (.iload 6, (0, 0, 0)) := by decide +kernel
theorem i_31_30 : a_ins 31 30 = some (.aload_n 0, (0, 0, 0)) := by decide +kernel
theorem i_31_31 : a_ins 31 31 = some (.getfield 23, (2, 2, 349)) := by decide +kernel
theorem i_31_34 : a_ins 31 34 = some (.getfield 122, (3, 1, 152)) := by decide +kernel
theorem i_31_37 : a_ins 31 37 = some (.iload_n 3, (0, 0, 0)) := by decide +kernel
theorem i_31_38 : a_ins 31 38 = some (.iaload, (0, 0, 0)) := by decide +kernel
theorem i_31_39 : a_ins 31 39 = some (.if_icmp .ge 50, (0, 0, 0)) := by decide +kernel
theorem i_31_42 : a_ins 31 42 = some (.aload_n 0, (0, 0, 0)) := by decide +kernel
theorem i_31_43 : a_ins 31 43 = some (.getfield 23, (2, 2, 349)) := by decide +kernel
theorem i_31_46 : a_ins 31 46 = some (.iload_n 3, (0, 0, 0)) := by decide +kernel
theorem i_31_47 : a_ins 31 47 = some (.iload 6, (0, 0, 0)) := by decide +kernel
theorem i_31_49 : a_ins 31 49 = some (.invokevirtual 155, (0, 32, 2)) := by decide +kernel
theorem i_31_52 : a_ins 31 52 = some (.istore 7, (0, 0, 0)) := by decide +kernel
theorem i_31_54 : a_ins 31 54 = some (.iload 7, (0, 0, 0)) := by decide +kernel
theorem i_31_56 : a_ins 31 56 = some (.invokestatic 159, (1, 33, 1)) := by decide +kernel
theorem i_31_59 : a_ins 31 59 = some (.ifCond .eq 24, (0, 0, 0)) := by decide +kernel
theorem i_31_62 : a_ins 31 62 = some (.iinc 4 1, (0, 0, 0)) := by decide +kernel
theorem i_31_65 : a_ins 31 65 = some (.iload 5, (0, 0, 0)) := by decide +kernel
theorem i_31_67 : a_ins 31 67 = some (.iload 7, (0, 0, 0)) := by decide +kernel
theorem i_31_69 : a_ins 31 69 = some (.invokestatic 163, (1, 26, 1)) := by decide +kernel
theorem i_31_72 : a_ins 31 72 = some (.ifCond .eq 7, (0, 0, 0)) := by decide +kernel
theorem i_31_75 : a_ins 31 75 = some (.iconst 1, (0, 0, 0)) := by decide +kernel
theorem i_31_76 : a_ins 31 76 = some (.goto 4, (0, 0, 0)) := by decide +kernel
theorem i_31_79 : a_ins 31 79 = some (.iconst 0, (0, 0, 0)) := by decide +kernel
theorem i_31_80 : a_ins 31 80 = some (.iadd, (0, 0, 0)) := by decide +kernel
theorem i_31_81 : a_ins 31 81 = some (.istore 5, (0, 0, 0)) := by decide +kernel
theorem i_31_83 : a_ins 31 83 = some (.iinc 6 1, (0, 0, 0)) := by decide +kernel
theorem i_31_86 : a_ins 31 86 = some (.goto (-58), (0, 0, 0)) := by decide +kernel
theorem i_31_89 : a_ins 31 89 = some (.aload_n 0, (0, 0, 0)) := by decide +kernel
theorem i_31_90 : a_ins 31 90 = some (.getfield 15, (2, 1, 346)) := by decide +kernel
theorem i_31_93 : a_ins 31 93 = some (.iload_n 1, (0, 0, 0)) := by decide +kernel
theorem i_31_94 : a_ins 31 94 = some (.iload 4, (0, 0, 0)) := by decide +kernel
theorem i_31_96 : a_ins 31 96 = some (.iastore, (0, 0, 0)) := by decide +kernel
theorem i_31_97 : a_ins 31 97 = some (.aload_n 0, (0, 0, 0)) := by decide +kernel
theorem i_31_98 : a_ins 31 98 = some (.getfield 33, (2, 5, 359)) := by decide +kernel
theorem i_31_101 : a_ins 31 101 = some (.iload_n 3, (0, 0, 0)) := by decide +kernel
theorem i_31_102 : a_ins 31 102 = some (.iload 5, (0, 0, 0)) := by decide +kernel
theorem i_31_104 : a_ins 31 104 = some (.iastore, (0, 0, 0)) := by decide +kernel
theorem i_31_105 : a_ins 31 105 = some (.iinc 3 1, (0, 0, 0)) := by decide +kernel
theorem i_31_108 : a_ins 31 108 = some (.goto (-101), (0, 0, 0)) := by decide +kernel
theorem i_31_111 : a_ins 31 111 = some (.return_, (0, 0, 0)) := by decide +kernel
theorem i_32_0 : a_ins 32 0 = some (.aload_n 0, (0, 0, 0)) := by decide +kernel
theorem i_32_1 : a_ins 32 1 = some (.getfield 15, (3, 0, 149)) := by decide +kernel
theorem i_32_4 : a_ins 32 4 = some (.aload_n 0, (0, 0, 0)) := by decide +kernel
theorem i_32_5 : a_ins 32 5 = some (.iload_n 1, (0, 0, 0)) := by decide +kernel
theorem i_32_6 : a_ins 32 6 = some (.invokevirtual 33, (0, 16, 1)) := by decide +kernel
theorem i_32_9 : a_ins 32 9 = some (.iload_n 2, (0, 0, 0)) := by decide +kernel
theorem i_32_10 : a_ins 32 10 = some (.iadd, (0, 0, 0)) := by decide +kernel
theorem i_32_11 : a_ins 32 11 = some (.caload, (0, 0, 0)) := by decide +kernel
theorem i_32_12 : a_ins 32 12 = some (.ireturn, (0, 0, 0)) := by decide +kernel
theorem i_33_0 : a_ins 33 0 = some (.ldc 9, (1, 0, 638)) := by decide +kernel
theorem i_33_2 : a_ins 33 2 = some (.iload_n 0, (0, 0, 0)) := by decide +kernel
theorem i_33_3 : a_ins 33 3 = some (.invokevirtual 11, (0, 219, 1)) := by decide +kernel
theorem i_33_6 : a_ins 33 6 = some (.ifCond .lt 7, (0, 0, 0)) := by decide +kernel
theorem i_33_9 : a_ins 33 9 = some (.iconst 1, (0, 0, 0)) := by decide +kernel
theorem i_33_10 : a_ins 33 10 = some (.goto 4, (0, 0, 0)) := by decide +kernel
theorem i_33_13 : a_ins 33 13 = some (.iconst 0, (0, 0, 0)) := by decide +kernel
theorem i_33_14 : a_ins 33 14 = some (.ireturn, (0, 0, 0)) := by decide +kernel
theorem i_34_0 : a_ins 34 0 = some (.aload_n 0, (0, 0, 0)) := by decide +kernel
theorem i_34_1 : a_ins 34 1 = some (.aload_n 1, (0, 0, 0)) := by decide +kernel
theorem i_34_2 : a_ins 34 2 = some (.putfield 29, (6, 8, 477)) := by decide +kernel
theorem i_34_5 : a_ins 34 5 = some (.aload_n 0, (0, 0, 0)) := by decide +kernel
theorem i_34_6 : a_ins 34 6 = some (.iload_n 2, (0, 0, 0)) := by decide +kernel
theorem i_34_7 : a_ins 34 7 = some (.putfield 32, (6, 9, 478)) := by decide +kernel
theorem i_34_10 : a_ins 34 10 = some (.aload_n 0, (0, 0, 0)) := by decide +kernel
theorem i_34_11 : a_ins 34 11 = some (.iconst 0, (0, 0, 0)) := by decide +kernel
theorem i_34_12 : a_ins 34 12 = some (.putfield 35, (6, 10, 479)) := by decide +kernel
theorem i_34_15 : a_ins 34 15 = some (.return_, (0, 0, 0)) := by decide +kernel
theorem i_35_0 : a_ins 35 0 = some (.aload_n 0, (0, 0, 0)) := by decide +kernel
theorem i_35_1 : a_ins 35 1 = some (.getfield 45, (10, 5, 733)) := by decide +kernel
theorem i_35_4 : a_ins 35 4 = some (.bipush 20, (0, 0, 0)) := by decide +kernel
theorem i_35_6 : a_ins 35 6 = some (.iadd, (0, 0, 0)) := by decide +kernel
theorem i_35_7 : a_ins 35 7 = some (.sipush 2000, (0, 0, 0)) := by decide +kernel
theorem i_35_10 : a_ins 35 10 = some (.if_icmp .le 5, (0, 0, 0)) := by decide +kernel
theorem i_35_13 : a_ins 35 13 = some (.iconst (-1), (0, 0, 0)) := by decide +kernel
theorem i_35_14 : a_ins 35 14 = some (.ireturn, (0, 0, 0)) := by decide +kernel
theorem i_35_15 : a_ins 35 15 = some (.aload_n 0, (0, 0, 0)) := by decide +kernel
theorem i_35_16 : a_ins 35 16 = some (.iload_n 1, (0, 0, 0)) := by decide +kernel
theorem i_35_17 : a_ins 35 17 = some (.invokevirtual 78, (0, 36, 1)) := by decide +kernel
theorem i_35_20 : a_ins 35 20 = some (.aload_n 0, (0, 0, 0)) := by decide +kernel
theorem i_35_21 : a_ins 35 21 = some (.iload_n 2, (0, 0, 0)) := by decide +kernel
theorem i_35_22 : a_ins 35 22 = some (.invokevirtual 78, (0, 36, 1)) := by decide +kernel
theorem i_35_25 : a_ins 35 25 = some (.aload_n 0, (0, 0, 0)) := by decide +kernel
theorem i_35_26 : a_ins 35 26 = some (.iload_n 3, (0, 0, 0)) := by decide +kernel
theorem i_35_27 : a_ins 35 27 = some (.invokevirtual 78, (0, 36, 1)) := by decide +kernel
theorem i_35_30 : a_ins 35 30 = some (.aload_n 0, (0, 0, 0)) := by decide +kernel
theorem i_35_31 : a_ins 35 31 = some (.iload 4, (0, 0, 0)) := by decide +kernel
theorem i_35_33 : a_ins 35 33 = some (.invokevirtual 78, (0, 36, 1)) := by decide +kernel
theorem i_35_36 : a_ins 35 36 = some (.aload_n 0, (0, 0, 0)) := by decide +kernel
theorem i_35_37 : a_ins 35 37 = some (.iload 5, (0, 0, 0)) := by decide +kernel
theorem i_35_39 : a_ins 35 39 = some (.invokevirtual 78, (0, 36, 1)) := by decide +kernel
theorem i_35_42 : a_ins 35 42 = some (.aload_n 0, (0, 0, 0)) := by decide +kernel
theorem i_35_43 : a_ins 35 43 = some (.getfield 45, (10, 5, 733)) := by decide +kernel
theorem i_35_46 : a_ins 35 46 = some (.ireturn, (0, 0, 0)) := by decide +kernel
theorem i_36_0 : a_ins 36 0 = some (.bipush 24, (0, 0, 0)) := by decide +kernel
theorem i_36_2 : a_ins 36 2 = some (.istore_n 2, (0, 0, 0)) := by decide +kernel
theorem i_36_3 : a_ins 36 3 = some (.iload_n 2, (0, 0, 0)) := by decide +kernel
theorem i_36_4 : a_ins 36 4 = some (.ifCond .lt 46, (0, 0, 0)) := by decide +kernel
theorem i_36_7 : a_ins 36 7 = some (.aload_n 0, (0, 0, 0)) := by decide +kernel
theorem i_36_8 : a_ins 36 8 = some (.getfield 45, (10, 5, 733)) := by decide +kernel
theorem i_36_11 : a_ins 36 11 = some (.sipush 2000, (0, 0, 0)) := by decide +kernel
theorem i_36_14 : a_ins 36 14 = some (.if_icmp .ge 36, (0, 0, 0)) := by decide +kernel
theorem i_36_17 : a_ins 36 17 = some (.aload_n 0, (0, 0, 0)) := by decide +kernel
theorem i_36_18 : a_ins 36 18 = some (.getfield 9, (10, 0, 728)) := by decide +kernel
theorem i_36_21 : a_ins 36 21 = some (.aload_n 0, (0, 0, 0)) := by decide +kernel
theorem i_36_22 : a_ins 36 22 = some (.getfield 45, (10, 5, 733)) := by decide +kernel
theorem i_36_25 : a_ins 36 25 = some (.iload_n 1, (0, 0, 0)) := by decide +kernel
theorem i_36_26 : a_ins 36 26 = some (.iload_n 2, (0, 0, 0)) := by decide +kernel
theorem i_36_27 : a_ins 36 27 = some (.iushr, (0, 0, 0)) := by decide +kernel
theorem i_36_28 : a_ins 36 28 = some (.sipush 255, (0, 0, 0)) := by decide +kernel
theorem i_36_31 : a_ins 36 31 = some (.iand, (0, 0, 0)) := by decide +kernel
theorem i_36_32 : a_ins 36 32 = some (.i2c, (0, 0, 0)) := by decide +kernel
theorem i_36_33 : a_ins 36 33 = some (.castore, (0, 0, 0)) := by decide +kernel
theorem i_36_34 : a_ins 36 34 = some (.aload_n 0, (0, 0, 0)) := by decide +kernel
theorem i_36_35 : a_ins 36 35 = some (.dup, (0, 0, 0)) := by decide +kernel
theorem i_36_36 : a_ins 36 36 = some (.getfield 45, (10, 5, 733)) := by decide +kernel
theorem i_36_39 : a_ins 36 39 = some (.iconst 1, (0, 0, 0)) := by decide +kernel
theorem i_36_40 : a_ins 36 40 = some (.iadd, (0, 0, 0)) := by decide +kernel
theorem i_36_41 : a_ins 36 41 = some (.putfield 45, (10, 5, 733)) := by decide +kernel
theorem i_36_44 : a_ins 36 44 = some (.iinc 2 (-8), (0, 0, 0)) := by decide +kernel
theorem i_36_47 : a_ins 36 47 = some (.goto (-44), (0, 0, 0)) := by decide +kernel
theorem i_36_50 : a_ins 36 50 = some (.return_, (0, 0, 0)) := by decide +kernel
theorem i_37_0 : a_ins 37 0 = some (.iload_n 1, (0, 0, 0)) := by decide +kernel
theorem i_37_1 : a_ins 37 1 = some (.ifCond .lt 11, (0, 0, 0)) := by decide +kernel
theorem i_37_4 : a_ins 37 4 = some (.iload_n 1, (0, 0, 0)) := by decide +kernel
theorem i_37_5 : a_ins 37 5 = some (.aload_n 0, (0, 0, 0)) := by decide +kernel
theorem i_37_6 : a_ins 37 6 = some (.getfield 45, (10, 5, 733)) := by decide +kernel
theorem i_37_9 : a_ins 37 9 = some (.if_icmp .le 5, (0, 0, 0)) := by decide +kernel
theorem i_37_12 : a_ins 37 12 = some (.iconst (-1), (0, 0, 0)) := by decide +kernel
theorem i_37_13 : a_ins 37 13 = some (.ireturn, (0, 0, 0)) := by decide +kernel
theorem i_37_14 : a_ins 37 14 = some (.aload_n 0, (0, 0, 0)) := by decide +kernel
theorem i_37_15 : a_ins 37 15 = some (.iload_n 1, (0, 0, 0)) := by decide +kernel
theorem i_37_16 : a_ins 37 16 = some (.putfield 45, (10, 5, 733)) := by decide +kernel
theorem i_37_19 : a_ins 37 19 = some (.iload_n 1, (0, 0, 0)) := by decide +kernel
theorem i_37_20 : a_ins 37 20 = some (.ireturn, (0, 0, 0)) := by decide +kernel
theorem i_38_0 : a_ins 38 0 = some (.aload_n 0, (0, 0, 0)) := by decide +kernel
theorem i_38_1 : a_ins 38 1 = some (.getfield 18, (10, 1, 729)) := by decide +kernel
theorem i_38_4 : a_ins 38 4 = some (.aload_n 0, (0, 0, 0)) := by decide +kernel
theorem i_38_5 : a_ins 38 5 = some (.getfield 45, (10, 5, 733)) := by decide +kernel
theorem i_38_8 : a_ins 38 8 = some (.invokevirtual 82, (0, 39, 1)) := by decide +kernel
theorem i_38_11 : a_ins 38 11 = some (.istore_n 1, (0, 0, 0)) := by decide +kernel
theorem i_38_12 : a_ins 38 12 = some (.aload_n 0, (0, 0, 0)) := by decide +kernel
theorem i_38_13 : a_ins 38 13 = some (.aload_n 0, (0, 0, 0)) := by decide +kernel
theorem i_38_14 : a_ins 38 14 = some (.getfield 18, (10, 1, 729)) := by decide +kernel
theorem i_38_17 : a_ins 38 17 = some (.getfield 86, (1, 0, 278)) := by decide +kernel
theorem i_38_20 : a_ins 38 20 = some (.putfield 66, (10, 9, 737)) := by decide +kernel
theorem i_38_23 : a_ins 38 23 = some (.aload_n 0, (0, 0, 0)) := by decide +kernel
theorem i_38_24 : a_ins 38 24 = some (.aload_n 0, (0, 0, 0)) := by decide +kernel
theorem i_38_25 : a_ins 38 25 = some (.getfield 18, (10, 1, 729)) := by decide +kernel
theorem i_38_28 : a_ins 38 28 = some (.getfield 89, (1, 1, 280)) := by decide +kernel
theorem i_38_31 : a_ins 38 31 = some (.putfield 69, (10, 10, 738)) := by decide +kernel
theorem i_38_34 : a_ins 38 34 = some (.iload_n 1, (0, 0, 0)) := by decide +kernel
theorem i_38_35 : a_ins 38 35 = some (.ifCond .ne 5, (0, 0, 0)) := by decide +kernel
theorem i_38_38 : a_ins 38 38 = some (.iconst (-1), (0, 0, 0)) := by decide +kernel
theorem i_38_39 : a_ins 38 39 = some (.ireturn, (0, 0, 0)) := by decide +kernel
theorem i_38_40 : a_ins 38 40 = some (.aload_n 0, (0, 0, 0)) := by decide +kernel
theorem i_38_41 : a_ins 38 41 = some (.getfield 52, (10, 6, 734)) := by decide +kernel
theorem i_38_44 : a_ins 38 44 = some (.astore_n 2, (0, 0, 0)) := by decide +kernel
theorem i_38_45 : a_ins 38 45 = some (.aload_n 0, (0, 0, 0)) := by decide +kernel
theorem i_38_46 : a_ins 38 46 = some (.aload_n 0, (0, 0, 0)) := by decide +kernel
theorem i_38_47 : a_ins 38 47 = some (.getfield 18, (10, 1, 729)) := by decide +kernel
theorem i_38_50 : a_ins 38 50 = some (.getfield 90, (1, 2, 282)) := by decide +kernel
theorem i_38_53 : a_ins 38 53 = some (.putfield 52, (10, 6, 734)) := by decide +kernel
theorem i_38_56 : a_ins 38 56 = some (.aload_n 0, (0, 0, 0)) := by decide +kernel
theorem i_38_57 : a_ins 38 57 = some (.getfield 18, (10, 1, 729)) := by decide +kernel
theorem i_38_60 : a_ins 38 60 = some (.aload_n 2, (0, 0, 0)) := by decide +kernel
theorem i_38_61 : a_ins 38 61 = some (.putfield 90, (1, 2, 282)) := by decide +kernel
theorem i_38_64 : a_ins 38 64 = some (.aload_n 0, (0, 0, 0)) := by decide +kernel
theorem i_38_65 : a_ins 38 65 = some (.iconst 0, (0, 0, 0)) := by decide +kernel
theorem i_38_66 : a_ins 38 66 = some (.putfield 45, (10, 5, 733)) := by decide +kernel
theorem i_38_69 : a_ins 38 69 = some (.aload_n 0, (0, 0, 0)) := by decide +kernel
theorem i_38_70 : a_ins 38 70 = some (.getfield 59, (10, 7, 735)) := by decide +kernel
theorem i_38_73 : a_ins 38 73 = some (.invokevirtual 91, (0, 66, 0)) := by decide +kernel
theorem i_38_76 : a_ins 38 76 = some (.aload_n 0, (0, 0, 0)) := by decide +kernel
theorem i_38_77 : a_ins 38 77 = some (.getfield 25, (10, 2, 730)) := by decide +kernel
theorem i_38_80 : a_ins 38 80 = some (.invokevirtual 94, (0, 67, 0)) := by decide +kernel
theorem i_38_83 : a_ins 38 83 = some (.aload_n 0, (0, 0, 0)) := by decide +kernel
theorem i_38_84 : a_ins 38 84 = some (.invokevirtual 75, (0, 12, 0)) := by decide +kernel
theorem i_38_87 : a_ins 38 87 = some (.aload_n 0, (0, 0, 0)) := by decide +kernel
theorem i_38_88 : a_ins 38 88 = some (.getfield 52, (10, 6, 734)) := by decide +kernel
theorem i_38_91 : a_ins 38 91 = some (.getfield 95, (0, 0, 170)) := by decide +kernel
theorem i_38_94 : a_ins 38 94 = some (.getfield 99, (3, 2, 157)) := by decide +kernel
theorem i_38_97 : a_ins 38 97 = some (.ireturn, (0, 0, 0)) := by decide +kernel
theorem i_39_0 : a_ins 39 0 = some (.aload_n 0, (0, 0, 0)) := by decide +kernel
theorem i_39_1 : a_ins 39 1 = some (.getfield 21, (1, 2, 281)) := by decide +kernel
theorem i_39_4 : a_ins 39 4 = some (.invokevirtual 51, (0, 40, 0)) := by decide +kernel
theorem i_39_7 : a_ins 39 7 = some (.aload_n 0, (0, 0, 0)) := by decide +kernel
theorem i_39_8 : a_ins 39 8 = some (.getfield 28, (1, 4, 284)) := by decide +kernel
theorem i_39_11 : a_ins 39 11 = some (.aload_n 0, (0, 0, 0)) := by decide +kernel
theorem i_39_12 : a_ins 39 12 = some (.getfield 47, (1, 3, 283)) := by decide +kernel
theorem i_39_15 : a_ins 39 15 = some (.iload_n 1, (0, 0, 0)) := by decide +kernel
theorem i_39_16 : a_ins 39 16 = some (.invokevirtual 54, (0, 42, 2)) := by decide +kernel
theorem i_39_19 : a_ins 39 19 = some (.aload_n 0, (0, 0, 0)) := by decide +kernel
theorem i_39_20 : a_ins 39 20 = some (.iconst 0, (0, 0, 0)) := by decide +kernel
theorem i_39_21 : a_ins 39 21 = some (.putfield 9, (1, 0, 277)) := by decide +kernel
theorem i_39_24 : a_ins 39 24 = some (.aload_n 0, (0, 0, 0)) := by decide +kernel
theorem i_39_25 : a_ins 39 25 = some (.iconst (-1), (0, 0, 0)) := by decide +kernel
theorem i_39_26 : a_ins 39 26 = some (.putfield 15, (1, 1, 279)) := by decide +kernel
theorem i_39_29 : a_ins 39 29 = some (.aload_n 0, (0, 0, 0)) := by decide +kernel
theorem i_39_30 : a_ins 39 30 = some (.iconst 0, (0, 0, 0)) := by decide +kernel
theorem i_39_31 : a_ins 39 31 = some (.putfield 32, (1, 5, 285)) := by decide +kernel
theorem i_39_34 : a_ins 39 34 = some (.iconst 0, (0, 0, 0)) := by decide +kernel
theorem i_39_35 : a_ins 39 35 = some (.istore_n 2, (0, 0, 0)) := by decide +kernel
theorem i_39_36 : a_ins 39 36 = some (.iload_n 2, (0, 0, 0)) := by decide +kernel
theorem i_39_37 : a_ins 39 37 = some (.aload_n 0, (0, 0, 0)) := by decide +kernel
theorem i_39_38 : a_ins 39 38 = some (.getfield 28, (1, 4, 284)) := by decide +kernel
theorem i_39_41 : a_ins 39 41 = some (.getfield 58, (8, 4, 265)) := by decide +kernel
theorem i_39_44 : a_ins 39 44 = some (.if_icmp .ge 32, (0, 0, 0)) := by decide +kernel
theorem i_39_47 : a_ins 39 47 = some (.aload_n 0, (0, 0, 0)) := by decide +kernel
theorem i_39_48 : a_ins 39 48 = some (.invokevirtual 61, (0, 48, 0)) := by decide +kernel
theorem i_39_51 : a_ins 39 51 = some (.aload_n 0, (0, 0, 0)) := by decide +kernel
theorem i_39_52 : a_ins 39 52 = some (.getfield 35, (1, 6, 286)) := by decide +kernel
theorem i_39_55 : a_ins 39 55 = some (.iconst 3, (0, 0, 0)) := by decide +kernel
theorem i_39_56 : a_ins 39 56 = some (.if_icmp .ne 5, (0, 0, 0)) := by decide +kernel
theorem i_39_59 : a_ins 39 59 = some (.iconst 1, (0, 0, 0)) := by decide +kernel
theorem i_39_60 : a_ins 39 60 = some (.ireturn, (0, 0, 0)) := by decide +kernel
theorem i_39_61 : a_ins 39 61 = some (.aload_n 0, (0, 0, 0)) := by decide +kernel
theorem i_39_62 : a_ins 39 62 = some (.invokevirtual 64, (0, 49, 0)) := by decide +kernel
theorem i_39_65 : a_ins 39 65 = some (.ifCond .ne 5, (0, 0, 0)) := by decide +kernel
theorem i_39_68 : a_ins 39 68 = some (.iconst 0, (0, 0, 0)) := by decide +kernel
theorem i_39_69 : a_ins 39 69 = some (.ireturn, (0, 0, 0)) := by decide +kernel
theorem i_39_70 : a_ins 39 70 = some (.iinc 2 1, (0, 0, 0)) := by decide +kernel
theorem i_39_73 : a_ins 39 73 = some (.goto (-37), (0, 0, 0)) := by decide +kernel
theorem i_39_76 : a_ins 39 76 = some (.iconst 1, (0, 0, 0)) := by decide +kernel
theorem i_39_77 : a_ins 39 77 = some (.ireturn, (0, 0, 0)) := by decide +kernel
theorem i_40_0 : a_ins 40 0 = some (.aload_n 0, (0, 0, 0)) := by decide +kernel
theorem i_40_1 : a_ins 40 1 = some (.getfield 14, (0, 0, 168)) := by decide +kernel
theorem i_40_4 : a_ins 40 4 = some (.iconst 0, (0, 0, 0)) := by decide +kernel
theorem i_40_5 : a_ins 40 5 = some (.putfield 69, (3, 2, 155)) := by decide +kernel
theorem i_40_8 : a_ins 40 8 = some (.aload_n 0, (0, 0, 0)) := by decide +kernel
theorem i_40_9 : a_ins 40 9 = some (.getfield 36, (0, 6, 188)) := by decide +kernel
theorem i_40_12 : a_ins 40 12 = some (.iconst 0, (0, 0, 0)) := by decide +kernel
theorem i_40_13 : a_ins 40 13 = some (.putfield 69, (3, 2, 155)) := by decide +kernel
theorem i_40_16 : a_ins 40 16 = some (.aload_n 0, (0, 0, 0)) := by decide +kernel
theorem i_40_17 : a_ins 40 17 = some (.getfield 45, (0, 9, 198)) := by decide +kernel
theorem i_40_20 : a_ins 40 20 = some (.iconst 0, (0, 0, 0)) := by decide +kernel
theorem i_40_21 : a_ins 40 21 = some (.putfield 69, (3, 2, 155)) := by decide +kernel
theorem i_40_24 : a_ins 40 24 = some (.aload_n 0, (0, 0, 0)) := by decide +kernel
theorem i_40_25 : a_ins 40 25 = some (.iconst 0, (0, 0, 0)) := by decide +kernel
theorem i_40_26 : a_ins 40 26 = some (.putfield 55, (0, 12, 205)) := by decide +kernel
theorem i_40_29 : a_ins 40 29 = some (.aload_n 0, (0, 0, 0)) := by decide +kernel
theorem i_40_30 : a_ins 40 30 = some (.getfield 48, (0, 10, 201)) := by decide +kernel
theorem i_40_33 : a_ins 40 33 = some (.iconst 0, (0, 0, 0)) := by decide +kernel
theorem i_40_34 : a_ins 40 34 = some (.invokestatic 72, (1, 41, 2)) := by decide +kernel
theorem i_40_37 : a_ins 40 37 = some (.iconst 0, (0, 0, 0)) := by decide +kernel
theorem i_40_38 : a_ins 40 38 = some (.istore_n 1, (0, 0, 0)) := by decide +kernel
theorem i_40_39 : a_ins 40 39 = some (.iload_n 1, (0, 0, 0)) := by decide +kernel
theorem i_40_40 : a_ins 40 40 = some (.aload_n 0, (0, 0, 0)) := by decide +kernel
theorem i_40_41 : a_ins 40 41 = some (.getfield 51, (0, 11, 203)) := by decide +kernel
theorem i_40_44 : a_ins 40 44 = some (.arraylength, (0, 0, 0)) := by decide +kernel
theorem i_40_45 : a_ins 40 45 = some (.if_icmp .ge 16, (0, 0, 0)) := by decide +kernel
theorem i_40_48 : a_ins 40 48 = some (.aload_n 0, (0, 0, 0)) := by decide +kernel
theorem i_40_49 : a_ins 40 49 = some (.getfield 51, (0, 11, 203)) := by decide +kernel
theorem i_40_52 : a_ins 40 52 = some (.iload_n 1, (0, 0, 0)) := by decide +kernel
theorem i_40_53 : a_ins 40 53 = some (.iconst 0, (0, 0, 0)) := by decide +kernel
theorem i_40_54 : a_ins 40 54 = some (.bastore, (0, 0, 0)) := by decide +kernel
theorem i_40_55 : a_ins 40 55 = some (.iinc 1 1, (0, 0, 0)) := by decide +kernel
theorem i_40_58 : a_ins 40 58 = some (.goto (-19), (0, 0, 0)) := by decide +kernel
theorem i_40_61 : a_ins 40 61 = some (.aload_n 0, (0, 0, 0)) := by decide +kernel
theorem i_40_62 : a_ins 40 62 = some (.iconst 0, (0, 0, 0)) := by decide +kernel
theorem i_40_63 : a_ins 40 63 = some (.putfield 59, (0, 13, 208)) := by decide +kernel
theorem i_40_66 : a_ins 40 66 = some (.aload_n 0, (0, 0, 0)) := by decide +kernel
theorem i_40_67 : a_ins 40 67 = some (.iconst 0, (0, 0, 0)) := by decide +kernel
theorem i_40_68 : a_ins 40 68 = some (.putfield 63, (0, 14, 210)) := by decide +kernel
theorem i_40_71 : a_ins 40 71 = some (.aload_n 0, (0, 0, 0)) := by decide +kernel
theorem i_40_72 : a_ins 40 72 = some (.bipush 50, (0, 0, 0)) := by decide +kernel
theorem i_40_74 : a_ins 40 74 = some (.putfield 66, (0, 15, 213)) := by decide +kernel
theorem i_40_77 : a_ins 40 77 = some (.return_, (0, 0, 0)) := by decide +kernel
theorem i_41_0 : a_ins 41 0 = some (.iconst 0, (0, 0, 0)) := by decide +kernel
theorem i_41_1 : a_ins 41 1 = some (.istore_n 2, (0, 0, 0)) := by decide +kernel
theorem i_41_2 : a_ins 41 2 = some (.aload_n 0, (0, 0, 0)) := by decide +kernel
theorem i_41_3 : a_ins 41 3 = some (.arraylength, (0, 0, 0)) := by decide +kernel
theorem i_41_4 : a_ins 41 4 = some (.istore_n 3, (0, 0, 0)) := by decide +kernel
theorem i_41_5 : a_ins 41 5 = some (.iload_n 2, (0, 0, 0)) := by decide +kernel
theorem i_41_6 : a_ins 41 6 = some (.iload_n 3, (0, 0, 0)) := by decide +kernel
theorem i_41_7 : a_ins 41 7 = some (.if_icmp .ge 13, (0, 0, 0)) := by decide +kernel
theorem i_41_10 : a_ins 41 10 = some (.aload_n 0, (0, 0, 0)) := by decide +kernel
theorem i_41_11 : a_ins 41 11 = some (.iload_n 2, (0, 0, 0)) := by decide +kernel
theorem i_41_12 : a_ins 41 12 = some (.iload_n 1, (0, 0, 0)) := by decide +kernel
theorem i_41_13 : a_ins 41 13 = some (.iastore, (0, 0, 0)) := by decide +kernel
theorem i_41_14 : a_ins 41 14 = some (.iinc 2 1, (0, 0, 0)) := by decide +kernel
theorem i_41_17 : a_ins 41 17 = some (.goto (-12), (0, 0, 0)) := by decide +kernel
theorem i_41_20 : a_ins 41 20 = some (.return_, (0, 0, 0)) := by decide +kernel
theorem i_42_0 : a_ins 42 0 = some (.aload_n 0, (0, 0, 0)) := by decide +kernel
theorem i_42_1 : a_ins 42 1 = some (.iconst 0, (0, 0, 0)) := by decide +kernel
theorem i_42_2 : a_ins 42 2 = some (.putfield 24, (8, 4, 264)) := by decide +kernel
theorem i_42_5 : a_ins 42 5 = some (.iconst 0, (0, 0, 0)) := by decide +kernel
theorem i_42_6 : a_ins 42 6 = some (.istore_n 3, (0, 0, 0)) := by decide +kernel
theorem i_42_7 : a_ins 42 7 = some (.iconst (-1), (0, 0, 0)) := by decide +kernel
theorem i_42_8 : a_ins 42 8 = some (.istore 4, (0, 0, 0)) := by decide +kernel
theorem i_42_10 : a_ins 42 10 = some (.iconst 0, (0, 0, 0)) := by decide +kernel
theorem i_42_11 : a_ins 42 11 = some (.istore 5, (0, 0, 0)) := by decide +kernel
theorem i_42_13 : a_ins 42 13 = some (.iload 5, (0, 0, 0)) := by decide +kernel
theorem i_42_15 : a_ins 42 15 = some (.iload_n 2, (0, 0, 0)) := by decide +kernel
theorem i_42_16 : a_ins 42 16 = some (.if_icmp .ge 116, (0, 0, 0)) := by decide +kernel
theorem i_42_19 : a_ins 42 19 = some (.iload_n 3, (0, 0, 0)) := by decide +kernel
theorem i_42_20 : a_ins 42 20 = some (.iload_n 2, (0, 0, 0)) := by decide +kernel
theorem i_42_21 : a_ins 42 21 = some (.if_icmp .ge 111, (0, 0, 0)) := by decide +kernel
theorem i_42_24 : a_ins 42 24 = some (.aload_n 1, (0, 0, 0)) := by decide +kernel
theorem i_42_25 : a_ins 42 25 = some (.iload_n 3, (0, 0, 0)) := by decide +kernel
theorem i_42_26 : a_ins 42 26 = some (.caload, (0, 0, 0)) := by decide +kernel
theorem i_42_27 : a_ins 42 27 = some (.istore 6, (0, 0, 0)) := by decide +kernel
theorem i_42_29 : a_ins 42 29 = some (.iload 6, (0, 0, 0)) := by decide +kernel
theorem i_42_31 : a_ins 42 31 = some (.bipush 32, (0, 0, 0)) := by decide +kernel
theorem i_42_33 : a_ins 42 33 = some (.if_icmp .eq 10, (0, 0, 0)) := by decide +kernel
theorem i_42_36 : a_ins 42 36 = some (.iload 6, (0, 0, 0)) := by decide +kernel
theorem i_42_38 : a_ins 42 38 = some (.bipush 10, (0, 0, 0)) := by decide +kernel
theorem i_42_40 : a_ins 42 40 = some (.if_icmp .ne 9, (0, 0, 0)) := by decide +kernel
theorem i_42_43 : a_ins 42 43 = some (.iinc 3 1, (0, 0, 0)) := by decide +kernel
theorem i_42_46 : a_ins 42 46 = some (.goto 80, (0, 0, 0)) := by decide +kernel
theorem i_42_49 : a_ins 42 49 = some (.iload 6, (0, 0, 0)) := by decide +kernel
theorem i_42_51 : a_ins 42 51 = some (.invokestatic 28, (1, 43, 1)) := by decide +kernel
theorem i_42_54 : a_ins 42 54 = some (.ifCond .eq 20, (0, 0, 0)) := by decide +kernel
theorem i_42_57 : a_ins 42 57 = some (.iload_n 3, (0, 0, 0)) := by decide +kernel
theorem i_42_58 : a_ins 42 58 = some (.iload 4, (0, 0, 0)) := by decide +kernel
theorem i_42_60 : a_ins 42 60 = some (.if_icmp .eq 14, (0, 0, 0)) := by decide +kernel
theorem i_42_63 : a_ins 42 63 = some (.aload_n 0, (0, 0, 0)) := by decide +kernel
theorem i_42_64 : a_ins 42 64 = some (.aload_n 1, (0, 0, 0)) := by decide +kernel
theorem i_42_65 : a_ins 42 65 = some (.iload_n 3, (0, 0, 0)) := by decide +kernel
theorem i_42_66 : a_ins 42 66 = some (.iload_n 2, (0, 0, 0)) := by decide +kernel
theorem i_42_67 : a_ins 42 67 = some (.invokevirtual 34, (0, 44, 3)) := by decide +kernel
theorem i_42_70 : a_ins 42 70 = some (.istore_n 3, (0, 0, 0)) := by decide +kernel
theorem i_42_71 : a_ins 42 71 = some (.goto 55, (0, 0, 0)) := by decide +kernel
theorem i_42_74 : a_ins 42 74 = some (.iload 6, (0, 0, 0)) := by decide +kernel
theorem i_42_76 : a_ins 42 76 = some (.invokestatic 38, (1, 46, 1)) := by decide +kernel
theorem i_42_79 : a_ins 42 79 = some (.ifCond .eq 17, (0, 0, 0)) := by decide +kernel
theorem i_42_82 : a_ins 42 82 = some (.aload_n 0, (0, 0, 0)) := by decide +kernel
theorem i_42_83 : a_ins 42 83 = some (.aload_n 1, (0, 0, 0)) := by decide +kernel
theorem i_42_84 : a_ins 42 84 = some (.iload_n 3, (0, 0, 0)) := by decide +kernel
theorem i_42_85 : a_ins 42 85 = some (.iload_n 2, (0, 0, 0)) := by decide +kernel
theorem i_42_86 : a_ins 42 86 = some (.invokevirtual 41, (0, 47, 3)) := by decide +kernel
theorem i_42_89 : a_ins 42 89 = some (.istore_n 3, (0, 0, 0)) := by decide +kernel
theorem i_42_90 : a_ins 42 90 = some (.iload_n 3, (0, 0, 0)) := by decide +kernel
theorem i_42_91 : a_ins 42 91 = some (.istore 4, (0, 0, 0)) := by decide +kernel
theorem i_42_93 : a_ins 42 93 = some (.goto 33, (0, 0, 0)) := by decide +kernel
theorem i_42_96 : a_ins 42 96 = some (.iload 6, (0, 0, 0)) := by decide +kernel
theorem i_42_98 : a_ins 42 98 = some (.bipush 59, (0, 0, 0)) := by decide +kernel
theorem i_42_100 : a_ins 42 100 = some (.if_icmp .ne 17, (0, 0, 0)) := by decide +kernel
theorem i_42_103 : a_ins 42 103 = some (.aload_n 0, (0, 0, 0)) := by decide +kernel
theorem i_42_104 : a_ins 42 104 = some (.iconst 2, (0, 0, 0)) := by decide +kernel
theorem i_42_105 : a_ins 42 105 = some (.iload_n 3, (0, 0, 0)) := by decide +kernel
theorem i_42_106 : a_ins 42 106 = some (.iconst 1, (0, 0, 0)) := by decide +kernel
theorem i_42_107 : a_ins 42 107 = some (.iconst 0, (0, 0, 0)) := by decide +kernel
theorem i_42_108 : a_ins 42 108 = some (.invokevirtual 44, (0, 45, 4)) := by decide +kernel
theorem i_42_111 : a_ins 42 111 = some (.iinc 3 1, (0, 0, 0)) := by decide +kernel
theorem i_42_114 : a_ins 42 114 = some (.goto 12, (0, 0, 0)) := by decide +kernel
theorem i_42_117 : a_ins 42 117 = some (.aload_n 0, (0, 0, 0)) := by decide +kernel
theorem i_42_118 : a_ins 42 118 = some (.iconst 4, (0, 0, 0)) := by decide +kernel
theorem i_42_119 : a_ins 42 119 = some (.iload_n 3, (0, 0, 0)) := by decide +kernel
theorem i_42_120 : a_ins 42 120 = some (.iconst 1, (0, 0, 0)) := by decide +kernel
theorem i_42_121 : a_ins 42 121 = some (.iconst 0, (0, 0, 0)) := by decide +kernel
theorem i_42_122 : a_ins 42 122 = some (.invokevirtual 44, (0, 45, 4)) := by decide +kernel
theorem i_42_125 : a_ins 42 125 = some (.return_, (0, 0, 0)) := by decide +kernel
theorem i_42_126 : a_ins 42 126 = some (.iinc 5 1, (0, 0, 0)) := by decide +kernel
theorem i_42_129 : a_ins 42 129 = some (.goto (-116), (0, 0, 0)) := by decide +kernel
theorem i_42_132 : a_ins 42 132 = some (.aload_n 0, (0, 0, 0)) := by decide +kernel
theorem i_42_133 : a_ins 42 133 = some (.iconst 3, (0, 0, 0)) := by decide +kernel
theorem i_42_134 : a_ins 42 134 = some (.iload_n 3, (0, 0, 0)) := by decide +kernel
theorem i_42_135 : a_ins 42 135 = some (.iconst 0, (0, 0, 0)) := by decide +kernel
theorem i_42_136 : a_ins 42 136 = some (.iconst 0, (0, 0, 0)) := by decide +kernel
theorem i_42_137 : a_ins 42 137 = some (.invokevirtual 44, (0, 45, 4)) := by decide +kernel
theorem i_42_140 : a_ins 42 140 = some (.return_, (0, 0, 0)) := by decide +kernel
theorem i_43_0 : a_ins 43 0 = some (.iload_n 0, (0, 0, 0)) := by decide +kernel
theorem i_43_1 : a_ins 43 1 = some (.bipush 97, (0, 0, 0)) := by decide +kernel
theorem i_43_3 : a_ins 43 3 = some (.if_icmp .lt 9, (0, 0, 0)) := by decide +kernel
theorem i_43_6 : a_ins 43 6 = some (.iload_n 0, (0, 0, 0)) := by decide +kernel
theorem i_43_7 : a_ins 43 7 = some (.bipush 122, (0, 0, 0)) := by decide +kernel
theorem i_43_9 : a_ins 43 9 = some (.if_icmp .le 15, (0, 0, 0)) := by decide +kernel
theorem i_43_12 : a_ins 43 12 = some (.iload_n 0, (0, 0, 0)) := by decide +kernel
theorem i_43_13 : a_ins 43 13 = some (.bipush 65, (0, 0, 0)) := by decide +kernel
theorem i_43_15 : a_ins 43 15 = some (.if_icmp .lt 13, (0, 0, 0)) := by decide +kernel
theorem i_43_18 : a_ins 43 18 = some (.iload_n 0, (0, 0, 0)) := by decide +kernel
theorem i_43_19 : a_ins 43 19 = some (.bipush 90, (0, 0, 0)) := by decide +kernel
theorem i_43_21 : a_ins 43 21 = some (.if_icmp .gt 7, (0, 0, 0)) := by decide +kernel
theorem i_43_24 : a_ins 43 24 = some (.iconst 1, (0, 0, 0)) := by decide +kernel
theorem i_43_25 : a_ins 43 25 = some (.goto 4, (0, 0, 0)) := by decide +kernel
theorem i_43_28 : a_ins 43 28 = some (.iconst 0, (0, 0, 0)) := by decide +kernel
theorem i_43_29 : a_ins 43 29 = some (.ireturn, (0, 0, 0)) := by decide +kernel
theorem i_44_0 : a_ins 44 0 = some (.iload_n 3, (0, 0, 0)) := by decide +kernel
theorem i_44_1 : a_ins 44 1 = some (.iload_n 2, (0, 0, 0)) := by decide +kernel
theorem i_44_2 : a_ins 44 2 = some (.bipush 12, (0, 0, 0)) := by decide +kernel
theorem i_44_4 : a_ins 44 4 = some (.iadd, (0, 0, 0)) := by decide +kernel
theorem i_44_5 : a_ins 44 5 = some (.invokestatic 48, (5, 0, 2)) := by decide +kernel
theorem i_44_8 : a_ins 44 8 = some (.istore 4, (0, 0, 0)) := by decide +kernel
theorem i_44_10 : a_ins 44 10 = some (.iload_n 2, (0, 0, 0)) := by decide +kernel
theorem i_44_11 : a_ins 44 11 = some (.iconst 1, (0, 0, 0)) := by decide +kernel
theorem i_44_12 : a_ins 44 12 = some (.iadd, (0, 0, 0)) := by decide +kernel
theorem i_44_13 : a_ins 44 13 = some (.istore 5, (0, 0, 0)) := by decide +kernel
theorem i_44_15 : a_ins 44 15 = some (.iload 5, (0, 0, 0)) := by decide +kernel
theorem i_44_17 : a_ins 44 17 = some (.iload 4, (0, 0, 0)) := by decide +kernel
theorem i_44_19 : a_ins 44 19 = some (.if_icmp .ge 19, (0, 0, 0)) := by decide +kernel
theorem i_44_22 : a_ins 44 22 = some (.aload_n 1, (0, 0, 0)) := by decide +kernel
theorem i_44_23 : a_ins 44 23 = some (.iload 5, (0, 0, 0)) := by decide +kernel
theorem i_44_25 : a_ins 44 25 = some (.caload, (0, 0, 0)) := by decide +kernel
theorem i_44_26 : a_ins 44 26 = some (.invokestatic 28, (1, 43, 1)) := by decide +kernel
theorem i_44_29 : a_ins 44 29 = some (.ifCond .eq 9, (0, 0, 0)) := by decide +kernel
theorem i_44_32 : a_ins 44 32 = some (.iinc 5 1, (0, 0, 0)) := by decide +kernel
theorem i_44_35 : a_ins 44 35 = some (.goto (-20), (0, 0, 0)) := by decide +kernel
theorem i_44_38 : a_ins 44 38 = some (.aload_n 0, (0, 0, 0)) := by decide +kernel
theorem i_44_39 : a_ins 44 39 = some (.iconst 0, (0, 0, 0)) := by decide +kernel
theorem i_44_40 : a_ins 44 40 = some (.iload_n 2, (0, 0, 0)) := by decide +kernel
theorem i_44_41 : a_ins 44 41 = some (.iload 5, (0, 0, 0)) := by decide +kernel
theorem i_44_43 : a_ins 44 43 = some (.iload_n 2, (0, 0, 0)) := by decide +kernel
theorem i_44_44 : a_ins 44 44 = some (.isub, (0, 0, 0)) := by decide +kernel
theorem i_44_45 : a_ins 44 45 = some (.iconst 0, (0, 0, 0)) := by decide +kernel
theorem i_44_46 : a_ins 44 46 = some (.invokevirtual 44, (0, 45, 4)) := by decide +kernel
theorem i_44_49 : a_ins 44 49 = some (.iload 5, (0, 0, 0)) := by decide +kernel
theorem i_44_51 : a_ins 44 51 = some (.ireturn, (0, 0, 0)) := by decide +kernel
theorem i_45_0 : a_ins 45 0 = some (.aload_n 0, (0, 0, 0)) := by decide +kernel
theorem i_45_1 : a_ins 45 1 = some (.getfield 24, (8, 4, 264)) := by decide +kernel
theorem i_45_4 : a_ins 45 4 = some (.sipush 2000, (0, 0, 0)) := by decide +kernel
theorem i_45_7 : a_ins 45 7 = some (.if_icmp .gt 54, (0, 0, 0)) := by decide +kernel
theorem i_45_10 : a_ins 45 10 = some (.aload_n 0, (0, 0, 0)) := by decide +kernel
theorem i_45_11 : a_ins 45 11 = some (.getfield 9, (8, 0, 256)) := by decide +kernel
theorem i_45_14 : a_ins 45 14 = some (.aload_n 0, (0, 0, 0)) := by decide +kernel
theorem i_45_15 : a_ins 45 15 = some (.getfield 24, (8, 4, 264)) := by decide +kernel
theorem i_45_18 : a_ins 45 18 = some (.iload_n 1, (0, 0, 0)) := by decide +kernel
theorem i_45_19 : a_ins 45 19 = some (.iastore, (0, 0, 0)) := by decide +kernel
theorem i_45_20 : a_ins 45 20 = some (.aload_n 0, (0, 0, 0)) := by decide +kernel
theorem i_45_21 : a_ins 45 21 = some (.getfield 15, (8, 1, 258)) := by decide +kernel
theorem i_45_24 : a_ins 45 24 = some (.aload_n 0, (0, 0, 0)) := by decide +kernel
theorem i_45_25 : a_ins 45 25 = some (.getfield 24, (8, 4, 264)) := by decide +kernel
theorem i_45_28 : a_ins 45 28 = some (.iload_n 2, (0, 0, 0)) := by decide +kernel
theorem i_45_29 : a_ins 45 29 = some (.iastore, (0, 0, 0)) := by decide +kernel
theorem i_45_30 : a_ins 45 30 = some (.aload_n 0, (0, 0, 0)) := by decide +kernel
theorem i_45_31 : a_ins 45 31 = some (.getfield 18, (8, 2, 260)) := by decide +kernel
theorem i_45_34 : a_ins 45 34 = some (.aload_n 0, (0, 0, 0)) := by decide +kernel
theorem i_45_35 : a_ins 45 35 = some (.getfield 24, (8, 4, 264)) := by decide +kernel
theorem i_45_38 : a_ins 45 38 = some (.iload_n 3, (0, 0, 0)) := by decide +kernel
theorem i_45_39 : a_ins 45 39 = some (.iastore, (0, 0, 0)) := by decide +kernel
theorem i_45_40 : a_ins 45 40 = some (.aload_n 0, (0, 0, 0)) := by decide +kernel
theorem i_45_41 : a_ins 45 41 = some (.getfield 21, (8, 3, 262)) := by decide +kernel
theorem i_45_44 : a_ins 45 44 = some (.aload_n 0, (0, 0, 0)) := by decide +kernel
theorem i_45_45 : a_ins 45 45 = some (.getfield 24, (8, 4, 264)) := by decide +kernel
theorem i_45_48 : a_ins 45 48 = some (.iload 4, (0, 0, 0)) := by decide +kernel
theorem i_45_50 : a_ins 45 50 = some (.iastore, (0, 0, 0)) := by decide +kernel
theorem i_45_51 : a_ins 45 51 = some (.aload_n 0, (0, 0, 0)) := by decide +kernel
theorem i_45_52 : a_ins 45 52 = some (.dup, (0, 0, 0)) := by decide +kernel
theorem i_45_53 : a_ins 45 53 = some (.getfield 24, (8, 4, 264)) := by decide +kernel
theorem i_45_56 : a_ins 45 56 = some (.iconst 1, (0, 0, 0)) := by decide +kernel
theorem i_45_57 : a_ins 45 57 = some (.iadd, (0, 0, 0)) := by decide +kernel
theorem i_45_58 : a_ins 45 58 = some (.putfield 24, (8, 4, 264)) := by decide +kernel
theorem i_45_61 : a_ins 45 61 = some (.return_, (0, 0, 0)) := by decide +kernel
theorem i_46_0 : a_ins 46 0 = some (.iload_n 0, (0, 0, 0)) := by decide +kernel
theorem i_46_1 : a_ins 46 1 = some (.bipush 48, (0, 0, 0)) := by decide +kernel
theorem i_46_3 : a_ins 46 3 = some (.if_icmp .lt 13, (0, 0, 0)) := by decide +kernel
theorem i_46_6 : a_ins 46 6 = some (.iload_n 0, (0, 0, 0)) := by decide +kernel
theorem i_46_7 : a_ins 46 7 = some (.bipush 57, (0, 0, 0)) := by decide +kernel
theorem i_46_9 : a_ins 46 9 = some (.if_icmp .gt 7, (0, 0, 0)) := by decide +kernel
theorem i_46_12 : a_ins 46 12 = some (.iconst 1, (0, 0, 0)) := by decide +kernel
theorem i_46_13 : a_ins 46 13 = some (.goto 4, (0, 0, 0)) := by decide +kernel
theorem i_46_16 : a_ins 46 16 = some (.iconst 0, (0, 0, 0)) := by decide +kernel
theorem i_46_17 : a_ins 46 17 = some (.ireturn, (0, 0, 0)) := by decide +kernel
theorem i_47_0 : a_ins 47 0 = some (.iload_n 3, (0, 0, 0)) := by decide +kernel
theorem i_47_1 : a_ins 47 1 = some (.iload_n 2, (0, 0, 0)) := by decide +kernel
theorem i_47_2 : a_ins 47 2 = some (.bipush 6, (0, 0, 0)) := by decide +kernel
theorem i_47_4 : a_ins 47 4 = some (.iadd, (0, 0, 0)) := by decide +kernel
theorem i_47_5 : a_ins 47 5 = some (.invokestatic 48, (5, 0, 2)) := by decide +kernel
theorem i_47_8 : a_ins 47 8 = some (.istore 4, (0, 0, 0)) := by decide +kernel
theorem i_47_10 : a_ins 47 10 = some (.iload_n 2, (0, 0, 0)) := by decide +kernel
theorem i_47_11 : a_ins 47 11 = some (.istore 5, (0, 0, 0)) := by decide +kernel
theorem i_47_13 : a_ins 47 13 = some (.iconst 0, (0, 0, 0)) := by decide +kernel
theorem i_47_14 : a_ins 47 14 = some (.istore 6, (0, 0, 0)) := by decide +kernel
theorem i_47_16 : a_ins 47 16 = some (.iload 5, (0, 0, 0)) := by decide +kernel
theorem i_47_18 : a_ins 47 18 = some (.iload 4, (0, 0, 0)) := by decide +kernel
theorem i_47_20 : a_ins 47 20 = some (.if_icmp .ge 34, (0, 0, 0)) := by decide +kernel
theorem i_47_23 : a_ins 47 23 = some (.aload_n 1, (0, 0, 0)) := by decide +kernel
theorem i_47_24 : a_ins 47 24 = some (.iload 5, (0, 0, 0)) := by decide +kernel
theorem i_47_26 : a_ins 47 26 = some (.caload, (0, 0, 0)) := by decide +kernel
theorem i_47_27 : a_ins 47 27 = some (.invokestatic 38, (1, 46, 1)) := by decide +kernel
theorem i_47_30 : a_ins 47 30 = some (.ifCond .eq 24, (0, 0, 0)) := by decide +kernel
theorem i_47_33 : a_ins 47 33 = some (.iload 6, (0, 0, 0)) := by decide +kernel
theorem i_47_35 : a_ins 47 35 = some (.bipush 10, (0, 0, 0)) := by decide +kernel
theorem i_47_37 : a_ins 47 37 = some (.imul, (0, 0, 0)) := by decide +kernel
theorem i_47_38 : a_ins 47 38 = some (.aload_n 1, (0, 0, 0)) := by decide +kernel
theorem i_47_39 : a_ins 47 39 = some (.iload 5, (0, 0, 0)) := by decide +kernel
theorem i_47_41 : a_ins 47 41 = some (.caload, (0, 0, 0)) := by decide +kernel
theorem i_47_42 : a_ins 47 42 = some (.bipush 48, (0, 0, 0)) := by decide +kernel
theorem i_47_44 : a_ins 47 44 = some (.isub, (0, 0, 0)) := by decide +kernel
theorem i_47_45 : a_ins 47 45 = some (.iadd, (0, 0, 0)) := by decide +kernel
theorem i_47_46 : a_ins 47 46 = some (.istore 6, (0, 0, 0)) := by decide +kernel
theorem i_47_48 : a_ins 47 48 = some (.iinc 5 1, (0, 0, 0)) := by decide +kernel
theorem i_47_51 : a_ins 47 51 = some (.goto (-35), (0, 0, 0)) := by decide +kernel
theorem i_47_54 : a_ins 47 54 = some (.aload_n 0, (0, 0, 0)) := by decide +kernel
theorem i_47_55 : a_ins 47 55 = some (.iconst 1, (0, 0, 0)) := by decide +kernel
theorem i_47_56 : a_ins 47 56 = some (.iload_n 2, (0, 0, 0)) := by decide +kernel
theorem i_47_57 : a_ins 47 57 = some (.iload 5, (0, 0, 0)) := by decide +kernel
theorem i_47_59 : a_ins 47 59 = some (.iload_n 2, (0, 0, 0)) := by decide +kernel
theorem i_47_60 : a_ins 47 60 = some (.isub, (0, 0, 0)) := by decide +kernel
theorem i_47_61 : a_ins 47 61 = some (.iload 6, (0, 0, 0)) := by decide +kernel
theorem i_47_63 : a_ins 47 63 = some (.invokevirtual 44, (0, 45, 4)) := by decide +kernel
theorem i_47_66 : a_ins 47 66 = some (.iload 5, (0, 0, 0)) := by decide +kernel
theorem i_47_68 : a_ins 47 68 = some (.ireturn, (0, 0, 0)) := by decide +kernel
theorem i_48_0 : a_ins 48 0 = some (.aload_n 0, (0, 0, 0)) := by decide +kernel
theorem i_48_1 : a_ins 48 1 = some (.getfield 32, (1, 5, 285)) := by decide +kernel
theorem i_48_4 : a_ins 48 4 = some (.aload_n 0, (0, 0, 0)) := by decide +kernel
theorem i_48_5 : a_ins 48 5 = some (.getfield 28, (1, 4, 284)) := by decide +kernel
theorem i_48_8 : a_ins 48 8 = some (.getfield 58, (8, 4, 265)) := by decide +kernel
theorem i_48_11 : a_ins 48 11 = some (.if_icmp .ge 77, (0, 0, 0)) := by decide +kernel
theorem i_48_14 : a_ins 48 14 = some (.aload_n 0, (0, 0, 0)) := by decide +kernel
theorem i_48_15 : a_ins 48 15 = some (.aload_n 0, (0, 0, 0)) := by decide +kernel
theorem i_48_16 : a_ins 48 16 = some (.getfield 28, (1, 4, 284)) := by decide +kernel
theorem i_48_19 : a_ins 48 19 = some (.getfield 210, (8, 0, 257)) := by decide +kernel
theorem i_48_22 : a_ins 48 22 = some (.aload_n 0, (0, 0, 0)) := by decide +kernel
theorem i_48_23 : a_ins 48 23 = some (.getfield 32, (1, 5, 285)) := by decide +kernel
theorem i_48_26 : a_ins 48 26 = some (.iaload, (0, 0, 0)) := by decide +kernel
theorem i_48_27 : a_ins 48 27 = some (.putfield 35, (1, 6, 286)) := by decide +kernel
theorem i_48_30 : a_ins 48 30 = some (.aload_n 0, (0, 0, 0)) := by decide +kernel
theorem i_48_31 : a_ins 48 31 = some (.aload_n 0, (0, 0, 0)) := by decide +kernel
theorem i_48_32 : a_ins 48 32 = some (.getfield 28, (1, 4, 284)) := by decide +kernel
theorem i_48_35 : a_ins 48 35 = some (.getfield 213, (8, 1, 259)) := by decide +kernel
theorem i_48_38 : a_ins 48 38 = some (.aload_n 0, (0, 0, 0)) := by decide +kernel
theorem i_48_39 : a_ins 48 39 = some (.getfield 32, (1, 5, 285)) := by decide +kernel
theorem i_48_42 : a_ins 48 42 = some (.iaload, (0, 0, 0)) := by decide +kernel
theorem i_48_43 : a_ins 48 43 = some (.putfield 38, (1, 7, 287)) := by decide +kernel
theorem i_48_46 : a_ins 48 46 = some (.aload_n 0, (0, 0, 0)) := by decide +kernel
theorem i_48_47 : a_ins 48 47 = some (.aload_n 0, (0, 0, 0)) := by decide +kernel
theorem i_48_48 : a_ins 48 48 = some (.getfield 28, (1, 4, 284)) := by decide +kernel
theorem i_48_51 : a_ins 48 51 = some (.getfield 216, (8, 2, 261)) := by decide +kernel
theorem i_48_54 : a_ins 48 54 = some (.aload_n 0, (0, 0, 0)) := by decide +kernel
theorem i_48_55 : a_ins 48 55 = some (.getfield 32, (1, 5, 285)) := by decide +kernel
theorem i_48_58 : a_ins 48 58 = some (.iaload, (0, 0, 0)) := by decide +kernel
theorem i_48_59 : a_ins 48 59 = some (.putfield 41, (1, 8, 288)) := by decide +kernel
theorem i_48_62 : a_ins 48 62 = some (.aload_n 0, (0, 0, 0)) := by decide +kernel
theorem i_48_63 : a_ins 48 63 = some (.aload_n 0, (0, 0, 0)) := by decide +kernel
theorem i_48_64 : a_ins 48 64 = some (.getfield 28, (1, 4, 284)) := by decide +kernel
theorem i_48_67 : a_ins 48 67 = some (.getfield 219, (8, 3, 263)) := by decide +kernel
theorem i_48_70 : a_ins 48 70 = some (.aload_n 0, (0, 0, 0)) := by decide +kernel
theorem i_48_71 : a_ins 48 71 = some (.getfield 32, (1, 5, 285)) := by decide +kernel
theorem i_48_74 : a_ins 48 74 = some (.iaload, (0, 0, 0)) := by decide +kernel
theorem i_48_75 : a_ins 48 75 = some (.putfield 44, (1, 9, 289)) := by decide +kernel
theorem i_48_78 : a_ins 48 78 = some (.aload_n 0, (0, 0, 0)) := by decide +kernel
theorem i_48_79 : a_ins 48 79 = some (.dup, (0, 0, 0)) := by decide +kernel
theorem i_48_80 : a_ins 48 80 = some (.getfield 32, (1, 5, 285)) := by decide +kernel
theorem i_48_83 : a_ins 48 83 = some (.iconst 1, (0, 0, 0)) := by decide +kernel
theorem i_48_84 : a_ins 48 84 = some (.iadd, (0, 0, 0)) := by decide +kernel
theorem i_48_85 : a_ins 48 85 = some (.putfield 32, (1, 5, 285)) := by decide +kernel
theorem i_48_88 : a_ins 48 88 = some (.return_, (0, 0, 0)) := by decide +kernel
theorem i_49_0 : a_ins 49 0 = some (.aload_n 0, (0, 0, 0)) := by decide +kernel
theorem i_49_1 : a_ins 49 1 = some (.ldc 68, (1, 1, 824)) := by decide +kernel
theorem i_49_3 : a_ins 49 3 = some (.invokevirtual 70, (0, 50, 1)) := by decide +kernel
theorem i_49_6 : a_ins 49 6 = some (.ifCond .eq 8, (0, 0, 0)) := by decide +kernel
theorem i_49_9 : a_ins 49 9 = some (.aload_n 0, (0, 0, 0)) := by decide +kernel
theorem i_49_10 : a_ins 49 10 = some (.invokevirtual 74, (0, 51, 0)) := by decide +kernel
theorem i_49_13 : a_ins 49 13 = some (.ireturn, (0, 0, 0)) := by decide +kernel
theorem i_49_14 : a_ins 49 14 = some (.aload_n 0, (0, 0, 0)) := by decide +kernel
theorem i_49_15 : a_ins 49 15 = some (.ldc 77, (1, 4, 891)) := by decide +kernel
theorem i_49_17 : a_ins 49 17 = some (.invokevirtual 70, (0, 50, 1)) := by decide +kernel
theorem i_49_20 : a_ins 49 20 = some (.ifCond .eq 8, (0, 0, 0)) := by decide +kernel
theorem i_49_23 : a_ins 49 23 = some (.aload_n 0, (0, 0, 0)) := by decide +kernel
theorem i_49_24 : a_ins 49 24 = some (.invokevirtual 79, (0, 60, 0)) := by decide +kernel
theorem i_49_27 : a_ins 49 27 = some (.ireturn, (0, 0, 0)) := by decide +kernel
theorem i_49_28 : a_ins 49 28 = some (.aload_n 0, (0, 0, 0)) := by decide +kernel
theorem i_49_29 : a_ins 49 29 = some (.ldc 82, (1, 5, 901)) := by decide +kernel
theorem i_49_31 : a_ins 49 31 = some (.invokevirtual 70, (0, 50, 1)) := by decide +kernel
theorem i_49_34 : a_ins 49 34 = some (.ifCond .eq 8, (0, 0, 0)) := by decide +kernel
theorem i_49_37 : a_ins 49 37 = some (.aload_n 0, (0, 0, 0)) := by decide +kernel
theorem i_49_38 : a_ins 49 38 = some (.invokevirtual 84, (0, 62, 0)) := by decide +kernel
theorem i_49_41 : a_ins 49 41 = some (.ireturn, (0, 0, 0)) := by decide +kernel
theorem i_49_42 : a_ins 49 42 = some (.aload_n 0, (0, 0, 0)) := by decide +kernel
theorem i_49_43 : a_ins 49 43 = some (.ldc 87, (1, 6, 907)) := by decide +kernel
theorem i_49_45 : a_ins 49 45 = some (.invokevirtual 70, (0, 50, 1)) := by decide +kernel
theorem i_49_48 : a_ins 49 48 = some (.ifCond .eq 9, (0, 0, 0)) := by decide +kernel
theorem i_49_51 : a_ins 49 51 = some (.aload_n 0, (0, 0, 0)) := by decide +kernel
theorem i_49_52 : a_ins 49 52 = some (.iconst 1, (0, 0, 0)) := by decide +kernel
theorem i_49_53 : a_ins 49 53 = some (.invokevirtual 89, (0, 63, 1)) := by decide +kernel
theorem i_49_56 : a_ins 49 56 = some (.ireturn, (0, 0, 0)) := by decide +kernel
theorem i_49_57 : a_ins 49 57 = some (.aload_n 0, (0, 0, 0)) := by decide +kernel
theorem i_49_58 : a_ins 49 58 = some (.ldc 93, (1, 7, 917)) := by decide +kernel
theorem i_49_60 : a_ins 49 60 = some (.invokevirtual 70, (0, 50, 1)) := by decide +kernel
theorem i_49_63 : a_ins 49 63 = some (.ifCond .eq 9, (0, 0, 0)) := by decide +kernel
theorem i_49_66 : a_ins 49 66 = some (.aload_n 0, (0, 0, 0)) := by decide +kernel
theorem i_49_67 : a_ins 49 67 = some (.iconst 0, (0, 0, 0)) := by decide +kernel
theorem i_49_68 : a_ins 49 68 = some (.invokevirtual 89, (0, 63, 1)) := by decide +kernel
theorem i_49_71 : a_ins 49 71 = some (.ireturn, (0, 0, 0)) := by decide +kernel
theorem i_49_72 : a_ins 49 72 = some (.aload_n 0, (0, 0, 0)) := by decide +kernel
theorem i_49_73 : a_ins 49 73 = some (.ldc 95, (1, 8, 918)) := by decide +kernel
theorem i_49_75 : a_ins 49 75 = some (.invokevirtual 70, (0, 50, 1)) := by decide +kernel
theorem i_49_78 : a_ins 49 78 = some (.ifCond .eq 8, (0, 0, 0)) := by decide +kernel
theorem i_49_81 : a_ins 49 81 = some (.aload_n 0, (0, 0, 0)) := by decide +kernel
theorem i_49_82 : a_ins 49 82 = some (.invokevirtual 97, (0, 65, 0)) := by decide +kernel
theorem i_49_85 : a_ins 49 85 = some (.ireturn, (0, 0, 0)) := by decide +kernel
theorem i_49_86 : a_ins 49 86 = some (.aload_n 0, (0, 0, 0)) := by decide +kernel
theorem i_49_87 : a_ins 49 87 = some (.invokevirtual 100, (0, 52, 0)) := by decide +kernel
theorem i_49_90 : a_ins 49 90 = some (.ireturn, (0, 0, 0)) := by decide +kernel
theorem i_50_0 : a_ins 50 0 = some (.aload_n 0, (0, 0, 0)) := by decide +kernel
theorem i_50_1 : a_ins 50 1 = some (.getfield 35, (1, 6, 286)) := by decide +kernel
theorem i_50_4 : a_ins 50 4 = some (.ifCond .ne 14, (0, 0, 0)) := by decide +kernel
theorem i_50_7 : a_ins 50 7 = some (.aload_n 0, (0, 0, 0)) := by decide +kernel
theorem i_50_8 : a_ins 50 8 = some (.getfield 41, (1, 8, 288)) := by decide +kernel
theorem i_50_11 : a_ins 50 11 = some (.aload_n 1, (0, 0, 0)) := by decide +kernel
theorem i_50_12 : a_ins 50 12 = some (.invokevirtual 201, (0, 212, 0)) := by decide +kernel
theorem i_50_15 : a_ins 50 15 = some (.if_icmp .eq 5, (0, 0, 0)) := by decide +kernel
theorem i_50_18 : a_ins 50 18 = some (.iconst 0, (0, 0, 0)) := by decide +kernel
theorem i_50_19 : a_ins 50 19 = some (.ireturn, (0, 0, 0)) := by decide +kernel
theorem i_50_20 : a_ins 50 20 = some (.iconst 0, (0, 0, 0)) := by decide +kernel
theorem i_50_21 : a_ins 50 21 = some (.istore_n 2, (0, 0, 0)) := by decide +kernel
theorem i_50_22 : a_ins 50 22 = some (.iload_n 2, (0, 0, 0)) := by decide +kernel
theorem i_50_23 : a_ins 50 23 = some (.aload_n 0, (0, 0, 0)) := by decide +kernel
theorem i_50_24 : a_ins 50 24 = some (.getfield 41, (1, 8, 288)) := by decide +kernel
theorem i_50_27 : a_ins 50 27 = some (.if_icmp .ge 30, (0, 0, 0)) := by decide +kernel
theorem i_50_30 : a_ins 50 30 = some (.aload_n 0, (0, 0, 0)) := by decide +kernel
theorem i_50_31 : a_ins 50 31 = some (.getfield 47, (1, 3, 283)) := by decide +kernel
theorem i_50_34 : a_ins 50 34 = some (.aload_n 0, (0, 0, 0)) := by decide +kernel
theorem i_50_35 : a_ins 50 35 = some (.getfield 38, (1, 7, 287)) := by decide +kernel
theorem i_50_38 : a_ins 50 38 = some (.iload_n 2, (0, 0, 0)) := by decide +kernel
theorem i_50_39 : a_ins 50 39 = some (.iadd, (0, 0, 0)) := by decide +kernel
theorem i_50_40 : a_ins 50 40 = some (.caload, (0, 0, 0)) := by decide +kernel
theorem i_50_41 : a_ins 50 41 = some (.aload_n 1, (0, 0, 0)) := by decide +kernel
theorem i_50_42 : a_ins 50 42 = some (.iload_n 2, (0, 0, 0)) := by decide +kernel
theorem i_50_43 : a_ins 50 43 = some (.invokevirtual 206, (0, 215, 1)) := by decide +kernel
theorem i_50_46 : a_ins 50 46 = some (.if_icmp .eq 5, (0, 0, 0)) := by decide +kernel
theorem i_50_49 : a_ins 50 49 = some (.iconst 0, (0, 0, 0)) := by decide +kernel
theorem i_50_50 : a_ins 50 50 = some (.ireturn, (0, 0, 0)) := by decide +kernel
theorem i_50_51 : a_ins 50 51 = some (.iinc 2 1, (0, 0, 0)) := by decide +kernel
theorem i_50_54 : a_ins 50 54 = some (.goto (-32), (0, 0, 0)) := by decide +kernel
theorem i_50_57 : a_ins 50 57 = some (.iconst 1, (0, 0, 0)) := by decide +kernel
theorem i_50_58 : a_ins 50 58 = some (.ireturn, (0, 0, 0)) := by decide +kernel
theorem i_51_0 : a_ins 51 0 = some (.aload_n 0, (0, 0, 0)) := by decide +kernel
theorem i_51_1 : a_ins 51 1 = some (.getfield 21, (1, 2, 281)) := by decide +kernel
theorem i_51_4 : a_ins 51 4 = some (.getfield 103, (0, 0, 169)) := by decide +kernel
theorem i_51_7 : a_ins 51 7 = some (.getfield 107, (3, 2, 156)) := by decide +kernel
theorem i_51_10 : a_ins 51 10 = some (.istore_n 1, (0, 0, 0)) := by decide +kernel
theorem i_51_11 : a_ins 51 11 = some (.iload_n 1, (0, 0, 0)) := by decide +kernel
theorem i_51_12 : a_ins 51 12 = some (.bipush 80, (0, 0, 0)) := by decide +kernel
theorem i_51_14 : a_ins 51 14 = some (.if_icmp .lt 8, (0, 0, 0)) := by decide +kernel
theorem i_51_17 : a_ins 51 17 = some (.aload_n 0, (0, 0, 0)) := by decide +kernel
theorem i_51_18 : a_ins 51 18 = some (.invokevirtual 100, (0, 52, 0)) := by decide +kernel
theorem i_51_21 : a_ins 51 21 = some (.ireturn, (0, 0, 0)) := by decide +kernel
theorem i_51_22 : a_ins 51 22 = some (.aload_n 0, (0, 0, 0)) := by decide +kernel
theorem i_51_23 : a_ins 51 23 = some (.invokevirtual 110, (0, 53, 0)) := by decide +kernel
theorem i_51_26 : a_ins 51 26 = some (.ifCond .ne 5, (0, 0, 0)) := by decide +kernel
theorem i_51_29 : a_ins 51 29 = some (.iconst 0, (0, 0, 0)) := by decide +kernel
theorem i_51_30 : a_ins 51 30 = some (.ireturn, (0, 0, 0)) := by decide +kernel
theorem i_51_31 : a_ins 51 31 = some (.aload_n 0, (0, 0, 0)) := by decide +kernel
theorem i_51_32 : a_ins 51 32 = some (.getfield 38, (1, 7, 287)) := by decide +kernel
theorem i_51_35 : a_ins 51 35 = some (.istore_n 2, (0, 0, 0)) := by decide +kernel
theorem i_51_36 : a_ins 51 36 = some (.aload_n 0, (0, 0, 0)) := by decide +kernel
theorem i_51_37 : a_ins 51 37 = some (.getfield 41, (1, 8, 288)) := by decide +kernel
theorem i_51_40 : a_ins 51 40 = some (.istore_n 3, (0, 0, 0)) := by decide +kernel
theorem i_51_41 : a_ins 51 41 = some (.aload_n 0, (0, 0, 0)) := by decide +kernel
theorem i_51_42 : a_ins 51 42 = some (.bipush 7, (0, 0, 0)) := by decide +kernel
theorem i_51_44 : a_ins 51 44 = some (.invokevirtual 113, (0, 55, 1)) := by decide +kernel
theorem i_51_47 : a_ins 51 47 = some (.ifCond .ne 5, (0, 0, 0)) := by decide +kernel
theorem i_51_50 : a_ins 51 50 = some (.iconst 0, (0, 0, 0)) := by decide +kernel
theorem i_51_51 : a_ins 51 51 = some (.ireturn, (0, 0, 0)) := by decide +kernel
theorem i_51_52 : a_ins 51 52 = some (.aload_n 0, (0, 0, 0)) := by decide +kernel
theorem i_51_53 : a_ins 51 53 = some (.getfield 21, (1, 2, 281)) := by decide +kernel
theorem i_51_56 : a_ins 51 56 = some (.aload_n 0, (0, 0, 0)) := by decide +kernel
theorem i_51_57 : a_ins 51 57 = some (.getfield 47, (1, 3, 283)) := by decide +kernel
theorem i_51_60 : a_ins 51 60 = some (.iload_n 2, (0, 0, 0)) := by decide +kernel
theorem i_51_61 : a_ins 51 61 = some (.iload_n 3, (0, 0, 0)) := by decide +kernel
theorem i_51_62 : a_ins 51 62 = some (.aload_n 0, (0, 0, 0)) := by decide +kernel
theorem i_51_63 : a_ins 51 63 = some (.getfield 44, (1, 9, 289)) := by decide +kernel
theorem i_51_66 : a_ins 51 66 = some (.invokevirtual 117, (0, 57, 4)) := by decide +kernel
theorem i_51_69 : a_ins 51 69 = some (.ifCond .eq 10, (0, 0, 0)) := by decide +kernel
theorem i_51_72 : a_ins 51 72 = some (.aload_n 0, (0, 0, 0)) := by decide +kernel
theorem i_51_73 : a_ins 51 73 = some (.iconst 3, (0, 0, 0)) := by decide +kernel
theorem i_51_74 : a_ins 51 74 = some (.iload_n 2, (0, 0, 0)) := by decide +kernel
theorem i_51_75 : a_ins 51 75 = some (.invokevirtual 121, (0, 56, 2)) := by decide +kernel
theorem i_51_78 : a_ins 51 78 = some (.ireturn, (0, 0, 0)) := by decide +kernel
theorem i_51_79 : a_ins 51 79 = some (.aload_n 0, (0, 0, 0)) := by decide +kernel
theorem i_51_80 : a_ins 51 80 = some (.getfield 21, (1, 2, 281)) := by decide +kernel
theorem i_51_83 : a_ins 51 83 = some (.getfield 125, (0, 1, 173)) := by decide +kernel
theorem i_51_86 : a_ins 51 86 = some (.iload_n 1, (0, 0, 0)) := by decide +kernel
theorem i_51_87 : a_ins 51 87 = some (.aload_n 0, (0, 0, 0)) := by decide +kernel
theorem i_51_88 : a_ins 51 88 = some (.getfield 44, (1, 9, 289)) := by decide +kernel
theorem i_51_91 : a_ins 51 91 = some (.iastore, (0, 0, 0)) := by decide +kernel
theorem i_51_92 : a_ins 51 92 = some (.aload_n 0, (0, 0, 0)) := by decide +kernel
theorem i_51_93 : a_ins 51 93 = some (.bipush 99, (0, 0, 0)) := by decide +kernel
theorem i_51_95 : a_ins 51 95 = some (.invokevirtual 113, (0, 55, 1)) := by decide +kernel
theorem i_51_98 : a_ins 51 98 = some (.ifCond .ne 5, (0, 0, 0)) := by decide +kernel
theorem i_51_101 : a_ins 51 101 = some (.iconst 0, (0, 0, 0)) := by decide +kernel
theorem i_51_102 : a_ins 51 102 = some (.ireturn, (0, 0, 0)) := by decide +kernel
theorem i_51_103 : a_ins 51 103 = some (.aload_n 0, (0, 0, 0)) := by decide +kernel
theorem i_51_104 : a_ins 51 104 = some (.getfield 21, (1, 2, 281)) := by decide +kernel
theorem i_51_107 : a_ins 51 107 = some (.getfield 129, (0, 2, 177)) := by decide +kernel
theorem i_51_110 : a_ins 51 110 = some (.iload_n 1, (0, 0, 0)) := by decide +kernel
theorem i_51_111 : a_ins 51 111 = some (.aload_n 0, (0, 0, 0)) := by decide +kernel
theorem i_51_112 : a_ins 51 112 = some (.getfield 44, (1, 9, 289)) := by decide +kernel
theorem i_51_115 : a_ins 51 115 = some (.iastore, (0, 0, 0)) := by decide +kernel
theorem i_51_116 : a_ins 51 116 = some (.aload_n 0, (0, 0, 0)) := by decide +kernel
theorem i_51_117 : a_ins 51 117 = some (.getfield 21, (1, 2, 281)) := by decide +kernel
theorem i_51_120 : a_ins 51 120 = some (.getfield 132, (0, 5, 186)) := by decide +kernel
theorem i_51_123 : a_ins 51 123 = some (.iload_n 1, (0, 0, 0)) := by decide +kernel
theorem i_51_124 : a_ins 51 124 = some (.iconst 0, (0, 0, 0)) := by decide +kernel
theorem i_51_125 : a_ins 51 125 = some (.iastore, (0, 0, 0)) := by decide +kernel
theorem i_51_126 : a_ins 51 126 = some (.aload_n 0, (0, 0, 0)) := by decide +kernel
theorem i_51_127 : a_ins 51 127 = some (.iload_n 1, (0, 0, 0)) := by decide +kernel
theorem i_51_128 : a_ins 51 128 = some (.invokevirtual 135, (0, 58, 1)) := by decide +kernel
theorem i_51_131 : a_ins 51 131 = some (.ifCond .ne 5, (0, 0, 0)) := by decide +kernel
theorem i_51_134 : a_ins 51 134 = some (.iconst 0, (0, 0, 0)) := by decide +kernel
theorem i_51_135 : a_ins 51 135 = some (.ireturn, (0, 0, 0)) := by decide +kernel
theorem i_51_136 : a_ins 51 136 = some (.aload_n 0, (0, 0, 0)) := by decide +kernel
theorem i_51_137 : a_ins 51 137 = some (.getfield 21, (1, 2, 281)) := by decide +kernel
theorem i_51_140 : a_ins 51 140 = some (.getfield 103, (0, 0, 169)) := by decide +kernel
theorem i_51_143 : a_ins 51 143 = some (.aload_n 0, (0, 0, 0)) := by decide +kernel
theorem i_51_144 : a_ins 51 144 = some (.getfield 47, (1, 3, 283)) := by decide +kernel
theorem i_51_147 : a_ins 51 147 = some (.iload_n 2, (0, 0, 0)) := by decide +kernel
theorem i_51_148 : a_ins 51 148 = some (.iload_n 3, (0, 0, 0)) := by decide +kernel
theorem i_51_149 : a_ins 51 149 = some (.invokevirtual 138, (0, 59, 3)) := by decide +kernel
theorem i_51_152 : a_ins 51 152 = some (.iconst 1, (0, 0, 0)) := by decide +kernel
theorem i_51_153 : a_ins 51 153 = some (.ireturn, (0, 0, 0)) := by decide +kernel
theorem i_52_0 : a_ins 52 0 = some (.aload_n 0, (0, 0, 0)) := by decide +kernel
theorem i_52_1 : a_ins 52 1 = some (.aload_n 0, (0, 0, 0)) := by decide +kernel
theorem i_52_2 : a_ins 52 2 = some (.getfield 35, (1, 6, 286)) := by decide +kernel
theorem i_52_5 : a_ins 52 5 = some (.iconst 4, (0, 0, 0)) := by decide +kernel
theorem i_52_6 : a_ins 52 6 = some (.if_icmp .ne 7, (0, 0, 0)) := by decide +kernel
theorem i_52_9 : a_ins 52 9 = some (.iconst 1, (0, 0, 0)) := by decide +kernel
theorem i_52_10 : a_ins 52 10 = some (.goto 4, (0, 0, 0)) := by decide +kernel
theorem i_52_13 : a_ins 52 13 = some (.iconst 2, (0, 0, 0)) := by decide +kernel
theorem i_52_14 : a_ins 52 14 = some (.putfield 9, (1, 0, 277)) := by decide +kernel
theorem i_52_17 : a_ins 52 17 = some (.aload_n 0, (0, 0, 0)) := by decide +kernel
theorem i_52_18 : a_ins 52 18 = some (.aload_n 0, (0, 0, 0)) := by decide +kernel
theorem i_52_19 : a_ins 52 19 = some (.getfield 38, (1, 7, 287)) := by decide +kernel
theorem i_52_22 : a_ins 52 22 = some (.putfield 15, (1, 1, 279)) := by decide +kernel
theorem i_52_25 : a_ins 52 25 = some (.iconst 0, (0, 0, 0)) := by decide +kernel
theorem i_52_26 : a_ins 52 26 = some (.ireturn, (0, 0, 0)) := by decide +kernel
theorem i_53_0 : a_ins 53 0 = some (.aload_n 0, (0, 0, 0)) := by decide +kernel
theorem i_53_1 : a_ins 53 1 = some (.invokevirtual 61, (0, 48, 0)) := by decide +kernel
theorem i_53_4 : a_ins 53 4 = some (.aload_n 0, (0, 0, 0)) := by decide +kernel
theorem i_53_5 : a_ins 53 5 = some (.iconst 0, (0, 0, 0)) := by decide +kernel
theorem i_53_6 : a_ins 53 6 = some (.invokevirtual 151, (0, 54, 1)) := by decide +kernel
theorem i_53_9 : a_ins 53 9 = some (.ireturn, (0, 0, 0)) := by decide +kernel
theorem i_54_0 : a_ins 54 0 = some (.aload_n 0, (0, 0, 0)) := by decide +kernel
theorem i_54_1 : a_ins 54 1 = some (.getfield 35, (1, 6, 286)) := by decide +kernel
theorem i_54_4 : a_ins 54 4 = some (.iload_n 1, (0, 0, 0)) := by decide +kernel
theorem i_54_5 : a_ins 54 5 = some (.if_icmp .eq 10, (0, 0, 0)) := by decide +kernel
theorem i_54_8 : a_ins 54 8 = some (.aload_n 0, (0, 0, 0)) := by decide +kernel
theorem i_54_9 : a_ins 54 9 = some (.invokevirtual 100, (0, 52, 0)) := by decide +kernel
theorem i_54_12 : a_ins 54 12 = some (.ifCond .eq 7, (0, 0, 0)) := by decide +kernel
theorem i_54_15 : a_ins 54 15 = some (.iconst 1, (0, 0, 0)) := by decide +kernel
theorem i_54_16 : a_ins 54 16 = some (.goto 4, (0, 0, 0)) := by decide +kernel
theorem i_54_19 : a_ins 54 19 = some (.iconst 0, (0, 0, 0)) := by decide +kernel
theorem i_54_20 : a_ins 54 20 = some (.ireturn, (0, 0, 0)) := by decide +kernel
theorem i_55_0 : a_ins 55 0 = some (.aload_n 0, (0, 0, 0)) := by decide +kernel
theorem i_55_1 : a_ins 55 1 = some (.invokevirtual 61, (0, 48, 0)) := by decide +kernel
theorem i_55_4 : a_ins 55 4 = some (.aload_n 0, (0, 0, 0)) := by decide +kernel
theorem i_55_5 : a_ins 55 5 = some (.getfield 35, (1, 6, 286)) := by decide +kernel
theorem i_55_8 : a_ins 55 8 = some (.iconst 1, (0, 0, 0)) := by decide +kernel
theorem i_55_9 : a_ins 55 9 = some (.if_icmp .eq 8, (0, 0, 0)) := by decide +kernel
theorem i_55_12 : a_ins 55 12 = some (.aload_n 0, (0, 0, 0)) := by decide +kernel
theorem i_55_13 : a_ins 55 13 = some (.invokevirtual 100, (0, 52, 0)) := by decide +kernel
theorem i_55_16 : a_ins 55 16 = some (.ireturn, (0, 0, 0)) := by decide +kernel
theorem i_55_17 : a_ins 55 17 = some (.aload_n 0, (0, 0, 0)) := by decide +kernel
theorem i_55_18 : a_ins 55 18 = some (.getfield 44, (1, 9, 289)) := by decide +kernel
theorem i_55_21 : a_ins 55 21 = some (.iload_n 1, (0, 0, 0)) := by decide +kernel
theorem i_55_22 : a_ins 55 22 = some (.if_icmp .le 15, (0, 0, 0)) := by decide +kernel
theorem i_55_25 : a_ins 55 25 = some (.aload_n 0, (0, 0, 0)) := by decide +kernel
theorem i_55_26 : a_ins 55 26 = some (.iconst 4, (0, 0, 0)) := by decide +kernel
theorem i_55_27 : a_ins 55 27 = some (.aload_n 0, (0, 0, 0)) := by decide +kernel
theorem i_55_28 : a_ins 55 28 = some (.getfield 38, (1, 7, 287)) := by decide +kernel
theorem i_55_31 : a_ins 55 31 = some (.invokevirtual 121, (0, 56, 2)) := by decide +kernel
theorem i_55_34 : a_ins 55 34 = some (.ifCond .eq 7, (0, 0, 0)) := by decide +kernel
theorem i_55_37 : a_ins 55 37 = some (.iconst 1, (0, 0, 0)) := by decide +kernel
theorem i_55_38 : a_ins 55 38 = some (.goto 4, (0, 0, 0)) := by decide +kernel
theorem i_55_41 : a_ins 55 41 = some (.iconst 0, (0, 0, 0)) := by decide +kernel
theorem i_55_42 : a_ins 55 42 = some (.ireturn, (0, 0, 0)) := by decide +kernel
theorem i_56_0 : a_ins 56 0 = some (.aload_n 0, (0, 0, 0)) := by decide +kernel
theorem i_56_1 : a_ins 56 1 = some (.iload_n 1, (0, 0, 0)) := by decide +kernel
theorem i_56_2 : a_ins 56 2 = some (.putfield 9, (1, 0, 277)) := by decide +kernel
theorem i_56_5 : a_ins 56 5 = some (.aload_n 0, (0, 0, 0)) := by decide +kernel
theorem i_56_6 : a_ins 56 6 = some (.iload_n 2, (0, 0, 0)) := by decide +kernel
theorem i_56_7 : a_ins 56 7 = some (.putfield 15, (1, 1, 279)) := by decide +kernel
theorem i_56_10 : a_ins 56 10 = some (.iconst 0, (0, 0, 0)) := by decide +kernel
theorem i_56_11 : a_ins 56 11 = some (.ireturn, (0, 0, 0)) := by decide +kernel
theorem i_57_0 : a_ins 57 0 = some (.iconst 0, (0, 0, 0)) := by decide +kernel
theorem i_57_1 : a_ins 57 1 = some (.istore 5, (0, 0, 0)) := by decide +kernel
theorem i_57_3 : a_ins 57 3 = some (.iload 5, (0, 0, 0)) := by decide +kernel
theorem i_57_5 : a_ins 57 5 = some (.aload_n 0, (0, 0, 0)) := by decide +kernel
theorem i_57_6 : a_ins 57 6 = some (.getfield 14, (0, 0, 168)) := by decide +kernel
theorem i_57_9 : a_ins 57 9 = some (.getfield 69, (3, 2, 155)) := by decide +kernel
theorem i_57_12 : a_ins 57 12 = some (.if_icmp .ge 38, (0, 0, 0)) := by decide +kernel
theorem i_57_15 : a_ins 57 15 = some (.aload_n 0, (0, 0, 0)) := by decide +kernel
theorem i_57_16 : a_ins 57 16 = some (.getfield 20, (0, 1, 172)) := by decide +kernel
theorem i_57_19 : a_ins 57 19 = some (.iload 5, (0, 0, 0)) := by decide +kernel
theorem i_57_21 : a_ins 57 21 = some (.iaload, (0, 0, 0)) := by decide +kernel
theorem i_57_22 : a_ins 57 22 = some (.iload 4, (0, 0, 0)) := by decide +kernel
theorem i_57_24 : a_ins 57 24 = some (.if_icmp .ne 20, (0, 0, 0)) := by decide +kernel
theorem i_57_27 : a_ins 57 27 = some (.aload_n 0, (0, 0, 0)) := by decide +kernel
theorem i_57_28 : a_ins 57 28 = some (.getfield 14, (0, 0, 168)) := by decide +kernel
theorem i_57_31 : a_ins 57 31 = some (.iload 5, (0, 0, 0)) := by decide +kernel
theorem i_57_33 : a_ins 57 33 = some (.aload_n 1, (0, 0, 0)) := by decide +kernel
theorem i_57_34 : a_ins 57 34 = some (.iload_n 2, (0, 0, 0)) := by decide +kernel
theorem i_57_35 : a_ins 57 35 = some (.iload_n 3, (0, 0, 0)) := by decide +kernel
theorem i_57_36 : a_ins 57 36 = some (.invokevirtual 78, (0, 29, 4)) := by decide +kernel
theorem i_57_39 : a_ins 57 39 = some (.ifCond .eq 5, (0, 0, 0)) := by decide +kernel
theorem i_57_42 : a_ins 57 42 = some (.iconst 1, (0, 0, 0)) := by decide +kernel
theorem i_57_43 : a_ins 57 43 = some (.ireturn, (0, 0, 0)) := by decide +kernel
theorem i_57_44 : a_ins 57 44 = some (.iinc 5 1, (0, 0, 0)) := by decide +kernel
theorem i_57_47 : a_ins 57 47 = some (.goto (-44), (0, 0, 0)) := by decide +kernel
theorem i_57_50 : a_ins 57 50 = some (.iconst 0, (0, 0, 0)) := by decide +kernel
theorem i_57_51 : a_ins 57 51 = some (.ireturn, (0, 0, 0)) := by decide +kernel
theorem i_58_0 : a_ins 58 0 = some (.aload_n 0, (0, 0, 0)) := by decide +kernel
theorem i_58_1 : a_ins 58 1 = some (.getfield 21, (1, 2, 281)) := by decide +kernel
theorem i_58_4 : a_ins 58 4 = some (.getfield 142, (0, 3, 180)) := by decide +kernel
theorem i_58_7 : a_ins 58 7 = some (.iload_n 1, (0, 0, 0)) := by decide +kernel
theorem i_58_8 : a_ins 58 8 = some (.iconst 0, (0, 0, 0)) := by decide +kernel
theorem i_58_9 : a_ins 58 9 = some (.iastore, (0, 0, 0)) := by decide +kernel
theorem i_58_10 : a_ins 58 10 = some (.aload_n 0, (0, 0, 0)) := by decide +kernel
theorem i_58_11 : a_ins 58 11 = some (.getfield 21, (1, 2, 281)) := by decide +kernel
theorem i_58_14 : a_ins 58 14 = some (.getfield 145, (0, 4, 183)) := by decide +kernel
theorem i_58_17 : a_ins 58 17 = some (.iload_n 1, (0, 0, 0)) := by decide +kernel
theorem i_58_18 : a_ins 58 18 = some (.ldc 148, (0, 1, 883)) := by decide +kernel
theorem i_58_20 : a_ins 58 20 = some (.iastore, (0, 0, 0)) := by decide +kernel
theorem i_58_21 : a_ins 58 21 = some (.aload_n 0, (0, 0, 0)) := by decide +kernel
theorem i_58_22 : a_ins 58 22 = some (.invokevirtual 61, (0, 48, 0)) := by decide +kernel
theorem i_58_25 : a_ins 58 25 = some (.aload_n 0, (0, 0, 0)) := by decide +kernel
theorem i_58_26 : a_ins 58 26 = some (.ldc 149, (1, 2, 884)) := by decide +kernel
theorem i_58_28 : a_ins 58 28 = some (.invokevirtual 70, (0, 50, 1)) := by decide +kernel
theorem i_58_31 : a_ins 58 31 = some (.ifCond .eq 31, (0, 0, 0)) := by decide +kernel
theorem i_58_34 : a_ins 58 34 = some (.aload_n 0, (0, 0, 0)) := by decide +kernel
theorem i_58_35 : a_ins 58 35 = some (.ldc 148, (0, 1, 883)) := by decide +kernel
theorem i_58_37 : a_ins 58 37 = some (.invokevirtual 113, (0, 55, 1)) := by decide +kernel
theorem i_58_40 : a_ins 58 40 = some (.ifCond .ne 5, (0, 0, 0)) := by decide +kernel
theorem i_58_43 : a_ins 58 43 = some (.iconst 0, (0, 0, 0)) := by decide +kernel
theorem i_58_44 : a_ins 58 44 = some (.ireturn, (0, 0, 0)) := by decide +kernel
theorem i_58_45 : a_ins 58 45 = some (.aload_n 0, (0, 0, 0)) := by decide +kernel
theorem i_58_46 : a_ins 58 46 = some (.getfield 21, (1, 2, 281)) := by decide +kernel
theorem i_58_49 : a_ins 58 49 = some (.getfield 142, (0, 3, 180)) := by decide +kernel
theorem i_58_52 : a_ins 58 52 = some (.iload_n 1, (0, 0, 0)) := by decide +kernel
theorem i_58_53 : a_ins 58 53 = some (.aload_n 0, (0, 0, 0)) := by decide +kernel
theorem i_58_54 : a_ins 58 54 = some (.getfield 44, (1, 9, 289)) := by decide +kernel
theorem i_58_57 : a_ins 58 57 = some (.iastore, (0, 0, 0)) := by decide +kernel
theorem i_58_58 : a_ins 58 58 = some (.aload_n 0, (0, 0, 0)) := by decide +kernel
theorem i_58_59 : a_ins 58 59 = some (.invokevirtual 61, (0, 48, 0)) := by decide +kernel
theorem i_58_62 : a_ins 58 62 = some (.aload_n 0, (0, 0, 0)) := by decide +kernel
theorem i_58_63 : a_ins 58 63 = some (.ldc 150, (1, 3, 885)) := by decide +kernel
theorem i_58_65 : a_ins 58 65 = some (.invokevirtual 70, (0, 50, 1)) := by decide +kernel
theorem i_58_68 : a_ins 58 68 = some (.ifCond .eq 31, (0, 0, 0)) := by decide +kernel
theorem i_58_71 : a_ins 58 71 = some (.aload_n 0, (0, 0, 0)) := by decide +kernel
theorem i_58_72 : a_ins 58 72 = some (.ldc 148, (0, 1, 883)) := by decide +kernel
theorem i_58_74 : a_ins 58 74 = some (.invokevirtual 113, (0, 55, 1)) := by decide +kernel
theorem i_58_77 : a_ins 58 77 = some (.ifCond .ne 5, (0, 0, 0)) := by decide +kernel
theorem i_58_80 : a_ins 58 80 = some (.iconst 0, (0, 0, 0)) := by decide +kernel
theorem i_58_81 : a_ins 58 81 = some (.ireturn, (0, 0, 0)) := by decide +kernel
theorem i_58_82 : a_ins 58 82 = some (.aload_n 0, (0, 0, 0)) := by decide +kernel
theorem i_58_83 : a_ins 58 83 = some (.getfield 21, (1, 2, 281)) := by decide +kernel
theorem i_58_86 : a_ins 58 86 = some (.getfield 145, (0, 4, 183)) := by decide +kernel
theorem i_58_89 : a_ins 58 89 = some (.iload_n 1, (0, 0, 0)) := by decide +kernel
theorem i_58_90 : a_ins 58 90 = some (.aload_n 0, (0, 0, 0)) := by decide +kernel
theorem i_58_91 : a_ins 58 91 = some (.getfield 44, (1, 9, 289)) := by decide +kernel
theorem i_58_94 : a_ins 58 94 = some (.iastore, (0, 0, 0)) := by decide +kernel
theorem i_58_95 : a_ins 58 95 = some (.aload_n 0, (0, 0, 0)) := by decide +kernel
theorem i_58_96 : a_ins 58 96 = some (.invokevirtual 61, (0, 48, 0)) := by decide +kernel
theorem i_58_99 : a_ins 58 99 = some (.aload_n 0, (0, 0, 0)) := by decide +kernel
theorem i_58_100 : a_ins 58 100 = some (.iconst 2, (0, 0, 0)) := by decide +kernel
theorem i_58_101 : a_ins 58 101 = some (.invokevirtual 151, (0, 54, 1)) := by decide +kernel
theorem i_58_104 : a_ins 58 104 = some (.ireturn, (0, 0, 0)) := by decide +kernel
theorem i_59_0 : a_ins 59 0 = some (.aload_n 0, (0, 0, 0)) := by decide +kernel
theorem i_59_1 : a_ins 59 1 = some (.getfield 9, (3, 2, 154)) := by decide +kernel
theorem i_59_4 : a_ins 59 4 = some (.aload_n 0, (0, 0, 0)) := by decide +kernel
theorem i_59_5 : a_ins 59 5 = some (.getfield 19, (3, 1, 151)) := by decide +kernel
theorem i_59_8 : a_ins 59 8 = some (.arraylength, (0, 0, 0)) := by decide +kernel
theorem i_59_9 : a_ins 59 9 = some (.if_icmp .ge 24, (0, 0, 0)) := by decide +kernel
theorem i_59_12 : a_ins 59 12 = some (.aload_n 0, (0, 0, 0)) := by decide +kernel
theorem i_59_13 : a_ins 59 13 = some (.aload_n 0, (0, 0, 0)) := by decide +kernel
theorem i_59_14 : a_ins 59 14 = some (.getfield 9, (3, 2, 154)) := by decide +kernel
theorem i_59_17 : a_ins 59 17 = some (.aload_n 1, (0, 0, 0)) := by decide +kernel
theorem i_59_18 : a_ins 59 18 = some (.iload_n 2, (0, 0, 0)) := by decide +kernel
theorem i_59_19 : a_ins 59 19 = some (.iload_n 3, (0, 0, 0)) := by decide +kernel
theorem i_59_20 : a_ins 59 20 = some (.invokevirtual 29, (0, 19, 4)) := by decide +kernel
theorem i_59_23 : a_ins 59 23 = some (.aload_n 0, (0, 0, 0)) := by decide +kernel
theorem i_59_24 : a_ins 59 24 = some (.dup, (0, 0, 0)) := by decide +kernel
theorem i_59_25 : a_ins 59 25 = some (.getfield 9, (3, 2, 154)) := by decide +kernel
theorem i_59_28 : a_ins 59 28 = some (.iconst 1, (0, 0, 0)) := by decide +kernel
theorem i_59_29 : a_ins 59 29 = some (.iadd, (0, 0, 0)) := by decide +kernel
theorem i_59_30 : a_ins 59 30 = some (.putfield 9, (3, 2, 154)) := by decide +kernel
theorem i_59_33 : a_ins 59 33 = some (.return_, (0, 0, 0)) := by decide +kernel
theorem i_60_0 : a_ins 60 0 = some (.aload_n 0, (0, 0, 0)) := by decide +kernel
theorem i_60_1 : a_ins 60 1 = some (.getfield 21, (1, 2, 281)) := by decide +kernel
theorem i_60_4 : a_ins 60 4 = some (.getfield 154, (0, 6, 189)) := by decide +kernel
theorem i_60_7 : a_ins 60 7 = some (.getfield 107, (3, 2, 156)) := by decide +kernel
theorem i_60_10 : a_ins 60 10 = some (.istore_n 1, (0, 0, 0)) := by decide +kernel
theorem i_60_11 : a_ins 60 11 = some (.iload_n 1, (0, 0, 0)) := by decide +kernel
theorem i_60_12 : a_ins 60 12 = some (.bipush 20, (0, 0, 0)) := by decide +kernel
theorem i_60_14 : a_ins 60 14 = some (.if_icmp .lt 8, (0, 0, 0)) := by decide +kernel
theorem i_60_17 : a_ins 60 17 = some (.aload_n 0, (0, 0, 0)) := by decide +kernel
theorem i_60_18 : a_ins 60 18 = some (.invokevirtual 100, (0, 52, 0)) := by decide +kernel
theorem i_60_21 : a_ins 60 21 = some (.ireturn, (0, 0, 0)) := by decide +kernel
theorem i_60_22 : a_ins 60 22 = some (.aload_n 0, (0, 0, 0)) := by decide +kernel
theorem i_60_23 : a_ins 60 23 = some (.invokevirtual 110, (0, 53, 0)) := by decide +kernel
theorem i_60_26 : a_ins 60 26 = some (.ifCond .ne 5, (0, 0, 0)) := by decide +kernel
theorem i_60_29 : a_ins 60 29 = some (.iconst 0, (0, 0, 0)) := by decide +kernel
theorem i_60_30 : a_ins 60 30 = some (.ireturn, (0, 0, 0)) := by decide +kernel
theorem i_60_31 : a_ins 60 31 = some (.aload_n 0, (0, 0, 0)) := by decide +kernel
theorem i_60_32 : a_ins 60 32 = some (.getfield 38, (1, 7, 287)) := by decide +kernel
theorem i_60_35 : a_ins 60 35 = some (.istore_n 2, (0, 0, 0)) := by decide +kernel
theorem i_60_36 : a_ins 60 36 = some (.aload_n 0, (0, 0, 0)) := by decide +kernel
theorem i_60_37 : a_ins 60 37 = some (.getfield 41, (1, 8, 288)) := by decide +kernel
theorem i_60_40 : a_ins 60 40 = some (.istore_n 3, (0, 0, 0)) := by decide +kernel
theorem i_60_41 : a_ins 60 41 = some (.aload_n 0, (0, 0, 0)) := by decide +kernel
theorem i_60_42 : a_ins 60 42 = some (.invokevirtual 110, (0, 53, 0)) := by decide +kernel
theorem i_60_45 : a_ins 60 45 = some (.ifCond .ne 5, (0, 0, 0)) := by decide +kernel
theorem i_60_48 : a_ins 60 48 = some (.iconst 0, (0, 0, 0)) := by decide +kernel
theorem i_60_49 : a_ins 60 49 = some (.ireturn, (0, 0, 0)) := by decide +kernel
theorem i_60_50 : a_ins 60 50 = some (.aload_n 0, (0, 0, 0)) := by decide +kernel
theorem i_60_51 : a_ins 60 51 = some (.getfield 38, (1, 7, 287)) := by decide +kernel
theorem i_60_54 : a_ins 60 54 = some (.istore 4, (0, 0, 0)) := by decide +kernel
theorem i_60_56 : a_ins 60 56 = some (.aload_n 0, (0, 0, 0)) := by decide +kernel
theorem i_60_57 : a_ins 60 57 = some (.getfield 41, (1, 8, 288)) := by decide +kernel
theorem i_60_60 : a_ins 60 60 = some (.iload_n 3, (0, 0, 0)) := by decide +kernel
theorem i_60_61 : a_ins 60 61 = some (.if_icmp .ne 21, (0, 0, 0)) := by decide +kernel
theorem i_60_64 : a_ins 60 64 = some (.aload_n 0, (0, 0, 0)) := by decide +kernel
theorem i_60_65 : a_ins 60 65 = some (.getfield 47, (1, 3, 283)) := by decide +kernel
theorem i_60_68 : a_ins 60 68 = some (.iload_n 2, (0, 0, 0)) := by decide +kernel
theorem i_60_69 : a_ins 60 69 = some (.aload_n 0, (0, 0, 0)) := by decide +kernel
theorem i_60_70 : a_ins 60 70 = some (.getfield 47, (1, 3, 283)) := by decide +kernel
theorem i_60_73 : a_ins 60 73 = some (.iload 4, (0, 0, 0)) := by decide +kernel
theorem i_60_75 : a_ins 60 75 = some (.iload_n 3, (0, 0, 0)) := by decide +kernel
theorem i_60_76 : a_ins 60 76 = some (.invokestatic 157, (1, 22, 5)) := by decide +kernel
theorem i_60_79 : a_ins 60 79 = some (.ifCond .ne 11, (0, 0, 0)) := by decide +kernel
theorem i_60_82 : a_ins 60 82 = some (.aload_n 0, (0, 0, 0)) := by decide +kernel
theorem i_60_83 : a_ins 60 83 = some (.iconst 5, (0, 0, 0)) := by decide +kernel
theorem i_60_84 : a_ins 60 84 = some (.iload 4, (0, 0, 0)) := by decide +kernel
theorem i_60_86 : a_ins 60 86 = some (.invokevirtual 121, (0, 56, 2)) := by decide +kernel
theorem i_60_89 : a_ins 60 89 = some (.ireturn, (0, 0, 0)) := by decide +kernel
theorem i_60_90 : a_ins 60 90 = some (.aload_n 0, (0, 0, 0)) := by decide +kernel
theorem i_60_91 : a_ins 60 91 = some (.bipush 7, (0, 0, 0)) := by decide +kernel
theorem i_60_93 : a_ins 60 93 = some (.invokevirtual 113, (0, 55, 1)) := by decide +kernel
theorem i_60_96 : a_ins 60 96 = some (.ifCond .ne 5, (0, 0, 0)) := by decide +kernel
theorem i_60_99 : a_ins 60 99 = some (.iconst 0, (0, 0, 0)) := by decide +kernel
theorem i_60_100 : a_ins 60 100 = some (.ireturn, (0, 0, 0)) := by decide +kernel
theorem i_60_101 : a_ins 60 101 = some (.aload_n 0, (0, 0, 0)) := by decide +kernel
theorem i_60_102 : a_ins 60 102 = some (.getfield 21, (1, 2, 281)) := by decide +kernel
theorem i_60_105 : a_ins 60 105 = some (.getfield 163, (0, 7, 193)) := by decide +kernel
theorem i_60_108 : a_ins 60 108 = some (.iload_n 1, (0, 0, 0)) := by decide +kernel
theorem i_60_109 : a_ins 60 109 = some (.aload_n 0, (0, 0, 0)) := by decide +kernel
theorem i_60_110 : a_ins 60 110 = some (.getfield 44, (1, 9, 289)) := by decide +kernel
theorem i_60_113 : a_ins 60 113 = some (.iastore, (0, 0, 0)) := by decide +kernel
theorem i_60_114 : a_ins 60 114 = some (.aload_n 0, (0, 0, 0)) := by decide +kernel
theorem i_60_115 : a_ins 60 115 = some (.bipush 99, (0, 0, 0)) := by decide +kernel
theorem i_60_117 : a_ins 60 117 = some (.invokevirtual 113, (0, 55, 1)) := by decide +kernel
theorem i_60_120 : a_ins 60 120 = some (.ifCond .ne 5, (0, 0, 0)) := by decide +kernel
theorem i_60_123 : a_ins 60 123 = some (.iconst 0, (0, 0, 0)) := by decide +kernel
theorem i_60_124 : a_ins 60 124 = some (.ireturn, (0, 0, 0)) := by decide +kernel
theorem i_60_125 : a_ins 60 125 = some (.aload_n 0, (0, 0, 0)) := by decide +kernel
theorem i_60_126 : a_ins 60 126 = some (.getfield 21, (1, 2, 281)) := by decide +kernel
theorem i_60_129 : a_ins 60 129 = some (.getfield 166, (0, 8, 196)) := by decide +kernel
theorem i_60_132 : a_ins 60 132 = some (.iload_n 1, (0, 0, 0)) := by decide +kernel
theorem i_60_133 : a_ins 60 133 = some (.aload_n 0, (0, 0, 0)) := by decide +kernel
theorem i_60_134 : a_ins 60 134 = some (.getfield 44, (1, 9, 289)) := by decide +kernel
theorem i_60_137 : a_ins 60 137 = some (.iastore, (0, 0, 0)) := by decide +kernel
theorem i_60_138 : a_ins 60 138 = some (.aload_n 0, (0, 0, 0)) := by decide +kernel
theorem i_60_139 : a_ins 60 139 = some (.invokevirtual 169, (0, 61, 0)) := by decide +kernel
theorem i_60_142 : a_ins 60 142 = some (.ifCond .ne 5, (0, 0, 0)) := by decide +kernel
theorem i_60_145 : a_ins 60 145 = some (.iconst 0, (0, 0, 0)) := by decide +kernel
theorem i_60_146 : a_ins 60 146 = some (.ireturn, (0, 0, 0)) := by decide +kernel
theorem i_60_147 : a_ins 60 147 = some (.aload_n 0, (0, 0, 0)) := by decide +kernel
theorem i_60_148 : a_ins 60 148 = some (.getfield 21, (1, 2, 281)) := by decide +kernel
theorem i_60_151 : a_ins 60 151 = some (.getfield 154, (0, 6, 189)) := by decide +kernel
theorem i_60_154 : a_ins 60 154 = some (.aload_n 0, (0, 0, 0)) := by decide +kernel
theorem i_60_155 : a_ins 60 155 = some (.getfield 47, (1, 3, 283)) := by decide +kernel
theorem i_60_158 : a_ins 60 158 = some (.iload 4, (0, 0, 0)) := by decide +kernel
theorem i_60_160 : a_ins 60 160 = some (.iload_n 3, (0, 0, 0)) := by decide +kernel
theorem i_60_161 : a_ins 60 161 = some (.invokevirtual 138, (0, 59, 3)) := by decide +kernel
theorem i_60_164 : a_ins 60 164 = some (.iconst 1, (0, 0, 0)) := by decide +kernel
theorem i_60_165 : a_ins 60 165 = some (.ireturn, (0, 0, 0)) := by decide +kernel
theorem i_61_0 : a_ins 61 0 = some (.aload_n 0, (0, 0, 0)) := by decide +kernel
theorem i_61_1 : a_ins 61 1 = some (.invokevirtual 61, (0, 48, 0)) := by decide +kernel
theorem i_61_4 : a_ins 61 4 = some (.aload_n 0, (0, 0, 0)) := by decide +kernel
theorem i_61_5 : a_ins 61 5 = some (.iconst 2, (0, 0, 0)) := by decide +kernel
theorem i_61_6 : a_ins 61 6 = some (.invokevirtual 151, (0, 54, 1)) := by decide +kernel
theorem i_61_9 : a_ins 61 9 = some (.ireturn, (0, 0, 0)) := by decide +kernel
theorem i_62_0 : a_ins 62 0 = some (.aload_n 0, (0, 0, 0)) := by decide +kernel
theorem i_62_1 : a_ins 62 1 = some (.getfield 21, (1, 2, 281)) := by decide +kernel
theorem i_62_4 : a_ins 62 4 = some (.getfield 172, (0, 9, 199)) := by decide +kernel
theorem i_62_7 : a_ins 62 7 = some (.getfield 107, (3, 2, 156)) := by decide +kernel
theorem i_62_10 : a_ins 62 10 = some (.bipush 20, (0, 0, 0)) := by decide +kernel
theorem i_62_12 : a_ins 62 12 = some (.if_icmp .lt 8, (0, 0, 0)) := by decide +kernel
theorem i_62_15 : a_ins 62 15 = some (.aload_n 0, (0, 0, 0)) := by decide +kernel
theorem i_62_16 : a_ins 62 16 = some (.invokevirtual 100, (0, 52, 0)) := by decide +kernel
theorem i_62_19 : a_ins 62 19 = some (.ireturn, (0, 0, 0)) := by decide +kernel
theorem i_62_20 : a_ins 62 20 = some (.aload_n 0, (0, 0, 0)) := by decide +kernel
theorem i_62_21 : a_ins 62 21 = some (.invokevirtual 110, (0, 53, 0)) := by decide +kernel
theorem i_62_24 : a_ins 62 24 = some (.ifCond .ne 5, (0, 0, 0)) := by decide +kernel
theorem i_62_27 : a_ins 62 27 = some (.iconst 0, (0, 0, 0)) := by decide +kernel
theorem i_62_28 : a_ins 62 28 = some (.ireturn, (0, 0, 0)) := by decide +kernel
theorem i_62_29 : a_ins 62 29 = some (.aload_n 0, (0, 0, 0)) := by decide +kernel
theorem i_62_30 : a_ins 62 30 = some (.getfield 38, (1, 7, 287)) := by decide +kernel
theorem i_62_33 : a_ins 62 33 = some (.istore_n 1, (0, 0, 0)) := by decide +kernel
theorem i_62_34 : a_ins 62 34 = some (.aload_n 0, (0, 0, 0)) := by decide +kernel
theorem i_62_35 : a_ins 62 35 = some (.getfield 41, (1, 8, 288)) := by decide +kernel
theorem i_62_38 : a_ins 62 38 = some (.istore_n 2, (0, 0, 0)) := by decide +kernel
theorem i_62_39 : a_ins 62 39 = some (.aload_n 0, (0, 0, 0)) := by decide +kernel
theorem i_62_40 : a_ins 62 40 = some (.getfield 21, (1, 2, 281)) := by decide +kernel
theorem i_62_43 : a_ins 62 43 = some (.aload_n 0, (0, 0, 0)) := by decide +kernel
theorem i_62_44 : a_ins 62 44 = some (.getfield 47, (1, 3, 283)) := by decide +kernel
theorem i_62_47 : a_ins 62 47 = some (.iload_n 1, (0, 0, 0)) := by decide +kernel
theorem i_62_48 : a_ins 62 48 = some (.iload_n 2, (0, 0, 0)) := by decide +kernel
theorem i_62_49 : a_ins 62 49 = some (.invokevirtual 175, (0, 20, 3)) := by decide +kernel
theorem i_62_52 : a_ins 62 52 = some (.ifCond .eq 10, (0, 0, 0)) := by decide +kernel
theorem i_62_55 : a_ins 62 55 = some (.aload_n 0, (0, 0, 0)) := by decide +kernel
theorem i_62_56 : a_ins 62 56 = some (.iconst 3, (0, 0, 0)) := by decide +kernel
theorem i_62_57 : a_ins 62 57 = some (.iload_n 1, (0, 0, 0)) := by decide +kernel
theorem i_62_58 : a_ins 62 58 = some (.invokevirtual 121, (0, 56, 2)) := by decide +kernel
theorem i_62_61 : a_ins 62 61 = some (.ireturn, (0, 0, 0)) := by decide +kernel
theorem i_62_62 : a_ins 62 62 = some (.aload_n 0, (0, 0, 0)) := by decide +kernel
theorem i_62_63 : a_ins 62 63 = some (.invokevirtual 169, (0, 61, 0)) := by decide +kernel
theorem i_62_66 : a_ins 62 66 = some (.ifCond .ne 5, (0, 0, 0)) := by decide +kernel
theorem i_62_69 : a_ins 62 69 = some (.iconst 0, (0, 0, 0)) := by decide +kernel
theorem i_62_70 : a_ins 62 70 = some (.ireturn, (0, 0, 0)) := by decide +kernel
theorem i_62_71 : a_ins 62 71 = some (.aload_n 0, (0, 0, 0)) := by decide +kernel
theorem i_62_72 : a_ins 62 72 = some (.getfield 21, (1, 2, 281)) := by decide +kernel
theorem i_62_75 : a_ins 62 75 = some (.getfield 172, (0, 9, 199)) := by decide +kernel
theorem i_62_78 : a_ins 62 78 = some (.aload_n 0, (0, 0, 0)) := by decide +kernel
theorem i_62_79 : a_ins 62 79 = some (.getfield 47, (1, 3, 283)) := by decide +kernel
theorem i_62_82 : a_ins 62 82 = some (.iload_n 1, (0, 0, 0)) := by decide +kernel
theorem i_62_83 : a_ins 62 83 = some (.iload_n 2, (0, 0, 0)) := by decide +kernel
theorem i_62_84 : a_ins 62 84 = some (.invokevirtual 138, (0, 59, 3)) := by decide +kernel
theorem i_62_87 : a_ins 62 87 = some (.iconst 1, (0, 0, 0)) := by decide +kernel
theorem i_62_88 : a_ins 62 88 = some (.ireturn, (0, 0, 0)) := by decide +kernel
theorem i_63_0 : a_ins 63 0 = some (.aload_n 0, (0, 0, 0)) := by decide +kernel
theorem i_63_1 : a_ins 63 1 = some (.getfield 21, (1, 2, 281)) := by decide +kernel
theorem i_63_4 : a_ins 63 4 = some (.getfield 179, (0, 12, 206)) := by decide +kernel
theorem i_63_7 : a_ins 63 7 = some (.bipush 40, (0, 0, 0)) := by decide +kernel
theorem i_63_9 : a_ins 63 9 = some (.if_icmp .lt 8, (0, 0, 0)) := by decide +kernel
theorem i_63_12 : a_ins 63 12 = some (.aload_n 0, (0, 0, 0)) := by decide +kernel
theorem i_63_13 : a_ins 63 13 = some (.invokevirtual 100, (0, 52, 0)) := by decide +kernel
theorem i_63_16 : a_ins 63 16 = some (.ireturn, (0, 0, 0)) := by decide +kernel
theorem i_63_17 : a_ins 63 17 = some (.aload_n 0, (0, 0, 0)) := by decide +kernel
theorem i_63_18 : a_ins 63 18 = some (.bipush 7, (0, 0, 0)) := by decide +kernel
theorem i_63_20 : a_ins 63 20 = some (.invokevirtual 113, (0, 55, 1)) := by decide +kernel
theorem i_63_23 : a_ins 63 23 = some (.ifCond .ne 5, (0, 0, 0)) := by decide +kernel
theorem i_63_26 : a_ins 63 26 = some (.iconst 0, (0, 0, 0)) := by decide +kernel
theorem i_63_27 : a_ins 63 27 = some (.ireturn, (0, 0, 0)) := by decide +kernel
theorem i_63_28 : a_ins 63 28 = some (.aload_n 0, (0, 0, 0)) := by decide +kernel
theorem i_63_29 : a_ins 63 29 = some (.getfield 38, (1, 7, 287)) := by decide +kernel
theorem i_63_32 : a_ins 63 32 = some (.istore_n 2, (0, 0, 0)) := by decide +kernel
theorem i_63_33 : a_ins 63 33 = some (.aload_n 0, (0, 0, 0)) := by decide +kernel
theorem i_63_34 : a_ins 63 34 = some (.getfield 44, (1, 9, 289)) := by decide +kernel
theorem i_63_37 : a_ins 63 37 = some (.bipush 8, (0, 0, 0)) := by decide +kernel
theorem i_63_39 : a_ins 63 39 = some (.imul, (0, 0, 0)) := by decide +kernel
theorem i_63_40 : a_ins 63 40 = some (.istore_n 3, (0, 0, 0)) := by decide +kernel
theorem i_63_41 : a_ins 63 41 = some (.aload_n 0, (0, 0, 0)) := by decide +kernel
theorem i_63_42 : a_ins 63 42 = some (.bipush 7, (0, 0, 0)) := by decide +kernel
theorem i_63_44 : a_ins 63 44 = some (.invokevirtual 113, (0, 55, 1)) := by decide +kernel
theorem i_63_47 : a_ins 63 47 = some (.ifCond .ne 5, (0, 0, 0)) := by decide +kernel
theorem i_63_50 : a_ins 63 50 = some (.iconst 0, (0, 0, 0)) := by decide +kernel
theorem i_63_51 : a_ins 63 51 = some (.ireturn, (0, 0, 0)) := by decide +kernel
theorem i_63_52 : a_ins 63 52 = some (.iload_n 3, (0, 0, 0)) := by decide +kernel
theorem i_63_53 : a_ins 63 53 = some (.aload_n 0, (0, 0, 0)) := by decide +kernel
theorem i_63_54 : a_ins 63 54 = some (.getfield 44, (1, 9, 289)) := by decide +kernel
theorem i_63_57 : a_ins 63 57 = some (.iadd, (0, 0, 0)) := by decide +kernel
theorem i_63_58 : a_ins 63 58 = some (.istore_n 3, (0, 0, 0)) := by decide +kernel
theorem i_63_59 : a_ins 63 59 = some (.aload_n 0, (0, 0, 0)) := by decide +kernel
theorem i_63_60 : a_ins 63 60 = some (.getfield 21, (1, 2, 281)) := by decide +kernel
theorem i_63_63 : a_ins 63 63 = some (.getfield 182, (0, 11, 204)) := by decide +kernel
theorem i_63_66 : a_ins 63 66 = some (.iload_n 3, (0, 0, 0)) := by decide +kernel
theorem i_63_67 : a_ins 63 67 = some (.baload, (0, 0, 0)) := by decide +kernel
theorem i_63_68 : a_ins 63 68 = some (.ifCond .eq 10, (0, 0, 0)) := by decide +kernel
theorem i_63_71 : a_ins 63 71 = some (.aload_n 0, (0, 0, 0)) := by decide +kernel
theorem i_63_72 : a_ins 63 72 = some (.iconst 3, (0, 0, 0)) := by decide +kernel
theorem i_63_73 : a_ins 63 73 = some (.iload_n 2, (0, 0, 0)) := by decide +kernel
theorem i_63_74 : a_ins 63 74 = some (.invokevirtual 121, (0, 56, 2)) := by decide +kernel
theorem i_63_77 : a_ins 63 77 = some (.ireturn, (0, 0, 0)) := by decide +kernel
theorem i_63_78 : a_ins 63 78 = some (.ldc 186, (0, 4, 912)) := by decide +kernel
theorem i_63_80 : a_ins 63 80 = some (.istore 4, (0, 0, 0)) := by decide +kernel
theorem i_63_82 : a_ins 63 82 = some (.iload_n 1, (0, 0, 0)) := by decide +kernel
theorem i_63_83 : a_ins 63 83 = some (.ifCond .eq 20, (0, 0, 0)) := by decide +kernel
theorem i_63_86 : a_ins 63 86 = some (.aload_n 0, (0, 0, 0)) := by decide +kernel
theorem i_63_87 : a_ins 63 87 = some (.bipush 99, (0, 0, 0)) := by decide +kernel
theorem i_63_89 : a_ins 63 89 = some (.invokevirtual 113, (0, 55, 1)) := by decide +kernel
theorem i_63_92 : a_ins 63 92 = some (.ifCond .ne 5, (0, 0, 0)) := by decide +kernel
theorem i_63_95 : a_ins 63 95 = some (.iconst 0, (0, 0, 0)) := by decide +kernel
theorem i_63_96 : a_ins 63 96 = some (.ireturn, (0, 0, 0)) := by decide +kernel
theorem i_63_97 : a_ins 63 97 = some (.aload_n 0, (0, 0, 0)) := by decide +kernel
theorem i_63_98 : a_ins 63 98 = some (.getfield 44, (1, 9, 289)) := by decide +kernel
theorem i_63_101 : a_ins 63 101 = some (.istore 4, (0, 0, 0)) := by decide +kernel
theorem i_63_103 : a_ins 63 103 = some (.aload_n 0, (0, 0, 0)) := by decide +kernel
theorem i_63_104 : a_ins 63 104 = some (.invokevirtual 169, (0, 61, 0)) := by decide +kernel
theorem i_63_107 : a_ins 63 107 = some (.ifCond .ne 5, (0, 0, 0)) := by decide +kernel
theorem i_63_110 : a_ins 63 110 = some (.iconst 0, (0, 0, 0)) := by decide +kernel
theorem i_63_111 : a_ins 63 111 = some (.ireturn, (0, 0, 0)) := by decide +kernel
theorem i_63_112 : a_ins 63 112 = some (.aload_n 0, (0, 0, 0)) := by decide +kernel
theorem i_63_113 : a_ins 63 113 = some (.getfield 21, (1, 2, 281)) := by decide +kernel
theorem i_63_116 : a_ins 63 116 = some (.iload_n 3, (0, 0, 0)) := by decide +kernel
theorem i_63_117 : a_ins 63 117 = some (.iload 4, (0, 0, 0)) := by decide +kernel
theorem i_63_119 : a_ins 63 119 = some (.invokevirtual 187, (0, 64, 2)) := by decide +kernel
theorem i_63_122 : a_ins 63 122 = some (.iconst 1, (0, 0, 0)) := by decide +kernel
theorem i_63_123 : a_ins 63 123 = some (.ireturn, (0, 0, 0)) := by decide +kernel
theorem i_64_0 : a_ins 64 0 = some (.aload_n 0, (0, 0, 0)) := by decide +kernel
theorem i_64_1 : a_ins 64 1 = some (.getfield 51, (0, 11, 203)) := by decide +kernel
theorem i_64_4 : a_ins 64 4 = some (.iload_n 1, (0, 0, 0)) := by decide +kernel
theorem i_64_5 : a_ins 64 5 = some (.iconst 1, (0, 0, 0)) := by decide +kernel
theorem i_64_6 : a_ins 64 6 = some (.bastore, (0, 0, 0)) := by decide +kernel
theorem i_64_7 : a_ins 64 7 = some (.aload_n 0, (0, 0, 0)) := by decide +kernel
theorem i_64_8 : a_ins 64 8 = some (.getfield 48, (0, 10, 201)) := by decide +kernel
theorem i_64_11 : a_ins 64 11 = some (.iload_n 1, (0, 0, 0)) := by decide +kernel
theorem i_64_12 : a_ins 64 12 = some (.iload_n 2, (0, 0, 0)) := by decide +kernel
theorem i_64_13 : a_ins 64 13 = some (.iastore, (0, 0, 0)) := by decide +kernel
theorem i_64_14 : a_ins 64 14 = some (.aload_n 0, (0, 0, 0)) := by decide +kernel
theorem i_64_15 : a_ins 64 15 = some (.dup, (0, 0, 0)) := by decide +kernel
theorem i_64_16 : a_ins 64 16 = some (.getfield 55, (0, 12, 205)) := by decide +kernel
theorem i_64_19 : a_ins 64 19 = some (.iconst 1, (0, 0, 0)) := by decide +kernel
theorem i_64_20 : a_ins 64 20 = some (.iadd, (0, 0, 0)) := by decide +kernel
theorem i_64_21 : a_ins 64 21 = some (.putfield 55, (0, 12, 205)) := by decide +kernel
theorem i_64_24 : a_ins 64 24 = some (.return_, (0, 0, 0)) := by decide +kernel
theorem i_65_0 : a_ins 65 0 = some (.aload_n 0, (0, 0, 0)) := by decide +kernel
theorem i_65_1 : a_ins 65 1 = some (.getfield 21, (1, 2, 281)) := by decide +kernel
theorem i_65_4 : a_ins 65 4 = some (.getfield 191, (0, 13, 209)) := by decide +kernel
theorem i_65_7 : a_ins 65 7 = some (.ifCond .eq 8, (0, 0, 0)) := by decide +kernel
theorem i_65_10 : a_ins 65 10 = some (.aload_n 0, (0, 0, 0)) := by decide +kernel
theorem i_65_11 : a_ins 65 11 = some (.invokevirtual 100, (0, 52, 0)) := by decide +kernel
theorem i_65_14 : a_ins 65 14 = some (.ireturn, (0, 0, 0)) := by decide +kernel
theorem i_65_15 : a_ins 65 15 = some (.aload_n 0, (0, 0, 0)) := by decide +kernel
theorem i_65_16 : a_ins 65 16 = some (.bipush 7, (0, 0, 0)) := by decide +kernel
theorem i_65_18 : a_ins 65 18 = some (.invokevirtual 113, (0, 55, 1)) := by decide +kernel
theorem i_65_21 : a_ins 65 21 = some (.ifCond .ne 5, (0, 0, 0)) := by decide +kernel
theorem i_65_24 : a_ins 65 24 = some (.iconst 0, (0, 0, 0)) := by decide +kernel
theorem i_65_25 : a_ins 65 25 = some (.ireturn, (0, 0, 0)) := by decide +kernel
theorem i_65_26 : a_ins 65 26 = some (.aload_n 0, (0, 0, 0)) := by decide +kernel
theorem i_65_27 : a_ins 65 27 = some (.getfield 21, (1, 2, 281)) := by decide +kernel
theorem i_65_30 : a_ins 65 30 = some (.aload_n 0, (0, 0, 0)) := by decide +kernel
theorem i_65_31 : a_ins 65 31 = some (.getfield 44, (1, 9, 289)) := by decide +kernel
theorem i_65_34 : a_ins 65 34 = some (.putfield 195, (0, 14, 212)) := by decide +kernel
theorem i_65_37 : a_ins 65 37 = some (.aload_n 0, (0, 0, 0)) := by decide +kernel
theorem i_65_38 : a_ins 65 38 = some (.bipush 99, (0, 0, 0)) := by decide +kernel
theorem i_65_40 : a_ins 65 40 = some (.invokevirtual 113, (0, 55, 1)) := by decide +kernel
theorem i_65_43 : a_ins 65 43 = some (.ifCond .ne 5, (0, 0, 0)) := by decide +kernel
theorem i_65_46 : a_ins 65 46 = some (.iconst 0, (0, 0, 0)) := by decide +kernel
theorem i_65_47 : a_ins 65 47 = some (.ireturn, (0, 0, 0)) := by decide +kernel
theorem i_65_48 : a_ins 65 48 = some (.aload_n 0, (0, 0, 0)) := by decide +kernel
theorem i_65_49 : a_ins 65 49 = some (.getfield 21, (1, 2, 281)) := by decide +kernel
theorem i_65_52 : a_ins 65 52 = some (.aload_n 0, (0, 0, 0)) := by decide +kernel
theorem i_65_53 : a_ins 65 53 = some (.getfield 44, (1, 9, 289)) := by decide +kernel
theorem i_65_56 : a_ins 65 56 = some (.putfield 198, (0, 15, 215)) := by decide +kernel
theorem i_65_59 : a_ins 65 59 = some (.aload_n 0, (0, 0, 0)) := by decide +kernel
theorem i_65_60 : a_ins 65 60 = some (.getfield 21, (1, 2, 281)) := by decide +kernel
theorem i_65_63 : a_ins 65 63 = some (.iconst 1, (0, 0, 0)) := by decide +kernel
theorem i_65_64 : a_ins 65 64 = some (.putfield 191, (0, 13, 209)) := by decide +kernel
theorem i_65_67 : a_ins 65 67 = some (.aload_n 0, (0, 0, 0)) := by decide +kernel
theorem i_65_68 : a_ins 65 68 = some (.invokevirtual 169, (0, 61, 0)) := by decide +kernel
theorem i_65_71 : a_ins 65 71 = some (.ireturn, (0, 0, 0)) := by decide +kernel
theorem i_66_0 : a_ins 66 0 = some (.aload_n 0, (0, 0, 0)) := by decide +kernel
theorem i_66_1 : a_ins 66 1 = some (.iconst 0, (0, 0, 0)) := by decide +kernel
theorem i_66_2 : a_ins 66 2 = some (.putfield 26, (5, 4, 524)) := by decide +kernel
theorem i_66_5 : a_ins 66 5 = some (.aload_n 0, (0, 0, 0)) := by decide +kernel
theorem i_66_6 : a_ins 66 6 = some (.iconst 0, (0, 0, 0)) := by decide +kernel
theorem i_66_7 : a_ins 66 7 = some (.putfield 30, (5, 5, 526)) := by decide +kernel
theorem i_66_10 : a_ins 66 10 = some (.return_, (0, 0, 0)) := by decide +kernel
theorem i_67_0 : a_ins 67 0 = some (.aload_n 0, (0, 0, 0)) := by decide +kernel
theorem i_67_1 : a_ins 67 1 = some (.iconst 0, (0, 0, 0)) := by decide +kernel
theorem i_67_2 : a_ins 67 2 = some (.putfield 22, (4, 3, 322)) := by decide +kernel
theorem i_67_5 : a_ins 67 5 = some (.return_, (0, 0, 0)) := by decide +kernel
theorem i_68_0 : a_ins 68 0 = some (.iload_n 1, (0, 0, 0)) := by decide +kernel
theorem i_68_1 : a_ins 68 1 = some (.ifCond .lt 19, (0, 0, 0)) := by decide +kernel
theorem i_68_4 : a_ins 68 4 = some (.iload_n 1, (0, 0, 0)) := by decide +kernel
theorem i_68_5 : a_ins 68 5 = some (.ldc 104, (0, 1, 935)) := by decide +kernel
theorem i_68_7 : a_ins 68 7 = some (.if_icmp .gt 13, (0, 0, 0)) := by decide +kernel
theorem i_68_10 : a_ins 68 10 = some (.aload_n 0, (0, 0, 0)) := by decide +kernel
theorem i_68_11 : a_ins 68 11 = some (.getfield 45, (10, 5, 733)) := by decide +kernel
theorem i_68_14 : a_ins 68 14 = some (.sipush 200, (0, 0, 0)) := by decide +kernel
theorem i_68_17 : a_ins 68 17 = some (.if_icmp .le 6, (0, 0, 0)) := by decide +kernel
theorem i_68_20 : a_ins 68 20 = some (.bipush (-2), (0, 0, 0)) := by decide +kernel
