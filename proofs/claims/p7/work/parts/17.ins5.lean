theorem i_161_9 : a_ins 161 9 = some (.istore_n 1, (0, 0, 0)) := by decide +kernel
theorem i_161_10 : a_ins 161 10 = some (.iload_n 1, (0, 0, 0)) := by decide +kernel
theorem i_161_11 : a_ins 161 11 = some (.aload_n 0, (0, 0, 0)) := by decide +kernel
theorem i_161_12 : a_ins 161 12 = some (.getfield 224, (11, 38, 1244)) := by decide +kernel
theorem i_161_15 : a_ins 161 15 = some (.if_icmp .ge 14, (0, 0, 0)) := by decide +kernel
theorem i_161_18 : a_ins 161 18 = some (.aload_n 0, (0, 0, 0)) := by decide +kernel
theorem i_161_19 : a_ins 161 19 = some (.iload_n 1, (0, 0, 0)) := by decide +kernel
theorem i_161_20 : a_ins 161 20 = some (.invokevirtual 341, (0, 162, 1)) := by decide +kernel
theorem i_161_23 : a_ins 161 23 = some (.iinc 1 1, (0, 0, 0)) := by decide +kernel
theorem i_161_26 : a_ins 161 26 = some (.goto (-16), (0, 0, 0)) := by decide +kernel
theorem i_161_29 : a_ins 161 29 = some (.aload_n 0, (0, 0, 0)) := by decide +kernel
theorem i_161_30 : a_ins 161 30 = some (.aload_n 0, (0, 0, 0)) := by decide +kernel
theorem i_161_31 : a_ins 161 31 = some (.getfield 146, (11, 45, 1251)) := by decide +kernel
theorem i_161_34 : a_ins 161 34 = some (.iconst (-1), (0, 0, 0)) := by decide +kernel
theorem i_161_35 : a_ins 161 35 = some (.if_icmp .ne 7, (0, 0, 0)) := by decide +kernel
theorem i_161_38 : a_ins 161 38 = some (.iconst 0, (0, 0, 0)) := by decide +kernel
theorem i_161_39 : a_ins 161 39 = some (.goto 12, (0, 0, 0)) := by decide +kernel
theorem i_161_42 : a_ins 161 42 = some (.aload_n 0, (0, 0, 0)) := by decide +kernel
theorem i_161_43 : a_ins 161 43 = some (.getfield 146, (11, 45, 1251)) := by decide +kernel
theorem i_161_46 : a_ins 161 46 = some (.aload_n 0, (0, 0, 0)) := by decide +kernel
theorem i_161_47 : a_ins 161 47 = some (.invokevirtual 345, (0, 174, 0)) := by decide +kernel
theorem i_161_50 : a_ins 161 50 = some (.isub, (0, 0, 0)) := by decide +kernel
theorem i_161_51 : a_ins 161 51 = some (.putfield 348, (11, 56, 1262)) := by decide +kernel
theorem i_161_54 : a_ins 161 54 = some (.aload_n 0, (0, 0, 0)) := by decide +kernel
theorem i_161_55 : a_ins 161 55 = some (.iconst (-1), (0, 0, 0)) := by decide +kernel
theorem i_161_56 : a_ins 161 56 = some (.putfield 176, (11, 58, 1264)) := by decide +kernel
theorem i_161_59 : a_ins 161 59 = some (.aload_n 0, (0, 0, 0)) := by decide +kernel
theorem i_161_60 : a_ins 161 60 = some (.invokevirtual 351, (0, 175, 0)) := by decide +kernel
theorem i_161_63 : a_ins 161 63 = some (.aload_n 0, (0, 0, 0)) := by decide +kernel
theorem i_161_64 : a_ins 161 64 = some (.iconst 1, (0, 0, 0)) := by decide +kernel
theorem i_161_65 : a_ins 161 65 = some (.putfield 236, (11, 53, 1259)) := by decide +kernel
theorem i_161_68 : a_ins 161 68 = some (.return_, (0, 0, 0)) := by decide +kernel
theorem i_162_0 : a_ins 162 0 = some (.aload_n 0, (0, 0, 0)) := by decide +kernel
theorem i_162_1 : a_ins 162 1 = some (.getfield 152, (11, 47, 1253)) := by decide +kernel
theorem i_162_4 : a_ins 162 4 = some (.iload_n 1, (0, 0, 0)) := by decide +kernel
theorem i_162_5 : a_ins 162 5 = some (.iconst 0, (0, 0, 0)) := by decide +kernel
theorem i_162_6 : a_ins 162 6 = some (.iastore, (0, 0, 0)) := by decide +kernel
theorem i_162_7 : a_ins 162 7 = some (.aload_n 0, (0, 0, 0)) := by decide +kernel
theorem i_162_8 : a_ins 162 8 = some (.iload_n 1, (0, 0, 0)) := by decide +kernel
theorem i_162_9 : a_ins 162 9 = some (.invokevirtual 318, (0, 163, 1)) := by decide +kernel
theorem i_162_12 : a_ins 162 12 = some (.istore_n 2, (0, 0, 0)) := by decide +kernel
theorem i_162_13 : a_ins 162 13 = some (.iload_n 2, (0, 0, 0)) := by decide +kernel
theorem i_162_14 : a_ins 162 14 = some (.ifCond .lt 15, (0, 0, 0)) := by decide +kernel
theorem i_162_17 : a_ins 162 17 = some (.aload_n 0, (0, 0, 0)) := by decide +kernel
theorem i_162_18 : a_ins 162 18 = some (.iload_n 1, (0, 0, 0)) := by decide +kernel
theorem i_162_19 : a_ins 162 19 = some (.aload_n 0, (0, 0, 0)) := by decide +kernel
theorem i_162_20 : a_ins 162 20 = some (.getfield 187, (11, 62, 1268)) := by decide +kernel
theorem i_162_23 : a_ins 162 23 = some (.iload_n 2, (0, 0, 0)) := by decide +kernel
theorem i_162_24 : a_ins 162 24 = some (.iaload, (0, 0, 0)) := by decide +kernel
theorem i_162_25 : a_ins 162 25 = some (.invokevirtual 321, (0, 164, 2)) := by decide +kernel
theorem i_162_28 : a_ins 162 28 = some (.return_, (0, 0, 0)) := by decide +kernel
theorem i_162_29 : a_ins 162 29 = some (.aload_n 0, (0, 0, 0)) := by decide +kernel
theorem i_162_30 : a_ins 162 30 = some (.getfield 134, (11, 37, 1243)) := by decide +kernel
theorem i_162_33 : a_ins 162 33 = some (.iload_n 1, (0, 0, 0)) := by decide +kernel
theorem i_162_34 : a_ins 162 34 = some (.baload, (0, 0, 0)) := by decide +kernel
theorem i_162_35 : a_ins 162 35 = some (.ifCond .ne 11, (0, 0, 0)) := by decide +kernel
theorem i_162_38 : a_ins 162 38 = some (.aload_n 0, (0, 0, 0)) := by decide +kernel
theorem i_162_39 : a_ins 162 39 = some (.iload_n 1, (0, 0, 0)) := by decide +kernel
theorem i_162_40 : a_ins 162 40 = some (.invokevirtual 324, (0, 169, 1)) := by decide +kernel
theorem i_162_43 : a_ins 162 43 = some (.ifCond .eq 23, (0, 0, 0)) := by decide +kernel
theorem i_162_46 : a_ins 162 46 = some (.aload_n 0, (0, 0, 0)) := by decide +kernel
theorem i_162_47 : a_ins 162 47 = some (.aload_n 0, (0, 0, 0)) := by decide +kernel
theorem i_162_48 : a_ins 162 48 = some (.iload_n 1, (0, 0, 0)) := by decide +kernel
theorem i_162_49 : a_ins 162 49 = some (.bipush 7, (0, 0, 0)) := by decide +kernel
theorem i_162_51 : a_ins 162 51 = some (.iconst 0, (0, 0, 0)) := by decide +kernel
theorem i_162_52 : a_ins 162 52 = some (.iconst (-1), (0, 0, 0)) := by decide +kernel
theorem i_162_53 : a_ins 162 53 = some (.invokevirtual 307, (0, 166, 4)) := by decide +kernel
theorem i_162_56 : a_ins 162 56 = some (.aload_n 0, (0, 0, 0)) := by decide +kernel
theorem i_162_57 : a_ins 162 57 = some (.getfield 131, (11, 36, 1242)) := by decide +kernel
theorem i_162_60 : a_ins 162 60 = some (.iload_n 1, (0, 0, 0)) := by decide +kernel
theorem i_162_61 : a_ins 162 61 = some (.iaload, (0, 0, 0)) := by decide +kernel
theorem i_162_62 : a_ins 162 62 = some (.invokevirtual 311, (0, 167, 2)) := by decide +kernel
theorem i_162_65 : a_ins 162 65 = some (.return_, (0, 0, 0)) := by decide +kernel
theorem i_162_66 : a_ins 162 66 = some (.iconst 0, (0, 0, 0)) := by decide +kernel
theorem i_162_67 : a_ins 162 67 = some (.istore_n 3, (0, 0, 0)) := by decide +kernel
theorem i_162_68 : a_ins 162 68 = some (.iload_n 3, (0, 0, 0)) := by decide +kernel
theorem i_162_69 : a_ins 162 69 = some (.aload_n 0, (0, 0, 0)) := by decide +kernel
theorem i_162_70 : a_ins 162 70 = some (.getfield 103, (11, 25, 1231)) := by decide +kernel
theorem i_162_73 : a_ins 162 73 = some (.aload_n 0, (0, 0, 0)) := by decide +kernel
theorem i_162_74 : a_ins 162 74 = some (.getfield 215, (11, 32, 1238)) := by decide +kernel
theorem i_162_77 : a_ins 162 77 = some (.iaload, (0, 0, 0)) := by decide +kernel
theorem i_162_78 : a_ins 162 78 = some (.if_icmp .ge 102, (0, 0, 0)) := by decide +kernel
theorem i_162_81 : a_ins 162 81 = some (.bipush 80, (0, 0, 0)) := by decide +kernel
theorem i_162_83 : a_ins 162 83 = some (.aload_n 0, (0, 0, 0)) := by decide +kernel
theorem i_162_84 : a_ins 162 84 = some (.getfield 215, (11, 32, 1238)) := by decide +kernel
theorem i_162_87 : a_ins 162 87 = some (.imul, (0, 0, 0)) := by decide +kernel
theorem i_162_88 : a_ins 162 88 = some (.iload_n 3, (0, 0, 0)) := by decide +kernel
theorem i_162_89 : a_ins 162 89 = some (.iadd, (0, 0, 0)) := by decide +kernel
theorem i_162_90 : a_ins 162 90 = some (.istore 4, (0, 0, 0)) := by decide +kernel
theorem i_162_92 : a_ins 162 92 = some (.aload_n 0, (0, 0, 0)) := by decide +kernel
theorem i_162_93 : a_ins 162 93 = some (.getfield 152, (11, 47, 1253)) := by decide +kernel
theorem i_162_96 : a_ins 162 96 = some (.iload_n 1, (0, 0, 0)) := by decide +kernel
theorem i_162_97 : a_ins 162 97 = some (.iaload, (0, 0, 0)) := by decide +kernel
theorem i_162_98 : a_ins 162 98 = some (.bipush 12, (0, 0, 0)) := by decide +kernel
theorem i_162_100 : a_ins 162 100 = some (.if_icmp .ge 74, (0, 0, 0)) := by decide +kernel
theorem i_162_103 : a_ins 162 103 = some (.aload_n 0, (0, 0, 0)) := by decide +kernel
theorem i_162_104 : a_ins 162 104 = some (.getfield 72, (11, 15, 1221)) := by decide +kernel
theorem i_162_107 : a_ins 162 107 = some (.iload 4, (0, 0, 0)) := by decide +kernel
theorem i_162_109 : a_ins 162 109 = some (.iaload, (0, 0, 0)) := by decide +kernel
theorem i_162_110 : a_ins 162 110 = some (.aload_n 0, (0, 0, 0)) := by decide +kernel
theorem i_162_111 : a_ins 162 111 = some (.getfield 131, (11, 36, 1242)) := by decide +kernel
theorem i_162_114 : a_ins 162 114 = some (.iload_n 1, (0, 0, 0)) := by decide +kernel
theorem i_162_115 : a_ins 162 115 = some (.iaload, (0, 0, 0)) := by decide +kernel
theorem i_162_116 : a_ins 162 116 = some (.if_icmp .ne 58, (0, 0, 0)) := by decide +kernel
theorem i_162_119 : a_ins 162 119 = some (.aload_n 0, (0, 0, 0)) := by decide +kernel
theorem i_162_120 : a_ins 162 120 = some (.getfield 82, (11, 18, 1224)) := by decide +kernel
theorem i_162_123 : a_ins 162 123 = some (.iload 4, (0, 0, 0)) := by decide +kernel
theorem i_162_125 : a_ins 162 125 = some (.iaload, (0, 0, 0)) := by decide +kernel
theorem i_162_126 : a_ins 162 126 = some (.aload_n 0, (0, 0, 0)) := by decide +kernel
theorem i_162_127 : a_ins 162 127 = some (.getfield 298, (11, 40, 1246)) := by decide +kernel
theorem i_162_130 : a_ins 162 130 = some (.if_icmp .gt 44, (0, 0, 0)) := by decide +kernel
theorem i_162_133 : a_ins 162 133 = some (.aload_n 0, (0, 0, 0)) := by decide +kernel
theorem i_162_134 : a_ins 162 134 = some (.getfield 85, (11, 19, 1225)) := by decide +kernel
theorem i_162_137 : a_ins 162 137 = some (.iload 4, (0, 0, 0)) := by decide +kernel
theorem i_162_139 : a_ins 162 139 = some (.iaload, (0, 0, 0)) := by decide +kernel
theorem i_162_140 : a_ins 162 140 = some (.aload_n 0, (0, 0, 0)) := by decide +kernel
theorem i_162_141 : a_ins 162 141 = some (.getfield 298, (11, 40, 1246)) := by decide +kernel
theorem i_162_144 : a_ins 162 144 = some (.if_icmp .lt 30, (0, 0, 0)) := by decide +kernel
theorem i_162_147 : a_ins 162 147 = some (.aload_n 0, (0, 0, 0)) := by decide +kernel
theorem i_162_148 : a_ins 162 148 = some (.aload_n 0, (0, 0, 0)) := by decide +kernel
theorem i_162_149 : a_ins 162 149 = some (.getfield 60, (11, 11, 1217)) := by decide +kernel
theorem i_162_152 : a_ins 162 152 = some (.iload 4, (0, 0, 0)) := by decide +kernel
theorem i_162_154 : a_ins 162 154 = some (.iload_n 1, (0, 0, 0)) := by decide +kernel
theorem i_162_155 : a_ins 162 155 = some (.iconst 0, (0, 0, 0)) := by decide +kernel
theorem i_162_156 : a_ins 162 156 = some (.aload_n 0, (0, 0, 0)) := by decide +kernel
theorem i_162_157 : a_ins 162 157 = some (.getfield 131, (11, 36, 1242)) := by decide +kernel
theorem i_162_160 : a_ins 162 160 = some (.iload_n 1, (0, 0, 0)) := by decide +kernel
theorem i_162_161 : a_ins 162 161 = some (.iaload, (0, 0, 0)) := by decide +kernel
theorem i_162_162 : a_ins 162 162 = some (.invokevirtual 327, (0, 171, 5)) := by decide +kernel
theorem i_162_165 : a_ins 162 165 = some (.ifCond .eq 9, (0, 0, 0)) := by decide +kernel
theorem i_162_168 : a_ins 162 168 = some (.aload_n 0, (0, 0, 0)) := by decide +kernel
theorem i_162_169 : a_ins 162 169 = some (.iload_n 1, (0, 0, 0)) := by decide +kernel
theorem i_162_170 : a_ins 162 170 = some (.iload_n 3, (0, 0, 0)) := by decide +kernel
theorem i_162_171 : a_ins 162 171 = some (.invokevirtual 321, (0, 164, 2)) := by decide +kernel
theorem i_162_174 : a_ins 162 174 = some (.iinc 3 1, (0, 0, 0)) := by decide +kernel
theorem i_162_177 : a_ins 162 177 = some (.goto (-109), (0, 0, 0)) := by decide +kernel
theorem i_162_180 : a_ins 162 180 = some (.aload_n 0, (0, 0, 0)) := by decide +kernel
theorem i_162_181 : a_ins 162 181 = some (.getfield 152, (11, 47, 1253)) := by decide +kernel
theorem i_162_184 : a_ins 162 184 = some (.iload_n 1, (0, 0, 0)) := by decide +kernel
theorem i_162_185 : a_ins 162 185 = some (.iaload, (0, 0, 0)) := by decide +kernel
theorem i_162_186 : a_ins 162 186 = some (.ifCond .le 4, (0, 0, 0)) := by decide +kernel
theorem i_162_189 : a_ins 162 189 = some (.return_, (0, 0, 0)) := by decide +kernel
theorem i_162_190 : a_ins 162 190 = some (.bipush 20, (0, 0, 0)) := by decide +kernel
theorem i_162_192 : a_ins 162 192 = some (.aload_n 0, (0, 0, 0)) := by decide +kernel
theorem i_162_193 : a_ins 162 193 = some (.getfield 215, (11, 32, 1238)) := by decide +kernel
theorem i_162_196 : a_ins 162 196 = some (.imul, (0, 0, 0)) := by decide +kernel
theorem i_162_197 : a_ins 162 197 = some (.istore_n 3, (0, 0, 0)) := by decide +kernel
theorem i_162_198 : a_ins 162 198 = some (.iload_n 3, (0, 0, 0)) := by decide +kernel
theorem i_162_199 : a_ins 162 199 = some (.bipush 20, (0, 0, 0)) := by decide +kernel
theorem i_162_201 : a_ins 162 201 = some (.aload_n 0, (0, 0, 0)) := by decide +kernel
theorem i_162_202 : a_ins 162 202 = some (.getfield 215, (11, 32, 1238)) := by decide +kernel
theorem i_162_205 : a_ins 162 205 = some (.imul, (0, 0, 0)) := by decide +kernel
theorem i_162_206 : a_ins 162 206 = some (.aload_n 0, (0, 0, 0)) := by decide +kernel
theorem i_162_207 : a_ins 162 207 = some (.getfield 106, (11, 26, 1232)) := by decide +kernel
theorem i_162_210 : a_ins 162 210 = some (.aload_n 0, (0, 0, 0)) := by decide +kernel
theorem i_162_211 : a_ins 162 211 = some (.getfield 215, (11, 32, 1238)) := by decide +kernel
theorem i_162_214 : a_ins 162 214 = some (.iaload, (0, 0, 0)) := by decide +kernel
theorem i_162_215 : a_ins 162 215 = some (.iadd, (0, 0, 0)) := by decide +kernel
theorem i_162_216 : a_ins 162 216 = some (.if_icmp .ge 15, (0, 0, 0)) := by decide +kernel
theorem i_162_219 : a_ins 162 219 = some (.aload_n 0, (0, 0, 0)) := by decide +kernel
theorem i_162_220 : a_ins 162 220 = some (.iload_n 1, (0, 0, 0)) := by decide +kernel
theorem i_162_221 : a_ins 162 221 = some (.iload_n 3, (0, 0, 0)) := by decide +kernel
theorem i_162_222 : a_ins 162 222 = some (.invokevirtual 331, (0, 172, 2)) := by decide +kernel
theorem i_162_225 : a_ins 162 225 = some (.iinc 3 1, (0, 0, 0)) := by decide +kernel
theorem i_162_228 : a_ins 162 228 = some (.goto (-30), (0, 0, 0)) := by decide +kernel
theorem i_162_231 : a_ins 162 231 = some (.aload_n 0, (0, 0, 0)) := by decide +kernel
theorem i_162_232 : a_ins 162 232 = some (.getfield 152, (11, 47, 1253)) := by decide +kernel
theorem i_162_235 : a_ins 162 235 = some (.iload_n 1, (0, 0, 0)) := by decide +kernel
theorem i_162_236 : a_ins 162 236 = some (.iaload, (0, 0, 0)) := by decide +kernel
theorem i_162_237 : a_ins 162 237 = some (.bipush 12, (0, 0, 0)) := by decide +kernel
theorem i_162_239 : a_ins 162 239 = some (.if_icmp .ge 32, (0, 0, 0)) := by decide +kernel
theorem i_162_242 : a_ins 162 242 = some (.aload_n 0, (0, 0, 0)) := by decide +kernel
theorem i_162_243 : a_ins 162 243 = some (.iload_n 1, (0, 0, 0)) := by decide +kernel
theorem i_162_244 : a_ins 162 244 = some (.aload_n 0, (0, 0, 0)) := by decide +kernel
theorem i_162_245 : a_ins 162 245 = some (.iload_n 1, (0, 0, 0)) := by decide +kernel
theorem i_162_246 : a_ins 162 246 = some (.aload_n 0, (0, 0, 0)) := by decide +kernel
theorem i_162_247 : a_ins 162 247 = some (.getfield 115, (11, 29, 1235)) := by decide +kernel
theorem i_162_250 : a_ins 162 250 = some (.aload_n 0, (0, 0, 0)) := by decide +kernel
theorem i_162_251 : a_ins 162 251 = some (.getfield 215, (11, 32, 1238)) := by decide +kernel
theorem i_162_254 : a_ins 162 254 = some (.iaload, (0, 0, 0)) := by decide +kernel
theorem i_162_255 : a_ins 162 255 = some (.aload_n 0, (0, 0, 0)) := by decide +kernel
theorem i_162_256 : a_ins 162 256 = some (.getfield 118, (11, 30, 1236)) := by decide +kernel
theorem i_162_259 : a_ins 162 259 = some (.aload_n 0, (0, 0, 0)) := by decide +kernel
theorem i_162_260 : a_ins 162 260 = some (.getfield 215, (11, 32, 1238)) := by decide +kernel
theorem i_162_263 : a_ins 162 263 = some (.iaload, (0, 0, 0)) := by decide +kernel
theorem i_162_264 : a_ins 162 264 = some (.iconst (-1), (0, 0, 0)) := by decide +kernel
theorem i_162_265 : a_ins 162 265 = some (.invokevirtual 307, (0, 166, 4)) := by decide +kernel
theorem i_162_268 : a_ins 162 268 = some (.invokevirtual 334, (0, 173, 2)) := by decide +kernel
theorem i_162_271 : a_ins 162 271 = some (.return_, (0, 0, 0)) := by decide +kernel
theorem i_163_0 : a_ins 163 0 = some (.aload_n 0, (0, 0, 0)) := by decide +kernel
theorem i_163_1 : a_ins 163 1 = some (.getfield 233, (11, 66, 1272)) := by decide +kernel
theorem i_163_4 : a_ins 163 4 = some (.iconst 1, (0, 0, 0)) := by decide +kernel
theorem i_163_5 : a_ins 163 5 = some (.isub, (0, 0, 0)) := by decide +kernel
theorem i_163_6 : a_ins 163 6 = some (.istore_n 2, (0, 0, 0)) := by decide +kernel
theorem i_163_7 : a_ins 163 7 = some (.iload_n 2, (0, 0, 0)) := by decide +kernel
theorem i_163_8 : a_ins 163 8 = some (.ifCond .lt 43, (0, 0, 0)) := by decide +kernel
theorem i_163_11 : a_ins 163 11 = some (.aload_n 0, (0, 0, 0)) := by decide +kernel
theorem i_163_12 : a_ins 163 12 = some (.getfield 196, (11, 65, 1271)) := by decide +kernel
theorem i_163_15 : a_ins 163 15 = some (.iload_n 2, (0, 0, 0)) := by decide +kernel
theorem i_163_16 : a_ins 163 16 = some (.baload, (0, 0, 0)) := by decide +kernel
theorem i_163_17 : a_ins 163 17 = some (.ifCond .ne 28, (0, 0, 0)) := by decide +kernel
theorem i_163_20 : a_ins 163 20 = some (.aload_n 0, (0, 0, 0)) := by decide +kernel
theorem i_163_21 : a_ins 163 21 = some (.getfield 193, (11, 64, 1270)) := by decide +kernel
theorem i_163_24 : a_ins 163 24 = some (.iload_n 2, (0, 0, 0)) := by decide +kernel
theorem i_163_25 : a_ins 163 25 = some (.iaload, (0, 0, 0)) := by decide +kernel
theorem i_163_26 : a_ins 163 26 = some (.aload_n 0, (0, 0, 0)) := by decide +kernel
theorem i_163_27 : a_ins 163 27 = some (.getfield 230, (11, 41, 1247)) := by decide +kernel
theorem i_163_30 : a_ins 163 30 = some (.if_icmp .ne 15, (0, 0, 0)) := by decide +kernel
theorem i_163_33 : a_ins 163 33 = some (.aload_n 0, (0, 0, 0)) := by decide +kernel
theorem i_163_34 : a_ins 163 34 = some (.getfield 190, (11, 63, 1269)) := by decide +kernel
theorem i_163_37 : a_ins 163 37 = some (.iload_n 2, (0, 0, 0)) := by decide +kernel
theorem i_163_38 : a_ins 163 38 = some (.iaload, (0, 0, 0)) := by decide +kernel
theorem i_163_39 : a_ins 163 39 = some (.iload_n 1, (0, 0, 0)) := by decide +kernel
theorem i_163_40 : a_ins 163 40 = some (.if_icmp .ne 5, (0, 0, 0)) := by decide +kernel
theorem i_163_43 : a_ins 163 43 = some (.iload_n 2, (0, 0, 0)) := by decide +kernel
theorem i_163_44 : a_ins 163 44 = some (.ireturn, (0, 0, 0)) := by decide +kernel
theorem i_163_45 : a_ins 163 45 = some (.iinc 2 (-1), (0, 0, 0)) := by decide +kernel
theorem i_163_48 : a_ins 163 48 = some (.goto (-41), (0, 0, 0)) := by decide +kernel
theorem i_163_51 : a_ins 163 51 = some (.iconst (-1), (0, 0, 0)) := by decide +kernel
theorem i_163_52 : a_ins 163 52 = some (.ireturn, (0, 0, 0)) := by decide +kernel
theorem i_164_0 : a_ins 164 0 = some (.aload_n 0, (0, 0, 0)) := by decide +kernel
theorem i_164_1 : a_ins 164 1 = some (.iload_n 1, (0, 0, 0)) := by decide +kernel
theorem i_164_2 : a_ins 164 2 = some (.aload_n 0, (0, 0, 0)) := by decide +kernel
theorem i_164_3 : a_ins 164 3 = some (.getfield 76, (11, 16, 1222)) := by decide +kernel
theorem i_164_6 : a_ins 164 6 = some (.bipush 80, (0, 0, 0)) := by decide +kernel
theorem i_164_8 : a_ins 164 8 = some (.aload_n 0, (0, 0, 0)) := by decide +kernel
theorem i_164_9 : a_ins 164 9 = some (.getfield 215, (11, 32, 1238)) := by decide +kernel
theorem i_164_12 : a_ins 164 12 = some (.imul, (0, 0, 0)) := by decide +kernel
theorem i_164_13 : a_ins 164 13 = some (.iload_n 2, (0, 0, 0)) := by decide +kernel
theorem i_164_14 : a_ins 164 14 = some (.iadd, (0, 0, 0)) := by decide +kernel
theorem i_164_15 : a_ins 164 15 = some (.iaload, (0, 0, 0)) := by decide +kernel
theorem i_164_16 : a_ins 164 16 = some (.aload_n 0, (0, 0, 0)) := by decide +kernel
theorem i_164_17 : a_ins 164 17 = some (.iload_n 2, (0, 0, 0)) := by decide +kernel
theorem i_164_18 : a_ins 164 18 = some (.invokevirtual 304, (0, 165, 1)) := by decide +kernel
theorem i_164_21 : a_ins 164 21 = some (.iload_n 2, (0, 0, 0)) := by decide +kernel
theorem i_164_22 : a_ins 164 22 = some (.invokevirtual 307, (0, 166, 4)) := by decide +kernel
theorem i_164_25 : a_ins 164 25 = some (.istore_n 3, (0, 0, 0)) := by decide +kernel
theorem i_164_26 : a_ins 164 26 = some (.iconst 0, (0, 0, 0)) := by decide +kernel
theorem i_164_27 : a_ins 164 27 = some (.istore 4, (0, 0, 0)) := by decide +kernel
theorem i_164_29 : a_ins 164 29 = some (.iload 4, (0, 0, 0)) := by decide +kernel
theorem i_164_31 : a_ins 164 31 = some (.aload_n 0, (0, 0, 0)) := by decide +kernel
theorem i_164_32 : a_ins 164 32 = some (.getfield 131, (11, 36, 1242)) := by decide +kernel
theorem i_164_35 : a_ins 164 35 = some (.iload_n 1, (0, 0, 0)) := by decide +kernel
theorem i_164_36 : a_ins 164 36 = some (.iaload, (0, 0, 0)) := by decide +kernel
theorem i_164_37 : a_ins 164 37 = some (.if_icmp .ge 41, (0, 0, 0)) := by decide +kernel
theorem i_164_40 : a_ins 164 40 = some (.aload_n 0, (0, 0, 0)) := by decide +kernel
theorem i_164_41 : a_ins 164 41 = some (.getfield 149, (11, 46, 1252)) := by decide +kernel
theorem i_164_44 : a_ins 164 44 = some (.bipush 12, (0, 0, 0)) := by decide +kernel
theorem i_164_46 : a_ins 164 46 = some (.iload_n 3, (0, 0, 0)) := by decide +kernel
theorem i_164_47 : a_ins 164 47 = some (.imul, (0, 0, 0)) := by decide +kernel
theorem i_164_48 : a_ins 164 48 = some (.iload 4, (0, 0, 0)) := by decide +kernel
theorem i_164_50 : a_ins 164 50 = some (.iadd, (0, 0, 0)) := by decide +kernel
theorem i_164_51 : a_ins 164 51 = some (.aload_n 0, (0, 0, 0)) := by decide +kernel
theorem i_164_52 : a_ins 164 52 = some (.getfield 60, (11, 11, 1217)) := by decide +kernel
theorem i_164_55 : a_ins 164 55 = some (.bipush 12, (0, 0, 0)) := by decide +kernel
theorem i_164_57 : a_ins 164 57 = some (.bipush 80, (0, 0, 0)) := by decide +kernel
theorem i_164_59 : a_ins 164 59 = some (.aload_n 0, (0, 0, 0)) := by decide +kernel
theorem i_164_60 : a_ins 164 60 = some (.getfield 215, (11, 32, 1238)) := by decide +kernel
theorem i_164_63 : a_ins 164 63 = some (.imul, (0, 0, 0)) := by decide +kernel
theorem i_164_64 : a_ins 164 64 = some (.iload_n 2, (0, 0, 0)) := by decide +kernel
theorem i_164_65 : a_ins 164 65 = some (.iadd, (0, 0, 0)) := by decide +kernel
theorem i_164_66 : a_ins 164 66 = some (.imul, (0, 0, 0)) := by decide +kernel
theorem i_164_67 : a_ins 164 67 = some (.iload 4, (0, 0, 0)) := by decide +kernel
theorem i_164_69 : a_ins 164 69 = some (.iadd, (0, 0, 0)) := by decide +kernel
theorem i_164_70 : a_ins 164 70 = some (.baload, (0, 0, 0)) := by decide +kernel
theorem i_164_71 : a_ins 164 71 = some (.bastore, (0, 0, 0)) := by decide +kernel
theorem i_164_72 : a_ins 164 72 = some (.iinc 4 1, (0, 0, 0)) := by decide +kernel
theorem i_164_75 : a_ins 164 75 = some (.goto (-46), (0, 0, 0)) := by decide +kernel
theorem i_164_78 : a_ins 164 78 = some (.aload_n 0, (0, 0, 0)) := by decide +kernel
theorem i_164_79 : a_ins 164 79 = some (.iload_n 3, (0, 0, 0)) := by decide +kernel
theorem i_164_80 : a_ins 164 80 = some (.aload_n 0, (0, 0, 0)) := by decide +kernel
theorem i_164_81 : a_ins 164 81 = some (.getfield 131, (11, 36, 1242)) := by decide +kernel
theorem i_164_84 : a_ins 164 84 = some (.iload_n 1, (0, 0, 0)) := by decide +kernel
theorem i_164_85 : a_ins 164 85 = some (.iaload, (0, 0, 0)) := by decide +kernel
theorem i_164_86 : a_ins 164 86 = some (.invokevirtual 311, (0, 167, 2)) := by decide +kernel
theorem i_164_89 : a_ins 164 89 = some (.return_, (0, 0, 0)) := by decide +kernel
theorem i_165_0 : a_ins 165 0 = some (.aload_n 0, (0, 0, 0)) := by decide +kernel
theorem i_165_1 : a_ins 165 1 = some (.getfield 79, (11, 17, 1223)) := by decide +kernel
theorem i_165_4 : a_ins 165 4 = some (.bipush 80, (0, 0, 0)) := by decide +kernel
theorem i_165_6 : a_ins 165 6 = some (.aload_n 0, (0, 0, 0)) := by decide +kernel
theorem i_165_7 : a_ins 165 7 = some (.getfield 215, (11, 32, 1238)) := by decide +kernel
theorem i_165_10 : a_ins 165 10 = some (.imul, (0, 0, 0)) := by decide +kernel
theorem i_165_11 : a_ins 165 11 = some (.iload_n 1, (0, 0, 0)) := by decide +kernel
theorem i_165_12 : a_ins 165 12 = some (.iadd, (0, 0, 0)) := by decide +kernel
theorem i_165_13 : a_ins 165 13 = some (.iaload, (0, 0, 0)) := by decide +kernel
theorem i_165_14 : a_ins 165 14 = some (.aload_n 0, (0, 0, 0)) := by decide +kernel
theorem i_165_15 : a_ins 165 15 = some (.getfield 167, (11, 52, 1258)) := by decide +kernel
theorem i_165_18 : a_ins 165 18 = some (.iload_n 1, (0, 0, 0)) := by decide +kernel
theorem i_165_19 : a_ins 165 19 = some (.iaload, (0, 0, 0)) := by decide +kernel
theorem i_165_20 : a_ins 165 20 = some (.isub, (0, 0, 0)) := by decide +kernel
theorem i_165_21 : a_ins 165 21 = some (.istore_n 2, (0, 0, 0)) := by decide +kernel
theorem i_165_22 : a_ins 165 22 = some (.iload_n 2, (0, 0, 0)) := by decide +kernel
theorem i_165_23 : a_ins 165 23 = some (.ifCond .ge 7, (0, 0, 0)) := by decide +kernel
theorem i_165_26 : a_ins 165 26 = some (.iconst 0, (0, 0, 0)) := by decide +kernel
theorem i_165_27 : a_ins 165 27 = some (.goto 4, (0, 0, 0)) := by decide +kernel
theorem i_165_30 : a_ins 165 30 = some (.iload_n 2, (0, 0, 0)) := by decide +kernel
theorem i_165_31 : a_ins 165 31 = some (.ireturn, (0, 0, 0)) := by decide +kernel
theorem i_166_0 : a_ins 166 0 = some (.bipush 13, (0, 0, 0)) := by decide +kernel
theorem i_166_2 : a_ins 166 2 = some (.iload_n 1, (0, 0, 0)) := by decide +kernel
theorem i_166_3 : a_ins 166 3 = some (.imul, (0, 0, 0)) := by decide +kernel
theorem i_166_4 : a_ins 166 4 = some (.aload_n 0, (0, 0, 0)) := by decide +kernel
theorem i_166_5 : a_ins 166 5 = some (.getfield 152, (11, 47, 1253)) := by decide +kernel
theorem i_166_8 : a_ins 166 8 = some (.iload_n 1, (0, 0, 0)) := by decide +kernel
theorem i_166_9 : a_ins 166 9 = some (.iaload, (0, 0, 0)) := by decide +kernel
theorem i_166_10 : a_ins 166 10 = some (.iadd, (0, 0, 0)) := by decide +kernel
theorem i_166_11 : a_ins 166 11 = some (.istore 5, (0, 0, 0)) := by decide +kernel
theorem i_166_13 : a_ins 166 13 = some (.iconst 0, (0, 0, 0)) := by decide +kernel
theorem i_166_14 : a_ins 166 14 = some (.istore 6, (0, 0, 0)) := by decide +kernel
theorem i_166_16 : a_ins 166 16 = some (.iload 6, (0, 0, 0)) := by decide +kernel
theorem i_166_18 : a_ins 166 18 = some (.aload_n 0, (0, 0, 0)) := by decide +kernel
theorem i_166_19 : a_ins 166 19 = some (.getfield 131, (11, 36, 1242)) := by decide +kernel
theorem i_166_22 : a_ins 166 22 = some (.iload_n 1, (0, 0, 0)) := by decide +kernel
theorem i_166_23 : a_ins 166 23 = some (.iaload, (0, 0, 0)) := by decide +kernel
theorem i_166_24 : a_ins 166 24 = some (.if_icmp .ge 36, (0, 0, 0)) := by decide +kernel
theorem i_166_27 : a_ins 166 27 = some (.aload_n 0, (0, 0, 0)) := by decide +kernel
theorem i_166_28 : a_ins 166 28 = some (.getfield 149, (11, 46, 1252)) := by decide +kernel
theorem i_166_31 : a_ins 166 31 = some (.bipush 12, (0, 0, 0)) := by decide +kernel
theorem i_166_33 : a_ins 166 33 = some (.iload 5, (0, 0, 0)) := by decide +kernel
theorem i_166_35 : a_ins 166 35 = some (.imul, (0, 0, 0)) := by decide +kernel
theorem i_166_36 : a_ins 166 36 = some (.iload 6, (0, 0, 0)) := by decide +kernel
theorem i_166_38 : a_ins 166 38 = some (.iadd, (0, 0, 0)) := by decide +kernel
theorem i_166_39 : a_ins 166 39 = some (.aload_n 0, (0, 0, 0)) := by decide +kernel
theorem i_166_40 : a_ins 166 40 = some (.getfield 125, (11, 34, 1240)) := by decide +kernel
theorem i_166_43 : a_ins 166 43 = some (.aload_n 0, (0, 0, 0)) := by decide +kernel
theorem i_166_44 : a_ins 166 44 = some (.getfield 128, (11, 35, 1241)) := by decide +kernel
theorem i_166_47 : a_ins 166 47 = some (.iload_n 1, (0, 0, 0)) := by decide +kernel
theorem i_166_48 : a_ins 166 48 = some (.iaload, (0, 0, 0)) := by decide +kernel
theorem i_166_49 : a_ins 166 49 = some (.iload 6, (0, 0, 0)) := by decide +kernel
theorem i_166_51 : a_ins 166 51 = some (.iadd, (0, 0, 0)) := by decide +kernel
theorem i_166_52 : a_ins 166 52 = some (.baload, (0, 0, 0)) := by decide +kernel
theorem i_166_53 : a_ins 166 53 = some (.bastore, (0, 0, 0)) := by decide +kernel
theorem i_166_54 : a_ins 166 54 = some (.iinc 6 1, (0, 0, 0)) := by decide +kernel
theorem i_166_57 : a_ins 166 57 = some (.goto (-41), (0, 0, 0)) := by decide +kernel
theorem i_166_60 : a_ins 166 60 = some (.aload_n 0, (0, 0, 0)) := by decide +kernel
theorem i_166_61 : a_ins 166 61 = some (.getfield 155, (11, 48, 1254)) := by decide +kernel
theorem i_166_64 : a_ins 166 64 = some (.iload 5, (0, 0, 0)) := by decide +kernel
theorem i_166_66 : a_ins 166 66 = some (.iload_n 2, (0, 0, 0)) := by decide +kernel
theorem i_166_67 : a_ins 166 67 = some (.iastore, (0, 0, 0)) := by decide +kernel
theorem i_166_68 : a_ins 166 68 = some (.aload_n 0, (0, 0, 0)) := by decide +kernel
theorem i_166_69 : a_ins 166 69 = some (.getfield 158, (11, 49, 1255)) := by decide +kernel
theorem i_166_72 : a_ins 166 72 = some (.iload 5, (0, 0, 0)) := by decide +kernel
theorem i_166_74 : a_ins 166 74 = some (.iload_n 3, (0, 0, 0)) := by decide +kernel
theorem i_166_75 : a_ins 166 75 = some (.iastore, (0, 0, 0)) := by decide +kernel
theorem i_166_76 : a_ins 166 76 = some (.aload_n 0, (0, 0, 0)) := by decide +kernel
theorem i_166_77 : a_ins 166 77 = some (.getfield 161, (11, 50, 1256)) := by decide +kernel
theorem i_166_80 : a_ins 166 80 = some (.iload 5, (0, 0, 0)) := by decide +kernel
theorem i_166_82 : a_ins 166 82 = some (.iload 4, (0, 0, 0)) := by decide +kernel
theorem i_166_84 : a_ins 166 84 = some (.iastore, (0, 0, 0)) := by decide +kernel
theorem i_166_85 : a_ins 166 85 = some (.aload_n 0, (0, 0, 0)) := by decide +kernel
theorem i_166_86 : a_ins 166 86 = some (.getfield 152, (11, 47, 1253)) := by decide +kernel
theorem i_166_89 : a_ins 166 89 = some (.iload_n 1, (0, 0, 0)) := by decide +kernel
theorem i_166_90 : a_ins 166 90 = some (.dup2, (0, 0, 0)) := by decide +kernel
theorem i_166_91 : a_ins 166 91 = some (.iaload, (0, 0, 0)) := by decide +kernel
theorem i_166_92 : a_ins 166 92 = some (.iconst 1, (0, 0, 0)) := by decide +kernel
theorem i_166_93 : a_ins 166 93 = some (.iadd, (0, 0, 0)) := by decide +kernel
theorem i_166_94 : a_ins 166 94 = some (.iastore, (0, 0, 0)) := by decide +kernel
theorem i_166_95 : a_ins 166 95 = some (.iload 5, (0, 0, 0)) := by decide +kernel
theorem i_166_97 : a_ins 166 97 = some (.ireturn, (0, 0, 0)) := by decide +kernel
theorem i_167_0 : a_ins 167 0 = some (.aload_n 0, (0, 0, 0)) := by decide +kernel
theorem i_167_1 : a_ins 167 1 = some (.getfield 164, (11, 51, 1257)) := by decide +kernel
theorem i_167_4 : a_ins 167 4 = some (.iload_n 1, (0, 0, 0)) := by decide +kernel
theorem i_167_5 : a_ins 167 5 = some (.iconst 0, (0, 0, 0)) := by decide +kernel
theorem i_167_6 : a_ins 167 6 = some (.iastore, (0, 0, 0)) := by decide +kernel
theorem i_167_7 : a_ins 167 7 = some (.iconst 0, (0, 0, 0)) := by decide +kernel
theorem i_167_8 : a_ins 167 8 = some (.istore_n 3, (0, 0, 0)) := by decide +kernel
theorem i_167_9 : a_ins 167 9 = some (.iload_n 3, (0, 0, 0)) := by decide +kernel
theorem i_167_10 : a_ins 167 10 = some (.iload_n 2, (0, 0, 0)) := by decide +kernel
theorem i_167_11 : a_ins 167 11 = some (.if_icmp .ge 55, (0, 0, 0)) := by decide +kernel
theorem i_167_14 : a_ins 167 14 = some (.aload_n 0, (0, 0, 0)) := by decide +kernel
theorem i_167_15 : a_ins 167 15 = some (.getfield 149, (11, 46, 1252)) := by decide +kernel
theorem i_167_18 : a_ins 167 18 = some (.bipush 12, (0, 0, 0)) := by decide +kernel
theorem i_167_20 : a_ins 167 20 = some (.iload_n 1, (0, 0, 0)) := by decide +kernel
theorem i_167_21 : a_ins 167 21 = some (.imul, (0, 0, 0)) := by decide +kernel
theorem i_167_22 : a_ins 167 22 = some (.iload_n 3, (0, 0, 0)) := by decide +kernel
theorem i_167_23 : a_ins 167 23 = some (.iadd, (0, 0, 0)) := by decide +kernel
theorem i_167_24 : a_ins 167 24 = some (.baload, (0, 0, 0)) := by decide +kernel
theorem i_167_25 : a_ins 167 25 = some (.istore 4, (0, 0, 0)) := by decide +kernel
theorem i_167_27 : a_ins 167 27 = some (.aload_n 0, (0, 0, 0)) := by decide +kernel
theorem i_167_28 : a_ins 167 28 = some (.getfield 164, (11, 51, 1257)) := by decide +kernel
theorem i_167_31 : a_ins 167 31 = some (.iload_n 1, (0, 0, 0)) := by decide +kernel
theorem i_167_32 : a_ins 167 32 = some (.dup2, (0, 0, 0)) := by decide +kernel
theorem i_167_33 : a_ins 167 33 = some (.iaload, (0, 0, 0)) := by decide +kernel
theorem i_167_34 : a_ins 167 34 = some (.iload 4, (0, 0, 0)) := by decide +kernel
theorem i_167_36 : a_ins 167 36 = some (.invokestatic 11, (1, 138, 1)) := by decide +kernel
theorem i_167_39 : a_ins 167 39 = some (.ifCond .eq 18, (0, 0, 0)) := by decide +kernel
theorem i_167_42 : a_ins 167 42 = some (.iload 4, (0, 0, 0)) := by decide +kernel
theorem i_167_44 : a_ins 167 44 = some (.invokestatic 209, (1, 150, 1)) := by decide +kernel
theorem i_167_47 : a_ins 167 47 = some (.invokestatic 301, (1, 168, 1)) := by decide +kernel
theorem i_167_50 : a_ins 167 50 = some (.ifCond .eq 7, (0, 0, 0)) := by decide +kernel
theorem i_167_53 : a_ins 167 53 = some (.iconst 1, (0, 0, 0)) := by decide +kernel
theorem i_167_54 : a_ins 167 54 = some (.goto 4, (0, 0, 0)) := by decide +kernel
theorem i_167_57 : a_ins 167 57 = some (.iconst 0, (0, 0, 0)) := by decide +kernel
theorem i_167_58 : a_ins 167 58 = some (.iadd, (0, 0, 0)) := by decide +kernel
theorem i_167_59 : a_ins 167 59 = some (.iastore, (0, 0, 0)) := by decide +kernel
theorem i_167_60 : a_ins 167 60 = some (.iinc 3 1, (0, 0, 0)) := by decide +kernel
theorem i_167_63 : a_ins 167 63 = some (.goto (-54), (0, 0, 0)) := by decide +kernel
theorem i_167_66 : a_ins 167 66 = some (.return_, (0, 0, 0)) := by decide +kernel
theorem i_168_0 : a_ins 168 0 = some (.iload_n 0, (0, 0, 0)) := by decide +kernel
theorem i_168_1 : a_ins 168 1 = some (.bipush 97, (0, 0, 0)) := by decide +kernel
theorem i_168_3 : a_ins 168 3 = some (.if_icmp .eq 27, (0, 0, 0)) := by decide +kernel
theorem i_168_6 : a_ins 168 6 = some (.iload_n 0, (0, 0, 0)) := by decide +kernel
theorem i_168_7 : a_ins 168 7 = some (.bipush 101, (0, 0, 0)) := by decide +kernel
theorem i_168_9 : a_ins 168 9 = some (.if_icmp .eq 21, (0, 0, 0)) := by decide +kernel
theorem i_168_12 : a_ins 168 12 = some (.iload_n 0, (0, 0, 0)) := by decide +kernel
theorem i_168_13 : a_ins 168 13 = some (.bipush 105, (0, 0, 0)) := by decide +kernel
theorem i_168_15 : a_ins 168 15 = some (.if_icmp .eq 15, (0, 0, 0)) := by decide +kernel
theorem i_168_18 : a_ins 168 18 = some (.iload_n 0, (0, 0, 0)) := by decide +kernel
theorem i_168_19 : a_ins 168 19 = some (.bipush 111, (0, 0, 0)) := by decide +kernel
theorem i_168_21 : a_ins 168 21 = some (.if_icmp .eq 9, (0, 0, 0)) := by decide +kernel
theorem i_168_24 : a_ins 168 24 = some (.iload_n 0, (0, 0, 0)) := by decide +kernel
theorem i_168_25 : a_ins 168 25 = some (.bipush 117, (0, 0, 0)) := by decide +kernel
theorem i_168_27 : a_ins 168 27 = some (.if_icmp .ne 7, (0, 0, 0)) := by decide +kernel
theorem i_168_30 : a_ins 168 30 = some (.iconst 1, (0, 0, 0)) := by decide +kernel
theorem i_168_31 : a_ins 168 31 = some (.goto 4, (0, 0, 0)) := by decide +kernel
theorem i_168_34 : a_ins 168 34 = some (.iconst 0, (0, 0, 0)) := by decide +kernel
theorem i_168_35 : a_ins 168 35 = some (.ireturn, (0, 0, 0)) := by decide +kernel
theorem i_169_0 : a_ins 169 0 = some (.bipush 20, (0, 0, 0)) := by decide +kernel
theorem i_169_2 : a_ins 169 2 = some (.aload_n 0, (0, 0, 0)) := by decide +kernel
theorem i_169_3 : a_ins 169 3 = some (.getfield 215, (11, 32, 1238)) := by decide +kernel
theorem i_169_6 : a_ins 169 6 = some (.imul, (0, 0, 0)) := by decide +kernel
theorem i_169_7 : a_ins 169 7 = some (.istore_n 2, (0, 0, 0)) := by decide +kernel
theorem i_169_8 : a_ins 169 8 = some (.iload_n 2, (0, 0, 0)) := by decide +kernel
theorem i_169_9 : a_ins 169 9 = some (.bipush 20, (0, 0, 0)) := by decide +kernel
theorem i_169_11 : a_ins 169 11 = some (.aload_n 0, (0, 0, 0)) := by decide +kernel
theorem i_169_12 : a_ins 169 12 = some (.getfield 215, (11, 32, 1238)) := by decide +kernel
theorem i_169_15 : a_ins 169 15 = some (.imul, (0, 0, 0)) := by decide +kernel
theorem i_169_16 : a_ins 169 16 = some (.aload_n 0, (0, 0, 0)) := by decide +kernel
theorem i_169_17 : a_ins 169 17 = some (.getfield 109, (11, 27, 1233)) := by decide +kernel
theorem i_169_20 : a_ins 169 20 = some (.aload_n 0, (0, 0, 0)) := by decide +kernel
theorem i_169_21 : a_ins 169 21 = some (.getfield 215, (11, 32, 1238)) := by decide +kernel
theorem i_169_24 : a_ins 169 24 = some (.iaload, (0, 0, 0)) := by decide +kernel
theorem i_169_25 : a_ins 169 25 = some (.iadd, (0, 0, 0)) := by decide +kernel
theorem i_169_26 : a_ins 169 26 = some (.if_icmp .ge 94, (0, 0, 0)) := by decide +kernel
theorem i_169_29 : a_ins 169 29 = some (.aload_n 0, (0, 0, 0)) := by decide +kernel
theorem i_169_30 : a_ins 169 30 = some (.getfield 97, (11, 23, 1229)) := by decide +kernel
theorem i_169_33 : a_ins 169 33 = some (.iload_n 2, (0, 0, 0)) := by decide +kernel
theorem i_169_34 : a_ins 169 34 = some (.iaload, (0, 0, 0)) := by decide +kernel
theorem i_169_35 : a_ins 169 35 = some (.aload_n 0, (0, 0, 0)) := by decide +kernel
theorem i_169_36 : a_ins 169 36 = some (.getfield 131, (11, 36, 1242)) := by decide +kernel
theorem i_169_39 : a_ins 169 39 = some (.iload_n 1, (0, 0, 0)) := by decide +kernel
theorem i_169_40 : a_ins 169 40 = some (.iaload, (0, 0, 0)) := by decide +kernel
theorem i_169_41 : a_ins 169 41 = some (.if_icmp .ne 7, (0, 0, 0)) := by decide +kernel
theorem i_169_44 : a_ins 169 44 = some (.iconst 1, (0, 0, 0)) := by decide +kernel
theorem i_169_45 : a_ins 169 45 = some (.goto 4, (0, 0, 0)) := by decide +kernel
theorem i_169_48 : a_ins 169 48 = some (.iconst 0, (0, 0, 0)) := by decide +kernel
theorem i_169_49 : a_ins 169 49 = some (.istore_n 3, (0, 0, 0)) := by decide +kernel
theorem i_169_50 : a_ins 169 50 = some (.iconst 0, (0, 0, 0)) := by decide +kernel
theorem i_169_51 : a_ins 169 51 = some (.istore 4, (0, 0, 0)) := by decide +kernel
theorem i_169_53 : a_ins 169 53 = some (.iload 4, (0, 0, 0)) := by decide +kernel
theorem i_169_55 : a_ins 169 55 = some (.aload_n 0, (0, 0, 0)) := by decide +kernel
theorem i_169_56 : a_ins 169 56 = some (.getfield 97, (11, 23, 1229)) := by decide +kernel
theorem i_169_59 : a_ins 169 59 = some (.iload_n 2, (0, 0, 0)) := by decide +kernel
theorem i_169_60 : a_ins 169 60 = some (.iaload, (0, 0, 0)) := by decide +kernel
theorem i_169_61 : a_ins 169 61 = some (.if_icmp .ge 47, (0, 0, 0)) := by decide +kernel
theorem i_169_64 : a_ins 169 64 = some (.iload_n 3, (0, 0, 0)) := by decide +kernel
theorem i_169_65 : a_ins 169 65 = some (.ifCond .eq 43, (0, 0, 0)) := by decide +kernel
theorem i_169_68 : a_ins 169 68 = some (.aload_n 0, (0, 0, 0)) := by decide +kernel
theorem i_169_69 : a_ins 169 69 = some (.iload_n 1, (0, 0, 0)) := by decide +kernel
theorem i_169_70 : a_ins 169 70 = some (.iload 4, (0, 0, 0)) := by decide +kernel
theorem i_169_72 : a_ins 169 72 = some (.invokevirtual 314, (0, 170, 2)) := by decide +kernel
theorem i_169_75 : a_ins 169 75 = some (.invokestatic 209, (1, 150, 1)) := by decide +kernel
theorem i_169_78 : a_ins 169 78 = some (.aload_n 0, (0, 0, 0)) := by decide +kernel
theorem i_169_79 : a_ins 169 79 = some (.getfield 69, (11, 14, 1220)) := by decide +kernel
theorem i_169_82 : a_ins 169 82 = some (.bipush 12, (0, 0, 0)) := by decide +kernel
theorem i_169_84 : a_ins 169 84 = some (.iload_n 2, (0, 0, 0)) := by decide +kernel
theorem i_169_85 : a_ins 169 85 = some (.imul, (0, 0, 0)) := by decide +kernel
theorem i_169_86 : a_ins 169 86 = some (.iload 4, (0, 0, 0)) := by decide +kernel
theorem i_169_88 : a_ins 169 88 = some (.iadd, (0, 0, 0)) := by decide +kernel
theorem i_169_89 : a_ins 169 89 = some (.baload, (0, 0, 0)) := by decide +kernel
theorem i_169_90 : a_ins 169 90 = some (.invokestatic 209, (1, 150, 1)) := by decide +kernel
theorem i_169_93 : a_ins 169 93 = some (.if_icmp .ne 7, (0, 0, 0)) := by decide +kernel
theorem i_169_96 : a_ins 169 96 = some (.iconst 1, (0, 0, 0)) := by decide +kernel
theorem i_169_97 : a_ins 169 97 = some (.goto 4, (0, 0, 0)) := by decide +kernel
theorem i_169_100 : a_ins 169 100 = some (.iconst 0, (0, 0, 0)) := by decide +kernel
theorem i_169_101 : a_ins 169 101 = some (.istore_n 3, (0, 0, 0)) := by decide +kernel
theorem i_169_102 : a_ins 169 102 = some (.iinc 4 1, (0, 0, 0)) := by decide +kernel
theorem i_169_105 : a_ins 169 105 = some (.goto (-52), (0, 0, 0)) := by decide +kernel
theorem i_169_108 : a_ins 169 108 = some (.iload_n 3, (0, 0, 0)) := by decide +kernel
theorem i_169_109 : a_ins 169 109 = some (.ifCond .eq 5, (0, 0, 0)) := by decide +kernel
theorem i_169_112 : a_ins 169 112 = some (.iconst 1, (0, 0, 0)) := by decide +kernel
theorem i_169_113 : a_ins 169 113 = some (.ireturn, (0, 0, 0)) := by decide +kernel
theorem i_169_114 : a_ins 169 114 = some (.iinc 2 1, (0, 0, 0)) := by decide +kernel
theorem i_169_117 : a_ins 169 117 = some (.goto (-109), (0, 0, 0)) := by decide +kernel
theorem i_169_120 : a_ins 169 120 = some (.iconst 0, (0, 0, 0)) := by decide +kernel
theorem i_169_121 : a_ins 169 121 = some (.ireturn, (0, 0, 0)) := by decide +kernel
theorem i_170_0 : a_ins 170 0 = some (.aload_n 0, (0, 0, 0)) := by decide +kernel
theorem i_170_1 : a_ins 170 1 = some (.getfield 125, (11, 34, 1240)) := by decide +kernel
theorem i_170_4 : a_ins 170 4 = some (.aload_n 0, (0, 0, 0)) := by decide +kernel
theorem i_170_5 : a_ins 170 5 = some (.getfield 128, (11, 35, 1241)) := by decide +kernel
theorem i_170_8 : a_ins 170 8 = some (.iload_n 1, (0, 0, 0)) := by decide +kernel
theorem i_170_9 : a_ins 170 9 = some (.iaload, (0, 0, 0)) := by decide +kernel
theorem i_170_10 : a_ins 170 10 = some (.iload_n 2, (0, 0, 0)) := by decide +kernel
theorem i_170_11 : a_ins 170 11 = some (.iadd, (0, 0, 0)) := by decide +kernel
theorem i_170_12 : a_ins 170 12 = some (.baload, (0, 0, 0)) := by decide +kernel
theorem i_170_13 : a_ins 170 13 = some (.sipush 255, (0, 0, 0)) := by decide +kernel
theorem i_170_16 : a_ins 170 16 = some (.iand, (0, 0, 0)) := by decide +kernel
theorem i_170_17 : a_ins 170 17 = some (.ireturn, (0, 0, 0)) := by decide +kernel
theorem i_171_0 : a_ins 171 0 = some (.iconst 0, (0, 0, 0)) := by decide +kernel
theorem i_171_1 : a_ins 171 1 = some (.istore 6, (0, 0, 0)) := by decide +kernel
theorem i_171_3 : a_ins 171 3 = some (.iload 6, (0, 0, 0)) := by decide +kernel
theorem i_171_5 : a_ins 171 5 = some (.iload 5, (0, 0, 0)) := by decide +kernel
theorem i_171_7 : a_ins 171 7 = some (.if_icmp .ge 63, (0, 0, 0)) := by decide +kernel
theorem i_171_10 : a_ins 171 10 = some (.aload_n 0, (0, 0, 0)) := by decide +kernel
theorem i_171_11 : a_ins 171 11 = some (.iload_n 3, (0, 0, 0)) := by decide +kernel
theorem i_171_12 : a_ins 171 12 = some (.iload 4, (0, 0, 0)) := by decide +kernel
theorem i_171_14 : a_ins 171 14 = some (.iload 6, (0, 0, 0)) := by decide +kernel
theorem i_171_16 : a_ins 171 16 = some (.iadd, (0, 0, 0)) := by decide +kernel
theorem i_171_17 : a_ins 171 17 = some (.invokevirtual 314, (0, 170, 2)) := by decide +kernel
theorem i_171_20 : a_ins 171 20 = some (.istore 7, (0, 0, 0)) := by decide +kernel
theorem i_171_22 : a_ins 171 22 = some (.aload_n 1, (0, 0, 0)) := by decide +kernel
theorem i_171_23 : a_ins 171 23 = some (.bipush 12, (0, 0, 0)) := by decide +kernel
theorem i_171_25 : a_ins 171 25 = some (.iload_n 2, (0, 0, 0)) := by decide +kernel
theorem i_171_26 : a_ins 171 26 = some (.imul, (0, 0, 0)) := by decide +kernel
theorem i_171_27 : a_ins 171 27 = some (.iload 6, (0, 0, 0)) := by decide +kernel
theorem i_171_29 : a_ins 171 29 = some (.iadd, (0, 0, 0)) := by decide +kernel
theorem i_171_30 : a_ins 171 30 = some (.baload, (0, 0, 0)) := by decide +kernel
theorem i_171_31 : a_ins 171 31 = some (.istore 8, (0, 0, 0)) := by decide +kernel
theorem i_171_33 : a_ins 171 33 = some (.iload 7, (0, 0, 0)) := by decide +kernel
theorem i_171_35 : a_ins 171 35 = some (.invokestatic 209, (1, 150, 1)) := by decide +kernel
theorem i_171_38 : a_ins 171 38 = some (.iload 8, (0, 0, 0)) := by decide +kernel
theorem i_171_40 : a_ins 171 40 = some (.invokestatic 209, (1, 150, 1)) := by decide +kernel
theorem i_171_43 : a_ins 171 43 = some (.if_icmp .ne 19, (0, 0, 0)) := by decide +kernel
theorem i_171_46 : a_ins 171 46 = some (.iload 7, (0, 0, 0)) := by decide +kernel
theorem i_171_48 : a_ins 171 48 = some (.invokestatic 11, (1, 138, 1)) := by decide +kernel
theorem i_171_51 : a_ins 171 51 = some (.ifCond .eq 13, (0, 0, 0)) := by decide +kernel
theorem i_171_54 : a_ins 171 54 = some (.iload 8, (0, 0, 0)) := by decide +kernel
theorem i_171_56 : a_ins 171 56 = some (.invokestatic 11, (1, 138, 1)) := by decide +kernel
theorem i_171_59 : a_ins 171 59 = some (.ifCond .ne 5, (0, 0, 0)) := by decide +kernel
theorem i_171_62 : a_ins 171 62 = some (.iconst 0, (0, 0, 0)) := by decide +kernel
theorem i_171_63 : a_ins 171 63 = some (.ireturn, (0, 0, 0)) := by decide +kernel
theorem i_171_64 : a_ins 171 64 = some (.iinc 6 1, (0, 0, 0)) := by decide +kernel
theorem i_171_67 : a_ins 171 67 = some (.goto (-64), (0, 0, 0)) := by decide +kernel
theorem i_171_70 : a_ins 171 70 = some (.iconst 1, (0, 0, 0)) := by decide +kernel
theorem i_171_71 : a_ins 171 71 = some (.ireturn, (0, 0, 0)) := by decide +kernel
theorem i_172_0 : a_ins 172 0 = some (.aload_n 0, (0, 0, 0)) := by decide +kernel
theorem i_172_1 : a_ins 172 1 = some (.getfield 131, (11, 36, 1242)) := by decide +kernel
theorem i_172_4 : a_ins 172 4 = some (.iload_n 1, (0, 0, 0)) := by decide +kernel
theorem i_172_5 : a_ins 172 5 = some (.iaload, (0, 0, 0)) := by decide +kernel
theorem i_172_6 : a_ins 172 6 = some (.aload_n 0, (0, 0, 0)) := by decide +kernel
theorem i_172_7 : a_ins 172 7 = some (.getfield 88, (11, 20, 1226)) := by decide +kernel
theorem i_172_10 : a_ins 172 10 = some (.iload_n 2, (0, 0, 0)) := by decide +kernel
theorem i_172_11 : a_ins 172 11 = some (.iaload, (0, 0, 0)) := by decide +kernel
theorem i_172_12 : a_ins 172 12 = some (.isub, (0, 0, 0)) := by decide +kernel
theorem i_172_13 : a_ins 172 13 = some (.istore_n 3, (0, 0, 0)) := by decide +kernel
theorem i_172_14 : a_ins 172 14 = some (.aload_n 0, (0, 0, 0)) := by decide +kernel
theorem i_172_15 : a_ins 172 15 = some (.getfield 152, (11, 47, 1253)) := by decide +kernel
theorem i_172_18 : a_ins 172 18 = some (.iload_n 1, (0, 0, 0)) := by decide +kernel
theorem i_172_19 : a_ins 172 19 = some (.iaload, (0, 0, 0)) := by decide +kernel
theorem i_172_20 : a_ins 172 20 = some (.bipush 12, (0, 0, 0)) := by decide +kernel
theorem i_172_22 : a_ins 172 22 = some (.if_icmp .eq 27, (0, 0, 0)) := by decide +kernel
theorem i_172_25 : a_ins 172 25 = some (.iload_n 3, (0, 0, 0)) := by decide +kernel
theorem i_172_26 : a_ins 172 26 = some (.ifCond .lt 23, (0, 0, 0)) := by decide +kernel
theorem i_172_29 : a_ins 172 29 = some (.aload_n 0, (0, 0, 0)) := by decide +kernel
theorem i_172_30 : a_ins 172 30 = some (.aload_n 0, (0, 0, 0)) := by decide +kernel
theorem i_172_31 : a_ins 172 31 = some (.getfield 66, (11, 13, 1219)) := by decide +kernel
theorem i_172_34 : a_ins 172 34 = some (.iload_n 2, (0, 0, 0)) := by decide +kernel
theorem i_172_35 : a_ins 172 35 = some (.iload_n 1, (0, 0, 0)) := by decide +kernel
theorem i_172_36 : a_ins 172 36 = some (.iload_n 3, (0, 0, 0)) := by decide +kernel
theorem i_172_37 : a_ins 172 37 = some (.aload_n 0, (0, 0, 0)) := by decide +kernel
theorem i_172_38 : a_ins 172 38 = some (.getfield 88, (11, 20, 1226)) := by decide +kernel
theorem i_172_41 : a_ins 172 41 = some (.iload_n 2, (0, 0, 0)) := by decide +kernel
theorem i_172_42 : a_ins 172 42 = some (.iaload, (0, 0, 0)) := by decide +kernel
theorem i_172_43 : a_ins 172 43 = some (.invokevirtual 327, (0, 171, 5)) := by decide +kernel
theorem i_172_46 : a_ins 172 46 = some (.ifCond .ne 4, (0, 0, 0)) := by decide +kernel
theorem i_172_49 : a_ins 172 49 = some (.return_, (0, 0, 0)) := by decide +kernel
theorem i_172_50 : a_ins 172 50 = some (.aload_n 0, (0, 0, 0)) := by decide +kernel
theorem i_172_51 : a_ins 172 51 = some (.iload_n 1, (0, 0, 0)) := by decide +kernel
theorem i_172_52 : a_ins 172 52 = some (.aload_n 0, (0, 0, 0)) := by decide +kernel
theorem i_172_53 : a_ins 172 53 = some (.getfield 91, (11, 21, 1227)) := by decide +kernel
theorem i_172_56 : a_ins 172 56 = some (.iload_n 2, (0, 0, 0)) := by decide +kernel
theorem i_172_57 : a_ins 172 57 = some (.iaload, (0, 0, 0)) := by decide +kernel
theorem i_172_58 : a_ins 172 58 = some (.aload_n 0, (0, 0, 0)) := by decide +kernel
theorem i_172_59 : a_ins 172 59 = some (.getfield 94, (11, 22, 1228)) := by decide +kernel
theorem i_172_62 : a_ins 172 62 = some (.iload_n 2, (0, 0, 0)) := by decide +kernel
theorem i_172_63 : a_ins 172 63 = some (.iaload, (0, 0, 0)) := by decide +kernel
theorem i_172_64 : a_ins 172 64 = some (.iconst (-1), (0, 0, 0)) := by decide +kernel
theorem i_172_65 : a_ins 172 65 = some (.invokevirtual 307, (0, 166, 4)) := by decide +kernel
theorem i_172_68 : a_ins 172 68 = some (.istore 4, (0, 0, 0)) := by decide +kernel
theorem i_172_70 : a_ins 172 70 = some (.iconst 0, (0, 0, 0)) := by decide +kernel
theorem i_172_71 : a_ins 172 71 = some (.istore 5, (0, 0, 0)) := by decide +kernel
theorem i_172_73 : a_ins 172 73 = some (.iload 5, (0, 0, 0)) := by decide +kernel
theorem i_172_75 : a_ins 172 75 = some (.aload_n 0, (0, 0, 0)) := by decide +kernel
theorem i_172_76 : a_ins 172 76 = some (.getfield 88, (11, 20, 1226)) := by decide +kernel
theorem i_172_79 : a_ins 172 79 = some (.iload_n 2, (0, 0, 0)) := by decide +kernel
theorem i_172_80 : a_ins 172 80 = some (.iaload, (0, 0, 0)) := by decide +kernel
theorem i_172_81 : a_ins 172 81 = some (.if_icmp .ge 36, (0, 0, 0)) := by decide +kernel
theorem i_172_84 : a_ins 172 84 = some (.aload_n 0, (0, 0, 0)) := by decide +kernel
theorem i_172_85 : a_ins 172 85 = some (.getfield 149, (11, 46, 1252)) := by decide +kernel
theorem i_172_88 : a_ins 172 88 = some (.bipush 12, (0, 0, 0)) := by decide +kernel
theorem i_172_90 : a_ins 172 90 = some (.iload 4, (0, 0, 0)) := by decide +kernel
theorem i_172_92 : a_ins 172 92 = some (.imul, (0, 0, 0)) := by decide +kernel
theorem i_172_93 : a_ins 172 93 = some (.iload_n 3, (0, 0, 0)) := by decide +kernel
theorem i_172_94 : a_ins 172 94 = some (.iadd, (0, 0, 0)) := by decide +kernel
theorem i_172_95 : a_ins 172 95 = some (.iload 5, (0, 0, 0)) := by decide +kernel
theorem i_172_97 : a_ins 172 97 = some (.iadd, (0, 0, 0)) := by decide +kernel
theorem i_172_98 : a_ins 172 98 = some (.aload_n 0, (0, 0, 0)) := by decide +kernel
theorem i_172_99 : a_ins 172 99 = some (.getfield 66, (11, 13, 1219)) := by decide +kernel
theorem i_172_102 : a_ins 172 102 = some (.bipush 12, (0, 0, 0)) := by decide +kernel
theorem i_172_104 : a_ins 172 104 = some (.iload_n 2, (0, 0, 0)) := by decide +kernel
theorem i_172_105 : a_ins 172 105 = some (.imul, (0, 0, 0)) := by decide +kernel
theorem i_172_106 : a_ins 172 106 = some (.iload 5, (0, 0, 0)) := by decide +kernel
theorem i_172_108 : a_ins 172 108 = some (.iadd, (0, 0, 0)) := by decide +kernel
theorem i_172_109 : a_ins 172 109 = some (.baload, (0, 0, 0)) := by decide +kernel
theorem i_172_110 : a_ins 172 110 = some (.bastore, (0, 0, 0)) := by decide +kernel
theorem i_172_111 : a_ins 172 111 = some (.iinc 5 1, (0, 0, 0)) := by decide +kernel
theorem i_172_114 : a_ins 172 114 = some (.goto (-41), (0, 0, 0)) := by decide +kernel
theorem i_172_117 : a_ins 172 117 = some (.aload_n 0, (0, 0, 0)) := by decide +kernel
theorem i_172_118 : a_ins 172 118 = some (.iload_n 1, (0, 0, 0)) := by decide +kernel
theorem i_172_119 : a_ins 172 119 = some (.iload 4, (0, 0, 0)) := by decide +kernel
theorem i_172_121 : a_ins 172 121 = some (.invokevirtual 334, (0, 173, 2)) := by decide +kernel
theorem i_172_124 : a_ins 172 124 = some (.return_, (0, 0, 0)) := by decide +kernel
theorem i_173_0 : a_ins 173 0 = some (.aload_n 0, (0, 0, 0)) := by decide +kernel
theorem i_173_1 : a_ins 173 1 = some (.iload_n 2, (0, 0, 0)) := by decide +kernel
theorem i_173_2 : a_ins 173 2 = some (.aload_n 0, (0, 0, 0)) := by decide +kernel
theorem i_173_3 : a_ins 173 3 = some (.getfield 131, (11, 36, 1242)) := by decide +kernel
theorem i_173_6 : a_ins 173 6 = some (.iload_n 1, (0, 0, 0)) := by decide +kernel
theorem i_173_7 : a_ins 173 7 = some (.iaload, (0, 0, 0)) := by decide +kernel
theorem i_173_8 : a_ins 173 8 = some (.invokevirtual 311, (0, 167, 2)) := by decide +kernel
theorem i_173_11 : a_ins 173 11 = some (.bipush 13, (0, 0, 0)) := by decide +kernel
theorem i_173_13 : a_ins 173 13 = some (.iload_n 1, (0, 0, 0)) := by decide +kernel
theorem i_173_14 : a_ins 173 14 = some (.imul, (0, 0, 0)) := by decide +kernel
theorem i_173_15 : a_ins 173 15 = some (.istore_n 3, (0, 0, 0)) := by decide +kernel
theorem i_173_16 : a_ins 173 16 = some (.iload_n 3, (0, 0, 0)) := by decide +kernel
theorem i_173_17 : a_ins 173 17 = some (.iload_n 2, (0, 0, 0)) := by decide +kernel
theorem i_173_18 : a_ins 173 18 = some (.if_icmp .ge 46, (0, 0, 0)) := by decide +kernel
theorem i_173_21 : a_ins 173 21 = some (.aload_n 0, (0, 0, 0)) := by decide +kernel
theorem i_173_22 : a_ins 173 22 = some (.getfield 149, (11, 46, 1252)) := by decide +kernel
theorem i_173_25 : a_ins 173 25 = some (.iload_n 3, (0, 0, 0)) := by decide +kernel
theorem i_173_26 : a_ins 173 26 = some (.aload_n 0, (0, 0, 0)) := by decide +kernel
theorem i_173_27 : a_ins 173 27 = some (.getfield 149, (11, 46, 1252)) := by decide +kernel
theorem i_173_30 : a_ins 173 30 = some (.iload_n 2, (0, 0, 0)) := by decide +kernel
theorem i_173_31 : a_ins 173 31 = some (.aload_n 0, (0, 0, 0)) := by decide +kernel
theorem i_173_32 : a_ins 173 32 = some (.getfield 131, (11, 36, 1242)) := by decide +kernel
theorem i_173_35 : a_ins 173 35 = some (.iload_n 1, (0, 0, 0)) := by decide +kernel
theorem i_173_36 : a_ins 173 36 = some (.iaload, (0, 0, 0)) := by decide +kernel
theorem i_173_37 : a_ins 173 37 = some (.iconst 0, (0, 0, 0)) := by decide +kernel
theorem i_173_38 : a_ins 173 38 = some (.invokestatic 285, (1, 149, 6)) := by decide +kernel
theorem i_173_41 : a_ins 173 41 = some (.ifCond .ne 6, (0, 0, 0)) := by decide +kernel
theorem i_173_44 : a_ins 173 44 = some (.goto 14, (0, 0, 0)) := by decide +kernel
theorem i_173_47 : a_ins 173 47 = some (.aload_n 0, (0, 0, 0)) := by decide +kernel
theorem i_173_48 : a_ins 173 48 = some (.getfield 152, (11, 47, 1253)) := by decide +kernel
theorem i_173_51 : a_ins 173 51 = some (.iload_n 1, (0, 0, 0)) := by decide +kernel
theorem i_173_52 : a_ins 173 52 = some (.dup2, (0, 0, 0)) := by decide +kernel
theorem i_173_53 : a_ins 173 53 = some (.iaload, (0, 0, 0)) := by decide +kernel
theorem i_173_54 : a_ins 173 54 = some (.iconst 1, (0, 0, 0)) := by decide +kernel
theorem i_173_55 : a_ins 173 55 = some (.isub, (0, 0, 0)) := by decide +kernel
theorem i_173_56 : a_ins 173 56 = some (.iastore, (0, 0, 0)) := by decide +kernel
theorem i_173_57 : a_ins 173 57 = some (.return_, (0, 0, 0)) := by decide +kernel
theorem i_173_58 : a_ins 173 58 = some (.iinc 3 1, (0, 0, 0)) := by decide +kernel
theorem i_173_61 : a_ins 173 61 = some (.goto (-45), (0, 0, 0)) := by decide +kernel
theorem i_173_64 : a_ins 173 64 = some (.return_, (0, 0, 0)) := by decide +kernel
theorem i_174_0 : a_ins 174 0 = some (.iconst 0, (0, 0, 0)) := by decide +kernel
theorem i_174_1 : a_ins 174 1 = some (.istore_n 1, (0, 0, 0)) := by decide +kernel
theorem i_174_2 : a_ins 174 2 = some (.iconst 0, (0, 0, 0)) := by decide +kernel
theorem i_174_3 : a_ins 174 3 = some (.istore_n 2, (0, 0, 0)) := by decide +kernel
theorem i_174_4 : a_ins 174 4 = some (.iload_n 2, (0, 0, 0)) := by decide +kernel
theorem i_174_5 : a_ins 174 5 = some (.aload_n 0, (0, 0, 0)) := by decide +kernel
theorem i_174_6 : a_ins 174 6 = some (.getfield 224, (11, 38, 1244)) := by decide +kernel
theorem i_174_9 : a_ins 174 9 = some (.if_icmp .ge 50, (0, 0, 0)) := by decide +kernel
theorem i_174_12 : a_ins 174 12 = some (.iconst 0, (0, 0, 0)) := by decide +kernel
theorem i_174_13 : a_ins 174 13 = some (.istore_n 3, (0, 0, 0)) := by decide +kernel
theorem i_174_14 : a_ins 174 14 = some (.iload_n 3, (0, 0, 0)) := by decide +kernel
theorem i_174_15 : a_ins 174 15 = some (.aload_n 0, (0, 0, 0)) := by decide +kernel
theorem i_174_16 : a_ins 174 16 = some (.getfield 131, (11, 36, 1242)) := by decide +kernel
theorem i_174_19 : a_ins 174 19 = some (.iload_n 2, (0, 0, 0)) := by decide +kernel
theorem i_174_20 : a_ins 174 20 = some (.iaload, (0, 0, 0)) := by decide +kernel
theorem i_174_21 : a_ins 174 21 = some (.if_icmp .ge 32, (0, 0, 0)) := by decide +kernel
theorem i_174_24 : a_ins 174 24 = some (.iload_n 1, (0, 0, 0)) := by decide +kernel
theorem i_174_25 : a_ins 174 25 = some (.aload_n 0, (0, 0, 0)) := by decide +kernel
theorem i_174_26 : a_ins 174 26 = some (.iload_n 2, (0, 0, 0)) := by decide +kernel
theorem i_174_27 : a_ins 174 27 = some (.iload_n 3, (0, 0, 0)) := by decide +kernel
theorem i_174_28 : a_ins 174 28 = some (.invokevirtual 314, (0, 170, 2)) := by decide +kernel
theorem i_174_31 : a_ins 174 31 = some (.invokestatic 209, (1, 150, 1)) := by decide +kernel
theorem i_174_34 : a_ins 174 34 = some (.invokestatic 301, (1, 168, 1)) := by decide +kernel
theorem i_174_37 : a_ins 174 37 = some (.ifCond .eq 7, (0, 0, 0)) := by decide +kernel
theorem i_174_40 : a_ins 174 40 = some (.iconst 1, (0, 0, 0)) := by decide +kernel
theorem i_174_41 : a_ins 174 41 = some (.goto 4, (0, 0, 0)) := by decide +kernel
theorem i_174_44 : a_ins 174 44 = some (.iconst 0, (0, 0, 0)) := by decide +kernel
theorem i_174_45 : a_ins 174 45 = some (.iadd, (0, 0, 0)) := by decide +kernel
theorem i_174_46 : a_ins 174 46 = some (.istore_n 1, (0, 0, 0)) := by decide +kernel
theorem i_174_47 : a_ins 174 47 = some (.iinc 3 1, (0, 0, 0)) := by decide +kernel
theorem i_174_50 : a_ins 174 50 = some (.goto (-36), (0, 0, 0)) := by decide +kernel
theorem i_174_53 : a_ins 174 53 = some (.iinc 2 1, (0, 0, 0)) := by decide +kernel
theorem i_174_56 : a_ins 174 56 = some (.goto (-52), (0, 0, 0)) := by decide +kernel
theorem i_174_59 : a_ins 174 59 = some (.iload_n 1, (0, 0, 0)) := by decide +kernel
theorem i_174_60 : a_ins 174 60 = some (.ireturn, (0, 0, 0)) := by decide +kernel
theorem i_175_0 : a_ins 175 0 = some (.iconst 0, (0, 0, 0)) := by decide +kernel
theorem i_175_1 : a_ins 175 1 = some (.istore_n 1, (0, 0, 0)) := by decide +kernel
theorem i_175_2 : a_ins 175 2 = some (.iload_n 1, (0, 0, 0)) := by decide +kernel
theorem i_175_3 : a_ins 175 3 = some (.sipush 18928, (0, 0, 0)) := by decide +kernel
theorem i_175_6 : a_ins 175 6 = some (.if_icmp .ge 27, (0, 0, 0)) := by decide +kernel
theorem i_175_9 : a_ins 175 9 = some (.aload_n 0, (0, 0, 0)) := by decide +kernel
theorem i_175_10 : a_ins 175 10 = some (.getfield 170, (11, 54, 1260)) := by decide +kernel
theorem i_175_13 : a_ins 175 13 = some (.iload_n 1, (0, 0, 0)) := by decide +kernel
theorem i_175_14 : a_ins 175 14 = some (.ldc_w 337, (0, 4, 1583)) := by decide +kernel
theorem i_175_17 : a_ins 175 17 = some (.iastore, (0, 0, 0)) := by decide +kernel
theorem i_175_18 : a_ins 175 18 = some (.aload_n 0, (0, 0, 0)) := by decide +kernel
theorem i_175_19 : a_ins 175 19 = some (.getfield 173, (11, 55, 1261)) := by decide +kernel
theorem i_175_22 : a_ins 175 22 = some (.iload_n 1, (0, 0, 0)) := by decide +kernel
theorem i_175_23 : a_ins 175 23 = some (.ldc_w 337, (0, 4, 1583)) := by decide +kernel
theorem i_175_26 : a_ins 175 26 = some (.iastore, (0, 0, 0)) := by decide +kernel
theorem i_175_27 : a_ins 175 27 = some (.iinc 1 1, (0, 0, 0)) := by decide +kernel
theorem i_175_30 : a_ins 175 30 = some (.goto (-28), (0, 0, 0)) := by decide +kernel
theorem i_175_33 : a_ins 175 33 = some (.iconst 0, (0, 0, 0)) := by decide +kernel
theorem i_175_34 : a_ins 175 34 = some (.istore_n 1, (0, 0, 0)) := by decide +kernel
theorem i_175_35 : a_ins 175 35 = some (.iload_n 1, (0, 0, 0)) := by decide +kernel
theorem i_175_36 : a_ins 175 36 = some (.aload_n 0, (0, 0, 0)) := by decide +kernel
theorem i_175_37 : a_ins 175 37 = some (.getfield 224, (11, 38, 1244)) := by decide +kernel
theorem i_175_40 : a_ins 175 40 = some (.if_icmp .ge 50, (0, 0, 0)) := by decide +kernel
theorem i_175_43 : a_ins 175 43 = some (.bipush 13, (0, 0, 0)) := by decide +kernel
theorem i_175_45 : a_ins 175 45 = some (.iload_n 1, (0, 0, 0)) := by decide +kernel
theorem i_175_46 : a_ins 175 46 = some (.imul, (0, 0, 0)) := by decide +kernel
theorem i_175_47 : a_ins 175 47 = some (.istore_n 2, (0, 0, 0)) := by decide +kernel
theorem i_175_48 : a_ins 175 48 = some (.iload_n 2, (0, 0, 0)) := by decide +kernel
theorem i_175_49 : a_ins 175 49 = some (.bipush 13, (0, 0, 0)) := by decide +kernel
theorem i_175_51 : a_ins 175 51 = some (.iload_n 1, (0, 0, 0)) := by decide +kernel
theorem i_175_52 : a_ins 175 52 = some (.imul, (0, 0, 0)) := by decide +kernel
theorem i_175_53 : a_ins 175 53 = some (.aload_n 0, (0, 0, 0)) := by decide +kernel
theorem i_175_54 : a_ins 175 54 = some (.getfield 152, (11, 47, 1253)) := by decide +kernel
theorem i_175_57 : a_ins 175 57 = some (.iload_n 1, (0, 0, 0)) := by decide +kernel
theorem i_175_58 : a_ins 175 58 = some (.iaload, (0, 0, 0)) := by decide +kernel
theorem i_175_59 : a_ins 175 59 = some (.iadd, (0, 0, 0)) := by decide +kernel
theorem i_175_60 : a_ins 175 60 = some (.if_icmp .ge 24, (0, 0, 0)) := by decide +kernel
theorem i_175_63 : a_ins 175 63 = some (.aload_n 0, (0, 0, 0)) := by decide +kernel
theorem i_175_64 : a_ins 175 64 = some (.iload_n 1, (0, 0, 0)) := by decide +kernel
theorem i_175_65 : a_ins 175 65 = some (.iload_n 2, (0, 0, 0)) := by decide +kernel
theorem i_175_66 : a_ins 175 66 = some (.invokevirtual 354, (0, 176, 2)) := by decide +kernel
theorem i_175_69 : a_ins 175 69 = some (.ifCond .eq 9, (0, 0, 0)) := by decide +kernel
theorem i_175_72 : a_ins 175 72 = some (.aload_n 0, (0, 0, 0)) := by decide +kernel
theorem i_175_73 : a_ins 175 73 = some (.iload_n 1, (0, 0, 0)) := by decide +kernel
theorem i_175_74 : a_ins 175 74 = some (.iload_n 2, (0, 0, 0)) := by decide +kernel
theorem i_175_75 : a_ins 175 75 = some (.invokevirtual 358, (0, 177, 2)) := by decide +kernel
theorem i_175_78 : a_ins 175 78 = some (.iinc 2 1, (0, 0, 0)) := by decide +kernel
theorem i_175_81 : a_ins 175 81 = some (.goto (-33), (0, 0, 0)) := by decide +kernel
theorem i_175_84 : a_ins 175 84 = some (.iinc 1 1, (0, 0, 0)) := by decide +kernel
theorem i_175_87 : a_ins 175 87 = some (.goto (-52), (0, 0, 0)) := by decide +kernel
theorem i_175_90 : a_ins 175 90 = some (.aload_n 0, (0, 0, 0)) := by decide +kernel
theorem i_175_91 : a_ins 175 91 = some (.getfield 224, (11, 38, 1244)) := by decide +kernel
theorem i_175_94 : a_ins 175 94 = some (.iconst 1, (0, 0, 0)) := by decide +kernel
theorem i_175_95 : a_ins 175 95 = some (.isub, (0, 0, 0)) := by decide +kernel
theorem i_175_96 : a_ins 175 96 = some (.istore_n 1, (0, 0, 0)) := by decide +kernel
theorem i_175_97 : a_ins 175 97 = some (.iload_n 1, (0, 0, 0)) := by decide +kernel
theorem i_175_98 : a_ins 175 98 = some (.ifCond .lt 50, (0, 0, 0)) := by decide +kernel
theorem i_175_101 : a_ins 175 101 = some (.bipush 13, (0, 0, 0)) := by decide +kernel
theorem i_175_103 : a_ins 175 103 = some (.iload_n 1, (0, 0, 0)) := by decide +kernel
theorem i_175_104 : a_ins 175 104 = some (.imul, (0, 0, 0)) := by decide +kernel
theorem i_175_105 : a_ins 175 105 = some (.istore_n 2, (0, 0, 0)) := by decide +kernel
theorem i_175_106 : a_ins 175 106 = some (.iload_n 2, (0, 0, 0)) := by decide +kernel
theorem i_175_107 : a_ins 175 107 = some (.bipush 13, (0, 0, 0)) := by decide +kernel
theorem i_175_109 : a_ins 175 109 = some (.iload_n 1, (0, 0, 0)) := by decide +kernel
theorem i_175_110 : a_ins 175 110 = some (.imul, (0, 0, 0)) := by decide +kernel
theorem i_175_111 : a_ins 175 111 = some (.aload_n 0, (0, 0, 0)) := by decide +kernel
theorem i_175_112 : a_ins 175 112 = some (.getfield 152, (11, 47, 1253)) := by decide +kernel
theorem i_175_115 : a_ins 175 115 = some (.iload_n 1, (0, 0, 0)) := by decide +kernel
theorem i_175_116 : a_ins 175 116 = some (.iaload, (0, 0, 0)) := by decide +kernel
theorem i_175_117 : a_ins 175 117 = some (.iadd, (0, 0, 0)) := by decide +kernel
theorem i_175_118 : a_ins 175 118 = some (.if_icmp .ge 24, (0, 0, 0)) := by decide +kernel
theorem i_175_121 : a_ins 175 121 = some (.aload_n 0, (0, 0, 0)) := by decide +kernel
theorem i_175_122 : a_ins 175 122 = some (.iload_n 1, (0, 0, 0)) := by decide +kernel
theorem i_175_123 : a_ins 175 123 = some (.iload_n 2, (0, 0, 0)) := by decide +kernel
theorem i_175_124 : a_ins 175 124 = some (.invokevirtual 354, (0, 176, 2)) := by decide +kernel
theorem i_175_127 : a_ins 175 127 = some (.ifCond .eq 9, (0, 0, 0)) := by decide +kernel
theorem i_175_130 : a_ins 175 130 = some (.aload_n 0, (0, 0, 0)) := by decide +kernel
theorem i_175_131 : a_ins 175 131 = some (.iload_n 1, (0, 0, 0)) := by decide +kernel
theorem i_175_132 : a_ins 175 132 = some (.iload_n 2, (0, 0, 0)) := by decide +kernel
theorem i_175_133 : a_ins 175 133 = some (.invokevirtual 361, (0, 182, 2)) := by decide +kernel
theorem i_175_136 : a_ins 175 136 = some (.iinc 2 1, (0, 0, 0)) := by decide +kernel
theorem i_175_139 : a_ins 175 139 = some (.goto (-33), (0, 0, 0)) := by decide +kernel
theorem i_175_142 : a_ins 175 142 = some (.iinc 1 (-1), (0, 0, 0)) := by decide +kernel
theorem i_175_145 : a_ins 175 145 = some (.goto (-48), (0, 0, 0)) := by decide +kernel
theorem i_175_148 : a_ins 175 148 = some (.aload_n 0, (0, 0, 0)) := by decide +kernel
theorem i_175_149 : a_ins 175 149 = some (.aload_n 0, (0, 0, 0)) := by decide +kernel
theorem i_175_150 : a_ins 175 150 = some (.getfield 224, (11, 38, 1244)) := by decide +kernel
theorem i_175_153 : a_ins 175 153 = some (.ifCond .ne 7, (0, 0, 0)) := by decide +kernel
theorem i_175_156 : a_ins 175 156 = some (.iconst 0, (0, 0, 0)) := by decide +kernel
theorem i_175_157 : a_ins 175 157 = some (.goto 6, (0, 0, 0)) := by decide +kernel
theorem i_175_160 : a_ins 175 160 = some (.ldc_w 337, (0, 4, 1583)) := by decide +kernel
theorem i_175_163 : a_ins 175 163 = some (.putfield 364, (11, 57, 1263)) := by decide +kernel
theorem i_175_166 : a_ins 175 166 = some (.iconst 0, (0, 0, 0)) := by decide +kernel
theorem i_175_167 : a_ins 175 167 = some (.istore_n 1, (0, 0, 0)) := by decide +kernel
theorem i_175_168 : a_ins 175 168 = some (.iload_n 1, (0, 0, 0)) := by decide +kernel
theorem i_175_169 : a_ins 175 169 = some (.bipush 8, (0, 0, 0)) := by decide +kernel
theorem i_175_171 : a_ins 175 171 = some (.if_icmp .ge 73, (0, 0, 0)) := by decide +kernel
theorem i_175_174 : a_ins 175 174 = some (.aload_n 0, (0, 0, 0)) := by decide +kernel
theorem i_175_175 : a_ins 175 175 = some (.getfield 224, (11, 38, 1244)) := by decide +kernel
theorem i_175_178 : a_ins 175 178 = some (.ifCond .le 66, (0, 0, 0)) := by decide +kernel
theorem i_175_181 : a_ins 175 181 = some (.aload_n 0, (0, 0, 0)) := by decide +kernel
theorem i_175_182 : a_ins 175 182 = some (.getfield 348, (11, 56, 1262)) := by decide +kernel
theorem i_175_185 : a_ins 175 185 = some (.ifCond .lt 59, (0, 0, 0)) := by decide +kernel
theorem i_175_188 : a_ins 175 188 = some (.aload_n 0, (0, 0, 0)) := by decide +kernel
theorem i_175_189 : a_ins 175 189 = some (.getfield 348, (11, 56, 1262)) := by decide +kernel
theorem i_175_192 : a_ins 175 192 = some (.sipush 169, (0, 0, 0)) := by decide +kernel
theorem i_175_195 : a_ins 175 195 = some (.if_icmp .ge 49, (0, 0, 0)) := by decide +kernel
theorem i_175_198 : a_ins 175 198 = some (.aload_n 0, (0, 0, 0)) := by decide +kernel
theorem i_175_199 : a_ins 175 199 = some (.getfield 170, (11, 54, 1260)) := by decide +kernel
theorem i_175_202 : a_ins 175 202 = some (.aload_n 0, (0, 0, 0)) := by decide +kernel
theorem i_175_203 : a_ins 175 203 = some (.getfield 224, (11, 38, 1244)) := by decide +kernel
theorem i_175_206 : a_ins 175 206 = some (.iconst 1, (0, 0, 0)) := by decide +kernel
theorem i_175_207 : a_ins 175 207 = some (.isub, (0, 0, 0)) := by decide +kernel
theorem i_175_208 : a_ins 175 208 = some (.iload_n 1, (0, 0, 0)) := by decide +kernel
theorem i_175_209 : a_ins 175 209 = some (.aload_n 0, (0, 0, 0)) := by decide +kernel
theorem i_175_210 : a_ins 175 210 = some (.getfield 348, (11, 56, 1262)) := by decide +kernel
theorem i_175_213 : a_ins 175 213 = some (.invokestatic 367, (1, 180, 3)) := by decide +kernel
theorem i_175_216 : a_ins 175 216 = some (.iaload, (0, 0, 0)) := by decide +kernel
theorem i_175_217 : a_ins 175 217 = some (.istore_n 2, (0, 0, 0)) := by decide +kernel
theorem i_175_218 : a_ins 175 218 = some (.aload_n 0, (0, 0, 0)) := by decide +kernel
theorem i_175_219 : a_ins 175 219 = some (.iload_n 2, (0, 0, 0)) := by decide +kernel
theorem i_175_220 : a_ins 175 220 = some (.aload_n 0, (0, 0, 0)) := by decide +kernel
theorem i_175_221 : a_ins 175 221 = some (.getfield 364, (11, 57, 1263)) := by decide +kernel
theorem i_175_224 : a_ins 175 224 = some (.if_icmp .ge 7, (0, 0, 0)) := by decide +kernel
theorem i_175_227 : a_ins 175 227 = some (.iload_n 2, (0, 0, 0)) := by decide +kernel
theorem i_175_228 : a_ins 175 228 = some (.goto 7, (0, 0, 0)) := by decide +kernel
theorem i_175_231 : a_ins 175 231 = some (.aload_n 0, (0, 0, 0)) := by decide +kernel
theorem i_175_232 : a_ins 175 232 = some (.getfield 364, (11, 57, 1263)) := by decide +kernel
theorem i_175_235 : a_ins 175 235 = some (.putfield 364, (11, 57, 1263)) := by decide +kernel
theorem i_175_238 : a_ins 175 238 = some (.iinc 1 1, (0, 0, 0)) := by decide +kernel
theorem i_175_241 : a_ins 175 241 = some (.goto (-73), (0, 0, 0)) := by decide +kernel
theorem i_175_244 : a_ins 175 244 = some (.return_, (0, 0, 0)) := by decide +kernel
theorem i_176_0 : a_ins 176 0 = some (.iload_n 1, (0, 0, 0)) := by decide +kernel
theorem i_176_1 : a_ins 176 1 = some (.aload_n 0, (0, 0, 0)) := by decide +kernel
theorem i_176_2 : a_ins 176 2 = some (.getfield 176, (11, 58, 1264)) := by decide +kernel
theorem i_176_5 : a_ins 176 5 = some (.if_icmp .ne 16, (0, 0, 0)) := by decide +kernel
theorem i_176_8 : a_ins 176 8 = some (.iload_n 2, (0, 0, 0)) := by decide +kernel
theorem i_176_9 : a_ins 176 9 = some (.bipush 13, (0, 0, 0)) := by decide +kernel
theorem i_176_11 : a_ins 176 11 = some (.iload_n 1, (0, 0, 0)) := by decide +kernel
theorem i_176_12 : a_ins 176 12 = some (.imul, (0, 0, 0)) := by decide +kernel
theorem i_176_13 : a_ins 176 13 = some (.aload_n 0, (0, 0, 0)) := by decide +kernel
theorem i_176_14 : a_ins 176 14 = some (.getfield 338, (11, 59, 1265)) := by decide +kernel
theorem i_176_17 : a_ins 176 17 = some (.iadd, (0, 0, 0)) := by decide +kernel
theorem i_176_18 : a_ins 176 18 = some (.if_icmp .ne 7, (0, 0, 0)) := by decide +kernel
theorem i_176_21 : a_ins 176 21 = some (.iconst 1, (0, 0, 0)) := by decide +kernel
theorem i_176_22 : a_ins 176 22 = some (.goto 4, (0, 0, 0)) := by decide +kernel
theorem i_176_25 : a_ins 176 25 = some (.iconst 0, (0, 0, 0)) := by decide +kernel
theorem i_176_26 : a_ins 176 26 = some (.ireturn, (0, 0, 0)) := by decide +kernel
theorem i_177_0 : a_ins 177 0 = some (.iconst 0, (0, 0, 0)) := by decide +kernel
theorem i_177_1 : a_ins 177 1 = some (.istore_n 3, (0, 0, 0)) := by decide +kernel
theorem i_177_2 : a_ins 177 2 = some (.iload_n 3, (0, 0, 0)) := by decide +kernel
theorem i_177_3 : a_ins 177 3 = some (.sipush 169, (0, 0, 0)) := by decide +kernel
theorem i_177_6 : a_ins 177 6 = some (.if_icmp .ge 62, (0, 0, 0)) := by decide +kernel
theorem i_177_9 : a_ins 177 9 = some (.aload_n 0, (0, 0, 0)) := by decide +kernel
theorem i_177_10 : a_ins 177 10 = some (.iload_n 1, (0, 0, 0)) := by decide +kernel
theorem i_177_11 : a_ins 177 11 = some (.iload_n 2, (0, 0, 0)) := by decide +kernel
theorem i_177_12 : a_ins 177 12 = some (.iload_n 3, (0, 0, 0)) := by decide +kernel
theorem i_177_13 : a_ins 177 13 = some (.invokevirtual 377, (0, 178, 3)) := by decide +kernel
theorem i_177_16 : a_ins 177 16 = some (.istore 4, (0, 0, 0)) := by decide +kernel
theorem i_177_18 : a_ins 177 18 = some (.iload_n 1, (0, 0, 0)) := by decide +kernel
theorem i_177_19 : a_ins 177 19 = some (.aload_n 0, (0, 0, 0)) := by decide +kernel
theorem i_177_20 : a_ins 177 20 = some (.getfield 155, (11, 48, 1254)) := by decide +kernel
theorem i_177_23 : a_ins 177 23 = some (.iload_n 2, (0, 0, 0)) := by decide +kernel
theorem i_177_24 : a_ins 177 24 = some (.iaload, (0, 0, 0)) := by decide +kernel
theorem i_177_25 : a_ins 177 25 = some (.iload_n 3, (0, 0, 0)) := by decide +kernel
theorem i_177_26 : a_ins 177 26 = some (.invokestatic 367, (1, 180, 3)) := by decide +kernel
theorem i_177_29 : a_ins 177 29 = some (.istore 5, (0, 0, 0)) := by decide +kernel
theorem i_177_31 : a_ins 177 31 = some (.aload_n 0, (0, 0, 0)) := by decide +kernel
theorem i_177_32 : a_ins 177 32 = some (.getfield 170, (11, 54, 1260)) := by decide +kernel
theorem i_177_35 : a_ins 177 35 = some (.iload 5, (0, 0, 0)) := by decide +kernel
theorem i_177_37 : a_ins 177 37 = some (.iload 4, (0, 0, 0)) := by decide +kernel
theorem i_177_39 : a_ins 177 39 = some (.aload_n 0, (0, 0, 0)) := by decide +kernel
theorem i_177_40 : a_ins 177 40 = some (.getfield 170, (11, 54, 1260)) := by decide +kernel
theorem i_177_43 : a_ins 177 43 = some (.iload 5, (0, 0, 0)) := by decide +kernel
theorem i_177_45 : a_ins 177 45 = some (.iaload, (0, 0, 0)) := by decide +kernel
theorem i_177_46 : a_ins 177 46 = some (.if_icmp .ge 8, (0, 0, 0)) := by decide +kernel
theorem i_177_49 : a_ins 177 49 = some (.iload 4, (0, 0, 0)) := by decide +kernel
theorem i_177_51 : a_ins 177 51 = some (.goto 10, (0, 0, 0)) := by decide +kernel
theorem i_177_54 : a_ins 177 54 = some (.aload_n 0, (0, 0, 0)) := by decide +kernel
theorem i_177_55 : a_ins 177 55 = some (.getfield 170, (11, 54, 1260)) := by decide +kernel
theorem i_177_58 : a_ins 177 58 = some (.iload 5, (0, 0, 0)) := by decide +kernel
theorem i_177_60 : a_ins 177 60 = some (.iaload, (0, 0, 0)) := by decide +kernel
theorem i_177_61 : a_ins 177 61 = some (.iastore, (0, 0, 0)) := by decide +kernel
theorem i_177_62 : a_ins 177 62 = some (.iinc 3 1, (0, 0, 0)) := by decide +kernel
theorem i_177_65 : a_ins 177 65 = some (.goto (-63), (0, 0, 0)) := by decide +kernel
theorem i_177_68 : a_ins 177 68 = some (.return_, (0, 0, 0)) := by decide +kernel
theorem i_178_0 : a_ins 178 0 = some (.aload_n 0, (0, 0, 0)) := by decide +kernel
theorem i_178_1 : a_ins 178 1 = some (.iload_n 2, (0, 0, 0)) := by decide +kernel
theorem i_178_2 : a_ins 178 2 = some (.invokevirtual 371, (0, 179, 1)) := by decide +kernel
theorem i_178_5 : a_ins 178 5 = some (.istore 4, (0, 0, 0)) := by decide +kernel
theorem i_178_7 : a_ins 178 7 = some (.iload_n 3, (0, 0, 0)) := by decide +kernel
theorem i_178_8 : a_ins 178 8 = some (.iload 4, (0, 0, 0)) := by decide +kernel
theorem i_178_10 : a_ins 178 10 = some (.if_icmp .ge 7, (0, 0, 0)) := by decide +kernel
theorem i_178_13 : a_ins 178 13 = some (.ldc_w 337, (0, 4, 1583)) := by decide +kernel
theorem i_178_16 : a_ins 178 16 = some (.ireturn, (0, 0, 0)) := by decide +kernel
theorem i_178_17 : a_ins 178 17 = some (.iload_n 1, (0, 0, 0)) := by decide +kernel
theorem i_178_18 : a_ins 178 18 = some (.ifCond .ne 22, (0, 0, 0)) := by decide +kernel
theorem i_178_21 : a_ins 178 21 = some (.iload_n 3, (0, 0, 0)) := by decide +kernel
theorem i_178_22 : a_ins 178 22 = some (.iload 4, (0, 0, 0)) := by decide +kernel
theorem i_178_24 : a_ins 178 24 = some (.if_icmp .ne 12, (0, 0, 0)) := by decide +kernel
theorem i_178_27 : a_ins 178 27 = some (.aload_n 0, (0, 0, 0)) := by decide +kernel
theorem i_178_28 : a_ins 178 28 = some (.getfield 158, (11, 49, 1255)) := by decide +kernel
theorem i_178_31 : a_ins 178 31 = some (.iload_n 2, (0, 0, 0)) := by decide +kernel
theorem i_178_32 : a_ins 178 32 = some (.iaload, (0, 0, 0)) := by decide +kernel
theorem i_178_33 : a_ins 178 33 = some (.goto 6, (0, 0, 0)) := by decide +kernel
theorem i_178_36 : a_ins 178 36 = some (.ldc_w 337, (0, 4, 1583)) := by decide +kernel
theorem i_178_39 : a_ins 178 39 = some (.ireturn, (0, 0, 0)) := by decide +kernel
theorem i_178_40 : a_ins 178 40 = some (.ldc_w 337, (0, 4, 1583)) := by decide +kernel
theorem i_178_43 : a_ins 178 43 = some (.istore 5, (0, 0, 0)) := by decide +kernel
theorem i_178_45 : a_ins 178 45 = some (.iconst 0, (0, 0, 0)) := by decide +kernel
theorem i_178_46 : a_ins 178 46 = some (.istore 6, (0, 0, 0)) := by decide +kernel
theorem i_178_48 : a_ins 178 48 = some (.iload 6, (0, 0, 0)) := by decide +kernel
theorem i_178_50 : a_ins 178 50 = some (.bipush 8, (0, 0, 0)) := by decide +kernel
theorem i_178_52 : a_ins 178 52 = some (.if_icmp .ge 64, (0, 0, 0)) := by decide +kernel
theorem i_178_55 : a_ins 178 55 = some (.aload_n 0, (0, 0, 0)) := by decide +kernel
theorem i_178_56 : a_ins 178 56 = some (.getfield 170, (11, 54, 1260)) := by decide +kernel
theorem i_178_59 : a_ins 178 59 = some (.iload_n 1, (0, 0, 0)) := by decide +kernel
theorem i_178_60 : a_ins 178 60 = some (.iconst 1, (0, 0, 0)) := by decide +kernel
theorem i_178_61 : a_ins 178 61 = some (.isub, (0, 0, 0)) := by decide +kernel
theorem i_178_62 : a_ins 178 62 = some (.iload 6, (0, 0, 0)) := by decide +kernel
theorem i_178_64 : a_ins 178 64 = some (.iload_n 3, (0, 0, 0)) := by decide +kernel
theorem i_178_65 : a_ins 178 65 = some (.iload 4, (0, 0, 0)) := by decide +kernel
theorem i_178_67 : a_ins 178 67 = some (.isub, (0, 0, 0)) := by decide +kernel
theorem i_178_68 : a_ins 178 68 = some (.invokestatic 367, (1, 180, 3)) := by decide +kernel
theorem i_178_71 : a_ins 178 71 = some (.iaload, (0, 0, 0)) := by decide +kernel
theorem i_178_72 : a_ins 178 72 = some (.aload_n 0, (0, 0, 0)) := by decide +kernel
theorem i_178_73 : a_ins 178 73 = some (.iload 6, (0, 0, 0)) := by decide +kernel
theorem i_178_75 : a_ins 178 75 = some (.aload_n 0, (0, 0, 0)) := by decide +kernel
theorem i_178_76 : a_ins 178 76 = some (.getfield 155, (11, 48, 1254)) := by decide +kernel
theorem i_178_79 : a_ins 178 79 = some (.iload_n 2, (0, 0, 0)) := by decide +kernel
theorem i_178_80 : a_ins 178 80 = some (.iaload, (0, 0, 0)) := by decide +kernel
theorem i_178_81 : a_ins 178 81 = some (.invokevirtual 374, (0, 181, 2)) := by decide +kernel
theorem i_178_84 : a_ins 178 84 = some (.iadd, (0, 0, 0)) := by decide +kernel
theorem i_178_85 : a_ins 178 85 = some (.aload_n 0, (0, 0, 0)) := by decide +kernel
theorem i_178_86 : a_ins 178 86 = some (.getfield 158, (11, 49, 1255)) := by decide +kernel
theorem i_178_89 : a_ins 178 89 = some (.iload_n 2, (0, 0, 0)) := by decide +kernel
theorem i_178_90 : a_ins 178 90 = some (.iaload, (0, 0, 0)) := by decide +kernel
theorem i_178_91 : a_ins 178 91 = some (.iadd, (0, 0, 0)) := by decide +kernel
theorem i_178_92 : a_ins 178 92 = some (.istore 7, (0, 0, 0)) := by decide +kernel
theorem i_178_94 : a_ins 178 94 = some (.iload 7, (0, 0, 0)) := by decide +kernel
theorem i_178_96 : a_ins 178 96 = some (.iload 5, (0, 0, 0)) := by decide +kernel
theorem i_178_98 : a_ins 178 98 = some (.if_icmp .ge 8, (0, 0, 0)) := by decide +kernel
theorem i_178_101 : a_ins 178 101 = some (.iload 7, (0, 0, 0)) := by decide +kernel
theorem i_178_103 : a_ins 178 103 = some (.goto 5, (0, 0, 0)) := by decide +kernel
theorem i_178_106 : a_ins 178 106 = some (.iload 5, (0, 0, 0)) := by decide +kernel
theorem i_178_108 : a_ins 178 108 = some (.istore 5, (0, 0, 0)) := by decide +kernel
theorem i_178_110 : a_ins 178 110 = some (.iinc 6 1, (0, 0, 0)) := by decide +kernel
theorem i_178_113 : a_ins 178 113 = some (.goto (-65), (0, 0, 0)) := by decide +kernel
theorem i_178_116 : a_ins 178 116 = some (.iload 5, (0, 0, 0)) := by decide +kernel
theorem i_178_118 : a_ins 178 118 = some (.ireturn, (0, 0, 0)) := by decide +kernel
theorem i_179_0 : a_ins 179 0 = some (.aload_n 0, (0, 0, 0)) := by decide +kernel
theorem i_179_1 : a_ins 179 1 = some (.getfield 146, (11, 45, 1251)) := by decide +kernel
theorem i_179_4 : a_ins 179 4 = some (.iconst (-1), (0, 0, 0)) := by decide +kernel
theorem i_179_5 : a_ins 179 5 = some (.if_icmp .ne 7, (0, 0, 0)) := by decide +kernel
theorem i_179_8 : a_ins 179 8 = some (.iconst 0, (0, 0, 0)) := by decide +kernel
theorem i_179_9 : a_ins 179 9 = some (.goto 9, (0, 0, 0)) := by decide +kernel
theorem i_179_12 : a_ins 179 12 = some (.aload_n 0, (0, 0, 0)) := by decide +kernel
theorem i_179_13 : a_ins 179 13 = some (.getfield 164, (11, 51, 1257)) := by decide +kernel
theorem i_179_16 : a_ins 179 16 = some (.iload_n 1, (0, 0, 0)) := by decide +kernel
theorem i_179_17 : a_ins 179 17 = some (.iaload, (0, 0, 0)) := by decide +kernel
theorem i_179_18 : a_ins 179 18 = some (.ireturn, (0, 0, 0)) := by decide +kernel
theorem i_180_0 : a_ins 180 0 = some (.iload_n 0, (0, 0, 0)) := by decide +kernel
theorem i_180_1 : a_ins 180 1 = some (.bipush 8, (0, 0, 0)) := by decide +kernel
theorem i_180_3 : a_ins 180 3 = some (.imul, (0, 0, 0)) := by decide +kernel
theorem i_180_4 : a_ins 180 4 = some (.iload_n 1, (0, 0, 0)) := by decide +kernel
theorem i_180_5 : a_ins 180 5 = some (.iadd, (0, 0, 0)) := by decide +kernel
theorem i_180_6 : a_ins 180 6 = some (.sipush 169, (0, 0, 0)) := by decide +kernel
theorem i_180_9 : a_ins 180 9 = some (.imul, (0, 0, 0)) := by decide +kernel
theorem i_180_10 : a_ins 180 10 = some (.iload_n 2, (0, 0, 0)) := by decide +kernel
theorem i_180_11 : a_ins 180 11 = some (.iadd, (0, 0, 0)) := by decide +kernel
theorem i_180_12 : a_ins 180 12 = some (.ireturn, (0, 0, 0)) := by decide +kernel
theorem i_181_0 : a_ins 181 0 = some (.aload_n 0, (0, 0, 0)) := by decide +kernel
theorem i_181_1 : a_ins 181 1 = some (.getfield 100, (11, 24, 1230)) := by decide +kernel
theorem i_181_4 : a_ins 181 4 = some (.bipush 64, (0, 0, 0)) := by decide +kernel
theorem i_181_6 : a_ins 181 6 = some (.aload_n 0, (0, 0, 0)) := by decide +kernel
theorem i_181_7 : a_ins 181 7 = some (.getfield 215, (11, 32, 1238)) := by decide +kernel
theorem i_181_10 : a_ins 181 10 = some (.imul, (0, 0, 0)) := by decide +kernel
theorem i_181_11 : a_ins 181 11 = some (.bipush 8, (0, 0, 0)) := by decide +kernel
theorem i_181_13 : a_ins 181 13 = some (.iload_n 1, (0, 0, 0)) := by decide +kernel
theorem i_181_14 : a_ins 181 14 = some (.imul, (0, 0, 0)) := by decide +kernel
theorem i_181_15 : a_ins 181 15 = some (.iadd, (0, 0, 0)) := by decide +kernel
theorem i_181_16 : a_ins 181 16 = some (.iload_n 2, (0, 0, 0)) := by decide +kernel
theorem i_181_17 : a_ins 181 17 = some (.iadd, (0, 0, 0)) := by decide +kernel
theorem i_181_18 : a_ins 181 18 = some (.iaload, (0, 0, 0)) := by decide +kernel
theorem i_181_19 : a_ins 181 19 = some (.istore_n 3, (0, 0, 0)) := by decide +kernel
theorem i_181_20 : a_ins 181 20 = some (.iload_n 3, (0, 0, 0)) := by decide +kernel
theorem i_181_21 : a_ins 181 21 = some (.bipush (-2), (0, 0, 0)) := by decide +kernel
theorem i_181_23 : a_ins 181 23 = some (.if_icmp .ne 7, (0, 0, 0)) := by decide +kernel
theorem i_181_26 : a_ins 181 26 = some (.iconst 0, (0, 0, 0)) := by decide +kernel
theorem i_181_27 : a_ins 181 27 = some (.goto 15, (0, 0, 0)) := by decide +kernel
theorem i_181_30 : a_ins 181 30 = some (.iload_n 3, (0, 0, 0)) := by decide +kernel
theorem i_181_31 : a_ins 181 31 = some (.iconst (-1), (0, 0, 0)) := by decide +kernel
theorem i_181_32 : a_ins 181 32 = some (.if_icmp .ne 9, (0, 0, 0)) := by decide +kernel
theorem i_181_35 : a_ins 181 35 = some (.ldc_w 337, (0, 4, 1583)) := by decide +kernel
theorem i_181_38 : a_ins 181 38 = some (.goto 4, (0, 0, 0)) := by decide +kernel
theorem i_181_41 : a_ins 181 41 = some (.iload_n 3, (0, 0, 0)) := by decide +kernel
theorem i_181_42 : a_ins 181 42 = some (.ireturn, (0, 0, 0)) := by decide +kernel
theorem i_182_0 : a_ins 182 0 = some (.aload_n 0, (0, 0, 0)) := by decide +kernel
theorem i_182_1 : a_ins 182 1 = some (.iload_n 2, (0, 0, 0)) := by decide +kernel
theorem i_182_2 : a_ins 182 2 = some (.invokevirtual 371, (0, 179, 1)) := by decide +kernel
theorem i_182_5 : a_ins 182 5 = some (.istore_n 3, (0, 0, 0)) := by decide +kernel
theorem i_182_6 : a_ins 182 6 = some (.iload_n 3, (0, 0, 0)) := by decide +kernel
theorem i_182_7 : a_ins 182 7 = some (.istore 4, (0, 0, 0)) := by decide +kernel
theorem i_182_9 : a_ins 182 9 = some (.iload 4, (0, 0, 0)) := by decide +kernel
theorem i_182_11 : a_ins 182 11 = some (.sipush 169, (0, 0, 0)) := by decide +kernel
theorem i_182_14 : a_ins 182 14 = some (.if_icmp .ge 73, (0, 0, 0)) := by decide +kernel
theorem i_182_17 : a_ins 182 17 = some (.aload_n 0, (0, 0, 0)) := by decide +kernel
theorem i_182_18 : a_ins 182 18 = some (.iload_n 1, (0, 0, 0)) := by decide +kernel
theorem i_182_19 : a_ins 182 19 = some (.iload_n 2, (0, 0, 0)) := by decide +kernel
theorem i_182_20 : a_ins 182 20 = some (.iload 4, (0, 0, 0)) := by decide +kernel
theorem i_182_22 : a_ins 182 22 = some (.iload_n 3, (0, 0, 0)) := by decide +kernel
theorem i_182_23 : a_ins 182 23 = some (.isub, (0, 0, 0)) := by decide +kernel
theorem i_182_24 : a_ins 182 24 = some (.invokevirtual 380, (0, 183, 3)) := by decide +kernel
theorem i_182_27 : a_ins 182 27 = some (.aload_n 0, (0, 0, 0)) := by decide +kernel
theorem i_182_28 : a_ins 182 28 = some (.getfield 158, (11, 49, 1255)) := by decide +kernel
theorem i_182_31 : a_ins 182 31 = some (.iload_n 2, (0, 0, 0)) := by decide +kernel
theorem i_182_32 : a_ins 182 32 = some (.iaload, (0, 0, 0)) := by decide +kernel
theorem i_182_33 : a_ins 182 33 = some (.iadd, (0, 0, 0)) := by decide +kernel
theorem i_182_34 : a_ins 182 34 = some (.istore 5, (0, 0, 0)) := by decide +kernel
theorem i_182_36 : a_ins 182 36 = some (.iload_n 1, (0, 0, 0)) := by decide +kernel
theorem i_182_37 : a_ins 182 37 = some (.aload_n 0, (0, 0, 0)) := by decide +kernel
theorem i_182_38 : a_ins 182 38 = some (.getfield 155, (11, 48, 1254)) := by decide +kernel
theorem i_182_41 : a_ins 182 41 = some (.iload_n 2, (0, 0, 0)) := by decide +kernel
theorem i_182_42 : a_ins 182 42 = some (.iaload, (0, 0, 0)) := by decide +kernel
theorem i_182_43 : a_ins 182 43 = some (.iload 4, (0, 0, 0)) := by decide +kernel
theorem i_182_45 : a_ins 182 45 = some (.invokestatic 367, (1, 180, 3)) := by decide +kernel
theorem i_182_48 : a_ins 182 48 = some (.istore 6, (0, 0, 0)) := by decide +kernel
theorem i_182_50 : a_ins 182 50 = some (.aload_n 0, (0, 0, 0)) := by decide +kernel
theorem i_182_51 : a_ins 182 51 = some (.getfield 173, (11, 55, 1261)) := by decide +kernel
theorem i_182_54 : a_ins 182 54 = some (.iload 6, (0, 0, 0)) := by decide +kernel
theorem i_182_56 : a_ins 182 56 = some (.iload 5, (0, 0, 0)) := by decide +kernel
theorem i_182_58 : a_ins 182 58 = some (.aload_n 0, (0, 0, 0)) := by decide +kernel
theorem i_182_59 : a_ins 182 59 = some (.getfield 173, (11, 55, 1261)) := by decide +kernel
theorem i_182_62 : a_ins 182 62 = some (.iload 6, (0, 0, 0)) := by decide +kernel
theorem i_182_64 : a_ins 182 64 = some (.iaload, (0, 0, 0)) := by decide +kernel
theorem i_182_65 : a_ins 182 65 = some (.if_icmp .ge 8, (0, 0, 0)) := by decide +kernel
theorem i_182_68 : a_ins 182 68 = some (.iload 5, (0, 0, 0)) := by decide +kernel
theorem i_182_70 : a_ins 182 70 = some (.goto 10, (0, 0, 0)) := by decide +kernel
theorem i_182_73 : a_ins 182 73 = some (.aload_n 0, (0, 0, 0)) := by decide +kernel
theorem i_182_74 : a_ins 182 74 = some (.getfield 173, (11, 55, 1261)) := by decide +kernel
theorem i_182_77 : a_ins 182 77 = some (.iload 6, (0, 0, 0)) := by decide +kernel
theorem i_182_79 : a_ins 182 79 = some (.iaload, (0, 0, 0)) := by decide +kernel
theorem i_182_80 : a_ins 182 80 = some (.iastore, (0, 0, 0)) := by decide +kernel
theorem i_182_81 : a_ins 182 81 = some (.iinc 4 1, (0, 0, 0)) := by decide +kernel
theorem i_182_84 : a_ins 182 84 = some (.goto (-75), (0, 0, 0)) := by decide +kernel
theorem i_182_87 : a_ins 182 87 = some (.return_, (0, 0, 0)) := by decide +kernel
theorem i_183_0 : a_ins 183 0 = some (.iload_n 1, (0, 0, 0)) := by decide +kernel
theorem i_183_1 : a_ins 183 1 = some (.aload_n 0, (0, 0, 0)) := by decide +kernel
theorem i_183_2 : a_ins 183 2 = some (.getfield 224, (11, 38, 1244)) := by decide +kernel
theorem i_183_5 : a_ins 183 5 = some (.iconst 1, (0, 0, 0)) := by decide +kernel
theorem i_183_6 : a_ins 183 6 = some (.isub, (0, 0, 0)) := by decide +kernel
theorem i_183_7 : a_ins 183 7 = some (.if_icmp .ne 15, (0, 0, 0)) := by decide +kernel
theorem i_183_10 : a_ins 183 10 = some (.iload_n 3, (0, 0, 0)) := by decide +kernel
theorem i_183_11 : a_ins 183 11 = some (.ifCond .ne 7, (0, 0, 0)) := by decide +kernel
theorem i_183_14 : a_ins 183 14 = some (.iconst 0, (0, 0, 0)) := by decide +kernel
theorem i_183_15 : a_ins 183 15 = some (.goto 6, (0, 0, 0)) := by decide +kernel
theorem i_183_18 : a_ins 183 18 = some (.ldc_w 337, (0, 4, 1583)) := by decide +kernel
theorem i_183_21 : a_ins 183 21 = some (.ireturn, (0, 0, 0)) := by decide +kernel
theorem i_183_22 : a_ins 183 22 = some (.ldc_w 337, (0, 4, 1583)) := by decide +kernel
theorem i_183_25 : a_ins 183 25 = some (.istore 4, (0, 0, 0)) := by decide +kernel
theorem i_183_27 : a_ins 183 27 = some (.iconst 0, (0, 0, 0)) := by decide +kernel
theorem i_183_28 : a_ins 183 28 = some (.istore 5, (0, 0, 0)) := by decide +kernel
theorem i_183_30 : a_ins 183 30 = some (.iload 5, (0, 0, 0)) := by decide +kernel
theorem i_183_32 : a_ins 183 32 = some (.bipush 8, (0, 0, 0)) := by decide +kernel
theorem i_183_34 : a_ins 183 34 = some (.if_icmp .ge 54, (0, 0, 0)) := by decide +kernel
theorem i_183_37 : a_ins 183 37 = some (.aload_n 0, (0, 0, 0)) := by decide +kernel
theorem i_183_38 : a_ins 183 38 = some (.getfield 173, (11, 55, 1261)) := by decide +kernel
theorem i_183_41 : a_ins 183 41 = some (.iload_n 1, (0, 0, 0)) := by decide +kernel
theorem i_183_42 : a_ins 183 42 = some (.iconst 1, (0, 0, 0)) := by decide +kernel
theorem i_183_43 : a_ins 183 43 = some (.iadd, (0, 0, 0)) := by decide +kernel
theorem i_183_44 : a_ins 183 44 = some (.iload 5, (0, 0, 0)) := by decide +kernel
theorem i_183_46 : a_ins 183 46 = some (.iload_n 3, (0, 0, 0)) := by decide +kernel
theorem i_183_47 : a_ins 183 47 = some (.invokestatic 367, (1, 180, 3)) := by decide +kernel
theorem i_183_50 : a_ins 183 50 = some (.iaload, (0, 0, 0)) := by decide +kernel
theorem i_183_51 : a_ins 183 51 = some (.aload_n 0, (0, 0, 0)) := by decide +kernel
theorem i_183_52 : a_ins 183 52 = some (.aload_n 0, (0, 0, 0)) := by decide +kernel
theorem i_183_53 : a_ins 183 53 = some (.getfield 155, (11, 48, 1254)) := by decide +kernel
theorem i_183_56 : a_ins 183 56 = some (.iload_n 2, (0, 0, 0)) := by decide +kernel
theorem i_183_57 : a_ins 183 57 = some (.iaload, (0, 0, 0)) := by decide +kernel
theorem i_183_58 : a_ins 183 58 = some (.iload 5, (0, 0, 0)) := by decide +kernel
theorem i_183_60 : a_ins 183 60 = some (.invokevirtual 374, (0, 181, 2)) := by decide +kernel
theorem i_183_63 : a_ins 183 63 = some (.iadd, (0, 0, 0)) := by decide +kernel
theorem i_183_64 : a_ins 183 64 = some (.istore 6, (0, 0, 0)) := by decide +kernel
theorem i_183_66 : a_ins 183 66 = some (.iload 6, (0, 0, 0)) := by decide +kernel
theorem i_183_68 : a_ins 183 68 = some (.iload 4, (0, 0, 0)) := by decide +kernel
theorem i_183_70 : a_ins 183 70 = some (.if_icmp .ge 8, (0, 0, 0)) := by decide +kernel
theorem i_183_73 : a_ins 183 73 = some (.iload 6, (0, 0, 0)) := by decide +kernel
theorem i_183_75 : a_ins 183 75 = some (.goto 5, (0, 0, 0)) := by decide +kernel
theorem i_183_78 : a_ins 183 78 = some (.iload 4, (0, 0, 0)) := by decide +kernel
theorem i_183_80 : a_ins 183 80 = some (.istore 4, (0, 0, 0)) := by decide +kernel
theorem i_183_82 : a_ins 183 82 = some (.iinc 5 1, (0, 0, 0)) := by decide +kernel
theorem i_183_85 : a_ins 183 85 = some (.goto (-55), (0, 0, 0)) := by decide +kernel
theorem i_183_88 : a_ins 183 88 = some (.iload 4, (0, 0, 0)) := by decide +kernel
theorem i_183_90 : a_ins 183 90 = some (.ireturn, (0, 0, 0)) := by decide +kernel
theorem i_184_0 : a_ins 184 0 = some (.aload_n 0, (0, 0, 0)) := by decide +kernel
theorem i_184_1 : a_ins 184 1 = some (.iload_n 1, (0, 0, 0)) := by decide +kernel
theorem i_184_2 : a_ins 184 2 = some (.iload_n 2, (0, 0, 0)) := by decide +kernel
theorem i_184_3 : a_ins 184 3 = some (.invokevirtual 389, (0, 185, 2)) := by decide +kernel
theorem i_184_6 : a_ins 184 6 = some (.ifCond .ne 5, (0, 0, 0)) := by decide +kernel
theorem i_184_9 : a_ins 184 9 = some (.iconst (-1), (0, 0, 0)) := by decide +kernel
theorem i_184_10 : a_ins 184 10 = some (.ireturn, (0, 0, 0)) := by decide +kernel
theorem i_184_11 : a_ins 184 11 = some (.bipush 13, (0, 0, 0)) := by decide +kernel
theorem i_184_13 : a_ins 184 13 = some (.iload_n 1, (0, 0, 0)) := by decide +kernel
theorem i_184_14 : a_ins 184 14 = some (.imul, (0, 0, 0)) := by decide +kernel
theorem i_184_15 : a_ins 184 15 = some (.iload_n 2, (0, 0, 0)) := by decide +kernel
theorem i_184_16 : a_ins 184 16 = some (.iadd, (0, 0, 0)) := by decide +kernel
theorem i_184_17 : a_ins 184 17 = some (.istore 4, (0, 0, 0)) := by decide +kernel
theorem i_184_19 : a_ins 184 19 = some (.iload_n 3, (0, 0, 0)) := by decide +kernel
theorem i_184_20 : a_ins 184 20 = some (.tableswitch 109 0 5 #[40, 48, 56, 69, 76, 84], (0, 0, 0)) := by decide +kernel
theorem i_184_60 : a_ins 184 60 = some (.aload_n 0, (0, 0, 0)) := by decide +kernel
theorem i_184_61 : a_ins 184 61 = some (.getfield 155, (11, 48, 1254)) := by decide +kernel
theorem i_184_64 : a_ins 184 64 = some (.iload 4, (0, 0, 0)) := by decide +kernel
theorem i_184_66 : a_ins 184 66 = some (.iaload, (0, 0, 0)) := by decide +kernel
theorem i_184_67 : a_ins 184 67 = some (.ireturn, (0, 0, 0)) := by decide +kernel
theorem i_184_68 : a_ins 184 68 = some (.aload_n 0, (0, 0, 0)) := by decide +kernel
theorem i_184_69 : a_ins 184 69 = some (.getfield 158, (11, 49, 1255)) := by decide +kernel
theorem i_184_72 : a_ins 184 72 = some (.iload 4, (0, 0, 0)) := by decide +kernel
theorem i_184_74 : a_ins 184 74 = some (.iaload, (0, 0, 0)) := by decide +kernel
theorem i_184_75 : a_ins 184 75 = some (.ireturn, (0, 0, 0)) := by decide +kernel
theorem i_184_76 : a_ins 184 76 = some (.aload_n 0, (0, 0, 0)) := by decide +kernel
theorem i_184_77 : a_ins 184 77 = some (.iload 4, (0, 0, 0)) := by decide +kernel
theorem i_184_79 : a_ins 184 79 = some (.aload_n 0, (0, 0, 0)) := by decide +kernel
theorem i_184_80 : a_ins 184 80 = some (.getfield 131, (11, 36, 1242)) := by decide +kernel
theorem i_184_83 : a_ins 184 83 = some (.iload_n 1, (0, 0, 0)) := by decide +kernel
theorem i_184_84 : a_ins 184 84 = some (.iaload, (0, 0, 0)) := by decide +kernel
theorem i_184_85 : a_ins 184 85 = some (.invokevirtual 392, (0, 186, 2)) := by decide +kernel
theorem i_184_88 : a_ins 184 88 = some (.ireturn, (0, 0, 0)) := by decide +kernel
theorem i_184_89 : a_ins 184 89 = some (.aload_n 0, (0, 0, 0)) := by decide +kernel
theorem i_184_90 : a_ins 184 90 = some (.getfield 131, (11, 36, 1242)) := by decide +kernel
theorem i_184_93 : a_ins 184 93 = some (.iload_n 1, (0, 0, 0)) := by decide +kernel
theorem i_184_94 : a_ins 184 94 = some (.iaload, (0, 0, 0)) := by decide +kernel
theorem i_184_95 : a_ins 184 95 = some (.ireturn, (0, 0, 0)) := by decide +kernel
theorem i_184_96 : a_ins 184 96 = some (.aload_n 0, (0, 0, 0)) := by decide +kernel
theorem i_184_97 : a_ins 184 97 = some (.getfield 161, (11, 50, 1256)) := by decide +kernel
theorem i_184_100 : a_ins 184 100 = some (.iload 4, (0, 0, 0)) := by decide +kernel
theorem i_184_102 : a_ins 184 102 = some (.iaload, (0, 0, 0)) := by decide +kernel
theorem i_184_103 : a_ins 184 103 = some (.ireturn, (0, 0, 0)) := by decide +kernel
theorem i_184_104 : a_ins 184 104 = some (.aload_n 0, (0, 0, 0)) := by decide +kernel
theorem i_184_105 : a_ins 184 105 = some (.iload_n 1, (0, 0, 0)) := by decide +kernel
theorem i_184_106 : a_ins 184 106 = some (.iload 4, (0, 0, 0)) := by decide +kernel
theorem i_184_108 : a_ins 184 108 = some (.invokevirtual 395, (0, 187, 2)) := by decide +kernel
theorem i_184_111 : a_ins 184 111 = some (.ldc_w 337, (0, 4, 1583)) := by decide +kernel
theorem i_184_114 : a_ins 184 114 = some (.if_icmp .ge 13, (0, 0, 0)) := by decide +kernel
theorem i_184_117 : a_ins 184 117 = some (.aload_n 0, (0, 0, 0)) := by decide +kernel
theorem i_184_118 : a_ins 184 118 = some (.iload_n 1, (0, 0, 0)) := by decide +kernel
theorem i_184_119 : a_ins 184 119 = some (.iload 4, (0, 0, 0)) := by decide +kernel
theorem i_184_121 : a_ins 184 121 = some (.invokevirtual 395, (0, 187, 2)) := by decide +kernel
theorem i_184_124 : a_ins 184 124 = some (.goto 4, (0, 0, 0)) := by decide +kernel
theorem i_184_127 : a_ins 184 127 = some (.iconst (-1), (0, 0, 0)) := by decide +kernel
theorem i_184_128 : a_ins 184 128 = some (.ireturn, (0, 0, 0)) := by decide +kernel
theorem i_184_129 : a_ins 184 129 = some (.iconst (-1), (0, 0, 0)) := by decide +kernel
theorem i_184_130 : a_ins 184 130 = some (.ireturn, (0, 0, 0)) := by decide +kernel
theorem i_185_0 : a_ins 185 0 = some (.aload_n 0, (0, 0, 0)) := by decide +kernel
theorem i_185_1 : a_ins 185 1 = some (.iload_n 1, (0, 0, 0)) := by decide +kernel
theorem i_185_2 : a_ins 185 2 = some (.invokevirtual 383, (0, 160, 1)) := by decide +kernel
theorem i_185_5 : a_ins 185 5 = some (.ifCond .ne 5, (0, 0, 0)) := by decide +kernel
theorem i_185_8 : a_ins 185 8 = some (.iconst 0, (0, 0, 0)) := by decide +kernel
theorem i_185_9 : a_ins 185 9 = some (.ireturn, (0, 0, 0)) := by decide +kernel
theorem i_185_10 : a_ins 185 10 = some (.aload_n 0, (0, 0, 0)) := by decide +kernel
theorem i_185_11 : a_ins 185 11 = some (.invokevirtual 386, (0, 161, 0)) := by decide +kernel
theorem i_185_14 : a_ins 185 14 = some (.iload_n 2, (0, 0, 0)) := by decide +kernel
theorem i_185_15 : a_ins 185 15 = some (.ifCond .lt 17, (0, 0, 0)) := by decide +kernel
theorem i_185_18 : a_ins 185 18 = some (.iload_n 2, (0, 0, 0)) := by decide +kernel
theorem i_185_19 : a_ins 185 19 = some (.aload_n 0, (0, 0, 0)) := by decide +kernel
theorem i_185_20 : a_ins 185 20 = some (.getfield 152, (11, 47, 1253)) := by decide +kernel
theorem i_185_23 : a_ins 185 23 = some (.iload_n 1, (0, 0, 0)) := by decide +kernel
theorem i_185_24 : a_ins 185 24 = some (.iaload, (0, 0, 0)) := by decide +kernel
theorem i_185_25 : a_ins 185 25 = some (.if_icmp .ge 7, (0, 0, 0)) := by decide +kernel
theorem i_185_28 : a_ins 185 28 = some (.iconst 1, (0, 0, 0)) := by decide +kernel
theorem i_185_29 : a_ins 185 29 = some (.goto 4, (0, 0, 0)) := by decide +kernel
theorem i_185_32 : a_ins 185 32 = some (.iconst 0, (0, 0, 0)) := by decide +kernel
theorem i_185_33 : a_ins 185 33 = some (.ireturn, (0, 0, 0)) := by decide +kernel
theorem i_186_0 : a_ins 186 0 = some (.iconst 0, (0, 0, 0)) := by decide +kernel
theorem i_186_1 : a_ins 186 1 = some (.istore_n 3, (0, 0, 0)) := by decide +kernel
theorem i_186_2 : a_ins 186 2 = some (.iconst 0, (0, 0, 0)) := by decide +kernel
theorem i_186_3 : a_ins 186 3 = some (.istore 4, (0, 0, 0)) := by decide +kernel
theorem i_186_5 : a_ins 186 5 = some (.iload 4, (0, 0, 0)) := by decide +kernel
theorem i_186_7 : a_ins 186 7 = some (.iload_n 2, (0, 0, 0)) := by decide +kernel
theorem i_186_8 : a_ins 186 8 = some (.if_icmp .ge 38, (0, 0, 0)) := by decide +kernel
theorem i_186_11 : a_ins 186 11 = some (.iload_n 3, (0, 0, 0)) := by decide +kernel
theorem i_186_12 : a_ins 186 12 = some (.aload_n 0, (0, 0, 0)) := by decide +kernel
theorem i_186_13 : a_ins 186 13 = some (.getfield 149, (11, 46, 1252)) := by decide +kernel
theorem i_186_16 : a_ins 186 16 = some (.bipush 12, (0, 0, 0)) := by decide +kernel
theorem i_186_18 : a_ins 186 18 = some (.iload_n 1, (0, 0, 0)) := by decide +kernel
theorem i_186_19 : a_ins 186 19 = some (.imul, (0, 0, 0)) := by decide +kernel
theorem i_186_20 : a_ins 186 20 = some (.iload 4, (0, 0, 0)) := by decide +kernel
theorem i_186_22 : a_ins 186 22 = some (.iadd, (0, 0, 0)) := by decide +kernel
theorem i_186_23 : a_ins 186 23 = some (.baload, (0, 0, 0)) := by decide +kernel
theorem i_186_24 : a_ins 186 24 = some (.invokestatic 209, (1, 150, 1)) := by decide +kernel
theorem i_186_27 : a_ins 186 27 = some (.invokestatic 301, (1, 168, 1)) := by decide +kernel
theorem i_186_30 : a_ins 186 30 = some (.ifCond .eq 7, (0, 0, 0)) := by decide +kernel
theorem i_186_33 : a_ins 186 33 = some (.iconst 1, (0, 0, 0)) := by decide +kernel
theorem i_186_34 : a_ins 186 34 = some (.goto 4, (0, 0, 0)) := by decide +kernel
theorem i_186_37 : a_ins 186 37 = some (.iconst 0, (0, 0, 0)) := by decide +kernel
theorem i_186_38 : a_ins 186 38 = some (.iadd, (0, 0, 0)) := by decide +kernel
theorem i_186_39 : a_ins 186 39 = some (.istore_n 3, (0, 0, 0)) := by decide +kernel
theorem i_186_40 : a_ins 186 40 = some (.iinc 4 1, (0, 0, 0)) := by decide +kernel
theorem i_186_43 : a_ins 186 43 = some (.goto (-38), (0, 0, 0)) := by decide +kernel
theorem i_186_46 : a_ins 186 46 = some (.iload_n 3, (0, 0, 0)) := by decide +kernel
theorem i_186_47 : a_ins 186 47 = some (.aload_n 0, (0, 0, 0)) := by decide +kernel
theorem i_186_48 : a_ins 186 48 = some (.getfield 164, (11, 51, 1257)) := by decide +kernel
theorem i_186_51 : a_ins 186 51 = some (.iload_n 1, (0, 0, 0)) := by decide +kernel
theorem i_186_52 : a_ins 186 52 = some (.iaload, (0, 0, 0)) := by decide +kernel
theorem i_186_53 : a_ins 186 53 = some (.iadd, (0, 0, 0)) := by decide +kernel
theorem i_186_54 : a_ins 186 54 = some (.ireturn, (0, 0, 0)) := by decide +kernel
theorem i_187_0 : a_ins 187 0 = some (.ldc_w 337, (0, 4, 1583)) := by decide +kernel
theorem i_187_3 : a_ins 187 3 = some (.istore_n 3, (0, 0, 0)) := by decide +kernel
theorem i_187_4 : a_ins 187 4 = some (.aload_n 0, (0, 0, 0)) := by decide +kernel
theorem i_187_5 : a_ins 187 5 = some (.iload_n 1, (0, 0, 0)) := by decide +kernel
theorem i_187_6 : a_ins 187 6 = some (.iload_n 2, (0, 0, 0)) := by decide +kernel
theorem i_187_7 : a_ins 187 7 = some (.invokevirtual 354, (0, 176, 2)) := by decide +kernel
theorem i_187_10 : a_ins 187 10 = some (.ifCond .ne 5, (0, 0, 0)) := by decide +kernel
theorem i_187_13 : a_ins 187 13 = some (.iload_n 3, (0, 0, 0)) := by decide +kernel
theorem i_187_14 : a_ins 187 14 = some (.ireturn, (0, 0, 0)) := by decide +kernel
theorem i_187_15 : a_ins 187 15 = some (.iconst 0, (0, 0, 0)) := by decide +kernel
theorem i_187_16 : a_ins 187 16 = some (.istore 4, (0, 0, 0)) := by decide +kernel
theorem i_187_18 : a_ins 187 18 = some (.iload 4, (0, 0, 0)) := by decide +kernel
theorem i_187_20 : a_ins 187 20 = some (.aload_n 0, (0, 0, 0)) := by decide +kernel
theorem i_187_21 : a_ins 187 21 = some (.getfield 348, (11, 56, 1262)) := by decide +kernel
theorem i_187_24 : a_ins 187 24 = some (.if_icmp .gt 70, (0, 0, 0)) := by decide +kernel
theorem i_187_27 : a_ins 187 27 = some (.iload 4, (0, 0, 0)) := by decide +kernel
theorem i_187_29 : a_ins 187 29 = some (.sipush 169, (0, 0, 0)) := by decide +kernel
theorem i_187_32 : a_ins 187 32 = some (.if_icmp .ge 62, (0, 0, 0)) := by decide +kernel
theorem i_187_35 : a_ins 187 35 = some (.aload_n 0, (0, 0, 0)) := by decide +kernel
theorem i_187_36 : a_ins 187 36 = some (.getfield 348, (11, 56, 1262)) := by decide +kernel
theorem i_187_39 : a_ins 187 39 = some (.iload 4, (0, 0, 0)) := by decide +kernel
theorem i_187_41 : a_ins 187 41 = some (.isub, (0, 0, 0)) := by decide +kernel
theorem i_187_42 : a_ins 187 42 = some (.sipush 169, (0, 0, 0)) := by decide +kernel
theorem i_187_45 : a_ins 187 45 = some (.if_icmp .lt 6, (0, 0, 0)) := by decide +kernel
theorem i_187_48 : a_ins 187 48 = some (.goto 40, (0, 0, 0)) := by decide +kernel
theorem i_187_51 : a_ins 187 51 = some (.aload_n 0, (0, 0, 0)) := by decide +kernel
theorem i_187_52 : a_ins 187 52 = some (.iload_n 1, (0, 0, 0)) := by decide +kernel
theorem i_187_53 : a_ins 187 53 = some (.iload_n 2, (0, 0, 0)) := by decide +kernel
theorem i_187_54 : a_ins 187 54 = some (.iload 4, (0, 0, 0)) := by decide +kernel
theorem i_187_56 : a_ins 187 56 = some (.invokevirtual 377, (0, 178, 3)) := by decide +kernel
theorem i_187_59 : a_ins 187 59 = some (.aload_n 0, (0, 0, 0)) := by decide +kernel
theorem i_187_60 : a_ins 187 60 = some (.iload_n 1, (0, 0, 0)) := by decide +kernel
theorem i_187_61 : a_ins 187 61 = some (.iload_n 2, (0, 0, 0)) := by decide +kernel
theorem i_187_62 : a_ins 187 62 = some (.aload_n 0, (0, 0, 0)) := by decide +kernel
theorem i_187_63 : a_ins 187 63 = some (.getfield 348, (11, 56, 1262)) := by decide +kernel
theorem i_187_66 : a_ins 187 66 = some (.iload 4, (0, 0, 0)) := by decide +kernel
theorem i_187_68 : a_ins 187 68 = some (.isub, (0, 0, 0)) := by decide +kernel
theorem i_187_69 : a_ins 187 69 = some (.invokevirtual 380, (0, 183, 3)) := by decide +kernel
theorem i_187_72 : a_ins 187 72 = some (.iadd, (0, 0, 0)) := by decide +kernel
theorem i_187_73 : a_ins 187 73 = some (.istore 5, (0, 0, 0)) := by decide +kernel
theorem i_187_75 : a_ins 187 75 = some (.iload 5, (0, 0, 0)) := by decide +kernel
theorem i_187_77 : a_ins 187 77 = some (.iload_n 3, (0, 0, 0)) := by decide +kernel
theorem i_187_78 : a_ins 187 78 = some (.if_icmp .ge 8, (0, 0, 0)) := by decide +kernel
theorem i_187_81 : a_ins 187 81 = some (.iload 5, (0, 0, 0)) := by decide +kernel
theorem i_187_83 : a_ins 187 83 = some (.goto 4, (0, 0, 0)) := by decide +kernel
theorem i_187_86 : a_ins 187 86 = some (.iload_n 3, (0, 0, 0)) := by decide +kernel
theorem i_187_87 : a_ins 187 87 = some (.istore_n 3, (0, 0, 0)) := by decide +kernel
theorem i_187_88 : a_ins 187 88 = some (.iinc 4 1, (0, 0, 0)) := by decide +kernel
theorem i_187_91 : a_ins 187 91 = some (.goto (-73), (0, 0, 0)) := by decide +kernel
theorem i_187_94 : a_ins 187 94 = some (.iload_n 3, (0, 0, 0)) := by decide +kernel
theorem i_187_95 : a_ins 187 95 = some (.ireturn, (0, 0, 0)) := by decide +kernel
theorem i_188_0 : a_ins 188 0 = some (.aload_n 0, (0, 0, 0)) := by decide +kernel
theorem i_188_1 : a_ins 188 1 = some (.iload_n 1, (0, 0, 0)) := by decide +kernel
theorem i_188_2 : a_ins 188 2 = some (.iload_n 2, (0, 0, 0)) := by decide +kernel
theorem i_188_3 : a_ins 188 3 = some (.invokevirtual 389, (0, 185, 2)) := by decide +kernel
theorem i_188_6 : a_ins 188 6 = some (.ifCond .eq 17, (0, 0, 0)) := by decide +kernel
theorem i_188_9 : a_ins 188 9 = some (.iload_n 3, (0, 0, 0)) := by decide +kernel
theorem i_188_10 : a_ins 188 10 = some (.ifCond .lt 13, (0, 0, 0)) := by decide +kernel
theorem i_188_13 : a_ins 188 13 = some (.iload_n 3, (0, 0, 0)) := by decide +kernel
theorem i_188_14 : a_ins 188 14 = some (.aload_n 0, (0, 0, 0)) := by decide +kernel
theorem i_188_15 : a_ins 188 15 = some (.getfield 131, (11, 36, 1242)) := by decide +kernel
theorem i_188_18 : a_ins 188 18 = some (.iload_n 1, (0, 0, 0)) := by decide +kernel
theorem i_188_19 : a_ins 188 19 = some (.iaload, (0, 0, 0)) := by decide +kernel
theorem i_188_20 : a_ins 188 20 = some (.if_icmp .lt 7, (0, 0, 0)) := by decide +kernel
theorem i_188_23 : a_ins 188 23 = some (.iconst (-1), (0, 0, 0)) := by decide +kernel
theorem i_188_24 : a_ins 188 24 = some (.goto 19, (0, 0, 0)) := by decide +kernel
theorem i_188_27 : a_ins 188 27 = some (.aload_n 0, (0, 0, 0)) := by decide +kernel
theorem i_188_28 : a_ins 188 28 = some (.getfield 149, (11, 46, 1252)) := by decide +kernel
theorem i_188_31 : a_ins 188 31 = some (.bipush 12, (0, 0, 0)) := by decide +kernel
theorem i_188_33 : a_ins 188 33 = some (.bipush 13, (0, 0, 0)) := by decide +kernel
theorem i_188_35 : a_ins 188 35 = some (.iload_n 1, (0, 0, 0)) := by decide +kernel
theorem i_188_36 : a_ins 188 36 = some (.imul, (0, 0, 0)) := by decide +kernel
theorem i_188_37 : a_ins 188 37 = some (.iload_n 2, (0, 0, 0)) := by decide +kernel
theorem i_188_38 : a_ins 188 38 = some (.iadd, (0, 0, 0)) := by decide +kernel
theorem i_188_39 : a_ins 188 39 = some (.imul, (0, 0, 0)) := by decide +kernel
theorem i_188_40 : a_ins 188 40 = some (.iload_n 3, (0, 0, 0)) := by decide +kernel
theorem i_188_41 : a_ins 188 41 = some (.iadd, (0, 0, 0)) := by decide +kernel
theorem i_188_42 : a_ins 188 42 = some (.baload, (0, 0, 0)) := by decide +kernel
theorem i_188_43 : a_ins 188 43 = some (.ireturn, (0, 0, 0)) := by decide +kernel
theorem i_189_0 : a_ins 189 0 = some (.aload_n 0, (0, 0, 0)) := by decide +kernel
theorem i_189_1 : a_ins 189 1 = some (.invokevirtual 386, (0, 161, 0)) := by decide +kernel
theorem i_189_4 : a_ins 189 4 = some (.aload_n 0, (0, 0, 0)) := by decide +kernel
theorem i_189_5 : a_ins 189 5 = some (.getfield 364, (11, 57, 1263)) := by decide +kernel
theorem i_189_8 : a_ins 189 8 = some (.ldc_w 337, (0, 4, 1583)) := by decide +kernel
theorem i_189_11 : a_ins 189 11 = some (.if_icmp .ge 10, (0, 0, 0)) := by decide +kernel
theorem i_189_14 : a_ins 189 14 = some (.aload_n 0, (0, 0, 0)) := by decide +kernel
theorem i_189_15 : a_ins 189 15 = some (.getfield 364, (11, 57, 1263)) := by decide +kernel
theorem i_189_18 : a_ins 189 18 = some (.goto 5, (0, 0, 0)) := by decide +kernel
theorem i_189_21 : a_ins 189 21 = some (.bipush (-2), (0, 0, 0)) := by decide +kernel
theorem i_189_23 : a_ins 189 23 = some (.ireturn, (0, 0, 0)) := by decide +kernel
theorem i_190_0 : a_ins 190 0 = some (.aload_n 0, (0, 0, 0)) := by decide +kernel
theorem i_190_1 : a_ins 190 1 = some (.iload_n 1, (0, 0, 0)) := by decide +kernel
theorem i_190_2 : a_ins 190 2 = some (.invokevirtual 383, (0, 160, 1)) := by decide +kernel
theorem i_190_5 : a_ins 190 5 = some (.ifCond .eq 10, (0, 0, 0)) := by decide +kernel
theorem i_190_8 : a_ins 190 8 = some (.aload_n 0, (0, 0, 0)) := by decide +kernel
theorem i_190_9 : a_ins 190 9 = some (.invokevirtual 402, (0, 189, 0)) := by decide +kernel
theorem i_190_12 : a_ins 190 12 = some (.ifCond .ge 5, (0, 0, 0)) := by decide +kernel
theorem i_190_15 : a_ins 190 15 = some (.iconst (-1), (0, 0, 0)) := by decide +kernel
theorem i_190_16 : a_ins 190 16 = some (.ireturn, (0, 0, 0)) := by decide +kernel
theorem i_190_17 : a_ins 190 17 = some (.aload_n 0, (0, 0, 0)) := by decide +kernel
theorem i_190_18 : a_ins 190 18 = some (.invokevirtual 405, (0, 191, 0)) := by decide +kernel
theorem i_190_21 : a_ins 190 21 = some (.aload_n 0, (0, 0, 0)) := by decide +kernel
theorem i_190_22 : a_ins 190 22 = some (.getfield 179, (11, 60, 1266)) := by decide +kernel
theorem i_190_25 : a_ins 190 25 = some (.iload_n 1, (0, 0, 0)) := by decide +kernel
theorem i_190_26 : a_ins 190 26 = some (.iaload, (0, 0, 0)) := by decide +kernel
theorem i_190_27 : a_ins 190 27 = some (.ireturn, (0, 0, 0)) := by decide +kernel
theorem i_191_0 : a_ins 191 0 = some (.iconst 0, (0, 0, 0)) := by decide +kernel
theorem i_191_1 : a_ins 191 1 = some (.istore_n 1, (0, 0, 0)) := by decide +kernel
theorem i_191_2 : a_ins 191 2 = some (.iconst 0, (0, 0, 0)) := by decide +kernel
theorem i_191_3 : a_ins 191 3 = some (.istore_n 2, (0, 0, 0)) := by decide +kernel
theorem i_191_4 : a_ins 191 4 = some (.iconst 0, (0, 0, 0)) := by decide +kernel
theorem i_191_5 : a_ins 191 5 = some (.istore_n 3, (0, 0, 0)) := by decide +kernel
theorem i_191_6 : a_ins 191 6 = some (.iload_n 3, (0, 0, 0)) := by decide +kernel
theorem i_191_7 : a_ins 191 7 = some (.aload_n 0, (0, 0, 0)) := by decide +kernel
theorem i_191_8 : a_ins 191 8 = some (.getfield 224, (11, 38, 1244)) := by decide +kernel
theorem i_191_11 : a_ins 191 11 = some (.if_icmp .ge 105, (0, 0, 0)) := by decide +kernel
theorem i_191_14 : a_ins 191 14 = some (.bipush 13, (0, 0, 0)) := by decide +kernel
theorem i_191_16 : a_ins 191 16 = some (.iload_n 3, (0, 0, 0)) := by decide +kernel
theorem i_191_17 : a_ins 191 17 = some (.imul, (0, 0, 0)) := by decide +kernel
theorem i_191_18 : a_ins 191 18 = some (.istore 4, (0, 0, 0)) := by decide +kernel
theorem i_191_20 : a_ins 191 20 = some (.aload_n 0, (0, 0, 0)) := by decide +kernel
theorem i_191_21 : a_ins 191 21 = some (.iload_n 3, (0, 0, 0)) := by decide +kernel
theorem i_191_22 : a_ins 191 22 = some (.iload 4, (0, 0, 0)) := by decide +kernel
theorem i_191_24 : a_ins 191 24 = some (.iload_n 1, (0, 0, 0)) := by decide +kernel
theorem i_191_25 : a_ins 191 25 = some (.iload_n 2, (0, 0, 0)) := by decide +kernel
theorem i_191_26 : a_ins 191 26 = some (.invokevirtual 398, (0, 192, 4)) := by decide +kernel
theorem i_191_29 : a_ins 191 29 = some (.ifCond .ne 9, (0, 0, 0)) := by decide +kernel
theorem i_191_32 : a_ins 191 32 = some (.iinc 4 1, (0, 0, 0)) := by decide +kernel
theorem i_191_35 : a_ins 191 35 = some (.goto (-15), (0, 0, 0)) := by decide +kernel
