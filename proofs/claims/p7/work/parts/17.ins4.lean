theorem i_133_69 : a_ins 133 69 = some (.aload_n 0, (0, 0, 0)) := by decide +kernel
theorem i_133_70 : a_ins 133 70 = some (.getfield 121, (11, 31, 1237)) := by decide +kernel
theorem i_133_73 : a_ins 133 73 = some (.aload_n 0, (0, 0, 0)) := by decide +kernel
theorem i_133_74 : a_ins 133 74 = some (.getfield 218, (11, 33, 1239)) := by decide +kernel
theorem i_133_77 : a_ins 133 77 = some (.iconst 0, (0, 0, 0)) := by decide +kernel
theorem i_133_78 : a_ins 133 78 = some (.bastore, (0, 0, 0)) := by decide +kernel
theorem i_133_79 : a_ins 133 79 = some (.aload_n 0, (0, 0, 0)) := by decide +kernel
theorem i_133_80 : a_ins 133 80 = some (.getfield 115, (11, 29, 1235)) := by decide +kernel
theorem i_133_83 : a_ins 133 83 = some (.aload_n 0, (0, 0, 0)) := by decide +kernel
theorem i_133_84 : a_ins 133 84 = some (.getfield 218, (11, 33, 1239)) := by decide +kernel
theorem i_133_87 : a_ins 133 87 = some (.iconst 0, (0, 0, 0)) := by decide +kernel
theorem i_133_88 : a_ins 133 88 = some (.iastore, (0, 0, 0)) := by decide +kernel
theorem i_133_89 : a_ins 133 89 = some (.aload_n 0, (0, 0, 0)) := by decide +kernel
theorem i_133_90 : a_ins 133 90 = some (.getfield 118, (11, 30, 1236)) := by decide +kernel
theorem i_133_93 : a_ins 133 93 = some (.aload_n 0, (0, 0, 0)) := by decide +kernel
theorem i_133_94 : a_ins 133 94 = some (.getfield 218, (11, 33, 1239)) := by decide +kernel
theorem i_133_97 : a_ins 133 97 = some (.bipush 50, (0, 0, 0)) := by decide +kernel
theorem i_133_99 : a_ins 133 99 = some (.iastore, (0, 0, 0)) := by decide +kernel
theorem i_133_100 : a_ins 133 100 = some (.iconst 0, (0, 0, 0)) := by decide +kernel
theorem i_133_101 : a_ins 133 101 = some (.istore_n 1, (0, 0, 0)) := by decide +kernel
theorem i_133_102 : a_ins 133 102 = some (.iload_n 1, (0, 0, 0)) := by decide +kernel
theorem i_133_103 : a_ins 133 103 = some (.bipush 64, (0, 0, 0)) := by decide +kernel
theorem i_133_105 : a_ins 133 105 = some (.if_icmp .ge 25, (0, 0, 0)) := by decide +kernel
theorem i_133_108 : a_ins 133 108 = some (.aload_n 0, (0, 0, 0)) := by decide +kernel
theorem i_133_109 : a_ins 133 109 = some (.getfield 100, (11, 24, 1230)) := by decide +kernel
theorem i_133_112 : a_ins 133 112 = some (.bipush 64, (0, 0, 0)) := by decide +kernel
theorem i_133_114 : a_ins 133 114 = some (.aload_n 0, (0, 0, 0)) := by decide +kernel
theorem i_133_115 : a_ins 133 115 = some (.getfield 218, (11, 33, 1239)) := by decide +kernel
theorem i_133_118 : a_ins 133 118 = some (.imul, (0, 0, 0)) := by decide +kernel
theorem i_133_119 : a_ins 133 119 = some (.iload_n 1, (0, 0, 0)) := by decide +kernel
theorem i_133_120 : a_ins 133 120 = some (.iadd, (0, 0, 0)) := by decide +kernel
theorem i_133_121 : a_ins 133 121 = some (.bipush (-2), (0, 0, 0)) := by decide +kernel
theorem i_133_123 : a_ins 133 123 = some (.iastore, (0, 0, 0)) := by decide +kernel
theorem i_133_124 : a_ins 133 124 = some (.iinc 1 1, (0, 0, 0)) := by decide +kernel
theorem i_133_127 : a_ins 133 127 = some (.goto (-25), (0, 0, 0)) := by decide +kernel
theorem i_133_130 : a_ins 133 130 = some (.aload_n 0, (0, 0, 0)) := by decide +kernel
theorem i_133_131 : a_ins 133 131 = some (.invokevirtual 199, (0, 135, 0)) := by decide +kernel
theorem i_133_134 : a_ins 133 134 = some (.aload_n 0, (0, 0, 0)) := by decide +kernel
theorem i_133_135 : a_ins 133 135 = some (.invokevirtual 202, (0, 140, 0)) := by decide +kernel
theorem i_133_138 : a_ins 133 138 = some (.ifCond .eq 17, (0, 0, 0)) := by decide +kernel
theorem i_133_141 : a_ins 133 141 = some (.aload_n 0, (0, 0, 0)) := by decide +kernel
theorem i_133_142 : a_ins 133 142 = some (.getfield 31, (11, 8, 1214)) := by decide +kernel
theorem i_133_145 : a_ins 133 145 = some (.ifCond .eq 10, (0, 0, 0)) := by decide +kernel
theorem i_133_148 : a_ins 133 148 = some (.aload_n 0, (0, 0, 0)) := by decide +kernel
theorem i_133_149 : a_ins 133 149 = some (.invokevirtual 221, (0, 141, 0)) := by decide +kernel
theorem i_133_152 : a_ins 133 152 = some (.goto (-18), (0, 0, 0)) := by decide +kernel
theorem i_133_155 : a_ins 133 155 = some (.aload_n 0, (0, 0, 0)) := by decide +kernel
theorem i_133_156 : a_ins 133 156 = some (.invokevirtual 202, (0, 140, 0)) := by decide +kernel
theorem i_133_159 : a_ins 133 159 = some (.ifCond .ne 5, (0, 0, 0)) := by decide +kernel
theorem i_133_162 : a_ins 133 162 = some (.iconst (-1), (0, 0, 0)) := by decide +kernel
theorem i_133_163 : a_ins 133 163 = some (.ireturn, (0, 0, 0)) := by decide +kernel
theorem i_133_164 : a_ins 133 164 = some (.aload_n 0, (0, 0, 0)) := by decide +kernel
theorem i_133_165 : a_ins 133 165 = some (.aload_n 0, (0, 0, 0)) := by decide +kernel
theorem i_133_166 : a_ins 133 166 = some (.getfield 218, (11, 33, 1239)) := by decide +kernel
theorem i_133_169 : a_ins 133 169 = some (.putfield 215, (11, 32, 1238)) := by decide +kernel
theorem i_133_172 : a_ins 133 172 = some (.iconst 0, (0, 0, 0)) := by decide +kernel
theorem i_133_173 : a_ins 133 173 = some (.istore_n 1, (0, 0, 0)) := by decide +kernel
theorem i_133_174 : a_ins 133 174 = some (.iload_n 1, (0, 0, 0)) := by decide +kernel
theorem i_133_175 : a_ins 133 175 = some (.bipush 80, (0, 0, 0)) := by decide +kernel
theorem i_133_177 : a_ins 133 177 = some (.if_icmp .ge 16, (0, 0, 0)) := by decide +kernel
theorem i_133_180 : a_ins 133 180 = some (.aload_n 0, (0, 0, 0)) := by decide +kernel
theorem i_133_181 : a_ins 133 181 = some (.getfield 167, (11, 52, 1258)) := by decide +kernel
theorem i_133_184 : a_ins 133 184 = some (.iload_n 1, (0, 0, 0)) := by decide +kernel
theorem i_133_185 : a_ins 133 185 = some (.iconst 0, (0, 0, 0)) := by decide +kernel
theorem i_133_186 : a_ins 133 186 = some (.iastore, (0, 0, 0)) := by decide +kernel
theorem i_133_187 : a_ins 133 187 = some (.iinc 1 1, (0, 0, 0)) := by decide +kernel
theorem i_133_190 : a_ins 133 190 = some (.goto (-16), (0, 0, 0)) := by decide +kernel
theorem i_133_193 : a_ins 133 193 = some (.aload_n 0, (0, 0, 0)) := by decide +kernel
theorem i_133_194 : a_ins 133 194 = some (.iconst 0, (0, 0, 0)) := by decide +kernel
theorem i_133_195 : a_ins 133 195 = some (.putfield 224, (11, 38, 1244)) := by decide +kernel
theorem i_133_198 : a_ins 133 198 = some (.aload_n 0, (0, 0, 0)) := by decide +kernel
theorem i_133_199 : a_ins 133 199 = some (.iconst 0, (0, 0, 0)) := by decide +kernel
theorem i_133_200 : a_ins 133 200 = some (.putfield 227, (11, 39, 1245)) := by decide +kernel
theorem i_133_203 : a_ins 133 203 = some (.aload_n 0, (0, 0, 0)) := by decide +kernel
theorem i_133_204 : a_ins 133 204 = some (.dup, (0, 0, 0)) := by decide +kernel
theorem i_133_205 : a_ins 133 205 = some (.getfield 230, (11, 41, 1247)) := by decide +kernel
theorem i_133_208 : a_ins 133 208 = some (.iconst 1, (0, 0, 0)) := by decide +kernel
theorem i_133_209 : a_ins 133 209 = some (.iadd, (0, 0, 0)) := by decide +kernel
theorem i_133_210 : a_ins 133 210 = some (.putfield 230, (11, 41, 1247)) := by decide +kernel
theorem i_133_213 : a_ins 133 213 = some (.aload_n 0, (0, 0, 0)) := by decide +kernel
theorem i_133_214 : a_ins 133 214 = some (.iconst 0, (0, 0, 0)) := by decide +kernel
theorem i_133_215 : a_ins 133 215 = some (.putfield 233, (11, 66, 1272)) := by decide +kernel
theorem i_133_218 : a_ins 133 218 = some (.aload_n 0, (0, 0, 0)) := by decide +kernel
theorem i_133_219 : a_ins 133 219 = some (.iconst 0, (0, 0, 0)) := by decide +kernel
theorem i_133_220 : a_ins 133 220 = some (.putfield 236, (11, 53, 1259)) := by decide +kernel
theorem i_133_223 : a_ins 133 223 = some (.aload_n 0, (0, 0, 0)) := by decide +kernel
theorem i_133_224 : a_ins 133 224 = some (.getfield 103, (11, 25, 1231)) := by decide +kernel
theorem i_133_227 : a_ins 133 227 = some (.aload_n 0, (0, 0, 0)) := by decide +kernel
theorem i_133_228 : a_ins 133 228 = some (.getfield 215, (11, 32, 1238)) := by decide +kernel
theorem i_133_231 : a_ins 133 231 = some (.iaload, (0, 0, 0)) := by decide +kernel
theorem i_133_232 : a_ins 133 232 = some (.ireturn, (0, 0, 0)) := by decide +kernel
theorem i_134_0 : a_ins 134 0 = some (.aload_n 0, (0, 0, 0)) := by decide +kernel
theorem i_134_1 : a_ins 134 1 = some (.aload_n 0, (0, 0, 0)) := by decide +kernel
theorem i_134_2 : a_ins 134 2 = some (.getfield 240, (11, 2, 1208)) := by decide +kernel
theorem i_134_5 : a_ins 134 5 = some (.putfield 1, (11, 3, 1209)) := by decide +kernel
theorem i_134_8 : a_ins 134 8 = some (.iconst 0, (0, 0, 0)) := by decide +kernel
theorem i_134_9 : a_ins 134 9 = some (.istore_n 1, (0, 0, 0)) := by decide +kernel
theorem i_134_10 : a_ins 134 10 = some (.iload_n 1, (0, 0, 0)) := by decide +kernel
theorem i_134_11 : a_ins 134 11 = some (.aload_n 0, (0, 0, 0)) := by decide +kernel
theorem i_134_12 : a_ins 134 12 = some (.getfield 1, (11, 3, 1209)) := by decide +kernel
theorem i_134_15 : a_ins 134 15 = some (.if_icmp .ge 21, (0, 0, 0)) := by decide +kernel
theorem i_134_18 : a_ins 134 18 = some (.aload_n 0, (0, 0, 0)) := by decide +kernel
theorem i_134_19 : a_ins 134 19 = some (.getfield 7, (11, 1, 1207)) := by decide +kernel
theorem i_134_22 : a_ins 134 22 = some (.iload_n 1, (0, 0, 0)) := by decide +kernel
theorem i_134_23 : a_ins 134 23 = some (.aload_n 0, (0, 0, 0)) := by decide +kernel
theorem i_134_24 : a_ins 134 24 = some (.getfield 57, (11, 0, 1206)) := by decide +kernel
theorem i_134_27 : a_ins 134 27 = some (.iload_n 1, (0, 0, 0)) := by decide +kernel
theorem i_134_28 : a_ins 134 28 = some (.baload, (0, 0, 0)) := by decide +kernel
theorem i_134_29 : a_ins 134 29 = some (.bastore, (0, 0, 0)) := by decide +kernel
theorem i_134_30 : a_ins 134 30 = some (.iinc 1 1, (0, 0, 0)) := by decide +kernel
theorem i_134_33 : a_ins 134 33 = some (.goto (-23), (0, 0, 0)) := by decide +kernel
theorem i_134_36 : a_ins 134 36 = some (.aload_n 0, (0, 0, 0)) := by decide +kernel
theorem i_134_37 : a_ins 134 37 = some (.iconst 0, (0, 0, 0)) := by decide +kernel
theorem i_134_38 : a_ins 134 38 = some (.putfield 240, (11, 2, 1208)) := by decide +kernel
theorem i_134_41 : a_ins 134 41 = some (.return_, (0, 0, 0)) := by decide +kernel
theorem i_135_0 : a_ins 135 0 = some (.aload_n 0, (0, 0, 0)) := by decide +kernel
theorem i_135_1 : a_ins 135 1 = some (.aload_n 0, (0, 0, 0)) := by decide +kernel
theorem i_135_2 : a_ins 135 2 = some (.getfield 21, (11, 7, 1213)) := by decide +kernel
theorem i_135_5 : a_ins 135 5 = some (.putfield 24, (11, 6, 1212)) := by decide +kernel
theorem i_135_8 : a_ins 135 8 = some (.aload_n 0, (0, 0, 0)) := by decide +kernel
theorem i_135_9 : a_ins 135 9 = some (.getfield 24, (11, 6, 1212)) := by decide +kernel
theorem i_135_12 : a_ins 135 12 = some (.aload_n 0, (0, 0, 0)) := by decide +kernel
theorem i_135_13 : a_ins 135 13 = some (.getfield 1, (11, 3, 1209)) := by decide +kernel
theorem i_135_16 : a_ins 135 16 = some (.if_icmp .ge 42, (0, 0, 0)) := by decide +kernel
theorem i_135_19 : a_ins 135 19 = some (.aload_n 0, (0, 0, 0)) := by decide +kernel
theorem i_135_20 : a_ins 135 20 = some (.aload_n 0, (0, 0, 0)) := by decide +kernel
theorem i_135_21 : a_ins 135 21 = some (.getfield 24, (11, 6, 1212)) := by decide +kernel
theorem i_135_24 : a_ins 135 24 = some (.invokevirtual 27, (0, 136, 1)) := by decide +kernel
theorem i_135_27 : a_ins 135 27 = some (.bipush 32, (0, 0, 0)) := by decide +kernel
theorem i_135_29 : a_ins 135 29 = some (.if_icmp .eq 16, (0, 0, 0)) := by decide +kernel
theorem i_135_32 : a_ins 135 32 = some (.aload_n 0, (0, 0, 0)) := by decide +kernel
theorem i_135_33 : a_ins 135 33 = some (.aload_n 0, (0, 0, 0)) := by decide +kernel
theorem i_135_34 : a_ins 135 34 = some (.getfield 24, (11, 6, 1212)) := by decide +kernel
theorem i_135_37 : a_ins 135 37 = some (.invokevirtual 27, (0, 136, 1)) := by decide +kernel
theorem i_135_40 : a_ins 135 40 = some (.bipush 10, (0, 0, 0)) := by decide +kernel
theorem i_135_42 : a_ins 135 42 = some (.if_icmp .ne 16, (0, 0, 0)) := by decide +kernel
theorem i_135_45 : a_ins 135 45 = some (.aload_n 0, (0, 0, 0)) := by decide +kernel
theorem i_135_46 : a_ins 135 46 = some (.dup, (0, 0, 0)) := by decide +kernel
theorem i_135_47 : a_ins 135 47 = some (.getfield 24, (11, 6, 1212)) := by decide +kernel
theorem i_135_50 : a_ins 135 50 = some (.iconst 1, (0, 0, 0)) := by decide +kernel
theorem i_135_51 : a_ins 135 51 = some (.iadd, (0, 0, 0)) := by decide +kernel
theorem i_135_52 : a_ins 135 52 = some (.putfield 24, (11, 6, 1212)) := by decide +kernel
theorem i_135_55 : a_ins 135 55 = some (.goto (-47), (0, 0, 0)) := by decide +kernel
theorem i_135_58 : a_ins 135 58 = some (.aload_n 0, (0, 0, 0)) := by decide +kernel
theorem i_135_59 : a_ins 135 59 = some (.aload_n 0, (0, 0, 0)) := by decide +kernel
theorem i_135_60 : a_ins 135 60 = some (.getfield 24, (11, 6, 1212)) := by decide +kernel
theorem i_135_63 : a_ins 135 63 = some (.invokevirtual 27, (0, 136, 1)) := by decide +kernel
theorem i_135_66 : a_ins 135 66 = some (.istore_n 1, (0, 0, 0)) := by decide +kernel
theorem i_135_67 : a_ins 135 67 = some (.aload_n 0, (0, 0, 0)) := by decide +kernel
theorem i_135_68 : a_ins 135 68 = some (.aload_n 0, (0, 0, 0)) := by decide +kernel
theorem i_135_69 : a_ins 135 69 = some (.getfield 24, (11, 6, 1212)) := by decide +kernel
theorem i_135_72 : a_ins 135 72 = some (.iconst 1, (0, 0, 0)) := by decide +kernel
theorem i_135_73 : a_ins 135 73 = some (.iadd, (0, 0, 0)) := by decide +kernel
theorem i_135_74 : a_ins 135 74 = some (.putfield 21, (11, 7, 1213)) := by decide +kernel
theorem i_135_77 : a_ins 135 77 = some (.aload_n 0, (0, 0, 0)) := by decide +kernel
theorem i_135_78 : a_ins 135 78 = some (.getfield 24, (11, 6, 1212)) := by decide +kernel
theorem i_135_81 : a_ins 135 81 = some (.aload_n 0, (0, 0, 0)) := by decide +kernel
theorem i_135_82 : a_ins 135 82 = some (.getfield 1, (11, 3, 1209)) := by decide +kernel
theorem i_135_85 : a_ins 135 85 = some (.if_icmp .lt 27, (0, 0, 0)) := by decide +kernel
theorem i_135_88 : a_ins 135 88 = some (.aload_n 0, (0, 0, 0)) := by decide +kernel
theorem i_135_89 : a_ins 135 89 = some (.iconst 0, (0, 0, 0)) := by decide +kernel
theorem i_135_90 : a_ins 135 90 = some (.putfield 31, (11, 8, 1214)) := by decide +kernel
theorem i_135_93 : a_ins 135 93 = some (.aload_n 0, (0, 0, 0)) := by decide +kernel
theorem i_135_94 : a_ins 135 94 = some (.aload_n 0, (0, 0, 0)) := by decide +kernel
theorem i_135_95 : a_ins 135 95 = some (.getfield 1, (11, 3, 1209)) := by decide +kernel
theorem i_135_98 : a_ins 135 98 = some (.putfield 24, (11, 6, 1212)) := by decide +kernel
theorem i_135_101 : a_ins 135 101 = some (.aload_n 0, (0, 0, 0)) := by decide +kernel
theorem i_135_102 : a_ins 135 102 = some (.aload_n 0, (0, 0, 0)) := by decide +kernel
theorem i_135_103 : a_ins 135 103 = some (.getfield 1, (11, 3, 1209)) := by decide +kernel
theorem i_135_106 : a_ins 135 106 = some (.putfield 21, (11, 7, 1213)) := by decide +kernel
theorem i_135_109 : a_ins 135 109 = some (.goto 274, (0, 0, 0)) := by decide +kernel
theorem i_135_112 : a_ins 135 112 = some (.iload_n 1, (0, 0, 0)) := by decide +kernel
theorem i_135_113 : a_ins 135 113 = some (.invokestatic 34, (1, 137, 1)) := by decide +kernel
theorem i_135_116 : a_ins 135 116 = some (.ifCond .eq 128, (0, 0, 0)) := by decide +kernel
theorem i_135_119 : a_ins 135 119 = some (.aload_n 0, (0, 0, 0)) := by decide +kernel
theorem i_135_120 : a_ins 135 120 = some (.aload_n 0, (0, 0, 0)) := by decide +kernel
theorem i_135_121 : a_ins 135 121 = some (.getfield 21, (11, 7, 1213)) := by decide +kernel
theorem i_135_124 : a_ins 135 124 = some (.invokevirtual 27, (0, 136, 1)) := by decide +kernel
theorem i_135_127 : a_ins 135 127 = some (.invokestatic 34, (1, 137, 1)) := by decide +kernel
theorem i_135_130 : a_ins 135 130 = some (.ifCond .eq 16, (0, 0, 0)) := by decide +kernel
theorem i_135_133 : a_ins 135 133 = some (.aload_n 0, (0, 0, 0)) := by decide +kernel
theorem i_135_134 : a_ins 135 134 = some (.dup, (0, 0, 0)) := by decide +kernel
theorem i_135_135 : a_ins 135 135 = some (.getfield 21, (11, 7, 1213)) := by decide +kernel
theorem i_135_138 : a_ins 135 138 = some (.iconst 1, (0, 0, 0)) := by decide +kernel
theorem i_135_139 : a_ins 135 139 = some (.iadd, (0, 0, 0)) := by decide +kernel
theorem i_135_140 : a_ins 135 140 = some (.putfield 21, (11, 7, 1213)) := by decide +kernel
theorem i_135_143 : a_ins 135 143 = some (.goto (-24), (0, 0, 0)) := by decide +kernel
theorem i_135_146 : a_ins 135 146 = some (.aload_n 0, (0, 0, 0)) := by decide +kernel
theorem i_135_147 : a_ins 135 147 = some (.lconst 0, (0, 0, 0)) := by decide +kernel
theorem i_135_148 : a_ins 135 148 = some (.putfield 37, (11, 10, 1216)) := by decide +kernel
theorem i_135_151 : a_ins 135 151 = some (.aload_n 0, (0, 0, 0)) := by decide +kernel
theorem i_135_152 : a_ins 135 152 = some (.getfield 24, (11, 6, 1212)) := by decide +kernel
theorem i_135_155 : a_ins 135 155 = some (.istore_n 2, (0, 0, 0)) := by decide +kernel
theorem i_135_156 : a_ins 135 156 = some (.iload_n 2, (0, 0, 0)) := by decide +kernel
theorem i_135_157 : a_ins 135 157 = some (.aload_n 0, (0, 0, 0)) := by decide +kernel
theorem i_135_158 : a_ins 135 158 = some (.getfield 21, (11, 7, 1213)) := by decide +kernel
theorem i_135_161 : a_ins 135 161 = some (.if_icmp .ge 38, (0, 0, 0)) := by decide +kernel
theorem i_135_164 : a_ins 135 164 = some (.iload_n 2, (0, 0, 0)) := by decide +kernel
theorem i_135_165 : a_ins 135 165 = some (.aload_n 0, (0, 0, 0)) := by decide +kernel
theorem i_135_166 : a_ins 135 166 = some (.getfield 24, (11, 6, 1212)) := by decide +kernel
theorem i_135_169 : a_ins 135 169 = some (.bipush 8, (0, 0, 0)) := by decide +kernel
theorem i_135_171 : a_ins 135 171 = some (.iadd, (0, 0, 0)) := by decide +kernel
theorem i_135_172 : a_ins 135 172 = some (.if_icmp .ge 27, (0, 0, 0)) := by decide +kernel
theorem i_135_175 : a_ins 135 175 = some (.aload_n 0, (0, 0, 0)) := by decide +kernel
theorem i_135_176 : a_ins 135 176 = some (.aload_n 0, (0, 0, 0)) := by decide +kernel
theorem i_135_177 : a_ins 135 177 = some (.getfield 37, (11, 10, 1216)) := by decide +kernel
theorem i_135_180 : a_ins 135 180 = some (.bipush 8, (0, 0, 0)) := by decide +kernel
theorem i_135_182 : a_ins 135 182 = some (.lshl, (0, 0, 0)) := by decide +kernel
theorem i_135_183 : a_ins 135 183 = some (.aload_n 0, (0, 0, 0)) := by decide +kernel
theorem i_135_184 : a_ins 135 184 = some (.iload_n 2, (0, 0, 0)) := by decide +kernel
theorem i_135_185 : a_ins 135 185 = some (.invokevirtual 27, (0, 136, 1)) := by decide +kernel
theorem i_135_188 : a_ins 135 188 = some (.i2l, (0, 0, 0)) := by decide +kernel
theorem i_135_189 : a_ins 135 189 = some (.lor, (0, 0, 0)) := by decide +kernel
theorem i_135_190 : a_ins 135 190 = some (.putfield 37, (11, 10, 1216)) := by decide +kernel
theorem i_135_193 : a_ins 135 193 = some (.iinc 2 1, (0, 0, 0)) := by decide +kernel
theorem i_135_196 : a_ins 135 196 = some (.goto (-40), (0, 0, 0)) := by decide +kernel
theorem i_135_199 : a_ins 135 199 = some (.aload_n 0, (0, 0, 0)) := by decide +kernel
theorem i_135_200 : a_ins 135 200 = some (.getfield 21, (11, 7, 1213)) := by decide +kernel
theorem i_135_203 : a_ins 135 203 = some (.aload_n 0, (0, 0, 0)) := by decide +kernel
theorem i_135_204 : a_ins 135 204 = some (.getfield 24, (11, 6, 1212)) := by decide +kernel
theorem i_135_207 : a_ins 135 207 = some (.isub, (0, 0, 0)) := by decide +kernel
theorem i_135_208 : a_ins 135 208 = some (.bipush 8, (0, 0, 0)) := by decide +kernel
theorem i_135_210 : a_ins 135 210 = some (.if_icmp .le 8, (0, 0, 0)) := by decide +kernel
theorem i_135_213 : a_ins 135 213 = some (.aload_n 0, (0, 0, 0)) := by decide +kernel
theorem i_135_214 : a_ins 135 214 = some (.lconst 0, (0, 0, 0)) := by decide +kernel
theorem i_135_215 : a_ins 135 215 = some (.putfield 37, (11, 10, 1216)) := by decide +kernel
theorem i_135_218 : a_ins 135 218 = some (.aload_n 0, (0, 0, 0)) := by decide +kernel
theorem i_135_219 : a_ins 135 219 = some (.aload_n 0, (0, 0, 0)) := by decide +kernel
theorem i_135_220 : a_ins 135 220 = some (.getfield 21, (11, 7, 1213)) := by decide +kernel
theorem i_135_223 : a_ins 135 223 = some (.aload_n 0, (0, 0, 0)) := by decide +kernel
theorem i_135_224 : a_ins 135 224 = some (.getfield 24, (11, 6, 1212)) := by decide +kernel
theorem i_135_227 : a_ins 135 227 = some (.isub, (0, 0, 0)) := by decide +kernel
theorem i_135_228 : a_ins 135 228 = some (.bipush 12, (0, 0, 0)) := by decide +kernel
theorem i_135_230 : a_ins 135 230 = some (.if_icmp .le 7, (0, 0, 0)) := by decide +kernel
theorem i_135_233 : a_ins 135 233 = some (.iconst 1, (0, 0, 0)) := by decide +kernel
theorem i_135_234 : a_ins 135 234 = some (.goto 4, (0, 0, 0)) := by decide +kernel
theorem i_135_237 : a_ins 135 237 = some (.iconst 2, (0, 0, 0)) := by decide +kernel
theorem i_135_238 : a_ins 135 238 = some (.putfield 31, (11, 8, 1214)) := by decide +kernel
theorem i_135_241 : a_ins 135 241 = some (.goto 142, (0, 0, 0)) := by decide +kernel
theorem i_135_244 : a_ins 135 244 = some (.iload_n 1, (0, 0, 0)) := by decide +kernel
theorem i_135_245 : a_ins 135 245 = some (.invokestatic 41, (1, 139, 1)) := by decide +kernel
theorem i_135_248 : a_ins 135 248 = some (.ifCond .eq 120, (0, 0, 0)) := by decide +kernel
theorem i_135_251 : a_ins 135 251 = some (.aload_n 0, (0, 0, 0)) := by decide +kernel
theorem i_135_252 : a_ins 135 252 = some (.iconst 0, (0, 0, 0)) := by decide +kernel
theorem i_135_253 : a_ins 135 253 = some (.putfield 44, (11, 9, 1215)) := by decide +kernel
theorem i_135_256 : a_ins 135 256 = some (.aload_n 0, (0, 0, 0)) := by decide +kernel
theorem i_135_257 : a_ins 135 257 = some (.aload_n 0, (0, 0, 0)) := by decide +kernel
theorem i_135_258 : a_ins 135 258 = some (.getfield 24, (11, 6, 1212)) := by decide +kernel
theorem i_135_261 : a_ins 135 261 = some (.putfield 21, (11, 7, 1213)) := by decide +kernel
theorem i_135_264 : a_ins 135 264 = some (.aload_n 0, (0, 0, 0)) := by decide +kernel
theorem i_135_265 : a_ins 135 265 = some (.aload_n 0, (0, 0, 0)) := by decide +kernel
theorem i_135_266 : a_ins 135 266 = some (.getfield 21, (11, 7, 1213)) := by decide +kernel
theorem i_135_269 : a_ins 135 269 = some (.invokevirtual 27, (0, 136, 1)) := by decide +kernel
theorem i_135_272 : a_ins 135 272 = some (.invokestatic 41, (1, 139, 1)) := by decide +kernel
theorem i_135_275 : a_ins 135 275 = some (.ifCond .eq 53, (0, 0, 0)) := by decide +kernel
theorem i_135_278 : a_ins 135 278 = some (.aload_n 0, (0, 0, 0)) := by decide +kernel
theorem i_135_279 : a_ins 135 279 = some (.getfield 21, (11, 7, 1213)) := by decide +kernel
theorem i_135_282 : a_ins 135 282 = some (.aload_n 0, (0, 0, 0)) := by decide +kernel
theorem i_135_283 : a_ins 135 283 = some (.getfield 24, (11, 6, 1212)) := by decide +kernel
theorem i_135_286 : a_ins 135 286 = some (.isub, (0, 0, 0)) := by decide +kernel
theorem i_135_287 : a_ins 135 287 = some (.bipush 6, (0, 0, 0)) := by decide +kernel
theorem i_135_289 : a_ins 135 289 = some (.if_icmp .ge 26, (0, 0, 0)) := by decide +kernel
theorem i_135_292 : a_ins 135 292 = some (.aload_n 0, (0, 0, 0)) := by decide +kernel
theorem i_135_293 : a_ins 135 293 = some (.bipush 10, (0, 0, 0)) := by decide +kernel
theorem i_135_295 : a_ins 135 295 = some (.aload_n 0, (0, 0, 0)) := by decide +kernel
theorem i_135_296 : a_ins 135 296 = some (.getfield 44, (11, 9, 1215)) := by decide +kernel
theorem i_135_299 : a_ins 135 299 = some (.imul, (0, 0, 0)) := by decide +kernel
theorem i_135_300 : a_ins 135 300 = some (.aload_n 0, (0, 0, 0)) := by decide +kernel
theorem i_135_301 : a_ins 135 301 = some (.aload_n 0, (0, 0, 0)) := by decide +kernel
theorem i_135_302 : a_ins 135 302 = some (.getfield 21, (11, 7, 1213)) := by decide +kernel
theorem i_135_305 : a_ins 135 305 = some (.invokevirtual 27, (0, 136, 1)) := by decide +kernel
theorem i_135_308 : a_ins 135 308 = some (.iadd, (0, 0, 0)) := by decide +kernel
theorem i_135_309 : a_ins 135 309 = some (.bipush 48, (0, 0, 0)) := by decide +kernel
theorem i_135_311 : a_ins 135 311 = some (.isub, (0, 0, 0)) := by decide +kernel
theorem i_135_312 : a_ins 135 312 = some (.putfield 44, (11, 9, 1215)) := by decide +kernel
theorem i_135_315 : a_ins 135 315 = some (.aload_n 0, (0, 0, 0)) := by decide +kernel
theorem i_135_316 : a_ins 135 316 = some (.dup, (0, 0, 0)) := by decide +kernel
theorem i_135_317 : a_ins 135 317 = some (.getfield 21, (11, 7, 1213)) := by decide +kernel
theorem i_135_320 : a_ins 135 320 = some (.iconst 1, (0, 0, 0)) := by decide +kernel
theorem i_135_321 : a_ins 135 321 = some (.iadd, (0, 0, 0)) := by decide +kernel
theorem i_135_322 : a_ins 135 322 = some (.putfield 21, (11, 7, 1213)) := by decide +kernel
theorem i_135_325 : a_ins 135 325 = some (.goto (-61), (0, 0, 0)) := by decide +kernel
theorem i_135_328 : a_ins 135 328 = some (.aload_n 0, (0, 0, 0)) := by decide +kernel
theorem i_135_329 : a_ins 135 329 = some (.aload_n 0, (0, 0, 0)) := by decide +kernel
theorem i_135_330 : a_ins 135 330 = some (.getfield 21, (11, 7, 1213)) := by decide +kernel
theorem i_135_333 : a_ins 135 333 = some (.aload_n 0, (0, 0, 0)) := by decide +kernel
theorem i_135_334 : a_ins 135 334 = some (.getfield 24, (11, 6, 1212)) := by decide +kernel
theorem i_135_337 : a_ins 135 337 = some (.isub, (0, 0, 0)) := by decide +kernel
theorem i_135_338 : a_ins 135 338 = some (.bipush 6, (0, 0, 0)) := by decide +kernel
theorem i_135_340 : a_ins 135 340 = some (.if_icmp .gt 17, (0, 0, 0)) := by decide +kernel
theorem i_135_343 : a_ins 135 343 = some (.aload_n 0, (0, 0, 0)) := by decide +kernel
theorem i_135_344 : a_ins 135 344 = some (.aload_n 0, (0, 0, 0)) := by decide +kernel
theorem i_135_345 : a_ins 135 345 = some (.getfield 21, (11, 7, 1213)) := by decide +kernel
theorem i_135_348 : a_ins 135 348 = some (.invokevirtual 27, (0, 136, 1)) := by decide +kernel
theorem i_135_351 : a_ins 135 351 = some (.invokestatic 34, (1, 137, 1)) := by decide +kernel
theorem i_135_354 : a_ins 135 354 = some (.ifCond .eq 7, (0, 0, 0)) := by decide +kernel
theorem i_135_357 : a_ins 135 357 = some (.iconst 1, (0, 0, 0)) := by decide +kernel
theorem i_135_358 : a_ins 135 358 = some (.goto 4, (0, 0, 0)) := by decide +kernel
theorem i_135_361 : a_ins 135 361 = some (.iconst 3, (0, 0, 0)) := by decide +kernel
theorem i_135_362 : a_ins 135 362 = some (.putfield 31, (11, 8, 1214)) := by decide +kernel
theorem i_135_365 : a_ins 135 365 = some (.goto 18, (0, 0, 0)) := by decide +kernel
theorem i_135_368 : a_ins 135 368 = some (.aload_n 0, (0, 0, 0)) := by decide +kernel
theorem i_135_369 : a_ins 135 369 = some (.iload_n 1, (0, 0, 0)) := by decide +kernel
theorem i_135_370 : a_ins 135 370 = some (.bipush 59, (0, 0, 0)) := by decide +kernel
theorem i_135_372 : a_ins 135 372 = some (.if_icmp .ne 7, (0, 0, 0)) := by decide +kernel
theorem i_135_375 : a_ins 135 375 = some (.iconst 4, (0, 0, 0)) := by decide +kernel
theorem i_135_376 : a_ins 135 376 = some (.goto 4, (0, 0, 0)) := by decide +kernel
theorem i_135_379 : a_ins 135 379 = some (.iconst 1, (0, 0, 0)) := by decide +kernel
theorem i_135_380 : a_ins 135 380 = some (.putfield 31, (11, 8, 1214)) := by decide +kernel
theorem i_135_383 : a_ins 135 383 = some (.return_, (0, 0, 0)) := by decide +kernel
theorem i_136_0 : a_ins 136 0 = some (.iload_n 1, (0, 0, 0)) := by decide +kernel
theorem i_136_1 : a_ins 136 1 = some (.aload_n 0, (0, 0, 0)) := by decide +kernel
theorem i_136_2 : a_ins 136 2 = some (.getfield 1, (11, 3, 1209)) := by decide +kernel
theorem i_136_5 : a_ins 136 5 = some (.if_icmp .ge 16, (0, 0, 0)) := by decide +kernel
theorem i_136_8 : a_ins 136 8 = some (.aload_n 0, (0, 0, 0)) := by decide +kernel
theorem i_136_9 : a_ins 136 9 = some (.getfield 7, (11, 1, 1207)) := by decide +kernel
theorem i_136_12 : a_ins 136 12 = some (.iload_n 1, (0, 0, 0)) := by decide +kernel
theorem i_136_13 : a_ins 136 13 = some (.baload, (0, 0, 0)) := by decide +kernel
theorem i_136_14 : a_ins 136 14 = some (.sipush 255, (0, 0, 0)) := by decide +kernel
theorem i_136_17 : a_ins 136 17 = some (.iand, (0, 0, 0)) := by decide +kernel
theorem i_136_18 : a_ins 136 18 = some (.goto 4, (0, 0, 0)) := by decide +kernel
theorem i_136_21 : a_ins 136 21 = some (.iconst 0, (0, 0, 0)) := by decide +kernel
theorem i_136_22 : a_ins 136 22 = some (.ireturn, (0, 0, 0)) := by decide +kernel
theorem i_137_0 : a_ins 137 0 = some (.iload_n 0, (0, 0, 0)) := by decide +kernel
theorem i_137_1 : a_ins 137 1 = some (.bipush 97, (0, 0, 0)) := by decide +kernel
theorem i_137_3 : a_ins 137 3 = some (.if_icmp .lt 9, (0, 0, 0)) := by decide +kernel
theorem i_137_6 : a_ins 137 6 = some (.iload_n 0, (0, 0, 0)) := by decide +kernel
theorem i_137_7 : a_ins 137 7 = some (.bipush 122, (0, 0, 0)) := by decide +kernel
theorem i_137_9 : a_ins 137 9 = some (.if_icmp .le 10, (0, 0, 0)) := by decide +kernel
theorem i_137_12 : a_ins 137 12 = some (.iload_n 0, (0, 0, 0)) := by decide +kernel
theorem i_137_13 : a_ins 137 13 = some (.invokestatic 11, (1, 138, 1)) := by decide +kernel
theorem i_137_16 : a_ins 137 16 = some (.ifCond .eq 7, (0, 0, 0)) := by decide +kernel
theorem i_137_19 : a_ins 137 19 = some (.iconst 1, (0, 0, 0)) := by decide +kernel
theorem i_137_20 : a_ins 137 20 = some (.goto 4, (0, 0, 0)) := by decide +kernel
theorem i_137_23 : a_ins 137 23 = some (.iconst 0, (0, 0, 0)) := by decide +kernel
theorem i_137_24 : a_ins 137 24 = some (.ireturn, (0, 0, 0)) := by decide +kernel
theorem i_138_0 : a_ins 138 0 = some (.iload_n 0, (0, 0, 0)) := by decide +kernel
theorem i_138_1 : a_ins 138 1 = some (.bipush 65, (0, 0, 0)) := by decide +kernel
theorem i_138_3 : a_ins 138 3 = some (.if_icmp .lt 13, (0, 0, 0)) := by decide +kernel
theorem i_138_6 : a_ins 138 6 = some (.iload_n 0, (0, 0, 0)) := by decide +kernel
theorem i_138_7 : a_ins 138 7 = some (.bipush 90, (0, 0, 0)) := by decide +kernel
theorem i_138_9 : a_ins 138 9 = some (.if_icmp .gt 7, (0, 0, 0)) := by decide +kernel
theorem i_138_12 : a_ins 138 12 = some (.iconst 1, (0, 0, 0)) := by decide +kernel
theorem i_138_13 : a_ins 138 13 = some (.goto 4, (0, 0, 0)) := by decide +kernel
theorem i_138_16 : a_ins 138 16 = some (.iconst 0, (0, 0, 0)) := by decide +kernel
theorem i_138_17 : a_ins 138 17 = some (.ireturn, (0, 0, 0)) := by decide +kernel
theorem i_139_0 : a_ins 139 0 = some (.iload_n 0, (0, 0, 0)) := by decide +kernel
theorem i_139_1 : a_ins 139 1 = some (.bipush 48, (0, 0, 0)) := by decide +kernel
theorem i_139_3 : a_ins 139 3 = some (.if_icmp .lt 13, (0, 0, 0)) := by decide +kernel
theorem i_139_6 : a_ins 139 6 = some (.iload_n 0, (0, 0, 0)) := by decide +kernel
theorem i_139_7 : a_ins 139 7 = some (.bipush 57, (0, 0, 0)) := by decide +kernel
theorem i_139_9 : a_ins 139 9 = some (.if_icmp .gt 7, (0, 0, 0)) := by decide +kernel
theorem i_139_12 : a_ins 139 12 = some (.iconst 1, (0, 0, 0)) := by decide +kernel
theorem i_139_13 : a_ins 139 13 = some (.goto 4, (0, 0, 0)) := by decide +kernel
theorem i_139_16 : a_ins 139 16 = some (.iconst 0, (0, 0, 0)) := by decide +kernel
theorem i_139_17 : a_ins 139 17 = some (.ireturn, (0, 0, 0)) := by decide +kernel
theorem i_140_0 : a_ins 140 0 = some (.aload_n 0, (0, 0, 0)) := by decide +kernel
theorem i_140_1 : a_ins 140 1 = some (.getfield 15, (11, 4, 1210)) := by decide +kernel
theorem i_140_4 : a_ins 140 4 = some (.ifCond .ne 7, (0, 0, 0)) := by decide +kernel
theorem i_140_7 : a_ins 140 7 = some (.iconst 1, (0, 0, 0)) := by decide +kernel
theorem i_140_8 : a_ins 140 8 = some (.goto 4, (0, 0, 0)) := by decide +kernel
theorem i_140_11 : a_ins 140 11 = some (.iconst 0, (0, 0, 0)) := by decide +kernel
theorem i_140_12 : a_ins 140 12 = some (.ireturn, (0, 0, 0)) := by decide +kernel
theorem i_141_0 : a_ins 141 0 = some (.aload_n 0, (0, 0, 0)) := by decide +kernel
theorem i_141_1 : a_ins 141 1 = some (.ldc2_w 243, (0, 6, 1441)) := by decide +kernel
theorem i_141_4 : a_ins 141 4 = some (.invokevirtual 245, (0, 142, 1)) := by decide +kernel
theorem i_141_7 : a_ins 141 7 = some (.istore_n 1, (0, 0, 0)) := by decide +kernel
theorem i_141_8 : a_ins 141 8 = some (.aload_n 0, (0, 0, 0)) := by decide +kernel
theorem i_141_9 : a_ins 141 9 = some (.ldc2_w 249, (0, 2, 1446)) := by decide +kernel
theorem i_141_12 : a_ins 141 12 = some (.invokevirtual 245, (0, 142, 1)) := by decide +kernel
theorem i_141_15 : a_ins 141 15 = some (.istore_n 2, (0, 0, 0)) := by decide +kernel
theorem i_141_16 : a_ins 141 16 = some (.aload_n 0, (0, 0, 0)) := by decide +kernel
theorem i_141_17 : a_ins 141 17 = some (.ldc2_w 251, (0, 4, 1447)) := by decide +kernel
theorem i_141_20 : a_ins 141 20 = some (.invokevirtual 245, (0, 142, 1)) := by decide +kernel
theorem i_141_23 : a_ins 141 23 = some (.istore_n 3, (0, 0, 0)) := by decide +kernel
theorem i_141_24 : a_ins 141 24 = some (.aload_n 0, (0, 0, 0)) := by decide +kernel
theorem i_141_25 : a_ins 141 25 = some (.ldc2_w 253, (0, 5, 1448)) := by decide +kernel
theorem i_141_28 : a_ins 141 28 = some (.invokevirtual 245, (0, 142, 1)) := by decide +kernel
theorem i_141_31 : a_ins 141 31 = some (.istore 4, (0, 0, 0)) := by decide +kernel
theorem i_141_33 : a_ins 141 33 = some (.aload_n 0, (0, 0, 0)) := by decide +kernel
theorem i_141_34 : a_ins 141 34 = some (.ldc2_w 255, (0, 1, 1449)) := by decide +kernel
theorem i_141_37 : a_ins 141 37 = some (.invokevirtual 245, (0, 142, 1)) := by decide +kernel
theorem i_141_40 : a_ins 141 40 = some (.istore 5, (0, 0, 0)) := by decide +kernel
theorem i_141_42 : a_ins 141 42 = some (.iload_n 1, (0, 0, 0)) := by decide +kernel
theorem i_141_43 : a_ins 141 43 = some (.ifCond .eq 25, (0, 0, 0)) := by decide +kernel
theorem i_141_46 : a_ins 141 46 = some (.aload_n 0, (0, 0, 0)) := by decide +kernel
theorem i_141_47 : a_ins 141 47 = some (.getfield 103, (11, 25, 1231)) := by decide +kernel
theorem i_141_50 : a_ins 141 50 = some (.aload_n 0, (0, 0, 0)) := by decide +kernel
theorem i_141_51 : a_ins 141 51 = some (.getfield 218, (11, 33, 1239)) := by decide +kernel
theorem i_141_54 : a_ins 141 54 = some (.iaload, (0, 0, 0)) := by decide +kernel
theorem i_141_55 : a_ins 141 55 = some (.bipush 80, (0, 0, 0)) := by decide +kernel
theorem i_141_57 : a_ins 141 57 = some (.if_icmp .ne 7, (0, 0, 0)) := by decide +kernel
theorem i_141_60 : a_ins 141 60 = some (.iconst 1, (0, 0, 0)) := by decide +kernel
theorem i_141_61 : a_ins 141 61 = some (.goto 118, (0, 0, 0)) := by decide +kernel
theorem i_141_64 : a_ins 141 64 = some (.iconst 0, (0, 0, 0)) := by decide +kernel
theorem i_141_65 : a_ins 141 65 = some (.goto 114, (0, 0, 0)) := by decide +kernel
theorem i_141_68 : a_ins 141 68 = some (.iload_n 2, (0, 0, 0)) := by decide +kernel
theorem i_141_69 : a_ins 141 69 = some (.ifCond .eq 25, (0, 0, 0)) := by decide +kernel
theorem i_141_72 : a_ins 141 72 = some (.aload_n 0, (0, 0, 0)) := by decide +kernel
theorem i_141_73 : a_ins 141 73 = some (.getfield 106, (11, 26, 1232)) := by decide +kernel
theorem i_141_76 : a_ins 141 76 = some (.aload_n 0, (0, 0, 0)) := by decide +kernel
theorem i_141_77 : a_ins 141 77 = some (.getfield 218, (11, 33, 1239)) := by decide +kernel
theorem i_141_80 : a_ins 141 80 = some (.iaload, (0, 0, 0)) := by decide +kernel
theorem i_141_81 : a_ins 141 81 = some (.bipush 20, (0, 0, 0)) := by decide +kernel
theorem i_141_83 : a_ins 141 83 = some (.if_icmp .ne 7, (0, 0, 0)) := by decide +kernel
theorem i_141_86 : a_ins 141 86 = some (.iconst 1, (0, 0, 0)) := by decide +kernel
theorem i_141_87 : a_ins 141 87 = some (.goto 92, (0, 0, 0)) := by decide +kernel
theorem i_141_90 : a_ins 141 90 = some (.iconst 0, (0, 0, 0)) := by decide +kernel
theorem i_141_91 : a_ins 141 91 = some (.goto 88, (0, 0, 0)) := by decide +kernel
theorem i_141_94 : a_ins 141 94 = some (.iload_n 3, (0, 0, 0)) := by decide +kernel
theorem i_141_95 : a_ins 141 95 = some (.ifCond .eq 25, (0, 0, 0)) := by decide +kernel
theorem i_141_98 : a_ins 141 98 = some (.aload_n 0, (0, 0, 0)) := by decide +kernel
theorem i_141_99 : a_ins 141 99 = some (.getfield 109, (11, 27, 1233)) := by decide +kernel
theorem i_141_102 : a_ins 141 102 = some (.aload_n 0, (0, 0, 0)) := by decide +kernel
theorem i_141_103 : a_ins 141 103 = some (.getfield 218, (11, 33, 1239)) := by decide +kernel
theorem i_141_106 : a_ins 141 106 = some (.iaload, (0, 0, 0)) := by decide +kernel
theorem i_141_107 : a_ins 141 107 = some (.bipush 20, (0, 0, 0)) := by decide +kernel
theorem i_141_109 : a_ins 141 109 = some (.if_icmp .ne 7, (0, 0, 0)) := by decide +kernel
theorem i_141_112 : a_ins 141 112 = some (.iconst 1, (0, 0, 0)) := by decide +kernel
theorem i_141_113 : a_ins 141 113 = some (.goto 66, (0, 0, 0)) := by decide +kernel
theorem i_141_116 : a_ins 141 116 = some (.iconst 0, (0, 0, 0)) := by decide +kernel
theorem i_141_117 : a_ins 141 117 = some (.goto 62, (0, 0, 0)) := by decide +kernel
theorem i_141_120 : a_ins 141 120 = some (.iload 4, (0, 0, 0)) := by decide +kernel
theorem i_141_122 : a_ins 141 122 = some (.ifCond .ne 8, (0, 0, 0)) := by decide +kernel
theorem i_141_125 : a_ins 141 125 = some (.iload 5, (0, 0, 0)) := by decide +kernel
theorem i_141_127 : a_ins 141 127 = some (.ifCond .eq 25, (0, 0, 0)) := by decide +kernel
theorem i_141_130 : a_ins 141 130 = some (.aload_n 0, (0, 0, 0)) := by decide +kernel
theorem i_141_131 : a_ins 141 131 = some (.getfield 112, (11, 28, 1234)) := by decide +kernel
theorem i_141_134 : a_ins 141 134 = some (.aload_n 0, (0, 0, 0)) := by decide +kernel
theorem i_141_135 : a_ins 141 135 = some (.getfield 218, (11, 33, 1239)) := by decide +kernel
theorem i_141_138 : a_ins 141 138 = some (.iaload, (0, 0, 0)) := by decide +kernel
theorem i_141_139 : a_ins 141 139 = some (.bipush 40, (0, 0, 0)) := by decide +kernel
theorem i_141_141 : a_ins 141 141 = some (.if_icmp .ne 7, (0, 0, 0)) := by decide +kernel
theorem i_141_144 : a_ins 141 144 = some (.iconst 1, (0, 0, 0)) := by decide +kernel
theorem i_141_145 : a_ins 141 145 = some (.goto 34, (0, 0, 0)) := by decide +kernel
theorem i_141_148 : a_ins 141 148 = some (.iconst 0, (0, 0, 0)) := by decide +kernel
theorem i_141_149 : a_ins 141 149 = some (.goto 30, (0, 0, 0)) := by decide +kernel
theorem i_141_152 : a_ins 141 152 = some (.aload_n 0, (0, 0, 0)) := by decide +kernel
theorem i_141_153 : a_ins 141 153 = some (.ldc2_w 257, (0, 3, 1450)) := by decide +kernel
theorem i_141_156 : a_ins 141 156 = some (.invokevirtual 245, (0, 142, 1)) := by decide +kernel
theorem i_141_159 : a_ins 141 159 = some (.ifCond .eq 15, (0, 0, 0)) := by decide +kernel
theorem i_141_162 : a_ins 141 162 = some (.aload_n 0, (0, 0, 0)) := by decide +kernel
theorem i_141_163 : a_ins 141 163 = some (.getfield 121, (11, 31, 1237)) := by decide +kernel
theorem i_141_166 : a_ins 141 166 = some (.aload_n 0, (0, 0, 0)) := by decide +kernel
theorem i_141_167 : a_ins 141 167 = some (.getfield 218, (11, 33, 1239)) := by decide +kernel
theorem i_141_170 : a_ins 141 170 = some (.baload, (0, 0, 0)) := by decide +kernel
theorem i_141_171 : a_ins 141 171 = some (.ifCond .eq 7, (0, 0, 0)) := by decide +kernel
theorem i_141_174 : a_ins 141 174 = some (.iconst 1, (0, 0, 0)) := by decide +kernel
theorem i_141_175 : a_ins 141 175 = some (.goto 4, (0, 0, 0)) := by decide +kernel
theorem i_141_178 : a_ins 141 178 = some (.iconst 0, (0, 0, 0)) := by decide +kernel
theorem i_141_179 : a_ins 141 179 = some (.istore 6, (0, 0, 0)) := by decide +kernel
theorem i_141_181 : a_ins 141 181 = some (.iload 6, (0, 0, 0)) := by decide +kernel
theorem i_141_183 : a_ins 141 183 = some (.ifCond .eq 7, (0, 0, 0)) := by decide +kernel
theorem i_141_186 : a_ins 141 186 = some (.aload_n 0, (0, 0, 0)) := by decide +kernel
theorem i_141_187 : a_ins 141 187 = some (.invokevirtual 206, (0, 143, 0)) := by decide +kernel
theorem i_141_190 : a_ins 141 190 = some (.aload_n 0, (0, 0, 0)) := by decide +kernel
theorem i_141_191 : a_ins 141 191 = some (.invokevirtual 202, (0, 140, 0)) := by decide +kernel
theorem i_141_194 : a_ins 141 194 = some (.ifCond .ne 4, (0, 0, 0)) := by decide +kernel
theorem i_141_197 : a_ins 141 197 = some (.return_, (0, 0, 0)) := by decide +kernel
theorem i_141_198 : a_ins 141 198 = some (.aload_n 0, (0, 0, 0)) := by decide +kernel
theorem i_141_199 : a_ins 141 199 = some (.invokevirtual 199, (0, 135, 0)) := by decide +kernel
theorem i_141_202 : a_ins 141 202 = some (.iload_n 1, (0, 0, 0)) := by decide +kernel
theorem i_141_203 : a_ins 141 203 = some (.ifCond .eq 10, (0, 0, 0)) := by decide +kernel
theorem i_141_206 : a_ins 141 206 = some (.aload_n 0, (0, 0, 0)) := by decide +kernel
theorem i_141_207 : a_ins 141 207 = some (.invokevirtual 259, (0, 145, 0)) := by decide +kernel
theorem i_141_210 : a_ins 141 210 = some (.goto 48, (0, 0, 0)) := by decide +kernel
theorem i_141_213 : a_ins 141 213 = some (.iload_n 2, (0, 0, 0)) := by decide +kernel
theorem i_141_214 : a_ins 141 214 = some (.ifCond .eq 10, (0, 0, 0)) := by decide +kernel
theorem i_141_217 : a_ins 141 217 = some (.aload_n 0, (0, 0, 0)) := by decide +kernel
theorem i_141_218 : a_ins 141 218 = some (.invokevirtual 262, (0, 151, 0)) := by decide +kernel
theorem i_141_221 : a_ins 141 221 = some (.goto 37, (0, 0, 0)) := by decide +kernel
theorem i_141_224 : a_ins 141 224 = some (.iload_n 3, (0, 0, 0)) := by decide +kernel
theorem i_141_225 : a_ins 141 225 = some (.ifCond .eq 10, (0, 0, 0)) := by decide +kernel
theorem i_141_228 : a_ins 141 228 = some (.aload_n 0, (0, 0, 0)) := by decide +kernel
theorem i_141_229 : a_ins 141 229 = some (.invokevirtual 265, (0, 152, 0)) := by decide +kernel
theorem i_141_232 : a_ins 141 232 = some (.goto 26, (0, 0, 0)) := by decide +kernel
theorem i_141_235 : a_ins 141 235 = some (.iload 4, (0, 0, 0)) := by decide +kernel
theorem i_141_237 : a_ins 141 237 = some (.ifCond .ne 8, (0, 0, 0)) := by decide +kernel
theorem i_141_240 : a_ins 141 240 = some (.iload 5, (0, 0, 0)) := by decide +kernel
theorem i_141_242 : a_ins 141 242 = some (.ifCond .eq 12, (0, 0, 0)) := by decide +kernel
theorem i_141_245 : a_ins 141 245 = some (.aload_n 0, (0, 0, 0)) := by decide +kernel
theorem i_141_246 : a_ins 141 246 = some (.iload 4, (0, 0, 0)) := by decide +kernel
theorem i_141_248 : a_ins 141 248 = some (.invokevirtual 268, (0, 153, 1)) := by decide +kernel
theorem i_141_251 : a_ins 141 251 = some (.goto 7, (0, 0, 0)) := by decide +kernel
theorem i_141_254 : a_ins 141 254 = some (.aload_n 0, (0, 0, 0)) := by decide +kernel
theorem i_141_255 : a_ins 141 255 = some (.invokevirtual 272, (0, 154, 0)) := by decide +kernel
theorem i_141_258 : a_ins 141 258 = some (.aload_n 0, (0, 0, 0)) := by decide +kernel
theorem i_141_259 : a_ins 141 259 = some (.invokevirtual 202, (0, 140, 0)) := by decide +kernel
theorem i_141_262 : a_ins 141 262 = some (.ifCond .eq 15, (0, 0, 0)) := by decide +kernel
theorem i_141_265 : a_ins 141 265 = some (.aload_n 0, (0, 0, 0)) := by decide +kernel
theorem i_141_266 : a_ins 141 266 = some (.getfield 31, (11, 8, 1214)) := by decide +kernel
theorem i_141_269 : a_ins 141 269 = some (.iconst 4, (0, 0, 0)) := by decide +kernel
theorem i_141_270 : a_ins 141 270 = some (.if_icmp .eq 7, (0, 0, 0)) := by decide +kernel
theorem i_141_273 : a_ins 141 273 = some (.aload_n 0, (0, 0, 0)) := by decide +kernel
theorem i_141_274 : a_ins 141 274 = some (.invokevirtual 206, (0, 143, 0)) := by decide +kernel
theorem i_141_277 : a_ins 141 277 = some (.aload_n 0, (0, 0, 0)) := by decide +kernel
theorem i_141_278 : a_ins 141 278 = some (.invokevirtual 202, (0, 140, 0)) := by decide +kernel
theorem i_141_281 : a_ins 141 281 = some (.ifCond .eq 7, (0, 0, 0)) := by decide +kernel
theorem i_141_284 : a_ins 141 284 = some (.aload_n 0, (0, 0, 0)) := by decide +kernel
theorem i_141_285 : a_ins 141 285 = some (.invokevirtual 199, (0, 135, 0)) := by decide +kernel
theorem i_141_288 : a_ins 141 288 = some (.return_, (0, 0, 0)) := by decide +kernel
theorem i_142_0 : a_ins 142 0 = some (.aload_n 0, (0, 0, 0)) := by decide +kernel
theorem i_142_1 : a_ins 142 1 = some (.getfield 31, (11, 8, 1214)) := by decide +kernel
theorem i_142_4 : a_ins 142 4 = some (.iconst 2, (0, 0, 0)) := by decide +kernel
theorem i_142_5 : a_ins 142 5 = some (.if_icmp .ne 16, (0, 0, 0)) := by decide +kernel
theorem i_142_8 : a_ins 142 8 = some (.aload_n 0, (0, 0, 0)) := by decide +kernel
theorem i_142_9 : a_ins 142 9 = some (.getfield 37, (11, 10, 1216)) := by decide +kernel
theorem i_142_12 : a_ins 142 12 = some (.lload_n 1, (0, 0, 0)) := by decide +kernel
theorem i_142_13 : a_ins 142 13 = some (.lcmp, (0, 0, 0)) := by decide +kernel
theorem i_142_14 : a_ins 142 14 = some (.ifCond .ne 7, (0, 0, 0)) := by decide +kernel
theorem i_142_17 : a_ins 142 17 = some (.iconst 1, (0, 0, 0)) := by decide +kernel
theorem i_142_18 : a_ins 142 18 = some (.goto 4, (0, 0, 0)) := by decide +kernel
theorem i_142_21 : a_ins 142 21 = some (.iconst 0, (0, 0, 0)) := by decide +kernel
theorem i_142_22 : a_ins 142 22 = some (.ireturn, (0, 0, 0)) := by decide +kernel
theorem i_143_0 : a_ins 143 0 = some (.aload_n 0, (0, 0, 0)) := by decide +kernel
theorem i_143_1 : a_ins 143 1 = some (.aload_n 0, (0, 0, 0)) := by decide +kernel
theorem i_143_2 : a_ins 143 2 = some (.getfield 31, (11, 8, 1214)) := by decide +kernel
theorem i_143_5 : a_ins 143 5 = some (.iconst 1, (0, 0, 0)) := by decide +kernel
theorem i_143_6 : a_ins 143 6 = some (.if_icmp .ne 7, (0, 0, 0)) := by decide +kernel
theorem i_143_9 : a_ins 143 9 = some (.iconst 1, (0, 0, 0)) := by decide +kernel
theorem i_143_10 : a_ins 143 10 = some (.goto 4, (0, 0, 0)) := by decide +kernel
theorem i_143_13 : a_ins 143 13 = some (.iconst 2, (0, 0, 0)) := by decide +kernel
theorem i_143_14 : a_ins 143 14 = some (.aload_n 0, (0, 0, 0)) := by decide +kernel
theorem i_143_15 : a_ins 143 15 = some (.getfield 24, (11, 6, 1212)) := by decide +kernel
theorem i_143_18 : a_ins 143 18 = some (.invokevirtual 47, (0, 144, 2)) := by decide +kernel
theorem i_143_21 : a_ins 143 21 = some (.return_, (0, 0, 0)) := by decide +kernel
theorem i_144_0 : a_ins 144 0 = some (.aload_n 0, (0, 0, 0)) := by decide +kernel
theorem i_144_1 : a_ins 144 1 = some (.getfield 15, (11, 4, 1210)) := by decide +kernel
theorem i_144_4 : a_ins 144 4 = some (.ifCond .le 4, (0, 0, 0)) := by decide +kernel
theorem i_144_7 : a_ins 144 7 = some (.return_, (0, 0, 0)) := by decide +kernel
theorem i_144_8 : a_ins 144 8 = some (.aload_n 0, (0, 0, 0)) := by decide +kernel
theorem i_144_9 : a_ins 144 9 = some (.iload_n 1, (0, 0, 0)) := by decide +kernel
theorem i_144_10 : a_ins 144 10 = some (.putfield 15, (11, 4, 1210)) := by decide +kernel
theorem i_144_13 : a_ins 144 13 = some (.aload_n 0, (0, 0, 0)) := by decide +kernel
theorem i_144_14 : a_ins 144 14 = some (.iload_n 2, (0, 0, 0)) := by decide +kernel
theorem i_144_15 : a_ins 144 15 = some (.putfield 18, (11, 5, 1211)) := by decide +kernel
theorem i_144_18 : a_ins 144 18 = some (.return_, (0, 0, 0)) := by decide +kernel
theorem i_145_0 : a_ins 145 0 = some (.aload_n 0, (0, 0, 0)) := by decide +kernel
theorem i_145_1 : a_ins 145 1 = some (.invokevirtual 275, (0, 146, 0)) := by decide +kernel
theorem i_145_4 : a_ins 145 4 = some (.aload_n 0, (0, 0, 0)) := by decide +kernel
theorem i_145_5 : a_ins 145 5 = some (.invokevirtual 202, (0, 140, 0)) := by decide +kernel
theorem i_145_8 : a_ins 145 8 = some (.ifCond .ne 4, (0, 0, 0)) := by decide +kernel
theorem i_145_11 : a_ins 145 11 = some (.return_, (0, 0, 0)) := by decide +kernel
theorem i_145_12 : a_ins 145 12 = some (.aload_n 0, (0, 0, 0)) := by decide +kernel
theorem i_145_13 : a_ins 145 13 = some (.getfield 24, (11, 6, 1212)) := by decide +kernel
theorem i_145_16 : a_ins 145 16 = some (.istore_n 1, (0, 0, 0)) := by decide +kernel
theorem i_145_17 : a_ins 145 17 = some (.bipush 80, (0, 0, 0)) := by decide +kernel
theorem i_145_19 : a_ins 145 19 = some (.aload_n 0, (0, 0, 0)) := by decide +kernel
theorem i_145_20 : a_ins 145 20 = some (.getfield 218, (11, 33, 1239)) := by decide +kernel
theorem i_145_23 : a_ins 145 23 = some (.imul, (0, 0, 0)) := by decide +kernel
theorem i_145_24 : a_ins 145 24 = some (.aload_n 0, (0, 0, 0)) := by decide +kernel
theorem i_145_25 : a_ins 145 25 = some (.getfield 103, (11, 25, 1231)) := by decide +kernel
theorem i_145_28 : a_ins 145 28 = some (.aload_n 0, (0, 0, 0)) := by decide +kernel
theorem i_145_29 : a_ins 145 29 = some (.getfield 218, (11, 33, 1239)) := by decide +kernel
theorem i_145_32 : a_ins 145 32 = some (.iaload, (0, 0, 0)) := by decide +kernel
theorem i_145_33 : a_ins 145 33 = some (.iadd, (0, 0, 0)) := by decide +kernel
theorem i_145_34 : a_ins 145 34 = some (.istore_n 2, (0, 0, 0)) := by decide +kernel
theorem i_145_35 : a_ins 145 35 = some (.aload_n 0, (0, 0, 0)) := by decide +kernel
theorem i_145_36 : a_ins 145 36 = some (.getfield 72, (11, 15, 1221)) := by decide +kernel
theorem i_145_39 : a_ins 145 39 = some (.iload_n 2, (0, 0, 0)) := by decide +kernel
theorem i_145_40 : a_ins 145 40 = some (.aload_n 0, (0, 0, 0)) := by decide +kernel
theorem i_145_41 : a_ins 145 41 = some (.aload_n 0, (0, 0, 0)) := by decide +kernel
theorem i_145_42 : a_ins 145 42 = some (.getfield 60, (11, 11, 1217)) := by decide +kernel
theorem i_145_45 : a_ins 145 45 = some (.iload_n 2, (0, 0, 0)) := by decide +kernel
theorem i_145_46 : a_ins 145 46 = some (.invokevirtual 278, (0, 147, 2)) := by decide +kernel
theorem i_145_49 : a_ins 145 49 = some (.iastore, (0, 0, 0)) := by decide +kernel
theorem i_145_50 : a_ins 145 50 = some (.aload_n 0, (0, 0, 0)) := by decide +kernel
theorem i_145_51 : a_ins 145 51 = some (.getfield 76, (11, 16, 1222)) := by decide +kernel
theorem i_145_54 : a_ins 145 54 = some (.iload_n 2, (0, 0, 0)) := by decide +kernel
theorem i_145_55 : a_ins 145 55 = some (.aload_n 0, (0, 0, 0)) := by decide +kernel
theorem i_145_56 : a_ins 145 56 = some (.bipush 7, (0, 0, 0)) := by decide +kernel
theorem i_145_58 : a_ins 145 58 = some (.invokevirtual 282, (0, 148, 1)) := by decide +kernel
theorem i_145_61 : a_ins 145 61 = some (.iastore, (0, 0, 0)) := by decide +kernel
theorem i_145_62 : a_ins 145 62 = some (.bipush 80, (0, 0, 0)) := by decide +kernel
theorem i_145_64 : a_ins 145 64 = some (.aload_n 0, (0, 0, 0)) := by decide +kernel
theorem i_145_65 : a_ins 145 65 = some (.getfield 218, (11, 33, 1239)) := by decide +kernel
theorem i_145_68 : a_ins 145 68 = some (.imul, (0, 0, 0)) := by decide +kernel
theorem i_145_69 : a_ins 145 69 = some (.istore_n 3, (0, 0, 0)) := by decide +kernel
theorem i_145_70 : a_ins 145 70 = some (.iload_n 3, (0, 0, 0)) := by decide +kernel
theorem i_145_71 : a_ins 145 71 = some (.iload_n 2, (0, 0, 0)) := by decide +kernel
theorem i_145_72 : a_ins 145 72 = some (.if_icmp .ge 75, (0, 0, 0)) := by decide +kernel
theorem i_145_75 : a_ins 145 75 = some (.aload_n 0, (0, 0, 0)) := by decide +kernel
theorem i_145_76 : a_ins 145 76 = some (.invokevirtual 202, (0, 140, 0)) := by decide +kernel
theorem i_145_79 : a_ins 145 79 = some (.ifCond .eq 68, (0, 0, 0)) := by decide +kernel
theorem i_145_82 : a_ins 145 82 = some (.aload_n 0, (0, 0, 0)) := by decide +kernel
theorem i_145_83 : a_ins 145 83 = some (.getfield 76, (11, 16, 1222)) := by decide +kernel
theorem i_145_86 : a_ins 145 86 = some (.iload_n 3, (0, 0, 0)) := by decide +kernel
theorem i_145_87 : a_ins 145 87 = some (.iaload, (0, 0, 0)) := by decide +kernel
theorem i_145_88 : a_ins 145 88 = some (.aload_n 0, (0, 0, 0)) := by decide +kernel
theorem i_145_89 : a_ins 145 89 = some (.getfield 76, (11, 16, 1222)) := by decide +kernel
theorem i_145_92 : a_ins 145 92 = some (.iload_n 2, (0, 0, 0)) := by decide +kernel
theorem i_145_93 : a_ins 145 93 = some (.iaload, (0, 0, 0)) := by decide +kernel
theorem i_145_94 : a_ins 145 94 = some (.if_icmp .ne 47, (0, 0, 0)) := by decide +kernel
theorem i_145_97 : a_ins 145 97 = some (.aload_n 0, (0, 0, 0)) := by decide +kernel
theorem i_145_98 : a_ins 145 98 = some (.getfield 72, (11, 15, 1221)) := by decide +kernel
theorem i_145_101 : a_ins 145 101 = some (.iload_n 3, (0, 0, 0)) := by decide +kernel
theorem i_145_102 : a_ins 145 102 = some (.iaload, (0, 0, 0)) := by decide +kernel
theorem i_145_103 : a_ins 145 103 = some (.aload_n 0, (0, 0, 0)) := by decide +kernel
theorem i_145_104 : a_ins 145 104 = some (.getfield 72, (11, 15, 1221)) := by decide +kernel
theorem i_145_107 : a_ins 145 107 = some (.iload_n 2, (0, 0, 0)) := by decide +kernel
theorem i_145_108 : a_ins 145 108 = some (.iaload, (0, 0, 0)) := by decide +kernel
theorem i_145_109 : a_ins 145 109 = some (.if_icmp .ne 32, (0, 0, 0)) := by decide +kernel
theorem i_145_112 : a_ins 145 112 = some (.aload_n 0, (0, 0, 0)) := by decide +kernel
theorem i_145_113 : a_ins 145 113 = some (.getfield 60, (11, 11, 1217)) := by decide +kernel
theorem i_145_116 : a_ins 145 116 = some (.iload_n 3, (0, 0, 0)) := by decide +kernel
theorem i_145_117 : a_ins 145 117 = some (.aload_n 0, (0, 0, 0)) := by decide +kernel
theorem i_145_118 : a_ins 145 118 = some (.getfield 60, (11, 11, 1217)) := by decide +kernel
theorem i_145_121 : a_ins 145 121 = some (.iload_n 2, (0, 0, 0)) := by decide +kernel
theorem i_145_122 : a_ins 145 122 = some (.aload_n 0, (0, 0, 0)) := by decide +kernel
theorem i_145_123 : a_ins 145 123 = some (.getfield 72, (11, 15, 1221)) := by decide +kernel
theorem i_145_126 : a_ins 145 126 = some (.iload_n 2, (0, 0, 0)) := by decide +kernel
theorem i_145_127 : a_ins 145 127 = some (.iaload, (0, 0, 0)) := by decide +kernel
theorem i_145_128 : a_ins 145 128 = some (.iconst 0, (0, 0, 0)) := by decide +kernel
theorem i_145_129 : a_ins 145 129 = some (.invokestatic 285, (1, 149, 6)) := by decide +kernel
theorem i_145_132 : a_ins 145 132 = some (.ifCond .eq 9, (0, 0, 0)) := by decide +kernel
theorem i_145_135 : a_ins 145 135 = some (.aload_n 0, (0, 0, 0)) := by decide +kernel
theorem i_145_136 : a_ins 145 136 = some (.iconst 3, (0, 0, 0)) := by decide +kernel
theorem i_145_137 : a_ins 145 137 = some (.iload_n 1, (0, 0, 0)) := by decide +kernel
theorem i_145_138 : a_ins 145 138 = some (.invokevirtual 47, (0, 144, 2)) := by decide +kernel
theorem i_145_141 : a_ins 145 141 = some (.iinc 3 1, (0, 0, 0)) := by decide +kernel
theorem i_145_144 : a_ins 145 144 = some (.goto (-74), (0, 0, 0)) := by decide +kernel
theorem i_145_147 : a_ins 145 147 = some (.aload_n 0, (0, 0, 0)) := by decide +kernel
theorem i_145_148 : a_ins 145 148 = some (.getfield 79, (11, 17, 1223)) := by decide +kernel
theorem i_145_151 : a_ins 145 151 = some (.iload_n 2, (0, 0, 0)) := by decide +kernel
theorem i_145_152 : a_ins 145 152 = some (.aload_n 0, (0, 0, 0)) := by decide +kernel
theorem i_145_153 : a_ins 145 153 = some (.bipush 99, (0, 0, 0)) := by decide +kernel
theorem i_145_155 : a_ins 145 155 = some (.invokevirtual 282, (0, 148, 1)) := by decide +kernel
theorem i_145_158 : a_ins 145 158 = some (.iastore, (0, 0, 0)) := by decide +kernel
theorem i_145_159 : a_ins 145 159 = some (.aload_n 0, (0, 0, 0)) := by decide +kernel
theorem i_145_160 : a_ins 145 160 = some (.getfield 82, (11, 18, 1224)) := by decide +kernel
theorem i_145_163 : a_ins 145 163 = some (.iload_n 2, (0, 0, 0)) := by decide +kernel
theorem i_145_164 : a_ins 145 164 = some (.iconst 0, (0, 0, 0)) := by decide +kernel
theorem i_145_165 : a_ins 145 165 = some (.iastore, (0, 0, 0)) := by decide +kernel
theorem i_145_166 : a_ins 145 166 = some (.aload_n 0, (0, 0, 0)) := by decide +kernel
theorem i_145_167 : a_ins 145 167 = some (.getfield 85, (11, 19, 1225)) := by decide +kernel
theorem i_145_170 : a_ins 145 170 = some (.iload_n 2, (0, 0, 0)) := by decide +kernel
theorem i_145_171 : a_ins 145 171 = some (.ldc_w 289, (0, 1, 1481)) := by decide +kernel
theorem i_145_174 : a_ins 145 174 = some (.iastore, (0, 0, 0)) := by decide +kernel
theorem i_145_175 : a_ins 145 175 = some (.aload_n 0, (0, 0, 0)) := by decide +kernel
theorem i_145_176 : a_ins 145 176 = some (.invokevirtual 202, (0, 140, 0)) := by decide +kernel
theorem i_145_179 : a_ins 145 179 = some (.ifCond .eq 30, (0, 0, 0)) := by decide +kernel
theorem i_145_182 : a_ins 145 182 = some (.aload_n 0, (0, 0, 0)) := by decide +kernel
theorem i_145_183 : a_ins 145 183 = some (.ldc2_w 290, (0, 7, 1482)) := by decide +kernel
theorem i_145_186 : a_ins 145 186 = some (.invokevirtual 245, (0, 142, 1)) := by decide +kernel
theorem i_145_189 : a_ins 145 189 = some (.ifCond .eq 20, (0, 0, 0)) := by decide +kernel
theorem i_145_192 : a_ins 145 192 = some (.aload_n 0, (0, 0, 0)) := by decide +kernel
theorem i_145_193 : a_ins 145 193 = some (.invokevirtual 199, (0, 135, 0)) := by decide +kernel
theorem i_145_196 : a_ins 145 196 = some (.aload_n 0, (0, 0, 0)) := by decide +kernel
theorem i_145_197 : a_ins 145 197 = some (.getfield 82, (11, 18, 1224)) := by decide +kernel
theorem i_145_200 : a_ins 145 200 = some (.iload_n 2, (0, 0, 0)) := by decide +kernel
theorem i_145_201 : a_ins 145 201 = some (.aload_n 0, (0, 0, 0)) := by decide +kernel
theorem i_145_202 : a_ins 145 202 = some (.ldc_w 289, (0, 1, 1481)) := by decide +kernel
theorem i_145_205 : a_ins 145 205 = some (.invokevirtual 282, (0, 148, 1)) := by decide +kernel
theorem i_145_208 : a_ins 145 208 = some (.iastore, (0, 0, 0)) := by decide +kernel
theorem i_145_209 : a_ins 145 209 = some (.aload_n 0, (0, 0, 0)) := by decide +kernel
theorem i_145_210 : a_ins 145 210 = some (.invokevirtual 202, (0, 140, 0)) := by decide +kernel
theorem i_145_213 : a_ins 145 213 = some (.ifCond .eq 30, (0, 0, 0)) := by decide +kernel
theorem i_145_216 : a_ins 145 216 = some (.aload_n 0, (0, 0, 0)) := by decide +kernel
theorem i_145_217 : a_ins 145 217 = some (.ldc2_w 292, (0, 8, 1483)) := by decide +kernel
theorem i_145_220 : a_ins 145 220 = some (.invokevirtual 245, (0, 142, 1)) := by decide +kernel
theorem i_145_223 : a_ins 145 223 = some (.ifCond .eq 20, (0, 0, 0)) := by decide +kernel
theorem i_145_226 : a_ins 145 226 = some (.aload_n 0, (0, 0, 0)) := by decide +kernel
theorem i_145_227 : a_ins 145 227 = some (.invokevirtual 199, (0, 135, 0)) := by decide +kernel
theorem i_145_230 : a_ins 145 230 = some (.aload_n 0, (0, 0, 0)) := by decide +kernel
theorem i_145_231 : a_ins 145 231 = some (.getfield 85, (11, 19, 1225)) := by decide +kernel
theorem i_145_234 : a_ins 145 234 = some (.iload_n 2, (0, 0, 0)) := by decide +kernel
theorem i_145_235 : a_ins 145 235 = some (.aload_n 0, (0, 0, 0)) := by decide +kernel
theorem i_145_236 : a_ins 145 236 = some (.ldc_w 289, (0, 1, 1481)) := by decide +kernel
theorem i_145_239 : a_ins 145 239 = some (.invokevirtual 282, (0, 148, 1)) := by decide +kernel
theorem i_145_242 : a_ins 145 242 = some (.iastore, (0, 0, 0)) := by decide +kernel
theorem i_145_243 : a_ins 145 243 = some (.aload_n 0, (0, 0, 0)) := by decide +kernel
theorem i_145_244 : a_ins 145 244 = some (.getfield 103, (11, 25, 1231)) := by decide +kernel
theorem i_145_247 : a_ins 145 247 = some (.aload_n 0, (0, 0, 0)) := by decide +kernel
theorem i_145_248 : a_ins 145 248 = some (.getfield 218, (11, 33, 1239)) := by decide +kernel
theorem i_145_251 : a_ins 145 251 = some (.dup2, (0, 0, 0)) := by decide +kernel
theorem i_145_252 : a_ins 145 252 = some (.iaload, (0, 0, 0)) := by decide +kernel
theorem i_145_253 : a_ins 145 253 = some (.iconst 1, (0, 0, 0)) := by decide +kernel
theorem i_145_254 : a_ins 145 254 = some (.iadd, (0, 0, 0)) := by decide +kernel
theorem i_145_255 : a_ins 145 255 = some (.iastore, (0, 0, 0)) := by decide +kernel
theorem i_145_256 : a_ins 145 256 = some (.return_, (0, 0, 0)) := by decide +kernel
theorem i_146_0 : a_ins 146 0 = some (.aload_n 0, (0, 0, 0)) := by decide +kernel
theorem i_146_1 : a_ins 146 1 = some (.getfield 31, (11, 8, 1214)) := by decide +kernel
theorem i_146_4 : a_ins 146 4 = some (.iconst 2, (0, 0, 0)) := by decide +kernel
theorem i_146_5 : a_ins 146 5 = some (.if_icmp .eq 7, (0, 0, 0)) := by decide +kernel
theorem i_146_8 : a_ins 146 8 = some (.aload_n 0, (0, 0, 0)) := by decide +kernel
theorem i_146_9 : a_ins 146 9 = some (.invokevirtual 206, (0, 143, 0)) := by decide +kernel
theorem i_146_12 : a_ins 146 12 = some (.return_, (0, 0, 0)) := by decide +kernel
theorem i_147_0 : a_ins 147 0 = some (.aload_n 0, (0, 0, 0)) := by decide +kernel
theorem i_147_1 : a_ins 147 1 = some (.getfield 21, (11, 7, 1213)) := by decide +kernel
theorem i_147_4 : a_ins 147 4 = some (.aload_n 0, (0, 0, 0)) := by decide +kernel
theorem i_147_5 : a_ins 147 5 = some (.getfield 24, (11, 6, 1212)) := by decide +kernel
theorem i_147_8 : a_ins 147 8 = some (.isub, (0, 0, 0)) := by decide +kernel
theorem i_147_9 : a_ins 147 9 = some (.istore_n 3, (0, 0, 0)) := by decide +kernel
theorem i_147_10 : a_ins 147 10 = some (.iconst 0, (0, 0, 0)) := by decide +kernel
theorem i_147_11 : a_ins 147 11 = some (.istore 4, (0, 0, 0)) := by decide +kernel
theorem i_147_13 : a_ins 147 13 = some (.iload 4, (0, 0, 0)) := by decide +kernel
theorem i_147_15 : a_ins 147 15 = some (.iload_n 3, (0, 0, 0)) := by decide +kernel
theorem i_147_16 : a_ins 147 16 = some (.if_icmp .ge 30, (0, 0, 0)) := by decide +kernel
theorem i_147_19 : a_ins 147 19 = some (.aload_n 1, (0, 0, 0)) := by decide +kernel
theorem i_147_20 : a_ins 147 20 = some (.bipush 12, (0, 0, 0)) := by decide +kernel
theorem i_147_22 : a_ins 147 22 = some (.iload_n 2, (0, 0, 0)) := by decide +kernel
theorem i_147_23 : a_ins 147 23 = some (.imul, (0, 0, 0)) := by decide +kernel
theorem i_147_24 : a_ins 147 24 = some (.iload 4, (0, 0, 0)) := by decide +kernel
theorem i_147_26 : a_ins 147 26 = some (.iadd, (0, 0, 0)) := by decide +kernel
theorem i_147_27 : a_ins 147 27 = some (.aload_n 0, (0, 0, 0)) := by decide +kernel
theorem i_147_28 : a_ins 147 28 = some (.getfield 7, (11, 1, 1207)) := by decide +kernel
theorem i_147_31 : a_ins 147 31 = some (.aload_n 0, (0, 0, 0)) := by decide +kernel
theorem i_147_32 : a_ins 147 32 = some (.getfield 24, (11, 6, 1212)) := by decide +kernel
theorem i_147_35 : a_ins 147 35 = some (.iload 4, (0, 0, 0)) := by decide +kernel
theorem i_147_37 : a_ins 147 37 = some (.iadd, (0, 0, 0)) := by decide +kernel
theorem i_147_38 : a_ins 147 38 = some (.baload, (0, 0, 0)) := by decide +kernel
theorem i_147_39 : a_ins 147 39 = some (.bastore, (0, 0, 0)) := by decide +kernel
theorem i_147_40 : a_ins 147 40 = some (.iinc 4 1, (0, 0, 0)) := by decide +kernel
theorem i_147_43 : a_ins 147 43 = some (.goto (-30), (0, 0, 0)) := by decide +kernel
theorem i_147_46 : a_ins 147 46 = some (.aload_n 0, (0, 0, 0)) := by decide +kernel
theorem i_147_47 : a_ins 147 47 = some (.invokevirtual 199, (0, 135, 0)) := by decide +kernel
theorem i_147_50 : a_ins 147 50 = some (.iload_n 3, (0, 0, 0)) := by decide +kernel
theorem i_147_51 : a_ins 147 51 = some (.ireturn, (0, 0, 0)) := by decide +kernel
theorem i_148_0 : a_ins 148 0 = some (.aload_n 0, (0, 0, 0)) := by decide +kernel
theorem i_148_1 : a_ins 148 1 = some (.invokevirtual 202, (0, 140, 0)) := by decide +kernel
theorem i_148_4 : a_ins 148 4 = some (.ifCond .ne 5, (0, 0, 0)) := by decide +kernel
theorem i_148_7 : a_ins 148 7 = some (.iconst 0, (0, 0, 0)) := by decide +kernel
theorem i_148_8 : a_ins 148 8 = some (.ireturn, (0, 0, 0)) := by decide +kernel
theorem i_148_9 : a_ins 148 9 = some (.aload_n 0, (0, 0, 0)) := by decide +kernel
theorem i_148_10 : a_ins 148 10 = some (.getfield 31, (11, 8, 1214)) := by decide +kernel
theorem i_148_13 : a_ins 148 13 = some (.iconst 3, (0, 0, 0)) := by decide +kernel
theorem i_148_14 : a_ins 148 14 = some (.if_icmp .eq 7, (0, 0, 0)) := by decide +kernel
theorem i_148_17 : a_ins 148 17 = some (.aload_n 0, (0, 0, 0)) := by decide +kernel
theorem i_148_18 : a_ins 148 18 = some (.invokevirtual 206, (0, 143, 0)) := by decide +kernel
theorem i_148_21 : a_ins 148 21 = some (.aload_n 0, (0, 0, 0)) := by decide +kernel
theorem i_148_22 : a_ins 148 22 = some (.invokevirtual 202, (0, 140, 0)) := by decide +kernel
theorem i_148_25 : a_ins 148 25 = some (.ifCond .eq 20, (0, 0, 0)) := by decide +kernel
theorem i_148_28 : a_ins 148 28 = some (.aload_n 0, (0, 0, 0)) := by decide +kernel
theorem i_148_29 : a_ins 148 29 = some (.getfield 44, (11, 9, 1215)) := by decide +kernel
theorem i_148_32 : a_ins 148 32 = some (.iload_n 1, (0, 0, 0)) := by decide +kernel
theorem i_148_33 : a_ins 148 33 = some (.if_icmp .le 12, (0, 0, 0)) := by decide +kernel
theorem i_148_36 : a_ins 148 36 = some (.aload_n 0, (0, 0, 0)) := by decide +kernel
theorem i_148_37 : a_ins 148 37 = some (.iconst 4, (0, 0, 0)) := by decide +kernel
theorem i_148_38 : a_ins 148 38 = some (.aload_n 0, (0, 0, 0)) := by decide +kernel
theorem i_148_39 : a_ins 148 39 = some (.getfield 24, (11, 6, 1212)) := by decide +kernel
theorem i_148_42 : a_ins 148 42 = some (.invokevirtual 47, (0, 144, 2)) := by decide +kernel
theorem i_148_45 : a_ins 148 45 = some (.aload_n 0, (0, 0, 0)) := by decide +kernel
theorem i_148_46 : a_ins 148 46 = some (.getfield 44, (11, 9, 1215)) := by decide +kernel
theorem i_148_49 : a_ins 148 49 = some (.istore_n 2, (0, 0, 0)) := by decide +kernel
theorem i_148_50 : a_ins 148 50 = some (.aload_n 0, (0, 0, 0)) := by decide +kernel
theorem i_148_51 : a_ins 148 51 = some (.invokevirtual 202, (0, 140, 0)) := by decide +kernel
theorem i_148_54 : a_ins 148 54 = some (.ifCond .eq 7, (0, 0, 0)) := by decide +kernel
theorem i_148_57 : a_ins 148 57 = some (.aload_n 0, (0, 0, 0)) := by decide +kernel
theorem i_148_58 : a_ins 148 58 = some (.invokevirtual 199, (0, 135, 0)) := by decide +kernel
theorem i_148_61 : a_ins 148 61 = some (.iload_n 2, (0, 0, 0)) := by decide +kernel
theorem i_148_62 : a_ins 148 62 = some (.ireturn, (0, 0, 0)) := by decide +kernel
theorem i_149_0 : a_ins 149 0 = some (.iconst 0, (0, 0, 0)) := by decide +kernel
theorem i_149_1 : a_ins 149 1 = some (.istore 6, (0, 0, 0)) := by decide +kernel
theorem i_149_3 : a_ins 149 3 = some (.iload 6, (0, 0, 0)) := by decide +kernel
theorem i_149_5 : a_ins 149 5 = some (.iload 4, (0, 0, 0)) := by decide +kernel
theorem i_149_7 : a_ins 149 7 = some (.if_icmp .ge 67, (0, 0, 0)) := by decide +kernel
theorem i_149_10 : a_ins 149 10 = some (.iload 5, (0, 0, 0)) := by decide +kernel
theorem i_149_12 : a_ins 149 12 = some (.ifCond .eq 33, (0, 0, 0)) := by decide +kernel
theorem i_149_15 : a_ins 149 15 = some (.aload_n 0, (0, 0, 0)) := by decide +kernel
theorem i_149_16 : a_ins 149 16 = some (.bipush 12, (0, 0, 0)) := by decide +kernel
theorem i_149_18 : a_ins 149 18 = some (.iload_n 1, (0, 0, 0)) := by decide +kernel
theorem i_149_19 : a_ins 149 19 = some (.imul, (0, 0, 0)) := by decide +kernel
theorem i_149_20 : a_ins 149 20 = some (.iload 6, (0, 0, 0)) := by decide +kernel
theorem i_149_22 : a_ins 149 22 = some (.iadd, (0, 0, 0)) := by decide +kernel
theorem i_149_23 : a_ins 149 23 = some (.baload, (0, 0, 0)) := by decide +kernel
theorem i_149_24 : a_ins 149 24 = some (.invokestatic 209, (1, 150, 1)) := by decide +kernel
theorem i_149_27 : a_ins 149 27 = some (.aload_n 2, (0, 0, 0)) := by decide +kernel
theorem i_149_28 : a_ins 149 28 = some (.bipush 12, (0, 0, 0)) := by decide +kernel
theorem i_149_30 : a_ins 149 30 = some (.iload_n 3, (0, 0, 0)) := by decide +kernel
theorem i_149_31 : a_ins 149 31 = some (.imul, (0, 0, 0)) := by decide +kernel
theorem i_149_32 : a_ins 149 32 = some (.iload 6, (0, 0, 0)) := by decide +kernel
theorem i_149_34 : a_ins 149 34 = some (.iadd, (0, 0, 0)) := by decide +kernel
theorem i_149_35 : a_ins 149 35 = some (.baload, (0, 0, 0)) := by decide +kernel
theorem i_149_36 : a_ins 149 36 = some (.invokestatic 209, (1, 150, 1)) := by decide +kernel
theorem i_149_39 : a_ins 149 39 = some (.if_icmp .eq 29, (0, 0, 0)) := by decide +kernel
theorem i_149_42 : a_ins 149 42 = some (.goto 24, (0, 0, 0)) := by decide +kernel
theorem i_149_45 : a_ins 149 45 = some (.aload_n 0, (0, 0, 0)) := by decide +kernel
theorem i_149_46 : a_ins 149 46 = some (.bipush 12, (0, 0, 0)) := by decide +kernel
theorem i_149_48 : a_ins 149 48 = some (.iload_n 1, (0, 0, 0)) := by decide +kernel
theorem i_149_49 : a_ins 149 49 = some (.imul, (0, 0, 0)) := by decide +kernel
theorem i_149_50 : a_ins 149 50 = some (.iload 6, (0, 0, 0)) := by decide +kernel
theorem i_149_52 : a_ins 149 52 = some (.iadd, (0, 0, 0)) := by decide +kernel
theorem i_149_53 : a_ins 149 53 = some (.baload, (0, 0, 0)) := by decide +kernel
theorem i_149_54 : a_ins 149 54 = some (.aload_n 2, (0, 0, 0)) := by decide +kernel
theorem i_149_55 : a_ins 149 55 = some (.bipush 12, (0, 0, 0)) := by decide +kernel
theorem i_149_57 : a_ins 149 57 = some (.iload_n 3, (0, 0, 0)) := by decide +kernel
theorem i_149_58 : a_ins 149 58 = some (.imul, (0, 0, 0)) := by decide +kernel
theorem i_149_59 : a_ins 149 59 = some (.iload 6, (0, 0, 0)) := by decide +kernel
theorem i_149_61 : a_ins 149 61 = some (.iadd, (0, 0, 0)) := by decide +kernel
theorem i_149_62 : a_ins 149 62 = some (.baload, (0, 0, 0)) := by decide +kernel
theorem i_149_63 : a_ins 149 63 = some (.if_icmp .eq 5, (0, 0, 0)) := by decide +kernel
theorem i_149_66 : a_ins 149 66 = some (.iconst 0, (0, 0, 0)) := by decide +kernel
theorem i_149_67 : a_ins 149 67 = some (.ireturn, (0, 0, 0)) := by decide +kernel
theorem i_149_68 : a_ins 149 68 = some (.iinc 6 1, (0, 0, 0)) := by decide +kernel
theorem i_149_71 : a_ins 149 71 = some (.goto (-68), (0, 0, 0)) := by decide +kernel
theorem i_149_74 : a_ins 149 74 = some (.iconst 1, (0, 0, 0)) := by decide +kernel
theorem i_149_75 : a_ins 149 75 = some (.ireturn, (0, 0, 0)) := by decide +kernel
theorem i_150_0 : a_ins 150 0 = some (.iload_n 0, (0, 0, 0)) := by decide +kernel
theorem i_150_1 : a_ins 150 1 = some (.invokestatic 11, (1, 138, 1)) := by decide +kernel
theorem i_150_4 : a_ins 150 4 = some (.ifCond .eq 10, (0, 0, 0)) := by decide +kernel
theorem i_150_7 : a_ins 150 7 = some (.iload_n 0, (0, 0, 0)) := by decide +kernel
theorem i_150_8 : a_ins 150 8 = some (.bipush 32, (0, 0, 0)) := by decide +kernel
theorem i_150_10 : a_ins 150 10 = some (.iadd, (0, 0, 0)) := by decide +kernel
theorem i_150_11 : a_ins 150 11 = some (.goto 4, (0, 0, 0)) := by decide +kernel
theorem i_150_14 : a_ins 150 14 = some (.iload_n 0, (0, 0, 0)) := by decide +kernel
theorem i_150_15 : a_ins 150 15 = some (.ireturn, (0, 0, 0)) := by decide +kernel
theorem i_151_0 : a_ins 151 0 = some (.aload_n 0, (0, 0, 0)) := by decide +kernel
theorem i_151_1 : a_ins 151 1 = some (.invokevirtual 275, (0, 146, 0)) := by decide +kernel
theorem i_151_4 : a_ins 151 4 = some (.aload_n 0, (0, 0, 0)) := by decide +kernel
theorem i_151_5 : a_ins 151 5 = some (.invokevirtual 202, (0, 140, 0)) := by decide +kernel
theorem i_151_8 : a_ins 151 8 = some (.ifCond .ne 4, (0, 0, 0)) := by decide +kernel
theorem i_151_11 : a_ins 151 11 = some (.return_, (0, 0, 0)) := by decide +kernel
theorem i_151_12 : a_ins 151 12 = some (.bipush 20, (0, 0, 0)) := by decide +kernel
theorem i_151_14 : a_ins 151 14 = some (.aload_n 0, (0, 0, 0)) := by decide +kernel
theorem i_151_15 : a_ins 151 15 = some (.getfield 218, (11, 33, 1239)) := by decide +kernel
theorem i_151_18 : a_ins 151 18 = some (.imul, (0, 0, 0)) := by decide +kernel
theorem i_151_19 : a_ins 151 19 = some (.aload_n 0, (0, 0, 0)) := by decide +kernel
theorem i_151_20 : a_ins 151 20 = some (.getfield 106, (11, 26, 1232)) := by decide +kernel
theorem i_151_23 : a_ins 151 23 = some (.aload_n 0, (0, 0, 0)) := by decide +kernel
theorem i_151_24 : a_ins 151 24 = some (.getfield 218, (11, 33, 1239)) := by decide +kernel
theorem i_151_27 : a_ins 151 27 = some (.iaload, (0, 0, 0)) := by decide +kernel
theorem i_151_28 : a_ins 151 28 = some (.iadd, (0, 0, 0)) := by decide +kernel
theorem i_151_29 : a_ins 151 29 = some (.istore_n 1, (0, 0, 0)) := by decide +kernel
theorem i_151_30 : a_ins 151 30 = some (.aload_n 0, (0, 0, 0)) := by decide +kernel
theorem i_151_31 : a_ins 151 31 = some (.getfield 88, (11, 20, 1226)) := by decide +kernel
theorem i_151_34 : a_ins 151 34 = some (.iload_n 1, (0, 0, 0)) := by decide +kernel
theorem i_151_35 : a_ins 151 35 = some (.aload_n 0, (0, 0, 0)) := by decide +kernel
theorem i_151_36 : a_ins 151 36 = some (.aload_n 0, (0, 0, 0)) := by decide +kernel
theorem i_151_37 : a_ins 151 37 = some (.getfield 63, (11, 12, 1218)) := by decide +kernel
theorem i_151_40 : a_ins 151 40 = some (.iload_n 1, (0, 0, 0)) := by decide +kernel
theorem i_151_41 : a_ins 151 41 = some (.invokevirtual 278, (0, 147, 2)) := by decide +kernel
theorem i_151_44 : a_ins 151 44 = some (.iastore, (0, 0, 0)) := by decide +kernel
theorem i_151_45 : a_ins 151 45 = some (.aload_n 0, (0, 0, 0)) := by decide +kernel
theorem i_151_46 : a_ins 151 46 = some (.invokevirtual 275, (0, 146, 0)) := by decide +kernel
theorem i_151_49 : a_ins 151 49 = some (.aload_n 0, (0, 0, 0)) := by decide +kernel
theorem i_151_50 : a_ins 151 50 = some (.invokevirtual 202, (0, 140, 0)) := by decide +kernel
theorem i_151_53 : a_ins 151 53 = some (.ifCond .ne 4, (0, 0, 0)) := by decide +kernel
theorem i_151_56 : a_ins 151 56 = some (.return_, (0, 0, 0)) := by decide +kernel
theorem i_151_57 : a_ins 151 57 = some (.aload_n 0, (0, 0, 0)) := by decide +kernel
theorem i_151_58 : a_ins 151 58 = some (.getfield 24, (11, 6, 1212)) := by decide +kernel
theorem i_151_61 : a_ins 151 61 = some (.istore_n 2, (0, 0, 0)) := by decide +kernel
theorem i_151_62 : a_ins 151 62 = some (.aload_n 0, (0, 0, 0)) := by decide +kernel
theorem i_151_63 : a_ins 151 63 = some (.aload_n 0, (0, 0, 0)) := by decide +kernel
theorem i_151_64 : a_ins 151 64 = some (.getfield 66, (11, 13, 1219)) := by decide +kernel
theorem i_151_67 : a_ins 151 67 = some (.iload_n 1, (0, 0, 0)) := by decide +kernel
theorem i_151_68 : a_ins 151 68 = some (.invokevirtual 278, (0, 147, 2)) := by decide +kernel
theorem i_151_71 : a_ins 151 71 = some (.istore_n 3, (0, 0, 0)) := by decide +kernel
theorem i_151_72 : a_ins 151 72 = some (.iload_n 3, (0, 0, 0)) := by decide +kernel
theorem i_151_73 : a_ins 151 73 = some (.aload_n 0, (0, 0, 0)) := by decide +kernel
theorem i_151_74 : a_ins 151 74 = some (.getfield 88, (11, 20, 1226)) := by decide +kernel
theorem i_151_77 : a_ins 151 77 = some (.iload_n 1, (0, 0, 0)) := by decide +kernel
theorem i_151_78 : a_ins 151 78 = some (.iaload, (0, 0, 0)) := by decide +kernel
theorem i_151_79 : a_ins 151 79 = some (.if_icmp .ne 21, (0, 0, 0)) := by decide +kernel
theorem i_151_82 : a_ins 151 82 = some (.aload_n 0, (0, 0, 0)) := by decide +kernel
theorem i_151_83 : a_ins 151 83 = some (.getfield 63, (11, 12, 1218)) := by decide +kernel
theorem i_151_86 : a_ins 151 86 = some (.iload_n 1, (0, 0, 0)) := by decide +kernel
theorem i_151_87 : a_ins 151 87 = some (.aload_n 0, (0, 0, 0)) := by decide +kernel
theorem i_151_88 : a_ins 151 88 = some (.getfield 66, (11, 13, 1219)) := by decide +kernel
theorem i_151_91 : a_ins 151 91 = some (.iload_n 1, (0, 0, 0)) := by decide +kernel
theorem i_151_92 : a_ins 151 92 = some (.iload_n 3, (0, 0, 0)) := by decide +kernel
theorem i_151_93 : a_ins 151 93 = some (.iconst 1, (0, 0, 0)) := by decide +kernel
theorem i_151_94 : a_ins 151 94 = some (.invokestatic 285, (1, 149, 6)) := by decide +kernel
theorem i_151_97 : a_ins 151 97 = some (.ifCond .ne 9, (0, 0, 0)) := by decide +kernel
theorem i_151_100 : a_ins 151 100 = some (.aload_n 0, (0, 0, 0)) := by decide +kernel
theorem i_151_101 : a_ins 151 101 = some (.iconst 5, (0, 0, 0)) := by decide +kernel
theorem i_151_102 : a_ins 151 102 = some (.iload_n 2, (0, 0, 0)) := by decide +kernel
theorem i_151_103 : a_ins 151 103 = some (.invokevirtual 47, (0, 144, 2)) := by decide +kernel
theorem i_151_106 : a_ins 151 106 = some (.aload_n 0, (0, 0, 0)) := by decide +kernel
theorem i_151_107 : a_ins 151 107 = some (.getfield 91, (11, 21, 1227)) := by decide +kernel
theorem i_151_110 : a_ins 151 110 = some (.iload_n 1, (0, 0, 0)) := by decide +kernel
theorem i_151_111 : a_ins 151 111 = some (.aload_n 0, (0, 0, 0)) := by decide +kernel
theorem i_151_112 : a_ins 151 112 = some (.bipush 7, (0, 0, 0)) := by decide +kernel
theorem i_151_114 : a_ins 151 114 = some (.invokevirtual 282, (0, 148, 1)) := by decide +kernel
theorem i_151_117 : a_ins 151 117 = some (.iastore, (0, 0, 0)) := by decide +kernel
theorem i_151_118 : a_ins 151 118 = some (.aload_n 0, (0, 0, 0)) := by decide +kernel
theorem i_151_119 : a_ins 151 119 = some (.getfield 94, (11, 22, 1228)) := by decide +kernel
theorem i_151_122 : a_ins 151 122 = some (.iload_n 1, (0, 0, 0)) := by decide +kernel
theorem i_151_123 : a_ins 151 123 = some (.aload_n 0, (0, 0, 0)) := by decide +kernel
theorem i_151_124 : a_ins 151 124 = some (.bipush 99, (0, 0, 0)) := by decide +kernel
theorem i_151_126 : a_ins 151 126 = some (.invokevirtual 282, (0, 148, 1)) := by decide +kernel
theorem i_151_129 : a_ins 151 129 = some (.iastore, (0, 0, 0)) := by decide +kernel
theorem i_151_130 : a_ins 151 130 = some (.aload_n 0, (0, 0, 0)) := by decide +kernel
theorem i_151_131 : a_ins 151 131 = some (.getfield 106, (11, 26, 1232)) := by decide +kernel
theorem i_151_134 : a_ins 151 134 = some (.aload_n 0, (0, 0, 0)) := by decide +kernel
theorem i_151_135 : a_ins 151 135 = some (.getfield 218, (11, 33, 1239)) := by decide +kernel
theorem i_151_138 : a_ins 151 138 = some (.dup2, (0, 0, 0)) := by decide +kernel
theorem i_151_139 : a_ins 151 139 = some (.iaload, (0, 0, 0)) := by decide +kernel
theorem i_151_140 : a_ins 151 140 = some (.iconst 1, (0, 0, 0)) := by decide +kernel
theorem i_151_141 : a_ins 151 141 = some (.iadd, (0, 0, 0)) := by decide +kernel
theorem i_151_142 : a_ins 151 142 = some (.iastore, (0, 0, 0)) := by decide +kernel
theorem i_151_143 : a_ins 151 143 = some (.return_, (0, 0, 0)) := by decide +kernel
theorem i_152_0 : a_ins 152 0 = some (.aload_n 0, (0, 0, 0)) := by decide +kernel
theorem i_152_1 : a_ins 152 1 = some (.invokevirtual 275, (0, 146, 0)) := by decide +kernel
theorem i_152_4 : a_ins 152 4 = some (.aload_n 0, (0, 0, 0)) := by decide +kernel
theorem i_152_5 : a_ins 152 5 = some (.invokevirtual 202, (0, 140, 0)) := by decide +kernel
theorem i_152_8 : a_ins 152 8 = some (.ifCond .ne 4, (0, 0, 0)) := by decide +kernel
theorem i_152_11 : a_ins 152 11 = some (.return_, (0, 0, 0)) := by decide +kernel
theorem i_152_12 : a_ins 152 12 = some (.aload_n 0, (0, 0, 0)) := by decide +kernel
theorem i_152_13 : a_ins 152 13 = some (.getfield 24, (11, 6, 1212)) := by decide +kernel
theorem i_152_16 : a_ins 152 16 = some (.istore_n 1, (0, 0, 0)) := by decide +kernel
theorem i_152_17 : a_ins 152 17 = some (.bipush 20, (0, 0, 0)) := by decide +kernel
theorem i_152_19 : a_ins 152 19 = some (.aload_n 0, (0, 0, 0)) := by decide +kernel
theorem i_152_20 : a_ins 152 20 = some (.getfield 218, (11, 33, 1239)) := by decide +kernel
theorem i_152_23 : a_ins 152 23 = some (.imul, (0, 0, 0)) := by decide +kernel
theorem i_152_24 : a_ins 152 24 = some (.aload_n 0, (0, 0, 0)) := by decide +kernel
theorem i_152_25 : a_ins 152 25 = some (.getfield 109, (11, 27, 1233)) := by decide +kernel
theorem i_152_28 : a_ins 152 28 = some (.aload_n 0, (0, 0, 0)) := by decide +kernel
theorem i_152_29 : a_ins 152 29 = some (.getfield 218, (11, 33, 1239)) := by decide +kernel
theorem i_152_32 : a_ins 152 32 = some (.iaload, (0, 0, 0)) := by decide +kernel
theorem i_152_33 : a_ins 152 33 = some (.iadd, (0, 0, 0)) := by decide +kernel
theorem i_152_34 : a_ins 152 34 = some (.istore_n 2, (0, 0, 0)) := by decide +kernel
theorem i_152_35 : a_ins 152 35 = some (.aload_n 0, (0, 0, 0)) := by decide +kernel
theorem i_152_36 : a_ins 152 36 = some (.getfield 97, (11, 23, 1229)) := by decide +kernel
theorem i_152_39 : a_ins 152 39 = some (.iload_n 2, (0, 0, 0)) := by decide +kernel
theorem i_152_40 : a_ins 152 40 = some (.aload_n 0, (0, 0, 0)) := by decide +kernel
theorem i_152_41 : a_ins 152 41 = some (.aload_n 0, (0, 0, 0)) := by decide +kernel
theorem i_152_42 : a_ins 152 42 = some (.getfield 69, (11, 14, 1220)) := by decide +kernel
theorem i_152_45 : a_ins 152 45 = some (.iload_n 2, (0, 0, 0)) := by decide +kernel
theorem i_152_46 : a_ins 152 46 = some (.invokevirtual 278, (0, 147, 2)) := by decide +kernel
theorem i_152_49 : a_ins 152 49 = some (.iastore, (0, 0, 0)) := by decide +kernel
theorem i_152_50 : a_ins 152 50 = some (.bipush 20, (0, 0, 0)) := by decide +kernel
theorem i_152_52 : a_ins 152 52 = some (.aload_n 0, (0, 0, 0)) := by decide +kernel
theorem i_152_53 : a_ins 152 53 = some (.getfield 218, (11, 33, 1239)) := by decide +kernel
theorem i_152_56 : a_ins 152 56 = some (.imul, (0, 0, 0)) := by decide +kernel
theorem i_152_57 : a_ins 152 57 = some (.istore_n 3, (0, 0, 0)) := by decide +kernel
theorem i_152_58 : a_ins 152 58 = some (.iload_n 3, (0, 0, 0)) := by decide +kernel
theorem i_152_59 : a_ins 152 59 = some (.iload_n 2, (0, 0, 0)) := by decide +kernel
theorem i_152_60 : a_ins 152 60 = some (.if_icmp .ge 53, (0, 0, 0)) := by decide +kernel
theorem i_152_63 : a_ins 152 63 = some (.aload_n 0, (0, 0, 0)) := by decide +kernel
theorem i_152_64 : a_ins 152 64 = some (.getfield 97, (11, 23, 1229)) := by decide +kernel
theorem i_152_67 : a_ins 152 67 = some (.iload_n 3, (0, 0, 0)) := by decide +kernel
theorem i_152_68 : a_ins 152 68 = some (.iaload, (0, 0, 0)) := by decide +kernel
theorem i_152_69 : a_ins 152 69 = some (.aload_n 0, (0, 0, 0)) := by decide +kernel
theorem i_152_70 : a_ins 152 70 = some (.getfield 97, (11, 23, 1229)) := by decide +kernel
theorem i_152_73 : a_ins 152 73 = some (.iload_n 2, (0, 0, 0)) := by decide +kernel
theorem i_152_74 : a_ins 152 74 = some (.iaload, (0, 0, 0)) := by decide +kernel
theorem i_152_75 : a_ins 152 75 = some (.if_icmp .ne 32, (0, 0, 0)) := by decide +kernel
theorem i_152_78 : a_ins 152 78 = some (.aload_n 0, (0, 0, 0)) := by decide +kernel
theorem i_152_79 : a_ins 152 79 = some (.getfield 69, (11, 14, 1220)) := by decide +kernel
theorem i_152_82 : a_ins 152 82 = some (.iload_n 3, (0, 0, 0)) := by decide +kernel
theorem i_152_83 : a_ins 152 83 = some (.aload_n 0, (0, 0, 0)) := by decide +kernel
theorem i_152_84 : a_ins 152 84 = some (.getfield 69, (11, 14, 1220)) := by decide +kernel
theorem i_152_87 : a_ins 152 87 = some (.iload_n 2, (0, 0, 0)) := by decide +kernel
theorem i_152_88 : a_ins 152 88 = some (.aload_n 0, (0, 0, 0)) := by decide +kernel
theorem i_152_89 : a_ins 152 89 = some (.getfield 97, (11, 23, 1229)) := by decide +kernel
theorem i_152_92 : a_ins 152 92 = some (.iload_n 2, (0, 0, 0)) := by decide +kernel
theorem i_152_93 : a_ins 152 93 = some (.iaload, (0, 0, 0)) := by decide +kernel
theorem i_152_94 : a_ins 152 94 = some (.iconst 1, (0, 0, 0)) := by decide +kernel
theorem i_152_95 : a_ins 152 95 = some (.invokestatic 285, (1, 149, 6)) := by decide +kernel
theorem i_152_98 : a_ins 152 98 = some (.ifCond .eq 9, (0, 0, 0)) := by decide +kernel
theorem i_152_101 : a_ins 152 101 = some (.aload_n 0, (0, 0, 0)) := by decide +kernel
theorem i_152_102 : a_ins 152 102 = some (.iconst 3, (0, 0, 0)) := by decide +kernel
theorem i_152_103 : a_ins 152 103 = some (.iload_n 1, (0, 0, 0)) := by decide +kernel
theorem i_152_104 : a_ins 152 104 = some (.invokevirtual 47, (0, 144, 2)) := by decide +kernel
theorem i_152_107 : a_ins 152 107 = some (.iinc 3 1, (0, 0, 0)) := by decide +kernel
theorem i_152_110 : a_ins 152 110 = some (.goto (-52), (0, 0, 0)) := by decide +kernel
theorem i_152_113 : a_ins 152 113 = some (.aload_n 0, (0, 0, 0)) := by decide +kernel
theorem i_152_114 : a_ins 152 114 = some (.getfield 109, (11, 27, 1233)) := by decide +kernel
theorem i_152_117 : a_ins 152 117 = some (.aload_n 0, (0, 0, 0)) := by decide +kernel
theorem i_152_118 : a_ins 152 118 = some (.getfield 218, (11, 33, 1239)) := by decide +kernel
theorem i_152_121 : a_ins 152 121 = some (.dup2, (0, 0, 0)) := by decide +kernel
theorem i_152_122 : a_ins 152 122 = some (.iaload, (0, 0, 0)) := by decide +kernel
theorem i_152_123 : a_ins 152 123 = some (.iconst 1, (0, 0, 0)) := by decide +kernel
theorem i_152_124 : a_ins 152 124 = some (.iadd, (0, 0, 0)) := by decide +kernel
theorem i_152_125 : a_ins 152 125 = some (.iastore, (0, 0, 0)) := by decide +kernel
theorem i_152_126 : a_ins 152 126 = some (.return_, (0, 0, 0)) := by decide +kernel
theorem i_153_0 : a_ins 153 0 = some (.aload_n 0, (0, 0, 0)) := by decide +kernel
theorem i_153_1 : a_ins 153 1 = some (.getfield 24, (11, 6, 1212)) := by decide +kernel
theorem i_153_4 : a_ins 153 4 = some (.istore_n 2, (0, 0, 0)) := by decide +kernel
theorem i_153_5 : a_ins 153 5 = some (.aload_n 0, (0, 0, 0)) := by decide +kernel
theorem i_153_6 : a_ins 153 6 = some (.bipush 7, (0, 0, 0)) := by decide +kernel
theorem i_153_8 : a_ins 153 8 = some (.invokevirtual 282, (0, 148, 1)) := by decide +kernel
theorem i_153_11 : a_ins 153 11 = some (.istore_n 3, (0, 0, 0)) := by decide +kernel
theorem i_153_12 : a_ins 153 12 = some (.aload_n 0, (0, 0, 0)) := by decide +kernel
theorem i_153_13 : a_ins 153 13 = some (.bipush 7, (0, 0, 0)) := by decide +kernel
theorem i_153_15 : a_ins 153 15 = some (.invokevirtual 282, (0, 148, 1)) := by decide +kernel
theorem i_153_18 : a_ins 153 18 = some (.istore 4, (0, 0, 0)) := by decide +kernel
theorem i_153_20 : a_ins 153 20 = some (.bipush 64, (0, 0, 0)) := by decide +kernel
theorem i_153_22 : a_ins 153 22 = some (.aload_n 0, (0, 0, 0)) := by decide +kernel
theorem i_153_23 : a_ins 153 23 = some (.getfield 218, (11, 33, 1239)) := by decide +kernel
theorem i_153_26 : a_ins 153 26 = some (.imul, (0, 0, 0)) := by decide +kernel
theorem i_153_27 : a_ins 153 27 = some (.bipush 8, (0, 0, 0)) := by decide +kernel
theorem i_153_29 : a_ins 153 29 = some (.iload_n 3, (0, 0, 0)) := by decide +kernel
theorem i_153_30 : a_ins 153 30 = some (.imul, (0, 0, 0)) := by decide +kernel
theorem i_153_31 : a_ins 153 31 = some (.iadd, (0, 0, 0)) := by decide +kernel
theorem i_153_32 : a_ins 153 32 = some (.iload 4, (0, 0, 0)) := by decide +kernel
theorem i_153_34 : a_ins 153 34 = some (.iadd, (0, 0, 0)) := by decide +kernel
theorem i_153_35 : a_ins 153 35 = some (.istore 5, (0, 0, 0)) := by decide +kernel
theorem i_153_37 : a_ins 153 37 = some (.aload_n 0, (0, 0, 0)) := by decide +kernel
theorem i_153_38 : a_ins 153 38 = some (.invokevirtual 202, (0, 140, 0)) := by decide +kernel
theorem i_153_41 : a_ins 153 41 = some (.ifCond .eq 21, (0, 0, 0)) := by decide +kernel
theorem i_153_44 : a_ins 153 44 = some (.aload_n 0, (0, 0, 0)) := by decide +kernel
theorem i_153_45 : a_ins 153 45 = some (.getfield 100, (11, 24, 1230)) := by decide +kernel
theorem i_153_48 : a_ins 153 48 = some (.iload 5, (0, 0, 0)) := by decide +kernel
theorem i_153_50 : a_ins 153 50 = some (.iaload, (0, 0, 0)) := by decide +kernel
theorem i_153_51 : a_ins 153 51 = some (.bipush (-2), (0, 0, 0)) := by decide +kernel
theorem i_153_53 : a_ins 153 53 = some (.if_icmp .eq 9, (0, 0, 0)) := by decide +kernel
theorem i_153_56 : a_ins 153 56 = some (.aload_n 0, (0, 0, 0)) := by decide +kernel
theorem i_153_57 : a_ins 153 57 = some (.iconst 3, (0, 0, 0)) := by decide +kernel
theorem i_153_58 : a_ins 153 58 = some (.iload_n 2, (0, 0, 0)) := by decide +kernel
theorem i_153_59 : a_ins 153 59 = some (.invokevirtual 47, (0, 144, 2)) := by decide +kernel
theorem i_153_62 : a_ins 153 62 = some (.iload_n 1, (0, 0, 0)) := by decide +kernel
theorem i_153_63 : a_ins 153 63 = some (.ifCond .eq 12, (0, 0, 0)) := by decide +kernel
theorem i_153_66 : a_ins 153 66 = some (.aload_n 0, (0, 0, 0)) := by decide +kernel
theorem i_153_67 : a_ins 153 67 = some (.bipush 99, (0, 0, 0)) := by decide +kernel
theorem i_153_69 : a_ins 153 69 = some (.invokevirtual 282, (0, 148, 1)) := by decide +kernel
theorem i_153_72 : a_ins 153 72 = some (.goto 4, (0, 0, 0)) := by decide +kernel
theorem i_153_75 : a_ins 153 75 = some (.iconst (-1), (0, 0, 0)) := by decide +kernel
theorem i_153_76 : a_ins 153 76 = some (.istore 6, (0, 0, 0)) := by decide +kernel
theorem i_153_78 : a_ins 153 78 = some (.aload_n 0, (0, 0, 0)) := by decide +kernel
theorem i_153_79 : a_ins 153 79 = some (.invokevirtual 202, (0, 140, 0)) := by decide +kernel
theorem i_153_82 : a_ins 153 82 = some (.ifCond .ne 4, (0, 0, 0)) := by decide +kernel
theorem i_153_85 : a_ins 153 85 = some (.return_, (0, 0, 0)) := by decide +kernel
theorem i_153_86 : a_ins 153 86 = some (.aload_n 0, (0, 0, 0)) := by decide +kernel
theorem i_153_87 : a_ins 153 87 = some (.getfield 100, (11, 24, 1230)) := by decide +kernel
theorem i_153_90 : a_ins 153 90 = some (.iload 5, (0, 0, 0)) := by decide +kernel
theorem i_153_92 : a_ins 153 92 = some (.iload 6, (0, 0, 0)) := by decide +kernel
theorem i_153_94 : a_ins 153 94 = some (.iastore, (0, 0, 0)) := by decide +kernel
theorem i_153_95 : a_ins 153 95 = some (.aload_n 0, (0, 0, 0)) := by decide +kernel
theorem i_153_96 : a_ins 153 96 = some (.getfield 112, (11, 28, 1234)) := by decide +kernel
theorem i_153_99 : a_ins 153 99 = some (.aload_n 0, (0, 0, 0)) := by decide +kernel
theorem i_153_100 : a_ins 153 100 = some (.getfield 218, (11, 33, 1239)) := by decide +kernel
theorem i_153_103 : a_ins 153 103 = some (.dup2, (0, 0, 0)) := by decide +kernel
theorem i_153_104 : a_ins 153 104 = some (.iaload, (0, 0, 0)) := by decide +kernel
theorem i_153_105 : a_ins 153 105 = some (.iconst 1, (0, 0, 0)) := by decide +kernel
theorem i_153_106 : a_ins 153 106 = some (.iadd, (0, 0, 0)) := by decide +kernel
theorem i_153_107 : a_ins 153 107 = some (.iastore, (0, 0, 0)) := by decide +kernel
theorem i_153_108 : a_ins 153 108 = some (.return_, (0, 0, 0)) := by decide +kernel
theorem i_154_0 : a_ins 154 0 = some (.aload_n 0, (0, 0, 0)) := by decide +kernel
theorem i_154_1 : a_ins 154 1 = some (.getfield 121, (11, 31, 1237)) := by decide +kernel
theorem i_154_4 : a_ins 154 4 = some (.aload_n 0, (0, 0, 0)) := by decide +kernel
theorem i_154_5 : a_ins 154 5 = some (.getfield 218, (11, 33, 1239)) := by decide +kernel
theorem i_154_8 : a_ins 154 8 = some (.iconst 1, (0, 0, 0)) := by decide +kernel
theorem i_154_9 : a_ins 154 9 = some (.bastore, (0, 0, 0)) := by decide +kernel
theorem i_154_10 : a_ins 154 10 = some (.aload_n 0, (0, 0, 0)) := by decide +kernel
theorem i_154_11 : a_ins 154 11 = some (.getfield 115, (11, 29, 1235)) := by decide +kernel
theorem i_154_14 : a_ins 154 14 = some (.aload_n 0, (0, 0, 0)) := by decide +kernel
theorem i_154_15 : a_ins 154 15 = some (.getfield 218, (11, 33, 1239)) := by decide +kernel
theorem i_154_18 : a_ins 154 18 = some (.aload_n 0, (0, 0, 0)) := by decide +kernel
theorem i_154_19 : a_ins 154 19 = some (.bipush 7, (0, 0, 0)) := by decide +kernel
theorem i_154_21 : a_ins 154 21 = some (.invokevirtual 282, (0, 148, 1)) := by decide +kernel
theorem i_154_24 : a_ins 154 24 = some (.iastore, (0, 0, 0)) := by decide +kernel
theorem i_154_25 : a_ins 154 25 = some (.aload_n 0, (0, 0, 0)) := by decide +kernel
theorem i_154_26 : a_ins 154 26 = some (.getfield 118, (11, 30, 1236)) := by decide +kernel
theorem i_154_29 : a_ins 154 29 = some (.aload_n 0, (0, 0, 0)) := by decide +kernel
theorem i_154_30 : a_ins 154 30 = some (.getfield 218, (11, 33, 1239)) := by decide +kernel
theorem i_154_33 : a_ins 154 33 = some (.aload_n 0, (0, 0, 0)) := by decide +kernel
theorem i_154_34 : a_ins 154 34 = some (.bipush 99, (0, 0, 0)) := by decide +kernel
theorem i_154_36 : a_ins 154 36 = some (.invokevirtual 282, (0, 148, 1)) := by decide +kernel
theorem i_154_39 : a_ins 154 39 = some (.iastore, (0, 0, 0)) := by decide +kernel
theorem i_154_40 : a_ins 154 40 = some (.return_, (0, 0, 0)) := by decide +kernel
theorem i_155_0 : a_ins 155 0 = some (.iload_n 1, (0, 0, 0)) := by decide +kernel
theorem i_155_1 : a_ins 155 1 = some (.ifCond .ne 10, (0, 0, 0)) := by decide +kernel
theorem i_155_4 : a_ins 155 4 = some (.aload_n 0, (0, 0, 0)) := by decide +kernel
theorem i_155_5 : a_ins 155 5 = some (.getfield 15, (11, 4, 1210)) := by decide +kernel
theorem i_155_8 : a_ins 155 8 = some (.goto 16, (0, 0, 0)) := by decide +kernel
theorem i_155_11 : a_ins 155 11 = some (.iload_n 1, (0, 0, 0)) := by decide +kernel
theorem i_155_12 : a_ins 155 12 = some (.iconst 1, (0, 0, 0)) := by decide +kernel
theorem i_155_13 : a_ins 155 13 = some (.if_icmp .ne 10, (0, 0, 0)) := by decide +kernel
theorem i_155_16 : a_ins 155 16 = some (.aload_n 0, (0, 0, 0)) := by decide +kernel
theorem i_155_17 : a_ins 155 17 = some (.getfield 18, (11, 5, 1211)) := by decide +kernel
theorem i_155_20 : a_ins 155 20 = some (.goto 4, (0, 0, 0)) := by decide +kernel
theorem i_155_23 : a_ins 155 23 = some (.iconst (-1), (0, 0, 0)) := by decide +kernel
theorem i_155_24 : a_ins 155 24 = some (.ireturn, (0, 0, 0)) := by decide +kernel
theorem i_156_0 : a_ins 156 0 = some (.iload_n 1, (0, 0, 0)) := by decide +kernel
theorem i_156_1 : a_ins 156 1 = some (.ifCond .lt 20, (0, 0, 0)) := by decide +kernel
theorem i_156_4 : a_ins 156 4 = some (.iload_n 1, (0, 0, 0)) := by decide +kernel
theorem i_156_5 : a_ins 156 5 = some (.ldc_w 289, (0, 1, 1481)) := by decide +kernel
theorem i_156_8 : a_ins 156 8 = some (.if_icmp .gt 13, (0, 0, 0)) := by decide +kernel
theorem i_156_11 : a_ins 156 11 = some (.aload_n 0, (0, 0, 0)) := by decide +kernel
theorem i_156_12 : a_ins 156 12 = some (.getfield 240, (11, 2, 1208)) := by decide +kernel
theorem i_156_15 : a_ins 156 15 = some (.sipush 200, (0, 0, 0)) := by decide +kernel
theorem i_156_18 : a_ins 156 18 = some (.if_icmp .le 6, (0, 0, 0)) := by decide +kernel
theorem i_156_21 : a_ins 156 21 = some (.bipush (-2), (0, 0, 0)) := by decide +kernel
theorem i_156_23 : a_ins 156 23 = some (.ireturn, (0, 0, 0)) := by decide +kernel
theorem i_156_24 : a_ins 156 24 = some (.aload_n 0, (0, 0, 0)) := by decide +kernel
theorem i_156_25 : a_ins 156 25 = some (.iconst 0, (0, 0, 0)) := by decide +kernel
theorem i_156_26 : a_ins 156 26 = some (.putfield 15, (11, 4, 1210)) := by decide +kernel
theorem i_156_29 : a_ins 156 29 = some (.aload_n 0, (0, 0, 0)) := by decide +kernel
theorem i_156_30 : a_ins 156 30 = some (.iconst (-1), (0, 0, 0)) := by decide +kernel
theorem i_156_31 : a_ins 156 31 = some (.putfield 18, (11, 5, 1211)) := by decide +kernel
theorem i_156_34 : a_ins 156 34 = some (.aload_n 0, (0, 0, 0)) := by decide +kernel
theorem i_156_35 : a_ins 156 35 = some (.invokevirtual 212, (0, 134, 0)) := by decide +kernel
theorem i_156_38 : a_ins 156 38 = some (.aload_n 0, (0, 0, 0)) := by decide +kernel
theorem i_156_39 : a_ins 156 39 = some (.invokevirtual 294, (0, 157, 0)) := by decide +kernel
theorem i_156_42 : a_ins 156 42 = some (.istore_n 2, (0, 0, 0)) := by decide +kernel
theorem i_156_43 : a_ins 156 43 = some (.iload_n 2, (0, 0, 0)) := by decide +kernel
theorem i_156_44 : a_ins 156 44 = some (.ifCond .ge 13, (0, 0, 0)) := by decide +kernel
theorem i_156_47 : a_ins 156 47 = some (.aload_n 0, (0, 0, 0)) := by decide +kernel
theorem i_156_48 : a_ins 156 48 = some (.iconst 1, (0, 0, 0)) := by decide +kernel
theorem i_156_49 : a_ins 156 49 = some (.iconst (-1), (0, 0, 0)) := by decide +kernel
theorem i_156_50 : a_ins 156 50 = some (.iload_n 2, (0, 0, 0)) := by decide +kernel
theorem i_156_51 : a_ins 156 51 = some (.isub, (0, 0, 0)) := by decide +kernel
theorem i_156_52 : a_ins 156 52 = some (.invokevirtual 47, (0, 144, 2)) := by decide +kernel
theorem i_156_55 : a_ins 156 55 = some (.iconst (-1), (0, 0, 0)) := by decide +kernel
theorem i_156_56 : a_ins 156 56 = some (.ireturn, (0, 0, 0)) := by decide +kernel
theorem i_156_57 : a_ins 156 57 = some (.aload_n 0, (0, 0, 0)) := by decide +kernel
theorem i_156_58 : a_ins 156 58 = some (.iload_n 2, (0, 0, 0)) := by decide +kernel
theorem i_156_59 : a_ins 156 59 = some (.putfield 224, (11, 38, 1244)) := by decide +kernel
theorem i_156_62 : a_ins 156 62 = some (.aload_n 0, (0, 0, 0)) := by decide +kernel
theorem i_156_63 : a_ins 156 63 = some (.aload_n 0, (0, 0, 0)) := by decide +kernel
theorem i_156_64 : a_ins 156 64 = some (.getfield 1, (11, 3, 1209)) := by decide +kernel
theorem i_156_67 : a_ins 156 67 = some (.putfield 227, (11, 39, 1245)) := by decide +kernel
theorem i_156_70 : a_ins 156 70 = some (.aload_n 0, (0, 0, 0)) := by decide +kernel
theorem i_156_71 : a_ins 156 71 = some (.iload_n 1, (0, 0, 0)) := by decide +kernel
theorem i_156_72 : a_ins 156 72 = some (.putfield 298, (11, 40, 1246)) := by decide +kernel
theorem i_156_75 : a_ins 156 75 = some (.aload_n 0, (0, 0, 0)) := by decide +kernel
theorem i_156_76 : a_ins 156 76 = some (.dup, (0, 0, 0)) := by decide +kernel
theorem i_156_77 : a_ins 156 77 = some (.getfield 230, (11, 41, 1247)) := by decide +kernel
theorem i_156_80 : a_ins 156 80 = some (.iconst 1, (0, 0, 0)) := by decide +kernel
theorem i_156_81 : a_ins 156 81 = some (.iadd, (0, 0, 0)) := by decide +kernel
theorem i_156_82 : a_ins 156 82 = some (.putfield 230, (11, 41, 1247)) := by decide +kernel
theorem i_156_85 : a_ins 156 85 = some (.aload_n 0, (0, 0, 0)) := by decide +kernel
theorem i_156_86 : a_ins 156 86 = some (.iconst 0, (0, 0, 0)) := by decide +kernel
theorem i_156_87 : a_ins 156 87 = some (.putfield 236, (11, 53, 1259)) := by decide +kernel
theorem i_156_90 : a_ins 156 90 = some (.iconst 0, (0, 0, 0)) := by decide +kernel
theorem i_156_91 : a_ins 156 91 = some (.istore_n 3, (0, 0, 0)) := by decide +kernel
theorem i_156_92 : a_ins 156 92 = some (.iload_n 3, (0, 0, 0)) := by decide +kernel
theorem i_156_93 : a_ins 156 93 = some (.aload_n 0, (0, 0, 0)) := by decide +kernel
theorem i_156_94 : a_ins 156 94 = some (.getfield 1, (11, 3, 1209)) := by decide +kernel
theorem i_156_97 : a_ins 156 97 = some (.if_icmp .ge 21, (0, 0, 0)) := by decide +kernel
theorem i_156_100 : a_ins 156 100 = some (.aload_n 0, (0, 0, 0)) := by decide +kernel
theorem i_156_101 : a_ins 156 101 = some (.getfield 125, (11, 34, 1240)) := by decide +kernel
theorem i_156_104 : a_ins 156 104 = some (.iload_n 3, (0, 0, 0)) := by decide +kernel
theorem i_156_105 : a_ins 156 105 = some (.aload_n 0, (0, 0, 0)) := by decide +kernel
theorem i_156_106 : a_ins 156 106 = some (.getfield 7, (11, 1, 1207)) := by decide +kernel
theorem i_156_109 : a_ins 156 109 = some (.iload_n 3, (0, 0, 0)) := by decide +kernel
theorem i_156_110 : a_ins 156 110 = some (.baload, (0, 0, 0)) := by decide +kernel
theorem i_156_111 : a_ins 156 111 = some (.bastore, (0, 0, 0)) := by decide +kernel
theorem i_156_112 : a_ins 156 112 = some (.iinc 3 1, (0, 0, 0)) := by decide +kernel
theorem i_156_115 : a_ins 156 115 = some (.goto (-23), (0, 0, 0)) := by decide +kernel
theorem i_156_118 : a_ins 156 118 = some (.iconst 0, (0, 0, 0)) := by decide +kernel
theorem i_156_119 : a_ins 156 119 = some (.istore_n 3, (0, 0, 0)) := by decide +kernel
theorem i_156_120 : a_ins 156 120 = some (.iload_n 3, (0, 0, 0)) := by decide +kernel
theorem i_156_121 : a_ins 156 121 = some (.iload_n 2, (0, 0, 0)) := by decide +kernel
theorem i_156_122 : a_ins 156 122 = some (.if_icmp .ge 45, (0, 0, 0)) := by decide +kernel
theorem i_156_125 : a_ins 156 125 = some (.aload_n 0, (0, 0, 0)) := by decide +kernel
theorem i_156_126 : a_ins 156 126 = some (.getfield 128, (11, 35, 1241)) := by decide +kernel
theorem i_156_129 : a_ins 156 129 = some (.iload_n 3, (0, 0, 0)) := by decide +kernel
theorem i_156_130 : a_ins 156 130 = some (.aload_n 0, (0, 0, 0)) := by decide +kernel
theorem i_156_131 : a_ins 156 131 = some (.getfield 137, (11, 42, 1248)) := by decide +kernel
theorem i_156_134 : a_ins 156 134 = some (.iload_n 3, (0, 0, 0)) := by decide +kernel
theorem i_156_135 : a_ins 156 135 = some (.iaload, (0, 0, 0)) := by decide +kernel
theorem i_156_136 : a_ins 156 136 = some (.iastore, (0, 0, 0)) := by decide +kernel
theorem i_156_137 : a_ins 156 137 = some (.aload_n 0, (0, 0, 0)) := by decide +kernel
theorem i_156_138 : a_ins 156 138 = some (.getfield 131, (11, 36, 1242)) := by decide +kernel
theorem i_156_141 : a_ins 156 141 = some (.iload_n 3, (0, 0, 0)) := by decide +kernel
theorem i_156_142 : a_ins 156 142 = some (.aload_n 0, (0, 0, 0)) := by decide +kernel
theorem i_156_143 : a_ins 156 143 = some (.getfield 140, (11, 43, 1249)) := by decide +kernel
theorem i_156_146 : a_ins 156 146 = some (.iload_n 3, (0, 0, 0)) := by decide +kernel
theorem i_156_147 : a_ins 156 147 = some (.iaload, (0, 0, 0)) := by decide +kernel
theorem i_156_148 : a_ins 156 148 = some (.iastore, (0, 0, 0)) := by decide +kernel
theorem i_156_149 : a_ins 156 149 = some (.aload_n 0, (0, 0, 0)) := by decide +kernel
theorem i_156_150 : a_ins 156 150 = some (.getfield 134, (11, 37, 1243)) := by decide +kernel
theorem i_156_153 : a_ins 156 153 = some (.iload_n 3, (0, 0, 0)) := by decide +kernel
theorem i_156_154 : a_ins 156 154 = some (.aload_n 0, (0, 0, 0)) := by decide +kernel
theorem i_156_155 : a_ins 156 155 = some (.getfield 143, (11, 44, 1250)) := by decide +kernel
theorem i_156_158 : a_ins 156 158 = some (.iload_n 3, (0, 0, 0)) := by decide +kernel
theorem i_156_159 : a_ins 156 159 = some (.baload, (0, 0, 0)) := by decide +kernel
theorem i_156_160 : a_ins 156 160 = some (.bastore, (0, 0, 0)) := by decide +kernel
theorem i_156_161 : a_ins 156 161 = some (.iinc 3 1, (0, 0, 0)) := by decide +kernel
theorem i_156_164 : a_ins 156 164 = some (.goto (-44), (0, 0, 0)) := by decide +kernel
theorem i_156_167 : a_ins 156 167 = some (.iload_n 2, (0, 0, 0)) := by decide +kernel
theorem i_156_168 : a_ins 156 168 = some (.ireturn, (0, 0, 0)) := by decide +kernel
theorem i_157_0 : a_ins 157 0 = some (.iconst 0, (0, 0, 0)) := by decide +kernel
theorem i_157_1 : a_ins 157 1 = some (.istore_n 1, (0, 0, 0)) := by decide +kernel
theorem i_157_2 : a_ins 157 2 = some (.iconst 0, (0, 0, 0)) := by decide +kernel
theorem i_157_3 : a_ins 157 3 = some (.istore_n 2, (0, 0, 0)) := by decide +kernel
theorem i_157_4 : a_ins 157 4 = some (.iload_n 2, (0, 0, 0)) := by decide +kernel
theorem i_157_5 : a_ins 157 5 = some (.aload_n 0, (0, 0, 0)) := by decide +kernel
theorem i_157_6 : a_ins 157 6 = some (.getfield 1, (11, 3, 1209)) := by decide +kernel
theorem i_157_9 : a_ins 157 9 = some (.if_icmp .ge 197, (0, 0, 0)) := by decide +kernel
theorem i_157_12 : a_ins 157 12 = some (.aload_n 0, (0, 0, 0)) := by decide +kernel
theorem i_157_13 : a_ins 157 13 = some (.iload_n 2, (0, 0, 0)) := by decide +kernel
theorem i_157_14 : a_ins 157 14 = some (.invokevirtual 27, (0, 136, 1)) := by decide +kernel
theorem i_157_17 : a_ins 157 17 = some (.bipush 32, (0, 0, 0)) := by decide +kernel
theorem i_157_19 : a_ins 157 19 = some (.if_icmp .ne 9, (0, 0, 0)) := by decide +kernel
theorem i_157_22 : a_ins 157 22 = some (.iinc 2 1, (0, 0, 0)) := by decide +kernel
theorem i_157_25 : a_ins 157 25 = some (.goto (-21), (0, 0, 0)) := by decide +kernel
theorem i_157_28 : a_ins 157 28 = some (.aload_n 0, (0, 0, 0)) := by decide +kernel
theorem i_157_29 : a_ins 157 29 = some (.iload_n 2, (0, 0, 0)) := by decide +kernel
theorem i_157_30 : a_ins 157 30 = some (.invokevirtual 27, (0, 136, 1)) := by decide +kernel
theorem i_157_33 : a_ins 157 33 = some (.bipush 61, (0, 0, 0)) := by decide +kernel
theorem i_157_35 : a_ins 157 35 = some (.if_icmp .ne 7, (0, 0, 0)) := by decide +kernel
theorem i_157_38 : a_ins 157 38 = some (.iconst 1, (0, 0, 0)) := by decide +kernel
theorem i_157_39 : a_ins 157 39 = some (.goto 4, (0, 0, 0)) := by decide +kernel
theorem i_157_42 : a_ins 157 42 = some (.iconst 0, (0, 0, 0)) := by decide +kernel
theorem i_157_43 : a_ins 157 43 = some (.istore_n 3, (0, 0, 0)) := by decide +kernel
theorem i_157_44 : a_ins 157 44 = some (.iload_n 3, (0, 0, 0)) := by decide +kernel
theorem i_157_45 : a_ins 157 45 = some (.ifCond .eq 9, (0, 0, 0)) := by decide +kernel
theorem i_157_48 : a_ins 157 48 = some (.iload_n 2, (0, 0, 0)) := by decide +kernel
theorem i_157_49 : a_ins 157 49 = some (.iconst 1, (0, 0, 0)) := by decide +kernel
theorem i_157_50 : a_ins 157 50 = some (.iadd, (0, 0, 0)) := by decide +kernel
theorem i_157_51 : a_ins 157 51 = some (.goto 4, (0, 0, 0)) := by decide +kernel
theorem i_157_54 : a_ins 157 54 = some (.iload_n 2, (0, 0, 0)) := by decide +kernel
theorem i_157_55 : a_ins 157 55 = some (.istore 4, (0, 0, 0)) := by decide +kernel
theorem i_157_57 : a_ins 157 57 = some (.iload_n 1, (0, 0, 0)) := by decide +kernel
theorem i_157_58 : a_ins 157 58 = some (.bipush 14, (0, 0, 0)) := by decide +kernel
theorem i_157_60 : a_ins 157 60 = some (.if_icmp .ne 18, (0, 0, 0)) := by decide +kernel
theorem i_157_63 : a_ins 157 63 = some (.iload_n 3, (0, 0, 0)) := by decide +kernel
theorem i_157_64 : a_ins 157 64 = some (.ifCond .ne 26, (0, 0, 0)) := by decide +kernel
theorem i_157_67 : a_ins 157 67 = some (.aload_n 0, (0, 0, 0)) := by decide +kernel
theorem i_157_68 : a_ins 157 68 = some (.iload_n 2, (0, 0, 0)) := by decide +kernel
theorem i_157_69 : a_ins 157 69 = some (.invokevirtual 27, (0, 136, 1)) := by decide +kernel
theorem i_157_72 : a_ins 157 72 = some (.invokestatic 34, (1, 137, 1)) := by decide +kernel
theorem i_157_75 : a_ins 157 75 = some (.ifCond .ne 15, (0, 0, 0)) := by decide +kernel
theorem i_157_78 : a_ins 157 78 = some (.aload_n 0, (0, 0, 0)) := by decide +kernel
theorem i_157_79 : a_ins 157 79 = some (.iload 4, (0, 0, 0)) := by decide +kernel
theorem i_157_81 : a_ins 157 81 = some (.invokevirtual 27, (0, 136, 1)) := by decide +kernel
theorem i_157_84 : a_ins 157 84 = some (.invokestatic 34, (1, 137, 1)) := by decide +kernel
theorem i_157_87 : a_ins 157 87 = some (.ifCond .ne 22, (0, 0, 0)) := by decide +kernel
theorem i_157_90 : a_ins 157 90 = some (.iconst (-1), (0, 0, 0)) := by decide +kernel
theorem i_157_91 : a_ins 157 91 = some (.iload_n 1, (0, 0, 0)) := by decide +kernel
theorem i_157_92 : a_ins 157 92 = some (.bipush 14, (0, 0, 0)) := by decide +kernel
theorem i_157_94 : a_ins 157 94 = some (.if_icmp .ne 11, (0, 0, 0)) := by decide +kernel
theorem i_157_97 : a_ins 157 97 = some (.iload_n 3, (0, 0, 0)) := by decide +kernel
theorem i_157_98 : a_ins 157 98 = some (.ifCond .eq 7, (0, 0, 0)) := by decide +kernel
theorem i_157_101 : a_ins 157 101 = some (.iload_n 2, (0, 0, 0)) := by decide +kernel
theorem i_157_102 : a_ins 157 102 = some (.goto 5, (0, 0, 0)) := by decide +kernel
theorem i_157_105 : a_ins 157 105 = some (.iload 4, (0, 0, 0)) := by decide +kernel
theorem i_157_107 : a_ins 157 107 = some (.isub, (0, 0, 0)) := by decide +kernel
theorem i_157_108 : a_ins 157 108 = some (.ireturn, (0, 0, 0)) := by decide +kernel
theorem i_157_109 : a_ins 157 109 = some (.iload 4, (0, 0, 0)) := by decide +kernel
theorem i_157_111 : a_ins 157 111 = some (.istore 5, (0, 0, 0)) := by decide +kernel
theorem i_157_113 : a_ins 157 113 = some (.aload_n 0, (0, 0, 0)) := by decide +kernel
theorem i_157_114 : a_ins 157 114 = some (.iload 5, (0, 0, 0)) := by decide +kernel
theorem i_157_116 : a_ins 157 116 = some (.invokevirtual 27, (0, 136, 1)) := by decide +kernel
theorem i_157_119 : a_ins 157 119 = some (.invokestatic 34, (1, 137, 1)) := by decide +kernel
theorem i_157_122 : a_ins 157 122 = some (.ifCond .eq 24, (0, 0, 0)) := by decide +kernel
theorem i_157_125 : a_ins 157 125 = some (.iload 5, (0, 0, 0)) := by decide +kernel
theorem i_157_127 : a_ins 157 127 = some (.iload 4, (0, 0, 0)) := by decide +kernel
theorem i_157_129 : a_ins 157 129 = some (.isub, (0, 0, 0)) := by decide +kernel
theorem i_157_130 : a_ins 157 130 = some (.bipush 12, (0, 0, 0)) := by decide +kernel
theorem i_157_132 : a_ins 157 132 = some (.if_icmp .ne 8, (0, 0, 0)) := by decide +kernel
theorem i_157_135 : a_ins 157 135 = some (.iconst (-1), (0, 0, 0)) := by decide +kernel
theorem i_157_136 : a_ins 157 136 = some (.iload 5, (0, 0, 0)) := by decide +kernel
theorem i_157_138 : a_ins 157 138 = some (.isub, (0, 0, 0)) := by decide +kernel
theorem i_157_139 : a_ins 157 139 = some (.ireturn, (0, 0, 0)) := by decide +kernel
theorem i_157_140 : a_ins 157 140 = some (.iinc 5 1, (0, 0, 0)) := by decide +kernel
theorem i_157_143 : a_ins 157 143 = some (.goto (-30), (0, 0, 0)) := by decide +kernel
theorem i_157_146 : a_ins 157 146 = some (.iload 5, (0, 0, 0)) := by decide +kernel
theorem i_157_148 : a_ins 157 148 = some (.aload_n 0, (0, 0, 0)) := by decide +kernel
theorem i_157_149 : a_ins 157 149 = some (.getfield 1, (11, 3, 1209)) := by decide +kernel
theorem i_157_152 : a_ins 157 152 = some (.if_icmp .ge 19, (0, 0, 0)) := by decide +kernel
theorem i_157_155 : a_ins 157 155 = some (.aload_n 0, (0, 0, 0)) := by decide +kernel
theorem i_157_156 : a_ins 157 156 = some (.iload 5, (0, 0, 0)) := by decide +kernel
theorem i_157_158 : a_ins 157 158 = some (.invokevirtual 27, (0, 136, 1)) := by decide +kernel
theorem i_157_161 : a_ins 157 161 = some (.bipush 32, (0, 0, 0)) := by decide +kernel
theorem i_157_163 : a_ins 157 163 = some (.if_icmp .eq 8, (0, 0, 0)) := by decide +kernel
theorem i_157_166 : a_ins 157 166 = some (.iconst (-1), (0, 0, 0)) := by decide +kernel
theorem i_157_167 : a_ins 157 167 = some (.iload 5, (0, 0, 0)) := by decide +kernel
theorem i_157_169 : a_ins 157 169 = some (.isub, (0, 0, 0)) := by decide +kernel
theorem i_157_170 : a_ins 157 170 = some (.ireturn, (0, 0, 0)) := by decide +kernel
theorem i_157_171 : a_ins 157 171 = some (.aload_n 0, (0, 0, 0)) := by decide +kernel
theorem i_157_172 : a_ins 157 172 = some (.getfield 137, (11, 42, 1248)) := by decide +kernel
theorem i_157_175 : a_ins 157 175 = some (.iload_n 1, (0, 0, 0)) := by decide +kernel
theorem i_157_176 : a_ins 157 176 = some (.iload 4, (0, 0, 0)) := by decide +kernel
theorem i_157_178 : a_ins 157 178 = some (.iastore, (0, 0, 0)) := by decide +kernel
theorem i_157_179 : a_ins 157 179 = some (.aload_n 0, (0, 0, 0)) := by decide +kernel
theorem i_157_180 : a_ins 157 180 = some (.getfield 140, (11, 43, 1249)) := by decide +kernel
theorem i_157_183 : a_ins 157 183 = some (.iload_n 1, (0, 0, 0)) := by decide +kernel
theorem i_157_184 : a_ins 157 184 = some (.iload 5, (0, 0, 0)) := by decide +kernel
theorem i_157_186 : a_ins 157 186 = some (.iload 4, (0, 0, 0)) := by decide +kernel
theorem i_157_188 : a_ins 157 188 = some (.isub, (0, 0, 0)) := by decide +kernel
theorem i_157_189 : a_ins 157 189 = some (.iastore, (0, 0, 0)) := by decide +kernel
theorem i_157_190 : a_ins 157 190 = some (.aload_n 0, (0, 0, 0)) := by decide +kernel
theorem i_157_191 : a_ins 157 191 = some (.getfield 143, (11, 44, 1250)) := by decide +kernel
theorem i_157_194 : a_ins 157 194 = some (.iload_n 1, (0, 0, 0)) := by decide +kernel
theorem i_157_195 : a_ins 157 195 = some (.iload_n 3, (0, 0, 0)) := by decide +kernel
theorem i_157_196 : a_ins 157 196 = some (.bastore, (0, 0, 0)) := by decide +kernel
theorem i_157_197 : a_ins 157 197 = some (.iinc 1 1, (0, 0, 0)) := by decide +kernel
theorem i_157_200 : a_ins 157 200 = some (.iload 5, (0, 0, 0)) := by decide +kernel
theorem i_157_202 : a_ins 157 202 = some (.istore_n 2, (0, 0, 0)) := by decide +kernel
theorem i_157_203 : a_ins 157 203 = some (.goto (-199), (0, 0, 0)) := by decide +kernel
theorem i_157_206 : a_ins 157 206 = some (.iload_n 1, (0, 0, 0)) := by decide +kernel
theorem i_157_207 : a_ins 157 207 = some (.ireturn, (0, 0, 0)) := by decide +kernel
theorem i_158_0 : a_ins 158 0 = some (.iload_n 1, (0, 0, 0)) := by decide +kernel
theorem i_158_1 : a_ins 158 1 = some (.iconst (-1), (0, 0, 0)) := by decide +kernel
theorem i_158_2 : a_ins 158 2 = some (.if_icmp .lt 10, (0, 0, 0)) := by decide +kernel
theorem i_158_5 : a_ins 158 5 = some (.iload_n 1, (0, 0, 0)) := by decide +kernel
theorem i_158_6 : a_ins 158 6 = some (.sipush 400, (0, 0, 0)) := by decide +kernel
theorem i_158_9 : a_ins 158 9 = some (.if_icmp .le 5, (0, 0, 0)) := by decide +kernel
theorem i_158_12 : a_ins 158 12 = some (.iconst 0, (0, 0, 0)) := by decide +kernel
theorem i_158_13 : a_ins 158 13 = some (.ireturn, (0, 0, 0)) := by decide +kernel
theorem i_158_14 : a_ins 158 14 = some (.aload_n 0, (0, 0, 0)) := by decide +kernel
theorem i_158_15 : a_ins 158 15 = some (.iload_n 1, (0, 0, 0)) := by decide +kernel
theorem i_158_16 : a_ins 158 16 = some (.putfield 146, (11, 45, 1251)) := by decide +kernel
theorem i_158_19 : a_ins 158 19 = some (.aload_n 0, (0, 0, 0)) := by decide +kernel
theorem i_158_20 : a_ins 158 20 = some (.iconst 0, (0, 0, 0)) := by decide +kernel
theorem i_158_21 : a_ins 158 21 = some (.putfield 236, (11, 53, 1259)) := by decide +kernel
theorem i_158_24 : a_ins 158 24 = some (.iconst 1, (0, 0, 0)) := by decide +kernel
theorem i_158_25 : a_ins 158 25 = some (.ireturn, (0, 0, 0)) := by decide +kernel
theorem i_159_0 : a_ins 159 0 = some (.aload_n 0, (0, 0, 0)) := by decide +kernel
theorem i_159_1 : a_ins 159 1 = some (.iload_n 1, (0, 0, 0)) := by decide +kernel
theorem i_159_2 : a_ins 159 2 = some (.invokevirtual 383, (0, 160, 1)) := by decide +kernel
theorem i_159_5 : a_ins 159 5 = some (.ifCond .ne 5, (0, 0, 0)) := by decide +kernel
theorem i_159_8 : a_ins 159 8 = some (.iconst (-1), (0, 0, 0)) := by decide +kernel
theorem i_159_9 : a_ins 159 9 = some (.ireturn, (0, 0, 0)) := by decide +kernel
theorem i_159_10 : a_ins 159 10 = some (.aload_n 0, (0, 0, 0)) := by decide +kernel
theorem i_159_11 : a_ins 159 11 = some (.invokevirtual 386, (0, 161, 0)) := by decide +kernel
theorem i_159_14 : a_ins 159 14 = some (.aload_n 0, (0, 0, 0)) := by decide +kernel
theorem i_159_15 : a_ins 159 15 = some (.getfield 152, (11, 47, 1253)) := by decide +kernel
theorem i_159_18 : a_ins 159 18 = some (.iload_n 1, (0, 0, 0)) := by decide +kernel
theorem i_159_19 : a_ins 159 19 = some (.iaload, (0, 0, 0)) := by decide +kernel
theorem i_159_20 : a_ins 159 20 = some (.ireturn, (0, 0, 0)) := by decide +kernel
theorem i_160_0 : a_ins 160 0 = some (.iload_n 1, (0, 0, 0)) := by decide +kernel
theorem i_160_1 : a_ins 160 1 = some (.ifCond .lt 15, (0, 0, 0)) := by decide +kernel
theorem i_160_4 : a_ins 160 4 = some (.iload_n 1, (0, 0, 0)) := by decide +kernel
theorem i_160_5 : a_ins 160 5 = some (.aload_n 0, (0, 0, 0)) := by decide +kernel
theorem i_160_6 : a_ins 160 6 = some (.getfield 224, (11, 38, 1244)) := by decide +kernel
theorem i_160_9 : a_ins 160 9 = some (.if_icmp .ge 7, (0, 0, 0)) := by decide +kernel
theorem i_160_12 : a_ins 160 12 = some (.iconst 1, (0, 0, 0)) := by decide +kernel
theorem i_160_13 : a_ins 160 13 = some (.goto 4, (0, 0, 0)) := by decide +kernel
theorem i_160_16 : a_ins 160 16 = some (.iconst 0, (0, 0, 0)) := by decide +kernel
theorem i_160_17 : a_ins 160 17 = some (.ireturn, (0, 0, 0)) := by decide +kernel
theorem i_161_0 : a_ins 161 0 = some (.aload_n 0, (0, 0, 0)) := by decide +kernel
theorem i_161_1 : a_ins 161 1 = some (.getfield 236, (11, 53, 1259)) := by decide +kernel
theorem i_161_4 : a_ins 161 4 = some (.ifCond .eq 4, (0, 0, 0)) := by decide +kernel
theorem i_161_7 : a_ins 161 7 = some (.return_, (0, 0, 0)) := by decide +kernel
theorem i_161_8 : a_ins 161 8 = some (.iconst 0, (0, 0, 0)) := by decide +kernel
