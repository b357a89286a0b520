theorem i_191_38 : a_ins 191 38 = some (.iload_n 2, (0, 0, 0)) := by decide +kernel
theorem i_191_39 : a_ins 191 39 = some (.iload_n 3, (0, 0, 0)) := by decide +kernel
theorem i_191_40 : a_ins 191 40 = some (.ifCond .ne 7, (0, 0, 0)) := by decide +kernel
theorem i_191_43 : a_ins 191 43 = some (.iconst 0, (0, 0, 0)) := by decide +kernel
theorem i_191_44 : a_ins 191 44 = some (.goto 34, (0, 0, 0)) := by decide +kernel
theorem i_191_47 : a_ins 191 47 = some (.aload_n 0, (0, 0, 0)) := by decide +kernel
theorem i_191_48 : a_ins 191 48 = some (.aload_n 0, (0, 0, 0)) := by decide +kernel
theorem i_191_49 : a_ins 191 49 = some (.getfield 155, (11, 48, 1254)) := by decide +kernel
theorem i_191_52 : a_ins 191 52 = some (.bipush 13, (0, 0, 0)) := by decide +kernel
theorem i_191_54 : a_ins 191 54 = some (.iload_n 3, (0, 0, 0)) := by decide +kernel
theorem i_191_55 : a_ins 191 55 = some (.iconst 1, (0, 0, 0)) := by decide +kernel
theorem i_191_56 : a_ins 191 56 = some (.isub, (0, 0, 0)) := by decide +kernel
theorem i_191_57 : a_ins 191 57 = some (.imul, (0, 0, 0)) := by decide +kernel
theorem i_191_58 : a_ins 191 58 = some (.aload_n 0, (0, 0, 0)) := by decide +kernel
theorem i_191_59 : a_ins 191 59 = some (.getfield 179, (11, 60, 1266)) := by decide +kernel
theorem i_191_62 : a_ins 191 62 = some (.iload_n 3, (0, 0, 0)) := by decide +kernel
theorem i_191_63 : a_ins 191 63 = some (.iconst 1, (0, 0, 0)) := by decide +kernel
theorem i_191_64 : a_ins 191 64 = some (.isub, (0, 0, 0)) := by decide +kernel
theorem i_191_65 : a_ins 191 65 = some (.iaload, (0, 0, 0)) := by decide +kernel
theorem i_191_66 : a_ins 191 66 = some (.iadd, (0, 0, 0)) := by decide +kernel
theorem i_191_67 : a_ins 191 67 = some (.iaload, (0, 0, 0)) := by decide +kernel
theorem i_191_68 : a_ins 191 68 = some (.aload_n 0, (0, 0, 0)) := by decide +kernel
theorem i_191_69 : a_ins 191 69 = some (.getfield 155, (11, 48, 1254)) := by decide +kernel
theorem i_191_72 : a_ins 191 72 = some (.iload 4, (0, 0, 0)) := by decide +kernel
theorem i_191_74 : a_ins 191 74 = some (.iaload, (0, 0, 0)) := by decide +kernel
theorem i_191_75 : a_ins 191 75 = some (.invokevirtual 374, (0, 181, 2)) := by decide +kernel
theorem i_191_78 : a_ins 191 78 = some (.aload_n 0, (0, 0, 0)) := by decide +kernel
theorem i_191_79 : a_ins 191 79 = some (.getfield 158, (11, 49, 1255)) := by decide +kernel
theorem i_191_82 : a_ins 191 82 = some (.iload 4, (0, 0, 0)) := by decide +kernel
theorem i_191_84 : a_ins 191 84 = some (.iaload, (0, 0, 0)) := by decide +kernel
theorem i_191_85 : a_ins 191 85 = some (.iadd, (0, 0, 0)) := by decide +kernel
theorem i_191_86 : a_ins 191 86 = some (.iadd, (0, 0, 0)) := by decide +kernel
theorem i_191_87 : a_ins 191 87 = some (.istore_n 2, (0, 0, 0)) := by decide +kernel
theorem i_191_88 : a_ins 191 88 = some (.iload_n 1, (0, 0, 0)) := by decide +kernel
theorem i_191_89 : a_ins 191 89 = some (.aload_n 0, (0, 0, 0)) := by decide +kernel
theorem i_191_90 : a_ins 191 90 = some (.iload 4, (0, 0, 0)) := by decide +kernel
theorem i_191_92 : a_ins 191 92 = some (.invokevirtual 371, (0, 179, 1)) := by decide +kernel
theorem i_191_95 : a_ins 191 95 = some (.iadd, (0, 0, 0)) := by decide +kernel
theorem i_191_96 : a_ins 191 96 = some (.istore_n 1, (0, 0, 0)) := by decide +kernel
theorem i_191_97 : a_ins 191 97 = some (.aload_n 0, (0, 0, 0)) := by decide +kernel
theorem i_191_98 : a_ins 191 98 = some (.getfield 179, (11, 60, 1266)) := by decide +kernel
theorem i_191_101 : a_ins 191 101 = some (.iload_n 3, (0, 0, 0)) := by decide +kernel
theorem i_191_102 : a_ins 191 102 = some (.iload 4, (0, 0, 0)) := by decide +kernel
theorem i_191_104 : a_ins 191 104 = some (.bipush 13, (0, 0, 0)) := by decide +kernel
theorem i_191_106 : a_ins 191 106 = some (.iload_n 3, (0, 0, 0)) := by decide +kernel
theorem i_191_107 : a_ins 191 107 = some (.imul, (0, 0, 0)) := by decide +kernel
theorem i_191_108 : a_ins 191 108 = some (.isub, (0, 0, 0)) := by decide +kernel
theorem i_191_109 : a_ins 191 109 = some (.iastore, (0, 0, 0)) := by decide +kernel
theorem i_191_110 : a_ins 191 110 = some (.iinc 3 1, (0, 0, 0)) := by decide +kernel
theorem i_191_113 : a_ins 191 113 = some (.goto (-107), (0, 0, 0)) := by decide +kernel
theorem i_191_116 : a_ins 191 116 = some (.return_, (0, 0, 0)) := by decide +kernel
theorem i_192_0 : a_ins 192 0 = some (.aload_n 0, (0, 0, 0)) := by decide +kernel
theorem i_192_1 : a_ins 192 1 = some (.getfield 348, (11, 56, 1262)) := by decide +kernel
theorem i_192_4 : a_ins 192 4 = some (.iload_n 3, (0, 0, 0)) := by decide +kernel
theorem i_192_5 : a_ins 192 5 = some (.isub, (0, 0, 0)) := by decide +kernel
theorem i_192_6 : a_ins 192 6 = some (.aload_n 0, (0, 0, 0)) := by decide +kernel
theorem i_192_7 : a_ins 192 7 = some (.iload_n 2, (0, 0, 0)) := by decide +kernel
theorem i_192_8 : a_ins 192 8 = some (.invokevirtual 371, (0, 179, 1)) := by decide +kernel
theorem i_192_11 : a_ins 192 11 = some (.isub, (0, 0, 0)) := by decide +kernel
theorem i_192_12 : a_ins 192 12 = some (.istore 5, (0, 0, 0)) := by decide +kernel
theorem i_192_14 : a_ins 192 14 = some (.iload 5, (0, 0, 0)) := by decide +kernel
theorem i_192_16 : a_ins 192 16 = some (.ifCond .lt 11, (0, 0, 0)) := by decide +kernel
theorem i_192_19 : a_ins 192 19 = some (.iload 5, (0, 0, 0)) := by decide +kernel
theorem i_192_21 : a_ins 192 21 = some (.sipush 169, (0, 0, 0)) := by decide +kernel
theorem i_192_24 : a_ins 192 24 = some (.if_icmp .lt 5, (0, 0, 0)) := by decide +kernel
theorem i_192_27 : a_ins 192 27 = some (.iconst 0, (0, 0, 0)) := by decide +kernel
theorem i_192_28 : a_ins 192 28 = some (.ireturn, (0, 0, 0)) := by decide +kernel
theorem i_192_29 : a_ins 192 29 = some (.iload_n 1, (0, 0, 0)) := by decide +kernel
theorem i_192_30 : a_ins 192 30 = some (.ifCond .ne 7, (0, 0, 0)) := by decide +kernel
theorem i_192_33 : a_ins 192 33 = some (.iconst 0, (0, 0, 0)) := by decide +kernel
theorem i_192_34 : a_ins 192 34 = some (.goto 33, (0, 0, 0)) := by decide +kernel
theorem i_192_37 : a_ins 192 37 = some (.aload_n 0, (0, 0, 0)) := by decide +kernel
theorem i_192_38 : a_ins 192 38 = some (.aload_n 0, (0, 0, 0)) := by decide +kernel
theorem i_192_39 : a_ins 192 39 = some (.getfield 155, (11, 48, 1254)) := by decide +kernel
theorem i_192_42 : a_ins 192 42 = some (.bipush 13, (0, 0, 0)) := by decide +kernel
theorem i_192_44 : a_ins 192 44 = some (.iload_n 1, (0, 0, 0)) := by decide +kernel
theorem i_192_45 : a_ins 192 45 = some (.iconst 1, (0, 0, 0)) := by decide +kernel
theorem i_192_46 : a_ins 192 46 = some (.isub, (0, 0, 0)) := by decide +kernel
theorem i_192_47 : a_ins 192 47 = some (.imul, (0, 0, 0)) := by decide +kernel
theorem i_192_48 : a_ins 192 48 = some (.aload_n 0, (0, 0, 0)) := by decide +kernel
theorem i_192_49 : a_ins 192 49 = some (.getfield 179, (11, 60, 1266)) := by decide +kernel
theorem i_192_52 : a_ins 192 52 = some (.iload_n 1, (0, 0, 0)) := by decide +kernel
theorem i_192_53 : a_ins 192 53 = some (.iconst 1, (0, 0, 0)) := by decide +kernel
theorem i_192_54 : a_ins 192 54 = some (.isub, (0, 0, 0)) := by decide +kernel
theorem i_192_55 : a_ins 192 55 = some (.iaload, (0, 0, 0)) := by decide +kernel
theorem i_192_56 : a_ins 192 56 = some (.iadd, (0, 0, 0)) := by decide +kernel
theorem i_192_57 : a_ins 192 57 = some (.iaload, (0, 0, 0)) := by decide +kernel
theorem i_192_58 : a_ins 192 58 = some (.aload_n 0, (0, 0, 0)) := by decide +kernel
theorem i_192_59 : a_ins 192 59 = some (.getfield 155, (11, 48, 1254)) := by decide +kernel
theorem i_192_62 : a_ins 192 62 = some (.iload_n 2, (0, 0, 0)) := by decide +kernel
theorem i_192_63 : a_ins 192 63 = some (.iaload, (0, 0, 0)) := by decide +kernel
theorem i_192_64 : a_ins 192 64 = some (.invokevirtual 374, (0, 181, 2)) := by decide +kernel
theorem i_192_67 : a_ins 192 67 = some (.istore 6, (0, 0, 0)) := by decide +kernel
theorem i_192_69 : a_ins 192 69 = some (.iload 4, (0, 0, 0)) := by decide +kernel
theorem i_192_71 : a_ins 192 71 = some (.iload 6, (0, 0, 0)) := by decide +kernel
theorem i_192_73 : a_ins 192 73 = some (.iadd, (0, 0, 0)) := by decide +kernel
theorem i_192_74 : a_ins 192 74 = some (.aload_n 0, (0, 0, 0)) := by decide +kernel
theorem i_192_75 : a_ins 192 75 = some (.getfield 158, (11, 49, 1255)) := by decide +kernel
theorem i_192_78 : a_ins 192 78 = some (.iload_n 2, (0, 0, 0)) := by decide +kernel
theorem i_192_79 : a_ins 192 79 = some (.iaload, (0, 0, 0)) := by decide +kernel
theorem i_192_80 : a_ins 192 80 = some (.iadd, (0, 0, 0)) := by decide +kernel
theorem i_192_81 : a_ins 192 81 = some (.aload_n 0, (0, 0, 0)) := by decide +kernel
theorem i_192_82 : a_ins 192 82 = some (.iload_n 1, (0, 0, 0)) := by decide +kernel
theorem i_192_83 : a_ins 192 83 = some (.iload_n 2, (0, 0, 0)) := by decide +kernel
theorem i_192_84 : a_ins 192 84 = some (.iload 5, (0, 0, 0)) := by decide +kernel
theorem i_192_86 : a_ins 192 86 = some (.invokevirtual 380, (0, 183, 3)) := by decide +kernel
theorem i_192_89 : a_ins 192 89 = some (.iadd, (0, 0, 0)) := by decide +kernel
theorem i_192_90 : a_ins 192 90 = some (.aload_n 0, (0, 0, 0)) := by decide +kernel
theorem i_192_91 : a_ins 192 91 = some (.getfield 364, (11, 57, 1263)) := by decide +kernel
theorem i_192_94 : a_ins 192 94 = some (.if_icmp .ne 7, (0, 0, 0)) := by decide +kernel
theorem i_192_97 : a_ins 192 97 = some (.iconst 1, (0, 0, 0)) := by decide +kernel
theorem i_192_98 : a_ins 192 98 = some (.goto 4, (0, 0, 0)) := by decide +kernel
theorem i_192_101 : a_ins 192 101 = some (.iconst 0, (0, 0, 0)) := by decide +kernel
theorem i_192_102 : a_ins 192 102 = some (.ireturn, (0, 0, 0)) := by decide +kernel
theorem i_193_0 : a_ins 193 0 = some (.iload_n 1, (0, 0, 0)) := by decide +kernel
theorem i_193_1 : a_ins 193 1 = some (.ifCond .lt 9, (0, 0, 0)) := by decide +kernel
theorem i_193_4 : a_ins 193 4 = some (.iload_n 1, (0, 0, 0)) := by decide +kernel
theorem i_193_5 : a_ins 193 5 = some (.bipush 100, (0, 0, 0)) := by decide +kernel
theorem i_193_7 : a_ins 193 7 = some (.if_icmp .le 7, (0, 0, 0)) := by decide +kernel
theorem i_193_10 : a_ins 193 10 = some (.ldc2_w 415, (0, 0, 1656)) := by decide +kernel
theorem i_193_13 : a_ins 193 13 = some (.lreturn, (0, 0, 0)) := by decide +kernel
theorem i_193_14 : a_ins 193 14 = some (.aload_n 0, (0, 0, 0)) := by decide +kernel
theorem i_193_15 : a_ins 193 15 = some (.invokevirtual 402, (0, 189, 0)) := by decide +kernel
theorem i_193_18 : a_ins 193 18 = some (.ifCond .ge 5, (0, 0, 0)) := by decide +kernel
theorem i_193_21 : a_ins 193 21 = some (.lconst 0, (0, 0, 0)) := by decide +kernel
theorem i_193_22 : a_ins 193 22 = some (.lreturn, (0, 0, 0)) := by decide +kernel
theorem i_193_23 : a_ins 193 23 = some (.aload_n 0, (0, 0, 0)) := by decide +kernel
theorem i_193_24 : a_ins 193 24 = some (.getfield 224, (11, 38, 1244)) := by decide +kernel
theorem i_193_27 : a_ins 193 27 = some (.ifCond .ne 5, (0, 0, 0)) := by decide +kernel
theorem i_193_30 : a_ins 193 30 = some (.lconst 1, (0, 0, 0)) := by decide +kernel
theorem i_193_31 : a_ins 193 31 = some (.lreturn, (0, 0, 0)) := by decide +kernel
theorem i_193_32 : a_ins 193 32 = some (.aload_n 0, (0, 0, 0)) := by decide +kernel
theorem i_193_33 : a_ins 193 33 = some (.iconst 0, (0, 0, 0)) := by decide +kernel
theorem i_193_34 : a_ins 193 34 = some (.invokevirtual 417, (0, 194, 1)) := by decide +kernel
theorem i_193_37 : a_ins 193 37 = some (.iconst 0, (0, 0, 0)) := by decide +kernel
theorem i_193_38 : a_ins 193 38 = some (.istore_n 2, (0, 0, 0)) := by decide +kernel
theorem i_193_39 : a_ins 193 39 = some (.iload_n 2, (0, 0, 0)) := by decide +kernel
theorem i_193_40 : a_ins 193 40 = some (.aload_n 0, (0, 0, 0)) := by decide +kernel
theorem i_193_41 : a_ins 193 41 = some (.getfield 152, (11, 47, 1253)) := by decide +kernel
theorem i_193_44 : a_ins 193 44 = some (.iconst 0, (0, 0, 0)) := by decide +kernel
theorem i_193_45 : a_ins 193 45 = some (.iaload, (0, 0, 0)) := by decide +kernel
theorem i_193_46 : a_ins 193 46 = some (.if_icmp .ge 15, (0, 0, 0)) := by decide +kernel
theorem i_193_49 : a_ins 193 49 = some (.aload_n 0, (0, 0, 0)) := by decide +kernel
theorem i_193_50 : a_ins 193 50 = some (.iload_n 2, (0, 0, 0)) := by decide +kernel
theorem i_193_51 : a_ins 193 51 = some (.iload_n 1, (0, 0, 0)) := by decide +kernel
theorem i_193_52 : a_ins 193 52 = some (.invokevirtual 420, (0, 196, 2)) := by decide +kernel
theorem i_193_55 : a_ins 193 55 = some (.iinc 2 1, (0, 0, 0)) := by decide +kernel
theorem i_193_58 : a_ins 193 58 = some (.goto (-19), (0, 0, 0)) := by decide +kernel
theorem i_193_61 : a_ins 193 61 = some (.iconst 1, (0, 0, 0)) := by decide +kernel
theorem i_193_62 : a_ins 193 62 = some (.istore_n 2, (0, 0, 0)) := by decide +kernel
theorem i_193_63 : a_ins 193 63 = some (.iload_n 2, (0, 0, 0)) := by decide +kernel
theorem i_193_64 : a_ins 193 64 = some (.aload_n 0, (0, 0, 0)) := by decide +kernel
theorem i_193_65 : a_ins 193 65 = some (.getfield 224, (11, 38, 1244)) := by decide +kernel
theorem i_193_68 : a_ins 193 68 = some (.if_icmp .ge 114, (0, 0, 0)) := by decide +kernel
theorem i_193_71 : a_ins 193 71 = some (.aload_n 0, (0, 0, 0)) := by decide +kernel
theorem i_193_72 : a_ins 193 72 = some (.iload_n 2, (0, 0, 0)) := by decide +kernel
theorem i_193_73 : a_ins 193 73 = some (.iconst 2, (0, 0, 0)) := by decide +kernel
theorem i_193_74 : a_ins 193 74 = some (.irem, (0, 0, 0)) := by decide +kernel
theorem i_193_75 : a_ins 193 75 = some (.invokevirtual 417, (0, 194, 1)) := by decide +kernel
theorem i_193_78 : a_ins 193 78 = some (.iconst 0, (0, 0, 0)) := by decide +kernel
theorem i_193_79 : a_ins 193 79 = some (.istore_n 3, (0, 0, 0)) := by decide +kernel
theorem i_193_80 : a_ins 193 80 = some (.iload_n 3, (0, 0, 0)) := by decide +kernel
theorem i_193_81 : a_ins 193 81 = some (.bipush 8, (0, 0, 0)) := by decide +kernel
theorem i_193_83 : a_ins 193 83 = some (.if_icmp .ge 93, (0, 0, 0)) := by decide +kernel
theorem i_193_86 : a_ins 193 86 = some (.iconst 0, (0, 0, 0)) := by decide +kernel
theorem i_193_87 : a_ins 193 87 = some (.istore 4, (0, 0, 0)) := by decide +kernel
theorem i_193_89 : a_ins 193 89 = some (.iload 4, (0, 0, 0)) := by decide +kernel
theorem i_193_91 : a_ins 193 91 = some (.sipush 169, (0, 0, 0)) := by decide +kernel
theorem i_193_94 : a_ins 193 94 = some (.if_icmp .ge 76, (0, 0, 0)) := by decide +kernel
theorem i_193_97 : a_ins 193 97 = some (.iload 4, (0, 0, 0)) := by decide +kernel
theorem i_193_99 : a_ins 193 99 = some (.aload_n 0, (0, 0, 0)) := by decide +kernel
theorem i_193_100 : a_ins 193 100 = some (.getfield 348, (11, 56, 1262)) := by decide +kernel
theorem i_193_103 : a_ins 193 103 = some (.if_icmp .gt 67, (0, 0, 0)) := by decide +kernel
theorem i_193_106 : a_ins 193 106 = some (.aload_n 0, (0, 0, 0)) := by decide +kernel
theorem i_193_107 : a_ins 193 107 = some (.iload_n 2, (0, 0, 0)) := by decide +kernel
theorem i_193_108 : a_ins 193 108 = some (.iconst 1, (0, 0, 0)) := by decide +kernel
theorem i_193_109 : a_ins 193 109 = some (.isub, (0, 0, 0)) := by decide +kernel
theorem i_193_110 : a_ins 193 110 = some (.iconst 2, (0, 0, 0)) := by decide +kernel
theorem i_193_111 : a_ins 193 111 = some (.irem, (0, 0, 0)) := by decide +kernel
theorem i_193_112 : a_ins 193 112 = some (.iload_n 3, (0, 0, 0)) := by decide +kernel
theorem i_193_113 : a_ins 193 113 = some (.iload 4, (0, 0, 0)) := by decide +kernel
theorem i_193_115 : a_ins 193 115 = some (.iload_n 1, (0, 0, 0)) := by decide +kernel
theorem i_193_116 : a_ins 193 116 = some (.invokevirtual 423, (0, 198, 4)) := by decide +kernel
theorem i_193_119 : a_ins 193 119 = some (.ifCond .ne 6, (0, 0, 0)) := by decide +kernel
theorem i_193_122 : a_ins 193 122 = some (.goto 42, (0, 0, 0)) := by decide +kernel
theorem i_193_125 : a_ins 193 125 = some (.bipush 13, (0, 0, 0)) := by decide +kernel
theorem i_193_127 : a_ins 193 127 = some (.iload_n 2, (0, 0, 0)) := by decide +kernel
theorem i_193_128 : a_ins 193 128 = some (.imul, (0, 0, 0)) := by decide +kernel
theorem i_193_129 : a_ins 193 129 = some (.istore 5, (0, 0, 0)) := by decide +kernel
theorem i_193_131 : a_ins 193 131 = some (.iload 5, (0, 0, 0)) := by decide +kernel
theorem i_193_133 : a_ins 193 133 = some (.bipush 13, (0, 0, 0)) := by decide +kernel
theorem i_193_135 : a_ins 193 135 = some (.iload_n 2, (0, 0, 0)) := by decide +kernel
theorem i_193_136 : a_ins 193 136 = some (.imul, (0, 0, 0)) := by decide +kernel
theorem i_193_137 : a_ins 193 137 = some (.aload_n 0, (0, 0, 0)) := by decide +kernel
theorem i_193_138 : a_ins 193 138 = some (.getfield 152, (11, 47, 1253)) := by decide +kernel
theorem i_193_141 : a_ins 193 141 = some (.iload_n 2, (0, 0, 0)) := by decide +kernel
theorem i_193_142 : a_ins 193 142 = some (.iaload, (0, 0, 0)) := by decide +kernel
theorem i_193_143 : a_ins 193 143 = some (.iadd, (0, 0, 0)) := by decide +kernel
theorem i_193_144 : a_ins 193 144 = some (.if_icmp .ge 20, (0, 0, 0)) := by decide +kernel
theorem i_193_147 : a_ins 193 147 = some (.aload_n 0, (0, 0, 0)) := by decide +kernel
theorem i_193_148 : a_ins 193 148 = some (.iload_n 2, (0, 0, 0)) := by decide +kernel
theorem i_193_149 : a_ins 193 149 = some (.iload 5, (0, 0, 0)) := by decide +kernel
theorem i_193_151 : a_ins 193 151 = some (.iload_n 3, (0, 0, 0)) := by decide +kernel
theorem i_193_152 : a_ins 193 152 = some (.iload 4, (0, 0, 0)) := by decide +kernel
theorem i_193_154 : a_ins 193 154 = some (.iload_n 1, (0, 0, 0)) := by decide +kernel
theorem i_193_155 : a_ins 193 155 = some (.invokevirtual 426, (0, 199, 5)) := by decide +kernel
theorem i_193_158 : a_ins 193 158 = some (.iinc 5 1, (0, 0, 0)) := by decide +kernel
theorem i_193_161 : a_ins 193 161 = some (.goto (-30), (0, 0, 0)) := by decide +kernel
theorem i_193_164 : a_ins 193 164 = some (.iinc 4 1, (0, 0, 0)) := by decide +kernel
theorem i_193_167 : a_ins 193 167 = some (.goto (-78), (0, 0, 0)) := by decide +kernel
theorem i_193_170 : a_ins 193 170 = some (.iinc 3 1, (0, 0, 0)) := by decide +kernel
theorem i_193_173 : a_ins 193 173 = some (.goto (-93), (0, 0, 0)) := by decide +kernel
theorem i_193_176 : a_ins 193 176 = some (.iinc 2 1, (0, 0, 0)) := by decide +kernel
theorem i_193_179 : a_ins 193 179 = some (.goto (-116), (0, 0, 0)) := by decide +kernel
theorem i_193_182 : a_ins 193 182 = some (.lconst 0, (0, 0, 0)) := by decide +kernel
theorem i_193_183 : a_ins 193 183 = some (.lstore_n 2, (0, 0, 0)) := by decide +kernel
theorem i_193_184 : a_ins 193 184 = some (.iconst 0, (0, 0, 0)) := by decide +kernel
theorem i_193_185 : a_ins 193 185 = some (.istore 4, (0, 0, 0)) := by decide +kernel
theorem i_193_187 : a_ins 193 187 = some (.iload 4, (0, 0, 0)) := by decide +kernel
theorem i_193_189 : a_ins 193 189 = some (.bipush 8, (0, 0, 0)) := by decide +kernel
theorem i_193_191 : a_ins 193 191 = some (.if_icmp .ge 51, (0, 0, 0)) := by decide +kernel
theorem i_193_194 : a_ins 193 194 = some (.iconst 0, (0, 0, 0)) := by decide +kernel
theorem i_193_195 : a_ins 193 195 = some (.istore 5, (0, 0, 0)) := by decide +kernel
theorem i_193_197 : a_ins 193 197 = some (.iload 5, (0, 0, 0)) := by decide +kernel
theorem i_193_199 : a_ins 193 199 = some (.iload_n 1, (0, 0, 0)) := by decide +kernel
theorem i_193_200 : a_ins 193 200 = some (.if_icmp .gt 36, (0, 0, 0)) := by decide +kernel
theorem i_193_203 : a_ins 193 203 = some (.lload_n 2, (0, 0, 0)) := by decide +kernel
theorem i_193_204 : a_ins 193 204 = some (.aload_n 0, (0, 0, 0)) := by decide +kernel
theorem i_193_205 : a_ins 193 205 = some (.getfield 183, (11, 61, 1267)) := by decide +kernel
theorem i_193_208 : a_ins 193 208 = some (.aload_n 0, (0, 0, 0)) := by decide +kernel
theorem i_193_209 : a_ins 193 209 = some (.getfield 224, (11, 38, 1244)) := by decide +kernel
theorem i_193_212 : a_ins 193 212 = some (.iconst 1, (0, 0, 0)) := by decide +kernel
theorem i_193_213 : a_ins 193 213 = some (.isub, (0, 0, 0)) := by decide +kernel
theorem i_193_214 : a_ins 193 214 = some (.iconst 2, (0, 0, 0)) := by decide +kernel
theorem i_193_215 : a_ins 193 215 = some (.irem, (0, 0, 0)) := by decide +kernel
theorem i_193_216 : a_ins 193 216 = some (.iload 4, (0, 0, 0)) := by decide +kernel
theorem i_193_218 : a_ins 193 218 = some (.aload_n 0, (0, 0, 0)) := by decide +kernel
theorem i_193_219 : a_ins 193 219 = some (.getfield 348, (11, 56, 1262)) := by decide +kernel
theorem i_193_222 : a_ins 193 222 = some (.iload 5, (0, 0, 0)) := by decide +kernel
theorem i_193_224 : a_ins 193 224 = some (.invokestatic 408, (1, 195, 4)) := by decide +kernel
theorem i_193_227 : a_ins 193 227 = some (.laload, (0, 0, 0)) := by decide +kernel
theorem i_193_228 : a_ins 193 228 = some (.ladd, (0, 0, 0)) := by decide +kernel
theorem i_193_229 : a_ins 193 229 = some (.lstore_n 2, (0, 0, 0)) := by decide +kernel
theorem i_193_230 : a_ins 193 230 = some (.iinc 5 1, (0, 0, 0)) := by decide +kernel
theorem i_193_233 : a_ins 193 233 = some (.goto (-36), (0, 0, 0)) := by decide +kernel
theorem i_193_236 : a_ins 193 236 = some (.iinc 4 1, (0, 0, 0)) := by decide +kernel
theorem i_193_239 : a_ins 193 239 = some (.goto (-52), (0, 0, 0)) := by decide +kernel
theorem i_193_242 : a_ins 193 242 = some (.lload_n 2, (0, 0, 0)) := by decide +kernel
theorem i_193_243 : a_ins 193 243 = some (.lreturn, (0, 0, 0)) := by decide +kernel
theorem i_194_0 : a_ins 194 0 = some (.iload_n 1, (0, 0, 0)) := by decide +kernel
theorem i_194_1 : a_ins 194 1 = some (.iconst 0, (0, 0, 0)) := by decide +kernel
theorem i_194_2 : a_ins 194 2 = some (.iconst 0, (0, 0, 0)) := by decide +kernel
theorem i_194_3 : a_ins 194 3 = some (.iconst 0, (0, 0, 0)) := by decide +kernel
theorem i_194_4 : a_ins 194 4 = some (.invokestatic 408, (1, 195, 4)) := by decide +kernel
theorem i_194_7 : a_ins 194 7 = some (.istore_n 2, (0, 0, 0)) := by decide +kernel
theorem i_194_8 : a_ins 194 8 = some (.iload_n 2, (0, 0, 0)) := by decide +kernel
theorem i_194_9 : a_ins 194 9 = some (.iload_n 1, (0, 0, 0)) := by decide +kernel
theorem i_194_10 : a_ins 194 10 = some (.iconst 0, (0, 0, 0)) := by decide +kernel
theorem i_194_11 : a_ins 194 11 = some (.iconst 0, (0, 0, 0)) := by decide +kernel
theorem i_194_12 : a_ins 194 12 = some (.iconst 0, (0, 0, 0)) := by decide +kernel
theorem i_194_13 : a_ins 194 13 = some (.invokestatic 408, (1, 195, 4)) := by decide +kernel
theorem i_194_16 : a_ins 194 16 = some (.ldc_w 411, (0, 2, 1664)) := by decide +kernel
theorem i_194_19 : a_ins 194 19 = some (.iadd, (0, 0, 0)) := by decide +kernel
theorem i_194_20 : a_ins 194 20 = some (.if_icmp .ge 16, (0, 0, 0)) := by decide +kernel
theorem i_194_23 : a_ins 194 23 = some (.aload_n 0, (0, 0, 0)) := by decide +kernel
theorem i_194_24 : a_ins 194 24 = some (.getfield 183, (11, 61, 1267)) := by decide +kernel
theorem i_194_27 : a_ins 194 27 = some (.iload_n 2, (0, 0, 0)) := by decide +kernel
theorem i_194_28 : a_ins 194 28 = some (.lconst 0, (0, 0, 0)) := by decide +kernel
theorem i_194_29 : a_ins 194 29 = some (.lastore, (0, 0, 0)) := by decide +kernel
theorem i_194_30 : a_ins 194 30 = some (.iinc 2 1, (0, 0, 0)) := by decide +kernel
theorem i_194_33 : a_ins 194 33 = some (.goto (-25), (0, 0, 0)) := by decide +kernel
theorem i_194_36 : a_ins 194 36 = some (.return_, (0, 0, 0)) := by decide +kernel
theorem i_195_0 : a_ins 195 0 = some (.iload_n 0, (0, 0, 0)) := by decide +kernel
theorem i_195_1 : a_ins 195 1 = some (.bipush 8, (0, 0, 0)) := by decide +kernel
theorem i_195_3 : a_ins 195 3 = some (.imul, (0, 0, 0)) := by decide +kernel
theorem i_195_4 : a_ins 195 4 = some (.iload_n 1, (0, 0, 0)) := by decide +kernel
theorem i_195_5 : a_ins 195 5 = some (.iadd, (0, 0, 0)) := by decide +kernel
theorem i_195_6 : a_ins 195 6 = some (.sipush 169, (0, 0, 0)) := by decide +kernel
theorem i_195_9 : a_ins 195 9 = some (.imul, (0, 0, 0)) := by decide +kernel
theorem i_195_10 : a_ins 195 10 = some (.iload_n 2, (0, 0, 0)) := by decide +kernel
theorem i_195_11 : a_ins 195 11 = some (.iadd, (0, 0, 0)) := by decide +kernel
theorem i_195_12 : a_ins 195 12 = some (.bipush 101, (0, 0, 0)) := by decide +kernel
theorem i_195_14 : a_ins 195 14 = some (.imul, (0, 0, 0)) := by decide +kernel
theorem i_195_15 : a_ins 195 15 = some (.iload_n 3, (0, 0, 0)) := by decide +kernel
theorem i_195_16 : a_ins 195 16 = some (.iadd, (0, 0, 0)) := by decide +kernel
theorem i_195_17 : a_ins 195 17 = some (.ireturn, (0, 0, 0)) := by decide +kernel
theorem i_196_0 : a_ins 196 0 = some (.aload_n 0, (0, 0, 0)) := by decide +kernel
theorem i_196_1 : a_ins 196 1 = some (.iload_n 1, (0, 0, 0)) := by decide +kernel
theorem i_196_2 : a_ins 196 2 = some (.invokevirtual 371, (0, 179, 1)) := by decide +kernel
theorem i_196_5 : a_ins 196 5 = some (.istore_n 3, (0, 0, 0)) := by decide +kernel
theorem i_196_6 : a_ins 196 6 = some (.aload_n 0, (0, 0, 0)) := by decide +kernel
theorem i_196_7 : a_ins 196 7 = some (.getfield 348, (11, 56, 1262)) := by decide +kernel
theorem i_196_10 : a_ins 196 10 = some (.iload_n 3, (0, 0, 0)) := by decide +kernel
theorem i_196_11 : a_ins 196 11 = some (.isub, (0, 0, 0)) := by decide +kernel
theorem i_196_12 : a_ins 196 12 = some (.istore 4, (0, 0, 0)) := by decide +kernel
theorem i_196_14 : a_ins 196 14 = some (.iload 4, (0, 0, 0)) := by decide +kernel
theorem i_196_16 : a_ins 196 16 = some (.ifCond .lt 22, (0, 0, 0)) := by decide +kernel
theorem i_196_19 : a_ins 196 19 = some (.aload_n 0, (0, 0, 0)) := by decide +kernel
theorem i_196_20 : a_ins 196 20 = some (.iconst 0, (0, 0, 0)) := by decide +kernel
theorem i_196_21 : a_ins 196 21 = some (.aload_n 0, (0, 0, 0)) := by decide +kernel
theorem i_196_22 : a_ins 196 22 = some (.getfield 155, (11, 48, 1254)) := by decide +kernel
theorem i_196_25 : a_ins 196 25 = some (.iload_n 1, (0, 0, 0)) := by decide +kernel
theorem i_196_26 : a_ins 196 26 = some (.iaload, (0, 0, 0)) := by decide +kernel
theorem i_196_27 : a_ins 196 27 = some (.iload 4, (0, 0, 0)) := by decide +kernel
theorem i_196_29 : a_ins 196 29 = some (.invokevirtual 412, (0, 197, 3)) := by decide +kernel
theorem i_196_32 : a_ins 196 32 = some (.ldc_w 337, (0, 4, 1583)) := by decide +kernel
theorem i_196_35 : a_ins 196 35 = some (.if_icmp .lt 4, (0, 0, 0)) := by decide +kernel
theorem i_196_38 : a_ins 196 38 = some (.return_, (0, 0, 0)) := by decide +kernel
theorem i_196_39 : a_ins 196 39 = some (.aload_n 0, (0, 0, 0)) := by decide +kernel
theorem i_196_40 : a_ins 196 40 = some (.getfield 158, (11, 49, 1255)) := by decide +kernel
theorem i_196_43 : a_ins 196 43 = some (.iload_n 1, (0, 0, 0)) := by decide +kernel
theorem i_196_44 : a_ins 196 44 = some (.iaload, (0, 0, 0)) := by decide +kernel
theorem i_196_45 : a_ins 196 45 = some (.aload_n 0, (0, 0, 0)) := by decide +kernel
theorem i_196_46 : a_ins 196 46 = some (.iconst 0, (0, 0, 0)) := by decide +kernel
theorem i_196_47 : a_ins 196 47 = some (.aload_n 0, (0, 0, 0)) := by decide +kernel
theorem i_196_48 : a_ins 196 48 = some (.getfield 155, (11, 48, 1254)) := by decide +kernel
theorem i_196_51 : a_ins 196 51 = some (.iload_n 1, (0, 0, 0)) := by decide +kernel
theorem i_196_52 : a_ins 196 52 = some (.iaload, (0, 0, 0)) := by decide +kernel
theorem i_196_53 : a_ins 196 53 = some (.iload 4, (0, 0, 0)) := by decide +kernel
theorem i_196_55 : a_ins 196 55 = some (.invokevirtual 412, (0, 197, 3)) := by decide +kernel
theorem i_196_58 : a_ins 196 58 = some (.iadd, (0, 0, 0)) := by decide +kernel
theorem i_196_59 : a_ins 196 59 = some (.aload_n 0, (0, 0, 0)) := by decide +kernel
theorem i_196_60 : a_ins 196 60 = some (.getfield 364, (11, 57, 1263)) := by decide +kernel
theorem i_196_63 : a_ins 196 63 = some (.isub, (0, 0, 0)) := by decide +kernel
theorem i_196_64 : a_ins 196 64 = some (.istore 5, (0, 0, 0)) := by decide +kernel
theorem i_196_66 : a_ins 196 66 = some (.iload 5, (0, 0, 0)) := by decide +kernel
theorem i_196_68 : a_ins 196 68 = some (.iload_n 2, (0, 0, 0)) := by decide +kernel
theorem i_196_69 : a_ins 196 69 = some (.if_icmp .gt 25, (0, 0, 0)) := by decide +kernel
theorem i_196_72 : a_ins 196 72 = some (.aload_n 0, (0, 0, 0)) := by decide +kernel
theorem i_196_73 : a_ins 196 73 = some (.getfield 183, (11, 61, 1267)) := by decide +kernel
theorem i_196_76 : a_ins 196 76 = some (.iconst 0, (0, 0, 0)) := by decide +kernel
theorem i_196_77 : a_ins 196 77 = some (.aload_n 0, (0, 0, 0)) := by decide +kernel
theorem i_196_78 : a_ins 196 78 = some (.getfield 155, (11, 48, 1254)) := by decide +kernel
theorem i_196_81 : a_ins 196 81 = some (.iload_n 1, (0, 0, 0)) := by decide +kernel
theorem i_196_82 : a_ins 196 82 = some (.iaload, (0, 0, 0)) := by decide +kernel
theorem i_196_83 : a_ins 196 83 = some (.iload_n 3, (0, 0, 0)) := by decide +kernel
theorem i_196_84 : a_ins 196 84 = some (.iload 5, (0, 0, 0)) := by decide +kernel
theorem i_196_86 : a_ins 196 86 = some (.invokestatic 408, (1, 195, 4)) := by decide +kernel
theorem i_196_89 : a_ins 196 89 = some (.dup2, (0, 0, 0)) := by decide +kernel
theorem i_196_90 : a_ins 196 90 = some (.laload, (0, 0, 0)) := by decide +kernel
theorem i_196_91 : a_ins 196 91 = some (.lconst 1, (0, 0, 0)) := by decide +kernel
theorem i_196_92 : a_ins 196 92 = some (.ladd, (0, 0, 0)) := by decide +kernel
theorem i_196_93 : a_ins 196 93 = some (.lastore, (0, 0, 0)) := by decide +kernel
theorem i_196_94 : a_ins 196 94 = some (.return_, (0, 0, 0)) := by decide +kernel
theorem i_197_0 : a_ins 197 0 = some (.iload_n 1, (0, 0, 0)) := by decide +kernel
theorem i_197_1 : a_ins 197 1 = some (.aload_n 0, (0, 0, 0)) := by decide +kernel
theorem i_197_2 : a_ins 197 2 = some (.getfield 224, (11, 38, 1244)) := by decide +kernel
theorem i_197_5 : a_ins 197 5 = some (.iconst 1, (0, 0, 0)) := by decide +kernel
theorem i_197_6 : a_ins 197 6 = some (.isub, (0, 0, 0)) := by decide +kernel
theorem i_197_7 : a_ins 197 7 = some (.if_icmp .ne 15, (0, 0, 0)) := by decide +kernel
theorem i_197_10 : a_ins 197 10 = some (.iload_n 3, (0, 0, 0)) := by decide +kernel
theorem i_197_11 : a_ins 197 11 = some (.ifCond .ne 7, (0, 0, 0)) := by decide +kernel
theorem i_197_14 : a_ins 197 14 = some (.iconst 0, (0, 0, 0)) := by decide +kernel
theorem i_197_15 : a_ins 197 15 = some (.goto 6, (0, 0, 0)) := by decide +kernel
theorem i_197_18 : a_ins 197 18 = some (.ldc_w 337, (0, 4, 1583)) := by decide +kernel
theorem i_197_21 : a_ins 197 21 = some (.ireturn, (0, 0, 0)) := by decide +kernel
theorem i_197_22 : a_ins 197 22 = some (.ldc_w 337, (0, 4, 1583)) := by decide +kernel
theorem i_197_25 : a_ins 197 25 = some (.istore 4, (0, 0, 0)) := by decide +kernel
theorem i_197_27 : a_ins 197 27 = some (.iconst 0, (0, 0, 0)) := by decide +kernel
theorem i_197_28 : a_ins 197 28 = some (.istore 5, (0, 0, 0)) := by decide +kernel
theorem i_197_30 : a_ins 197 30 = some (.iload 5, (0, 0, 0)) := by decide +kernel
theorem i_197_32 : a_ins 197 32 = some (.bipush 8, (0, 0, 0)) := by decide +kernel
theorem i_197_34 : a_ins 197 34 = some (.if_icmp .ge 60, (0, 0, 0)) := by decide +kernel
theorem i_197_37 : a_ins 197 37 = some (.iload_n 3, (0, 0, 0)) := by decide +kernel
theorem i_197_38 : a_ins 197 38 = some (.ifCond .lt 56, (0, 0, 0)) := by decide +kernel
theorem i_197_41 : a_ins 197 41 = some (.iload_n 3, (0, 0, 0)) := by decide +kernel
theorem i_197_42 : a_ins 197 42 = some (.sipush 169, (0, 0, 0)) := by decide +kernel
theorem i_197_45 : a_ins 197 45 = some (.if_icmp .ge 49, (0, 0, 0)) := by decide +kernel
theorem i_197_48 : a_ins 197 48 = some (.aload_n 0, (0, 0, 0)) := by decide +kernel
theorem i_197_49 : a_ins 197 49 = some (.getfield 173, (11, 55, 1261)) := by decide +kernel
theorem i_197_52 : a_ins 197 52 = some (.iload_n 1, (0, 0, 0)) := by decide +kernel
theorem i_197_53 : a_ins 197 53 = some (.iconst 1, (0, 0, 0)) := by decide +kernel
theorem i_197_54 : a_ins 197 54 = some (.iadd, (0, 0, 0)) := by decide +kernel
theorem i_197_55 : a_ins 197 55 = some (.iload 5, (0, 0, 0)) := by decide +kernel
theorem i_197_57 : a_ins 197 57 = some (.iload_n 3, (0, 0, 0)) := by decide +kernel
theorem i_197_58 : a_ins 197 58 = some (.invokestatic 367, (1, 180, 3)) := by decide +kernel
theorem i_197_61 : a_ins 197 61 = some (.iaload, (0, 0, 0)) := by decide +kernel
theorem i_197_62 : a_ins 197 62 = some (.aload_n 0, (0, 0, 0)) := by decide +kernel
theorem i_197_63 : a_ins 197 63 = some (.iload_n 2, (0, 0, 0)) := by decide +kernel
theorem i_197_64 : a_ins 197 64 = some (.iload 5, (0, 0, 0)) := by decide +kernel
theorem i_197_66 : a_ins 197 66 = some (.invokevirtual 374, (0, 181, 2)) := by decide +kernel
theorem i_197_69 : a_ins 197 69 = some (.iadd, (0, 0, 0)) := by decide +kernel
theorem i_197_70 : a_ins 197 70 = some (.istore 6, (0, 0, 0)) := by decide +kernel
theorem i_197_72 : a_ins 197 72 = some (.iload 6, (0, 0, 0)) := by decide +kernel
theorem i_197_74 : a_ins 197 74 = some (.iload 4, (0, 0, 0)) := by decide +kernel
theorem i_197_76 : a_ins 197 76 = some (.if_icmp .ge 8, (0, 0, 0)) := by decide +kernel
theorem i_197_79 : a_ins 197 79 = some (.iload 6, (0, 0, 0)) := by decide +kernel
theorem i_197_81 : a_ins 197 81 = some (.goto 5, (0, 0, 0)) := by decide +kernel
theorem i_197_84 : a_ins 197 84 = some (.iload 4, (0, 0, 0)) := by decide +kernel
theorem i_197_86 : a_ins 197 86 = some (.istore 4, (0, 0, 0)) := by decide +kernel
theorem i_197_88 : a_ins 197 88 = some (.iinc 5 1, (0, 0, 0)) := by decide +kernel
theorem i_197_91 : a_ins 197 91 = some (.goto (-61), (0, 0, 0)) := by decide +kernel
theorem i_197_94 : a_ins 197 94 = some (.iload 4, (0, 0, 0)) := by decide +kernel
theorem i_197_96 : a_ins 197 96 = some (.ireturn, (0, 0, 0)) := by decide +kernel
theorem i_198_0 : a_ins 198 0 = some (.iconst 0, (0, 0, 0)) := by decide +kernel
theorem i_198_1 : a_ins 198 1 = some (.istore 5, (0, 0, 0)) := by decide +kernel
theorem i_198_3 : a_ins 198 3 = some (.iload 5, (0, 0, 0)) := by decide +kernel
theorem i_198_5 : a_ins 198 5 = some (.iload 4, (0, 0, 0)) := by decide +kernel
theorem i_198_7 : a_ins 198 7 = some (.if_icmp .gt 29, (0, 0, 0)) := by decide +kernel
theorem i_198_10 : a_ins 198 10 = some (.aload_n 0, (0, 0, 0)) := by decide +kernel
theorem i_198_11 : a_ins 198 11 = some (.getfield 183, (11, 61, 1267)) := by decide +kernel
theorem i_198_14 : a_ins 198 14 = some (.iload_n 1, (0, 0, 0)) := by decide +kernel
theorem i_198_15 : a_ins 198 15 = some (.iload_n 2, (0, 0, 0)) := by decide +kernel
theorem i_198_16 : a_ins 198 16 = some (.iload_n 3, (0, 0, 0)) := by decide +kernel
theorem i_198_17 : a_ins 198 17 = some (.iload 5, (0, 0, 0)) := by decide +kernel
theorem i_198_19 : a_ins 198 19 = some (.invokestatic 408, (1, 195, 4)) := by decide +kernel
theorem i_198_22 : a_ins 198 22 = some (.laload, (0, 0, 0)) := by decide +kernel
theorem i_198_23 : a_ins 198 23 = some (.lconst 0, (0, 0, 0)) := by decide +kernel
theorem i_198_24 : a_ins 198 24 = some (.lcmp, (0, 0, 0)) := by decide +kernel
theorem i_198_25 : a_ins 198 25 = some (.ifCond .eq 5, (0, 0, 0)) := by decide +kernel
theorem i_198_28 : a_ins 198 28 = some (.iconst 1, (0, 0, 0)) := by decide +kernel
theorem i_198_29 : a_ins 198 29 = some (.ireturn, (0, 0, 0)) := by decide +kernel
theorem i_198_30 : a_ins 198 30 = some (.iinc 5 1, (0, 0, 0)) := by decide +kernel
theorem i_198_33 : a_ins 198 33 = some (.goto (-30), (0, 0, 0)) := by decide +kernel
theorem i_198_36 : a_ins 198 36 = some (.iconst 0, (0, 0, 0)) := by decide +kernel
theorem i_198_37 : a_ins 198 37 = some (.ireturn, (0, 0, 0)) := by decide +kernel
theorem i_199_0 : a_ins 199 0 = some (.iload 4, (0, 0, 0)) := by decide +kernel
theorem i_199_2 : a_ins 199 2 = some (.aload_n 0, (0, 0, 0)) := by decide +kernel
theorem i_199_3 : a_ins 199 3 = some (.iload_n 2, (0, 0, 0)) := by decide +kernel
theorem i_199_4 : a_ins 199 4 = some (.invokevirtual 371, (0, 179, 1)) := by decide +kernel
theorem i_199_7 : a_ins 199 7 = some (.iadd, (0, 0, 0)) := by decide +kernel
theorem i_199_8 : a_ins 199 8 = some (.istore 6, (0, 0, 0)) := by decide +kernel
theorem i_199_10 : a_ins 199 10 = some (.aload_n 0, (0, 0, 0)) := by decide +kernel
theorem i_199_11 : a_ins 199 11 = some (.iload_n 3, (0, 0, 0)) := by decide +kernel
theorem i_199_12 : a_ins 199 12 = some (.aload_n 0, (0, 0, 0)) := by decide +kernel
theorem i_199_13 : a_ins 199 13 = some (.getfield 155, (11, 48, 1254)) := by decide +kernel
theorem i_199_16 : a_ins 199 16 = some (.iload_n 2, (0, 0, 0)) := by decide +kernel
theorem i_199_17 : a_ins 199 17 = some (.iaload, (0, 0, 0)) := by decide +kernel
theorem i_199_18 : a_ins 199 18 = some (.invokevirtual 374, (0, 181, 2)) := by decide +kernel
theorem i_199_21 : a_ins 199 21 = some (.istore 7, (0, 0, 0)) := by decide +kernel
theorem i_199_23 : a_ins 199 23 = some (.aload_n 0, (0, 0, 0)) := by decide +kernel
theorem i_199_24 : a_ins 199 24 = some (.getfield 348, (11, 56, 1262)) := by decide +kernel
theorem i_199_27 : a_ins 199 27 = some (.iload 6, (0, 0, 0)) := by decide +kernel
theorem i_199_29 : a_ins 199 29 = some (.isub, (0, 0, 0)) := by decide +kernel
theorem i_199_30 : a_ins 199 30 = some (.istore 8, (0, 0, 0)) := by decide +kernel
theorem i_199_32 : a_ins 199 32 = some (.iload 7, (0, 0, 0)) := by decide +kernel
theorem i_199_34 : a_ins 199 34 = some (.ldc_w 337, (0, 4, 1583)) := by decide +kernel
theorem i_199_37 : a_ins 199 37 = some (.if_icmp .ge 35, (0, 0, 0)) := by decide +kernel
theorem i_199_40 : a_ins 199 40 = some (.iload 8, (0, 0, 0)) := by decide +kernel
theorem i_199_42 : a_ins 199 42 = some (.ifCond .lt 30, (0, 0, 0)) := by decide +kernel
theorem i_199_45 : a_ins 199 45 = some (.iload 6, (0, 0, 0)) := by decide +kernel
theorem i_199_47 : a_ins 199 47 = some (.sipush 169, (0, 0, 0)) := by decide +kernel
theorem i_199_50 : a_ins 199 50 = some (.if_icmp .ge 22, (0, 0, 0)) := by decide +kernel
theorem i_199_53 : a_ins 199 53 = some (.aload_n 0, (0, 0, 0)) := by decide +kernel
theorem i_199_54 : a_ins 199 54 = some (.iload_n 1, (0, 0, 0)) := by decide +kernel
theorem i_199_55 : a_ins 199 55 = some (.aload_n 0, (0, 0, 0)) := by decide +kernel
theorem i_199_56 : a_ins 199 56 = some (.getfield 155, (11, 48, 1254)) := by decide +kernel
theorem i_199_59 : a_ins 199 59 = some (.iload_n 2, (0, 0, 0)) := by decide +kernel
theorem i_199_60 : a_ins 199 60 = some (.iaload, (0, 0, 0)) := by decide +kernel
theorem i_199_61 : a_ins 199 61 = some (.iload 8, (0, 0, 0)) := by decide +kernel
theorem i_199_63 : a_ins 199 63 = some (.invokevirtual 412, (0, 197, 3)) := by decide +kernel
theorem i_199_66 : a_ins 199 66 = some (.ldc_w 337, (0, 4, 1583)) := by decide +kernel
theorem i_199_69 : a_ins 199 69 = some (.if_icmp .lt 4, (0, 0, 0)) := by decide +kernel
theorem i_199_72 : a_ins 199 72 = some (.return_, (0, 0, 0)) := by decide +kernel
theorem i_199_73 : a_ins 199 73 = some (.iload 7, (0, 0, 0)) := by decide +kernel
theorem i_199_75 : a_ins 199 75 = some (.aload_n 0, (0, 0, 0)) := by decide +kernel
theorem i_199_76 : a_ins 199 76 = some (.getfield 158, (11, 49, 1255)) := by decide +kernel
theorem i_199_79 : a_ins 199 79 = some (.iload_n 2, (0, 0, 0)) := by decide +kernel
theorem i_199_80 : a_ins 199 80 = some (.iaload, (0, 0, 0)) := by decide +kernel
theorem i_199_81 : a_ins 199 81 = some (.iadd, (0, 0, 0)) := by decide +kernel
theorem i_199_82 : a_ins 199 82 = some (.aload_n 0, (0, 0, 0)) := by decide +kernel
theorem i_199_83 : a_ins 199 83 = some (.iload_n 1, (0, 0, 0)) := by decide +kernel
theorem i_199_84 : a_ins 199 84 = some (.aload_n 0, (0, 0, 0)) := by decide +kernel
theorem i_199_85 : a_ins 199 85 = some (.getfield 155, (11, 48, 1254)) := by decide +kernel
theorem i_199_88 : a_ins 199 88 = some (.iload_n 2, (0, 0, 0)) := by decide +kernel
theorem i_199_89 : a_ins 199 89 = some (.iaload, (0, 0, 0)) := by decide +kernel
theorem i_199_90 : a_ins 199 90 = some (.iload 8, (0, 0, 0)) := by decide +kernel
theorem i_199_92 : a_ins 199 92 = some (.invokevirtual 412, (0, 197, 3)) := by decide +kernel
theorem i_199_95 : a_ins 199 95 = some (.iadd, (0, 0, 0)) := by decide +kernel
theorem i_199_96 : a_ins 199 96 = some (.aload_n 0, (0, 0, 0)) := by decide +kernel
theorem i_199_97 : a_ins 199 97 = some (.iload_n 1, (0, 0, 0)) := by decide +kernel
theorem i_199_98 : a_ins 199 98 = some (.iconst 1, (0, 0, 0)) := by decide +kernel
theorem i_199_99 : a_ins 199 99 = some (.isub, (0, 0, 0)) := by decide +kernel
theorem i_199_100 : a_ins 199 100 = some (.iload_n 3, (0, 0, 0)) := by decide +kernel
theorem i_199_101 : a_ins 199 101 = some (.aload_n 0, (0, 0, 0)) := by decide +kernel
theorem i_199_102 : a_ins 199 102 = some (.getfield 348, (11, 56, 1262)) := by decide +kernel
theorem i_199_105 : a_ins 199 105 = some (.iload 4, (0, 0, 0)) := by decide +kernel
theorem i_199_107 : a_ins 199 107 = some (.isub, (0, 0, 0)) := by decide +kernel
theorem i_199_108 : a_ins 199 108 = some (.invokevirtual 412, (0, 197, 3)) := by decide +kernel
theorem i_199_111 : a_ins 199 111 = some (.isub, (0, 0, 0)) := by decide +kernel
theorem i_199_112 : a_ins 199 112 = some (.istore 9, (0, 0, 0)) := by decide +kernel
theorem i_199_114 : a_ins 199 114 = some (.iload_n 1, (0, 0, 0)) := by decide +kernel
theorem i_199_115 : a_ins 199 115 = some (.iconst 1, (0, 0, 0)) := by decide +kernel
theorem i_199_116 : a_ins 199 116 = some (.isub, (0, 0, 0)) := by decide +kernel
theorem i_199_117 : a_ins 199 117 = some (.iconst 2, (0, 0, 0)) := by decide +kernel
theorem i_199_118 : a_ins 199 118 = some (.irem, (0, 0, 0)) := by decide +kernel
theorem i_199_119 : a_ins 199 119 = some (.iload_n 3, (0, 0, 0)) := by decide +kernel
theorem i_199_120 : a_ins 199 120 = some (.iload 4, (0, 0, 0)) := by decide +kernel
theorem i_199_122 : a_ins 199 122 = some (.iconst 0, (0, 0, 0)) := by decide +kernel
theorem i_199_123 : a_ins 199 123 = some (.invokestatic 408, (1, 195, 4)) := by decide +kernel
theorem i_199_126 : a_ins 199 126 = some (.istore 10, (0, 0, 0)) := by decide +kernel
theorem i_199_128 : a_ins 199 128 = some (.iload_n 1, (0, 0, 0)) := by decide +kernel
theorem i_199_129 : a_ins 199 129 = some (.iconst 2, (0, 0, 0)) := by decide +kernel
theorem i_199_130 : a_ins 199 130 = some (.irem, (0, 0, 0)) := by decide +kernel
theorem i_199_131 : a_ins 199 131 = some (.aload_n 0, (0, 0, 0)) := by decide +kernel
theorem i_199_132 : a_ins 199 132 = some (.getfield 155, (11, 48, 1254)) := by decide +kernel
theorem i_199_135 : a_ins 199 135 = some (.iload_n 2, (0, 0, 0)) := by decide +kernel
theorem i_199_136 : a_ins 199 136 = some (.iaload, (0, 0, 0)) := by decide +kernel
theorem i_199_137 : a_ins 199 137 = some (.iload 6, (0, 0, 0)) := by decide +kernel
theorem i_199_139 : a_ins 199 139 = some (.iconst 0, (0, 0, 0)) := by decide +kernel
theorem i_199_140 : a_ins 199 140 = some (.invokestatic 408, (1, 195, 4)) := by decide +kernel
theorem i_199_143 : a_ins 199 143 = some (.istore 11, (0, 0, 0)) := by decide +kernel
theorem i_199_145 : a_ins 199 145 = some (.iconst 0, (0, 0, 0)) := by decide +kernel
theorem i_199_146 : a_ins 199 146 = some (.istore 12, (0, 0, 0)) := by decide +kernel
theorem i_199_148 : a_ins 199 148 = some (.iload 12, (0, 0, 0)) := by decide +kernel
theorem i_199_150 : a_ins 199 150 = some (.iload 9, (0, 0, 0)) := by decide +kernel
theorem i_199_152 : a_ins 199 152 = some (.iadd, (0, 0, 0)) := by decide +kernel
theorem i_199_153 : a_ins 199 153 = some (.iload 5, (0, 0, 0)) := by decide +kernel
theorem i_199_155 : a_ins 199 155 = some (.if_icmp .gt 35, (0, 0, 0)) := by decide +kernel
theorem i_199_158 : a_ins 199 158 = some (.aload_n 0, (0, 0, 0)) := by decide +kernel
theorem i_199_159 : a_ins 199 159 = some (.getfield 183, (11, 61, 1267)) := by decide +kernel
theorem i_199_162 : a_ins 199 162 = some (.iload 11, (0, 0, 0)) := by decide +kernel
theorem i_199_164 : a_ins 199 164 = some (.iload 12, (0, 0, 0)) := by decide +kernel
theorem i_199_166 : a_ins 199 166 = some (.iadd, (0, 0, 0)) := by decide +kernel
theorem i_199_167 : a_ins 199 167 = some (.iload 9, (0, 0, 0)) := by decide +kernel
theorem i_199_169 : a_ins 199 169 = some (.iadd, (0, 0, 0)) := by decide +kernel
theorem i_199_170 : a_ins 199 170 = some (.dup2, (0, 0, 0)) := by decide +kernel
theorem i_199_171 : a_ins 199 171 = some (.laload, (0, 0, 0)) := by decide +kernel
theorem i_199_172 : a_ins 199 172 = some (.aload_n 0, (0, 0, 0)) := by decide +kernel
theorem i_199_173 : a_ins 199 173 = some (.getfield 183, (11, 61, 1267)) := by decide +kernel
theorem i_199_176 : a_ins 199 176 = some (.iload 10, (0, 0, 0)) := by decide +kernel
theorem i_199_178 : a_ins 199 178 = some (.iload 12, (0, 0, 0)) := by decide +kernel
theorem i_199_180 : a_ins 199 180 = some (.iadd, (0, 0, 0)) := by decide +kernel
theorem i_199_181 : a_ins 199 181 = some (.laload, (0, 0, 0)) := by decide +kernel
theorem i_199_182 : a_ins 199 182 = some (.ladd, (0, 0, 0)) := by decide +kernel
theorem i_199_183 : a_ins 199 183 = some (.lastore, (0, 0, 0)) := by decide +kernel
theorem i_199_184 : a_ins 199 184 = some (.iinc 12 1, (0, 0, 0)) := by decide +kernel
theorem i_199_187 : a_ins 199 187 = some (.goto (-39), (0, 0, 0)) := by decide +kernel
theorem i_199_190 : a_ins 199 190 = some (.return_, (0, 0, 0)) := by decide +kernel
theorem i_200_0 : a_ins 200 0 = some (.aload_n 0, (0, 0, 0)) := by decide +kernel
theorem i_200_1 : a_ins 200 1 = some (.iload_n 1, (0, 0, 0)) := by decide +kernel
theorem i_200_2 : a_ins 200 2 = some (.invokevirtual 383, (0, 160, 1)) := by decide +kernel
theorem i_200_5 : a_ins 200 5 = some (.ifCond .eq 17, (0, 0, 0)) := by decide +kernel
theorem i_200_8 : a_ins 200 8 = some (.iload_n 2, (0, 0, 0)) := by decide +kernel
theorem i_200_9 : a_ins 200 9 = some (.invokestatic 433, (1, 201, 1)) := by decide +kernel
theorem i_200_12 : a_ins 200 12 = some (.ifCond .eq 10, (0, 0, 0)) := by decide +kernel
theorem i_200_15 : a_ins 200 15 = some (.aload_n 0, (0, 0, 0)) := by decide +kernel
theorem i_200_16 : a_ins 200 16 = some (.invokevirtual 402, (0, 189, 0)) := by decide +kernel
theorem i_200_19 : a_ins 200 19 = some (.ifCond .ge 7, (0, 0, 0)) := by decide +kernel
theorem i_200_22 : a_ins 200 22 = some (.iconst (-1), (0, 0, 0)) := by decide +kernel
theorem i_200_23 : a_ins 200 23 = some (.goto 17, (0, 0, 0)) := by decide +kernel
theorem i_200_26 : a_ins 200 26 = some (.aload_n 0, (0, 0, 0)) := by decide +kernel
theorem i_200_27 : a_ins 200 27 = some (.iload_n 1, (0, 0, 0)) := by decide +kernel
theorem i_200_28 : a_ins 200 28 = some (.iload_n 2, (0, 0, 0)) := by decide +kernel
theorem i_200_29 : a_ins 200 29 = some (.invokevirtual 436, (0, 202, 2)) := by decide +kernel
theorem i_200_32 : a_ins 200 32 = some (.ifCond .eq 7, (0, 0, 0)) := by decide +kernel
theorem i_200_35 : a_ins 200 35 = some (.iconst 1, (0, 0, 0)) := by decide +kernel
theorem i_200_36 : a_ins 200 36 = some (.goto 4, (0, 0, 0)) := by decide +kernel
theorem i_200_39 : a_ins 200 39 = some (.iconst 0, (0, 0, 0)) := by decide +kernel
theorem i_200_40 : a_ins 200 40 = some (.ireturn, (0, 0, 0)) := by decide +kernel
theorem i_201_0 : a_ins 201 0 = some (.iload_n 0, (0, 0, 0)) := by decide +kernel
theorem i_201_1 : a_ins 201 1 = some (.ifCond .lt 13, (0, 0, 0)) := by decide +kernel
theorem i_201_4 : a_ins 201 4 = some (.iload_n 0, (0, 0, 0)) := by decide +kernel
theorem i_201_5 : a_ins 201 5 = some (.bipush 100, (0, 0, 0)) := by decide +kernel
theorem i_201_7 : a_ins 201 7 = some (.if_icmp .gt 7, (0, 0, 0)) := by decide +kernel
theorem i_201_10 : a_ins 201 10 = some (.iconst 1, (0, 0, 0)) := by decide +kernel
theorem i_201_11 : a_ins 201 11 = some (.goto 4, (0, 0, 0)) := by decide +kernel
theorem i_201_14 : a_ins 201 14 = some (.iconst 0, (0, 0, 0)) := by decide +kernel
theorem i_201_15 : a_ins 201 15 = some (.ireturn, (0, 0, 0)) := by decide +kernel
theorem i_202_0 : a_ins 202 0 = some (.bipush 13, (0, 0, 0)) := by decide +kernel
theorem i_202_2 : a_ins 202 2 = some (.iload_n 1, (0, 0, 0)) := by decide +kernel
theorem i_202_3 : a_ins 202 3 = some (.imul, (0, 0, 0)) := by decide +kernel
theorem i_202_4 : a_ins 202 4 = some (.aload_n 0, (0, 0, 0)) := by decide +kernel
theorem i_202_5 : a_ins 202 5 = some (.iload_n 1, (0, 0, 0)) := by decide +kernel
theorem i_202_6 : a_ins 202 6 = some (.iload_n 2, (0, 0, 0)) := by decide +kernel
theorem i_202_7 : a_ins 202 7 = some (.invokevirtual 430, (0, 203, 2)) := by decide +kernel
theorem i_202_10 : a_ins 202 10 = some (.iadd, (0, 0, 0)) := by decide +kernel
theorem i_202_11 : a_ins 202 11 = some (.istore_n 3, (0, 0, 0)) := by decide +kernel
theorem i_202_12 : a_ins 202 12 = some (.iload_n 3, (0, 0, 0)) := by decide +kernel
theorem i_202_13 : a_ins 202 13 = some (.iconst 1, (0, 0, 0)) := by decide +kernel
theorem i_202_14 : a_ins 202 14 = some (.iadd, (0, 0, 0)) := by decide +kernel
theorem i_202_15 : a_ins 202 15 = some (.istore 4, (0, 0, 0)) := by decide +kernel
theorem i_202_17 : a_ins 202 17 = some (.iload 4, (0, 0, 0)) := by decide +kernel
theorem i_202_19 : a_ins 202 19 = some (.bipush 13, (0, 0, 0)) := by decide +kernel
theorem i_202_21 : a_ins 202 21 = some (.iload_n 1, (0, 0, 0)) := by decide +kernel
theorem i_202_22 : a_ins 202 22 = some (.imul, (0, 0, 0)) := by decide +kernel
theorem i_202_23 : a_ins 202 23 = some (.aload_n 0, (0, 0, 0)) := by decide +kernel
theorem i_202_24 : a_ins 202 24 = some (.getfield 152, (11, 47, 1253)) := by decide +kernel
theorem i_202_27 : a_ins 202 27 = some (.iload_n 1, (0, 0, 0)) := by decide +kernel
theorem i_202_28 : a_ins 202 28 = some (.iaload, (0, 0, 0)) := by decide +kernel
theorem i_202_29 : a_ins 202 29 = some (.iadd, (0, 0, 0)) := by decide +kernel
theorem i_202_30 : a_ins 202 30 = some (.if_icmp .ge 51, (0, 0, 0)) := by decide +kernel
theorem i_202_33 : a_ins 202 33 = some (.aload_n 0, (0, 0, 0)) := by decide +kernel
theorem i_202_34 : a_ins 202 34 = some (.iload_n 1, (0, 0, 0)) := by decide +kernel
theorem i_202_35 : a_ins 202 35 = some (.iload 4, (0, 0, 0)) := by decide +kernel
theorem i_202_37 : a_ins 202 37 = some (.invokevirtual 395, (0, 187, 2)) := by decide +kernel
theorem i_202_40 : a_ins 202 40 = some (.aload_n 0, (0, 0, 0)) := by decide +kernel
theorem i_202_41 : a_ins 202 41 = some (.getfield 364, (11, 57, 1263)) := by decide +kernel
theorem i_202_44 : a_ins 202 44 = some (.iload_n 2, (0, 0, 0)) := by decide +kernel
theorem i_202_45 : a_ins 202 45 = some (.iadd, (0, 0, 0)) := by decide +kernel
theorem i_202_46 : a_ins 202 46 = some (.if_icmp .gt 29, (0, 0, 0)) := by decide +kernel
theorem i_202_49 : a_ins 202 49 = some (.aload_n 0, (0, 0, 0)) := by decide +kernel
theorem i_202_50 : a_ins 202 50 = some (.getfield 149, (11, 46, 1252)) := by decide +kernel
theorem i_202_53 : a_ins 202 53 = some (.iload_n 3, (0, 0, 0)) := by decide +kernel
theorem i_202_54 : a_ins 202 54 = some (.aload_n 0, (0, 0, 0)) := by decide +kernel
theorem i_202_55 : a_ins 202 55 = some (.getfield 149, (11, 46, 1252)) := by decide +kernel
theorem i_202_58 : a_ins 202 58 = some (.iload 4, (0, 0, 0)) := by decide +kernel
theorem i_202_60 : a_ins 202 60 = some (.aload_n 0, (0, 0, 0)) := by decide +kernel
theorem i_202_61 : a_ins 202 61 = some (.getfield 131, (11, 36, 1242)) := by decide +kernel
theorem i_202_64 : a_ins 202 64 = some (.iload_n 1, (0, 0, 0)) := by decide +kernel
theorem i_202_65 : a_ins 202 65 = some (.iaload, (0, 0, 0)) := by decide +kernel
theorem i_202_66 : a_ins 202 66 = some (.iconst 0, (0, 0, 0)) := by decide +kernel
theorem i_202_67 : a_ins 202 67 = some (.invokestatic 285, (1, 149, 6)) := by decide +kernel
theorem i_202_70 : a_ins 202 70 = some (.ifCond .ne 5, (0, 0, 0)) := by decide +kernel
theorem i_202_73 : a_ins 202 73 = some (.iconst 0, (0, 0, 0)) := by decide +kernel
theorem i_202_74 : a_ins 202 74 = some (.ireturn, (0, 0, 0)) := by decide +kernel
theorem i_202_75 : a_ins 202 75 = some (.iinc 4 1, (0, 0, 0)) := by decide +kernel
theorem i_202_78 : a_ins 202 78 = some (.goto (-61), (0, 0, 0)) := by decide +kernel
theorem i_202_81 : a_ins 202 81 = some (.iconst 1, (0, 0, 0)) := by decide +kernel
theorem i_202_82 : a_ins 202 82 = some (.ireturn, (0, 0, 0)) := by decide +kernel
theorem i_203_0 : a_ins 203 0 = some (.iconst 0, (0, 0, 0)) := by decide +kernel
theorem i_203_1 : a_ins 203 1 = some (.istore_n 3, (0, 0, 0)) := by decide +kernel
theorem i_203_2 : a_ins 203 2 = some (.iload_n 3, (0, 0, 0)) := by decide +kernel
theorem i_203_3 : a_ins 203 3 = some (.aload_n 0, (0, 0, 0)) := by decide +kernel
theorem i_203_4 : a_ins 203 4 = some (.getfield 152, (11, 47, 1253)) := by decide +kernel
theorem i_203_7 : a_ins 203 7 = some (.iload_n 1, (0, 0, 0)) := by decide +kernel
theorem i_203_8 : a_ins 203 8 = some (.iaload, (0, 0, 0)) := by decide +kernel
theorem i_203_9 : a_ins 203 9 = some (.if_icmp .ge 31, (0, 0, 0)) := by decide +kernel
theorem i_203_12 : a_ins 203 12 = some (.aload_n 0, (0, 0, 0)) := by decide +kernel
theorem i_203_13 : a_ins 203 13 = some (.iload_n 1, (0, 0, 0)) := by decide +kernel
theorem i_203_14 : a_ins 203 14 = some (.bipush 13, (0, 0, 0)) := by decide +kernel
theorem i_203_16 : a_ins 203 16 = some (.iload_n 1, (0, 0, 0)) := by decide +kernel
theorem i_203_17 : a_ins 203 17 = some (.imul, (0, 0, 0)) := by decide +kernel
theorem i_203_18 : a_ins 203 18 = some (.iload_n 3, (0, 0, 0)) := by decide +kernel
theorem i_203_19 : a_ins 203 19 = some (.iadd, (0, 0, 0)) := by decide +kernel
theorem i_203_20 : a_ins 203 20 = some (.invokevirtual 395, (0, 187, 2)) := by decide +kernel
theorem i_203_23 : a_ins 203 23 = some (.aload_n 0, (0, 0, 0)) := by decide +kernel
theorem i_203_24 : a_ins 203 24 = some (.getfield 364, (11, 57, 1263)) := by decide +kernel
theorem i_203_27 : a_ins 203 27 = some (.iload_n 2, (0, 0, 0)) := by decide +kernel
theorem i_203_28 : a_ins 203 28 = some (.iadd, (0, 0, 0)) := by decide +kernel
theorem i_203_29 : a_ins 203 29 = some (.if_icmp .gt 5, (0, 0, 0)) := by decide +kernel
theorem i_203_32 : a_ins 203 32 = some (.iload_n 3, (0, 0, 0)) := by decide +kernel
theorem i_203_33 : a_ins 203 33 = some (.ireturn, (0, 0, 0)) := by decide +kernel
theorem i_203_34 : a_ins 203 34 = some (.iinc 3 1, (0, 0, 0)) := by decide +kernel
theorem i_203_37 : a_ins 203 37 = some (.goto (-35), (0, 0, 0)) := by decide +kernel
theorem i_203_40 : a_ins 203 40 = some (.iconst (-1), (0, 0, 0)) := by decide +kernel
theorem i_203_41 : a_ins 203 41 = some (.ireturn, (0, 0, 0)) := by decide +kernel
theorem i_204_0 : a_ins 204 0 = some (.iload_n 1, (0, 0, 0)) := by decide +kernel
theorem i_204_1 : a_ins 204 1 = some (.invokestatic 433, (1, 201, 1)) := by decide +kernel
theorem i_204_4 : a_ins 204 4 = some (.ifCond .eq 15, (0, 0, 0)) := by decide +kernel
theorem i_204_7 : a_ins 204 7 = some (.iload_n 2, (0, 0, 0)) := by decide +kernel
theorem i_204_8 : a_ins 204 8 = some (.ifCond .lt 11, (0, 0, 0)) := by decide +kernel
theorem i_204_11 : a_ins 204 11 = some (.iload_n 2, (0, 0, 0)) := by decide +kernel
theorem i_204_12 : a_ins 204 12 = some (.aload_n 0, (0, 0, 0)) := by decide +kernel
theorem i_204_13 : a_ins 204 13 = some (.getfield 227, (11, 39, 1245)) := by decide +kernel
theorem i_204_16 : a_ins 204 16 = some (.if_icmp .lt 5, (0, 0, 0)) := by decide +kernel
theorem i_204_19 : a_ins 204 19 = some (.iconst (-1), (0, 0, 0)) := by decide +kernel
theorem i_204_20 : a_ins 204 20 = some (.ireturn, (0, 0, 0)) := by decide +kernel
theorem i_204_21 : a_ins 204 21 = some (.aload_n 0, (0, 0, 0)) := by decide +kernel
theorem i_204_22 : a_ins 204 22 = some (.invokevirtual 402, (0, 189, 0)) := by decide +kernel
theorem i_204_25 : a_ins 204 25 = some (.ifCond .ge 10, (0, 0, 0)) := by decide +kernel
theorem i_204_28 : a_ins 204 28 = some (.aload_n 0, (0, 0, 0)) := by decide +kernel
theorem i_204_29 : a_ins 204 29 = some (.getfield 125, (11, 34, 1240)) := by decide +kernel
theorem i_204_32 : a_ins 204 32 = some (.iload_n 2, (0, 0, 0)) := by decide +kernel
theorem i_204_33 : a_ins 204 33 = some (.baload, (0, 0, 0)) := by decide +kernel
theorem i_204_34 : a_ins 204 34 = some (.ireturn, (0, 0, 0)) := by decide +kernel
theorem i_204_35 : a_ins 204 35 = some (.iconst 0, (0, 0, 0)) := by decide +kernel
theorem i_204_36 : a_ins 204 36 = some (.istore_n 3, (0, 0, 0)) := by decide +kernel
theorem i_204_37 : a_ins 204 37 = some (.iload_n 3, (0, 0, 0)) := by decide +kernel
theorem i_204_38 : a_ins 204 38 = some (.aload_n 0, (0, 0, 0)) := by decide +kernel
theorem i_204_39 : a_ins 204 39 = some (.getfield 224, (11, 38, 1244)) := by decide +kernel
theorem i_204_42 : a_ins 204 42 = some (.if_icmp .ge 77, (0, 0, 0)) := by decide +kernel
theorem i_204_45 : a_ins 204 45 = some (.iload_n 2, (0, 0, 0)) := by decide +kernel
theorem i_204_46 : a_ins 204 46 = some (.aload_n 0, (0, 0, 0)) := by decide +kernel
theorem i_204_47 : a_ins 204 47 = some (.getfield 128, (11, 35, 1241)) := by decide +kernel
theorem i_204_50 : a_ins 204 50 = some (.iload_n 3, (0, 0, 0)) := by decide +kernel
theorem i_204_51 : a_ins 204 51 = some (.iaload, (0, 0, 0)) := by decide +kernel
theorem i_204_52 : a_ins 204 52 = some (.if_icmp .lt 61, (0, 0, 0)) := by decide +kernel
theorem i_204_55 : a_ins 204 55 = some (.iload_n 2, (0, 0, 0)) := by decide +kernel
theorem i_204_56 : a_ins 204 56 = some (.aload_n 0, (0, 0, 0)) := by decide +kernel
theorem i_204_57 : a_ins 204 57 = some (.getfield 128, (11, 35, 1241)) := by decide +kernel
theorem i_204_60 : a_ins 204 60 = some (.iload_n 3, (0, 0, 0)) := by decide +kernel
theorem i_204_61 : a_ins 204 61 = some (.iaload, (0, 0, 0)) := by decide +kernel
theorem i_204_62 : a_ins 204 62 = some (.aload_n 0, (0, 0, 0)) := by decide +kernel
theorem i_204_63 : a_ins 204 63 = some (.getfield 131, (11, 36, 1242)) := by decide +kernel
theorem i_204_66 : a_ins 204 66 = some (.iload_n 3, (0, 0, 0)) := by decide +kernel
theorem i_204_67 : a_ins 204 67 = some (.iaload, (0, 0, 0)) := by decide +kernel
theorem i_204_68 : a_ins 204 68 = some (.iadd, (0, 0, 0)) := by decide +kernel
theorem i_204_69 : a_ins 204 69 = some (.if_icmp .ge 44, (0, 0, 0)) := by decide +kernel
theorem i_204_72 : a_ins 204 72 = some (.aload_n 0, (0, 0, 0)) := by decide +kernel
theorem i_204_73 : a_ins 204 73 = some (.iload_n 3, (0, 0, 0)) := by decide +kernel
theorem i_204_74 : a_ins 204 74 = some (.iload_n 1, (0, 0, 0)) := by decide +kernel
theorem i_204_75 : a_ins 204 75 = some (.invokevirtual 436, (0, 202, 2)) := by decide +kernel
theorem i_204_78 : a_ins 204 78 = some (.ifCond .ne 6, (0, 0, 0)) := by decide +kernel
theorem i_204_81 : a_ins 204 81 = some (.goto 32, (0, 0, 0)) := by decide +kernel
theorem i_204_84 : a_ins 204 84 = some (.aload_n 0, (0, 0, 0)) := by decide +kernel
theorem i_204_85 : a_ins 204 85 = some (.getfield 149, (11, 46, 1252)) := by decide +kernel
theorem i_204_88 : a_ins 204 88 = some (.bipush 12, (0, 0, 0)) := by decide +kernel
theorem i_204_90 : a_ins 204 90 = some (.bipush 13, (0, 0, 0)) := by decide +kernel
theorem i_204_92 : a_ins 204 92 = some (.iload_n 3, (0, 0, 0)) := by decide +kernel
theorem i_204_93 : a_ins 204 93 = some (.imul, (0, 0, 0)) := by decide +kernel
theorem i_204_94 : a_ins 204 94 = some (.aload_n 0, (0, 0, 0)) := by decide +kernel
theorem i_204_95 : a_ins 204 95 = some (.iload_n 3, (0, 0, 0)) := by decide +kernel
theorem i_204_96 : a_ins 204 96 = some (.iload_n 1, (0, 0, 0)) := by decide +kernel
theorem i_204_97 : a_ins 204 97 = some (.invokevirtual 430, (0, 203, 2)) := by decide +kernel
theorem i_204_100 : a_ins 204 100 = some (.iadd, (0, 0, 0)) := by decide +kernel
theorem i_204_101 : a_ins 204 101 = some (.imul, (0, 0, 0)) := by decide +kernel
theorem i_204_102 : a_ins 204 102 = some (.iload_n 2, (0, 0, 0)) := by decide +kernel
theorem i_204_103 : a_ins 204 103 = some (.iadd, (0, 0, 0)) := by decide +kernel
theorem i_204_104 : a_ins 204 104 = some (.aload_n 0, (0, 0, 0)) := by decide +kernel
theorem i_204_105 : a_ins 204 105 = some (.getfield 128, (11, 35, 1241)) := by decide +kernel
theorem i_204_108 : a_ins 204 108 = some (.iload_n 3, (0, 0, 0)) := by decide +kernel
theorem i_204_109 : a_ins 204 109 = some (.iaload, (0, 0, 0)) := by decide +kernel
theorem i_204_110 : a_ins 204 110 = some (.isub, (0, 0, 0)) := by decide +kernel
theorem i_204_111 : a_ins 204 111 = some (.baload, (0, 0, 0)) := by decide +kernel
theorem i_204_112 : a_ins 204 112 = some (.ireturn, (0, 0, 0)) := by decide +kernel
theorem i_204_113 : a_ins 204 113 = some (.iinc 3 1, (0, 0, 0)) := by decide +kernel
theorem i_204_116 : a_ins 204 116 = some (.goto (-79), (0, 0, 0)) := by decide +kernel
theorem i_204_119 : a_ins 204 119 = some (.aload_n 0, (0, 0, 0)) := by decide +kernel
theorem i_204_120 : a_ins 204 120 = some (.getfield 125, (11, 34, 1240)) := by decide +kernel
theorem i_204_123 : a_ins 204 123 = some (.iload_n 2, (0, 0, 0)) := by decide +kernel
theorem i_204_124 : a_ins 204 124 = some (.baload, (0, 0, 0)) := by decide +kernel
theorem i_204_125 : a_ins 204 125 = some (.ireturn, (0, 0, 0)) := by decide +kernel
theorem i_205_0 : a_ins 205 0 = some (.iload_n 1, (0, 0, 0)) := by decide +kernel
theorem i_205_1 : a_ins 205 1 = some (.invokestatic 433, (1, 201, 1)) := by decide +kernel
theorem i_205_4 : a_ins 205 4 = some (.ifCond .eq 10, (0, 0, 0)) := by decide +kernel
theorem i_205_7 : a_ins 205 7 = some (.aload_n 0, (0, 0, 0)) := by decide +kernel
theorem i_205_8 : a_ins 205 8 = some (.invokevirtual 402, (0, 189, 0)) := by decide +kernel
theorem i_205_11 : a_ins 205 11 = some (.ifCond .ge 5, (0, 0, 0)) := by decide +kernel
theorem i_205_14 : a_ins 205 14 = some (.iconst (-1), (0, 0, 0)) := by decide +kernel
theorem i_205_15 : a_ins 205 15 = some (.ireturn, (0, 0, 0)) := by decide +kernel
theorem i_205_16 : a_ins 205 16 = some (.aload_n 0, (0, 0, 0)) := by decide +kernel
theorem i_205_17 : a_ins 205 17 = some (.invokevirtual 405, (0, 191, 0)) := by decide +kernel
theorem i_205_20 : a_ins 205 20 = some (.iconst (-1), (0, 0, 0)) := by decide +kernel
theorem i_205_21 : a_ins 205 21 = some (.istore_n 2, (0, 0, 0)) := by decide +kernel
theorem i_205_22 : a_ins 205 22 = some (.iconst (-1), (0, 0, 0)) := by decide +kernel
theorem i_205_23 : a_ins 205 23 = some (.istore_n 3, (0, 0, 0)) := by decide +kernel
theorem i_205_24 : a_ins 205 24 = some (.iconst 0, (0, 0, 0)) := by decide +kernel
theorem i_205_25 : a_ins 205 25 = some (.istore 4, (0, 0, 0)) := by decide +kernel
theorem i_205_27 : a_ins 205 27 = some (.iconst 0, (0, 0, 0)) := by decide +kernel
theorem i_205_28 : a_ins 205 28 = some (.istore 5, (0, 0, 0)) := by decide +kernel
theorem i_205_30 : a_ins 205 30 = some (.iload 5, (0, 0, 0)) := by decide +kernel
theorem i_205_32 : a_ins 205 32 = some (.aload_n 0, (0, 0, 0)) := by decide +kernel
theorem i_205_33 : a_ins 205 33 = some (.getfield 224, (11, 38, 1244)) := by decide +kernel
theorem i_205_36 : a_ins 205 36 = some (.if_icmp .ge 32, (0, 0, 0)) := by decide +kernel
theorem i_205_39 : a_ins 205 39 = some (.iload 4, (0, 0, 0)) := by decide +kernel
theorem i_205_41 : a_ins 205 41 = some (.aload_n 0, (0, 0, 0)) := by decide +kernel
theorem i_205_42 : a_ins 205 42 = some (.iload 5, (0, 0, 0)) := by decide +kernel
theorem i_205_44 : a_ins 205 44 = some (.iload_n 1, (0, 0, 0)) := by decide +kernel
theorem i_205_45 : a_ins 205 45 = some (.invokevirtual 436, (0, 202, 2)) := by decide +kernel
theorem i_205_48 : a_ins 205 48 = some (.ifCond .eq 7, (0, 0, 0)) := by decide +kernel
theorem i_205_51 : a_ins 205 51 = some (.iconst 0, (0, 0, 0)) := by decide +kernel
theorem i_205_52 : a_ins 205 52 = some (.goto 7, (0, 0, 0)) := by decide +kernel
theorem i_205_55 : a_ins 205 55 = some (.iconst 1, (0, 0, 0)) := by decide +kernel
theorem i_205_56 : a_ins 205 56 = some (.iload 5, (0, 0, 0)) := by decide +kernel
theorem i_205_58 : a_ins 205 58 = some (.ishl, (0, 0, 0)) := by decide +kernel
theorem i_205_59 : a_ins 205 59 = some (.ior, (0, 0, 0)) := by decide +kernel
theorem i_205_60 : a_ins 205 60 = some (.istore 4, (0, 0, 0)) := by decide +kernel
theorem i_205_62 : a_ins 205 62 = some (.iinc 5 1, (0, 0, 0)) := by decide +kernel
theorem i_205_65 : a_ins 205 65 = some (.goto (-35), (0, 0, 0)) := by decide +kernel
theorem i_205_68 : a_ins 205 68 = some (.iconst 0, (0, 0, 0)) := by decide +kernel
theorem i_205_69 : a_ins 205 69 = some (.istore 5, (0, 0, 0)) := by decide +kernel
theorem i_205_71 : a_ins 205 71 = some (.iload 5, (0, 0, 0)) := by decide +kernel
theorem i_205_73 : a_ins 205 73 = some (.aload_n 0, (0, 0, 0)) := by decide +kernel
theorem i_205_74 : a_ins 205 74 = some (.getfield 224, (11, 38, 1244)) := by decide +kernel
theorem i_205_77 : a_ins 205 77 = some (.if_icmp .ge 96, (0, 0, 0)) := by decide +kernel
theorem i_205_80 : a_ins 205 80 = some (.iload 4, (0, 0, 0)) := by decide +kernel
theorem i_205_82 : a_ins 205 82 = some (.iload 5, (0, 0, 0)) := by decide +kernel
theorem i_205_84 : a_ins 205 84 = some (.ishr, (0, 0, 0)) := by decide +kernel
theorem i_205_85 : a_ins 205 85 = some (.iconst 1, (0, 0, 0)) := by decide +kernel
theorem i_205_86 : a_ins 205 86 = some (.iand, (0, 0, 0)) := by decide +kernel
theorem i_205_87 : a_ins 205 87 = some (.ifCond .ne 6, (0, 0, 0)) := by decide +kernel
theorem i_205_90 : a_ins 205 90 = some (.goto 77, (0, 0, 0)) := by decide +kernel
theorem i_205_93 : a_ins 205 93 = some (.aload_n 0, (0, 0, 0)) := by decide +kernel
theorem i_205_94 : a_ins 205 94 = some (.iload 5, (0, 0, 0)) := by decide +kernel
theorem i_205_96 : a_ins 205 96 = some (.putfield 176, (11, 58, 1264)) := by decide +kernel
theorem i_205_99 : a_ins 205 99 = some (.aload_n 0, (0, 0, 0)) := by decide +kernel
theorem i_205_100 : a_ins 205 100 = some (.aload_n 0, (0, 0, 0)) := by decide +kernel
theorem i_205_101 : a_ins 205 101 = some (.getfield 179, (11, 60, 1266)) := by decide +kernel
theorem i_205_104 : a_ins 205 104 = some (.iload 5, (0, 0, 0)) := by decide +kernel
theorem i_205_106 : a_ins 205 106 = some (.iaload, (0, 0, 0)) := by decide +kernel
theorem i_205_107 : a_ins 205 107 = some (.putfield 338, (11, 59, 1265)) := by decide +kernel
theorem i_205_110 : a_ins 205 110 = some (.aload_n 0, (0, 0, 0)) := by decide +kernel
theorem i_205_111 : a_ins 205 111 = some (.invokevirtual 351, (0, 175, 0)) := by decide +kernel
theorem i_205_114 : a_ins 205 114 = some (.iconst 0, (0, 0, 0)) := by decide +kernel
theorem i_205_115 : a_ins 205 115 = some (.istore 6, (0, 0, 0)) := by decide +kernel
theorem i_205_117 : a_ins 205 117 = some (.iconst 0, (0, 0, 0)) := by decide +kernel
theorem i_205_118 : a_ins 205 118 = some (.istore 7, (0, 0, 0)) := by decide +kernel
theorem i_205_120 : a_ins 205 120 = some (.iload 7, (0, 0, 0)) := by decide +kernel
theorem i_205_122 : a_ins 205 122 = some (.aload_n 0, (0, 0, 0)) := by decide +kernel
theorem i_205_123 : a_ins 205 123 = some (.getfield 224, (11, 38, 1244)) := by decide +kernel
theorem i_205_126 : a_ins 205 126 = some (.if_icmp .ge 29, (0, 0, 0)) := by decide +kernel
theorem i_205_129 : a_ins 205 129 = some (.iload 6, (0, 0, 0)) := by decide +kernel
theorem i_205_131 : a_ins 205 131 = some (.aload_n 0, (0, 0, 0)) := by decide +kernel
theorem i_205_132 : a_ins 205 132 = some (.iload 7, (0, 0, 0)) := by decide +kernel
theorem i_205_134 : a_ins 205 134 = some (.iload_n 1, (0, 0, 0)) := by decide +kernel
theorem i_205_135 : a_ins 205 135 = some (.invokevirtual 436, (0, 202, 2)) := by decide +kernel
theorem i_205_138 : a_ins 205 138 = some (.ifCond .eq 7, (0, 0, 0)) := by decide +kernel
theorem i_205_141 : a_ins 205 141 = some (.iconst 1, (0, 0, 0)) := by decide +kernel
theorem i_205_142 : a_ins 205 142 = some (.goto 4, (0, 0, 0)) := by decide +kernel
theorem i_205_145 : a_ins 205 145 = some (.iconst 0, (0, 0, 0)) := by decide +kernel
theorem i_205_146 : a_ins 205 146 = some (.iadd, (0, 0, 0)) := by decide +kernel
theorem i_205_147 : a_ins 205 147 = some (.istore 6, (0, 0, 0)) := by decide +kernel
theorem i_205_149 : a_ins 205 149 = some (.iinc 7 1, (0, 0, 0)) := by decide +kernel
theorem i_205_152 : a_ins 205 152 = some (.goto (-32), (0, 0, 0)) := by decide +kernel
theorem i_205_155 : a_ins 205 155 = some (.iload 6, (0, 0, 0)) := by decide +kernel
theorem i_205_157 : a_ins 205 157 = some (.iload_n 2, (0, 0, 0)) := by decide +kernel
theorem i_205_158 : a_ins 205 158 = some (.if_icmp .le 9, (0, 0, 0)) := by decide +kernel
theorem i_205_161 : a_ins 205 161 = some (.iload 6, (0, 0, 0)) := by decide +kernel
theorem i_205_163 : a_ins 205 163 = some (.istore_n 2, (0, 0, 0)) := by decide +kernel
theorem i_205_164 : a_ins 205 164 = some (.iload 5, (0, 0, 0)) := by decide +kernel
theorem i_205_166 : a_ins 205 166 = some (.istore_n 3, (0, 0, 0)) := by decide +kernel
theorem i_205_167 : a_ins 205 167 = some (.iinc 5 1, (0, 0, 0)) := by decide +kernel
theorem i_205_170 : a_ins 205 170 = some (.goto (-99), (0, 0, 0)) := by decide +kernel
theorem i_205_173 : a_ins 205 173 = some (.aload_n 0, (0, 0, 0)) := by decide +kernel
theorem i_205_174 : a_ins 205 174 = some (.iconst (-1), (0, 0, 0)) := by decide +kernel
theorem i_205_175 : a_ins 205 175 = some (.putfield 176, (11, 58, 1264)) := by decide +kernel
theorem i_205_178 : a_ins 205 178 = some (.aload_n 0, (0, 0, 0)) := by decide +kernel
theorem i_205_179 : a_ins 205 179 = some (.invokevirtual 351, (0, 175, 0)) := by decide +kernel
theorem i_205_182 : a_ins 205 182 = some (.iload_n 3, (0, 0, 0)) := by decide +kernel
theorem i_205_183 : a_ins 205 183 = some (.ireturn, (0, 0, 0)) := by decide +kernel
theorem i_206_0 : a_ins 206 0 = some (.aload_n 0, (0, 0, 0)) := by decide +kernel
theorem i_206_1 : a_ins 206 1 = some (.iload_n 1, (0, 0, 0)) := by decide +kernel
theorem i_206_2 : a_ins 206 2 = some (.iload_n 2, (0, 0, 0)) := by decide +kernel
theorem i_206_3 : a_ins 206 3 = some (.invokevirtual 389, (0, 185, 2)) := by decide +kernel
theorem i_206_6 : a_ins 206 6 = some (.ifCond .eq 26, (0, 0, 0)) := by decide +kernel
theorem i_206_9 : a_ins 206 9 = some (.aload_n 0, (0, 0, 0)) := by decide +kernel
theorem i_206_10 : a_ins 206 10 = some (.getfield 161, (11, 50, 1256)) := by decide +kernel
theorem i_206_13 : a_ins 206 13 = some (.bipush 13, (0, 0, 0)) := by decide +kernel
theorem i_206_15 : a_ins 206 15 = some (.iload_n 1, (0, 0, 0)) := by decide +kernel
theorem i_206_16 : a_ins 206 16 = some (.imul, (0, 0, 0)) := by decide +kernel
theorem i_206_17 : a_ins 206 17 = some (.iload_n 2, (0, 0, 0)) := by decide +kernel
theorem i_206_18 : a_ins 206 18 = some (.iadd, (0, 0, 0)) := by decide +kernel
theorem i_206_19 : a_ins 206 19 = some (.iaload, (0, 0, 0)) := by decide +kernel
theorem i_206_20 : a_ins 206 20 = some (.ifCond .lt 12, (0, 0, 0)) := by decide +kernel
theorem i_206_23 : a_ins 206 23 = some (.aload_n 0, (0, 0, 0)) := by decide +kernel
theorem i_206_24 : a_ins 206 24 = some (.getfield 233, (11, 66, 1272)) := by decide +kernel
theorem i_206_27 : a_ins 206 27 = some (.bipush 60, (0, 0, 0)) := by decide +kernel
theorem i_206_29 : a_ins 206 29 = some (.if_icmp .ne 5, (0, 0, 0)) := by decide +kernel
theorem i_206_32 : a_ins 206 32 = some (.iconst (-1), (0, 0, 0)) := by decide +kernel
theorem i_206_33 : a_ins 206 33 = some (.ireturn, (0, 0, 0)) := by decide +kernel
theorem i_206_34 : a_ins 206 34 = some (.aload_n 0, (0, 0, 0)) := by decide +kernel
theorem i_206_35 : a_ins 206 35 = some (.getfield 161, (11, 50, 1256)) := by decide +kernel
theorem i_206_38 : a_ins 206 38 = some (.bipush 13, (0, 0, 0)) := by decide +kernel
theorem i_206_40 : a_ins 206 40 = some (.iload_n 1, (0, 0, 0)) := by decide +kernel
theorem i_206_41 : a_ins 206 41 = some (.imul, (0, 0, 0)) := by decide +kernel
theorem i_206_42 : a_ins 206 42 = some (.iload_n 2, (0, 0, 0)) := by decide +kernel
theorem i_206_43 : a_ins 206 43 = some (.iadd, (0, 0, 0)) := by decide +kernel
theorem i_206_44 : a_ins 206 44 = some (.iaload, (0, 0, 0)) := by decide +kernel
theorem i_206_45 : a_ins 206 45 = some (.istore_n 3, (0, 0, 0)) := by decide +kernel
theorem i_206_46 : a_ins 206 46 = some (.aload_n 0, (0, 0, 0)) := by decide +kernel
theorem i_206_47 : a_ins 206 47 = some (.getfield 187, (11, 62, 1268)) := by decide +kernel
theorem i_206_50 : a_ins 206 50 = some (.aload_n 0, (0, 0, 0)) := by decide +kernel
theorem i_206_51 : a_ins 206 51 = some (.getfield 233, (11, 66, 1272)) := by decide +kernel
theorem i_206_54 : a_ins 206 54 = some (.iload_n 3, (0, 0, 0)) := by decide +kernel
theorem i_206_55 : a_ins 206 55 = some (.iastore, (0, 0, 0)) := by decide +kernel
theorem i_206_56 : a_ins 206 56 = some (.aload_n 0, (0, 0, 0)) := by decide +kernel
theorem i_206_57 : a_ins 206 57 = some (.getfield 190, (11, 63, 1269)) := by decide +kernel
theorem i_206_60 : a_ins 206 60 = some (.aload_n 0, (0, 0, 0)) := by decide +kernel
theorem i_206_61 : a_ins 206 61 = some (.getfield 233, (11, 66, 1272)) := by decide +kernel
theorem i_206_64 : a_ins 206 64 = some (.iload_n 1, (0, 0, 0)) := by decide +kernel
theorem i_206_65 : a_ins 206 65 = some (.iastore, (0, 0, 0)) := by decide +kernel
theorem i_206_66 : a_ins 206 66 = some (.aload_n 0, (0, 0, 0)) := by decide +kernel
theorem i_206_67 : a_ins 206 67 = some (.getfield 193, (11, 64, 1270)) := by decide +kernel
theorem i_206_70 : a_ins 206 70 = some (.aload_n 0, (0, 0, 0)) := by decide +kernel
theorem i_206_71 : a_ins 206 71 = some (.getfield 233, (11, 66, 1272)) := by decide +kernel
theorem i_206_74 : a_ins 206 74 = some (.aload_n 0, (0, 0, 0)) := by decide +kernel
theorem i_206_75 : a_ins 206 75 = some (.getfield 230, (11, 41, 1247)) := by decide +kernel
theorem i_206_78 : a_ins 206 78 = some (.iastore, (0, 0, 0)) := by decide +kernel
theorem i_206_79 : a_ins 206 79 = some (.aload_n 0, (0, 0, 0)) := by decide +kernel
theorem i_206_80 : a_ins 206 80 = some (.getfield 196, (11, 65, 1271)) := by decide +kernel
theorem i_206_83 : a_ins 206 83 = some (.aload_n 0, (0, 0, 0)) := by decide +kernel
theorem i_206_84 : a_ins 206 84 = some (.getfield 233, (11, 66, 1272)) := by decide +kernel
theorem i_206_87 : a_ins 206 87 = some (.iconst 0, (0, 0, 0)) := by decide +kernel
theorem i_206_88 : a_ins 206 88 = some (.bastore, (0, 0, 0)) := by decide +kernel
theorem i_206_89 : a_ins 206 89 = some (.aload_n 0, (0, 0, 0)) := by decide +kernel
theorem i_206_90 : a_ins 206 90 = some (.dup, (0, 0, 0)) := by decide +kernel
theorem i_206_91 : a_ins 206 91 = some (.getfield 233, (11, 66, 1272)) := by decide +kernel
theorem i_206_94 : a_ins 206 94 = some (.iconst 1, (0, 0, 0)) := by decide +kernel
theorem i_206_95 : a_ins 206 95 = some (.iadd, (0, 0, 0)) := by decide +kernel
theorem i_206_96 : a_ins 206 96 = some (.putfield 233, (11, 66, 1272)) := by decide +kernel
theorem i_206_99 : a_ins 206 99 = some (.aload_n 0, (0, 0, 0)) := by decide +kernel
theorem i_206_100 : a_ins 206 100 = some (.getfield 167, (11, 52, 1258)) := by decide +kernel
theorem i_206_103 : a_ins 206 103 = some (.iload_n 3, (0, 0, 0)) := by decide +kernel
theorem i_206_104 : a_ins 206 104 = some (.dup2, (0, 0, 0)) := by decide +kernel
theorem i_206_105 : a_ins 206 105 = some (.iaload, (0, 0, 0)) := by decide +kernel
theorem i_206_106 : a_ins 206 106 = some (.iconst 1, (0, 0, 0)) := by decide +kernel
theorem i_206_107 : a_ins 206 107 = some (.iadd, (0, 0, 0)) := by decide +kernel
theorem i_206_108 : a_ins 206 108 = some (.iastore, (0, 0, 0)) := by decide +kernel
theorem i_206_109 : a_ins 206 109 = some (.aload_n 0, (0, 0, 0)) := by decide +kernel
theorem i_206_110 : a_ins 206 110 = some (.iconst 0, (0, 0, 0)) := by decide +kernel
theorem i_206_111 : a_ins 206 111 = some (.putfield 236, (11, 53, 1259)) := by decide +kernel
theorem i_206_114 : a_ins 206 114 = some (.aload_n 0, (0, 0, 0)) := by decide +kernel
theorem i_206_115 : a_ins 206 115 = some (.getfield 233, (11, 66, 1272)) := by decide +kernel
theorem i_206_118 : a_ins 206 118 = some (.iconst 1, (0, 0, 0)) := by decide +kernel
theorem i_206_119 : a_ins 206 119 = some (.isub, (0, 0, 0)) := by decide +kernel
theorem i_206_120 : a_ins 206 120 = some (.ireturn, (0, 0, 0)) := by decide +kernel
theorem i_207_0 : a_ins 207 0 = some (.iload_n 1, (0, 0, 0)) := by decide +kernel
theorem i_207_1 : a_ins 207 1 = some (.ifCond .lt 20, (0, 0, 0)) := by decide +kernel
theorem i_207_4 : a_ins 207 4 = some (.iload_n 1, (0, 0, 0)) := by decide +kernel
theorem i_207_5 : a_ins 207 5 = some (.aload_n 0, (0, 0, 0)) := by decide +kernel
theorem i_207_6 : a_ins 207 6 = some (.getfield 233, (11, 66, 1272)) := by decide +kernel
theorem i_207_9 : a_ins 207 9 = some (.if_icmp .ge 12, (0, 0, 0)) := by decide +kernel
theorem i_207_12 : a_ins 207 12 = some (.aload_n 0, (0, 0, 0)) := by decide +kernel
theorem i_207_13 : a_ins 207 13 = some (.getfield 196, (11, 65, 1271)) := by decide +kernel
theorem i_207_16 : a_ins 207 16 = some (.iload_n 1, (0, 0, 0)) := by decide +kernel
theorem i_207_17 : a_ins 207 17 = some (.baload, (0, 0, 0)) := by decide +kernel
theorem i_207_18 : a_ins 207 18 = some (.ifCond .eq 5, (0, 0, 0)) := by decide +kernel
theorem i_207_21 : a_ins 207 21 = some (.iconst 0, (0, 0, 0)) := by decide +kernel
theorem i_207_22 : a_ins 207 22 = some (.ireturn, (0, 0, 0)) := by decide +kernel
theorem i_207_23 : a_ins 207 23 = some (.aload_n 0, (0, 0, 0)) := by decide +kernel
theorem i_207_24 : a_ins 207 24 = some (.getfield 196, (11, 65, 1271)) := by decide +kernel
theorem i_207_27 : a_ins 207 27 = some (.iload_n 1, (0, 0, 0)) := by decide +kernel
theorem i_207_28 : a_ins 207 28 = some (.iconst 1, (0, 0, 0)) := by decide +kernel
theorem i_207_29 : a_ins 207 29 = some (.bastore, (0, 0, 0)) := by decide +kernel
theorem i_207_30 : a_ins 207 30 = some (.aload_n 0, (0, 0, 0)) := by decide +kernel
theorem i_207_31 : a_ins 207 31 = some (.getfield 167, (11, 52, 1258)) := by decide +kernel
theorem i_207_34 : a_ins 207 34 = some (.aload_n 0, (0, 0, 0)) := by decide +kernel
theorem i_207_35 : a_ins 207 35 = some (.getfield 187, (11, 62, 1268)) := by decide +kernel
theorem i_207_38 : a_ins 207 38 = some (.iload_n 1, (0, 0, 0)) := by decide +kernel
theorem i_207_39 : a_ins 207 39 = some (.iaload, (0, 0, 0)) := by decide +kernel
theorem i_207_40 : a_ins 207 40 = some (.dup2, (0, 0, 0)) := by decide +kernel
theorem i_207_41 : a_ins 207 41 = some (.iaload, (0, 0, 0)) := by decide +kernel
theorem i_207_42 : a_ins 207 42 = some (.iconst 1, (0, 0, 0)) := by decide +kernel
theorem i_207_43 : a_ins 207 43 = some (.isub, (0, 0, 0)) := by decide +kernel
theorem i_207_44 : a_ins 207 44 = some (.iastore, (0, 0, 0)) := by decide +kernel
theorem i_207_45 : a_ins 207 45 = some (.aload_n 0, (0, 0, 0)) := by decide +kernel
theorem i_207_46 : a_ins 207 46 = some (.iconst 0, (0, 0, 0)) := by decide +kernel
theorem i_207_47 : a_ins 207 47 = some (.putfield 236, (11, 53, 1259)) := by decide +kernel
theorem i_207_50 : a_ins 207 50 = some (.iconst 1, (0, 0, 0)) := by decide +kernel
theorem i_207_51 : a_ins 207 51 = some (.ireturn, (0, 0, 0)) := by decide +kernel
theorem i_208_0 : a_ins 208 0 = some (.iload_n 1, (0, 0, 0)) := by decide +kernel
theorem i_208_1 : a_ins 208 1 = some (.ifCond .lt 16, (0, 0, 0)) := by decide +kernel
theorem i_208_4 : a_ins 208 4 = some (.iload_n 1, (0, 0, 0)) := by decide +kernel
theorem i_208_5 : a_ins 208 5 = some (.aload_n 0, (0, 0, 0)) := by decide +kernel
theorem i_208_6 : a_ins 208 6 = some (.getfield 103, (11, 25, 1231)) := by decide +kernel
theorem i_208_9 : a_ins 208 9 = some (.aload_n 0, (0, 0, 0)) := by decide +kernel
theorem i_208_10 : a_ins 208 10 = some (.getfield 215, (11, 32, 1238)) := by decide +kernel
theorem i_208_13 : a_ins 208 13 = some (.iaload, (0, 0, 0)) := by decide +kernel
theorem i_208_14 : a_ins 208 14 = some (.if_icmp .lt 5, (0, 0, 0)) := by decide +kernel
theorem i_208_17 : a_ins 208 17 = some (.iconst (-1), (0, 0, 0)) := by decide +kernel
theorem i_208_18 : a_ins 208 18 = some (.ireturn, (0, 0, 0)) := by decide +kernel
theorem i_208_19 : a_ins 208 19 = some (.bipush 80, (0, 0, 0)) := by decide +kernel
theorem i_208_21 : a_ins 208 21 = some (.aload_n 0, (0, 0, 0)) := by decide +kernel
theorem i_208_22 : a_ins 208 22 = some (.getfield 215, (11, 32, 1238)) := by decide +kernel
theorem i_208_25 : a_ins 208 25 = some (.imul, (0, 0, 0)) := by decide +kernel
theorem i_208_26 : a_ins 208 26 = some (.iload_n 1, (0, 0, 0)) := by decide +kernel
theorem i_208_27 : a_ins 208 27 = some (.iadd, (0, 0, 0)) := by decide +kernel
theorem i_208_28 : a_ins 208 28 = some (.istore_n 3, (0, 0, 0)) := by decide +kernel
theorem i_208_29 : a_ins 208 29 = some (.iload_n 2, (0, 0, 0)) := by decide +kernel
theorem i_208_30 : a_ins 208 30 = some (.tableswitch 80 0 5 #[38, 45, 52, 59, 66, 73], (0, 0, 0)) := by decide +kernel
theorem i_208_68 : a_ins 208 68 = some (.aload_n 0, (0, 0, 0)) := by decide +kernel
theorem i_208_69 : a_ins 208 69 = some (.getfield 76, (11, 16, 1222)) := by decide +kernel
theorem i_208_72 : a_ins 208 72 = some (.iload_n 3, (0, 0, 0)) := by decide +kernel
theorem i_208_73 : a_ins 208 73 = some (.iaload, (0, 0, 0)) := by decide +kernel
theorem i_208_74 : a_ins 208 74 = some (.ireturn, (0, 0, 0)) := by decide +kernel
theorem i_208_75 : a_ins 208 75 = some (.aload_n 0, (0, 0, 0)) := by decide +kernel
theorem i_208_76 : a_ins 208 76 = some (.getfield 79, (11, 17, 1223)) := by decide +kernel
theorem i_208_79 : a_ins 208 79 = some (.iload_n 3, (0, 0, 0)) := by decide +kernel
theorem i_208_80 : a_ins 208 80 = some (.iaload, (0, 0, 0)) := by decide +kernel
theorem i_208_81 : a_ins 208 81 = some (.ireturn, (0, 0, 0)) := by decide +kernel
theorem i_208_82 : a_ins 208 82 = some (.aload_n 0, (0, 0, 0)) := by decide +kernel
theorem i_208_83 : a_ins 208 83 = some (.getfield 167, (11, 52, 1258)) := by decide +kernel
theorem i_208_86 : a_ins 208 86 = some (.iload_n 1, (0, 0, 0)) := by decide +kernel
theorem i_208_87 : a_ins 208 87 = some (.iaload, (0, 0, 0)) := by decide +kernel
theorem i_208_88 : a_ins 208 88 = some (.ireturn, (0, 0, 0)) := by decide +kernel
theorem i_208_89 : a_ins 208 89 = some (.aload_n 0, (0, 0, 0)) := by decide +kernel
theorem i_208_90 : a_ins 208 90 = some (.getfield 72, (11, 15, 1221)) := by decide +kernel
theorem i_208_93 : a_ins 208 93 = some (.iload_n 3, (0, 0, 0)) := by decide +kernel
theorem i_208_94 : a_ins 208 94 = some (.iaload, (0, 0, 0)) := by decide +kernel
theorem i_208_95 : a_ins 208 95 = some (.ireturn, (0, 0, 0)) := by decide +kernel
theorem i_208_96 : a_ins 208 96 = some (.aload_n 0, (0, 0, 0)) := by decide +kernel
theorem i_208_97 : a_ins 208 97 = some (.getfield 82, (11, 18, 1224)) := by decide +kernel
theorem i_208_100 : a_ins 208 100 = some (.iload_n 3, (0, 0, 0)) := by decide +kernel
theorem i_208_101 : a_ins 208 101 = some (.iaload, (0, 0, 0)) := by decide +kernel
theorem i_208_102 : a_ins 208 102 = some (.ireturn, (0, 0, 0)) := by decide +kernel
theorem i_208_103 : a_ins 208 103 = some (.aload_n 0, (0, 0, 0)) := by decide +kernel
theorem i_208_104 : a_ins 208 104 = some (.getfield 85, (11, 19, 1225)) := by decide +kernel
theorem i_208_107 : a_ins 208 107 = some (.iload_n 3, (0, 0, 0)) := by decide +kernel
theorem i_208_108 : a_ins 208 108 = some (.iaload, (0, 0, 0)) := by decide +kernel
theorem i_208_109 : a_ins 208 109 = some (.ireturn, (0, 0, 0)) := by decide +kernel
theorem i_208_110 : a_ins 208 110 = some (.iconst (-1), (0, 0, 0)) := by decide +kernel
theorem i_208_111 : a_ins 208 111 = some (.ireturn, (0, 0, 0)) := by decide +kernel
theorem i_209_0 : a_ins 209 0 = some (.iload_n 1, (0, 0, 0)) := by decide +kernel
theorem i_209_1 : a_ins 209 1 = some (.tableswitch 125 0 9 #[55, 65, 75, 85, 95, 100, 105, 110, 115, 120], (0, 0, 0)) := by decide +kernel
theorem i_209_56 : a_ins 209 56 = some (.aload_n 0, (0, 0, 0)) := by decide +kernel
theorem i_209_57 : a_ins 209 57 = some (.getfield 103, (11, 25, 1231)) := by decide +kernel
theorem i_209_60 : a_ins 209 60 = some (.aload_n 0, (0, 0, 0)) := by decide +kernel
theorem i_209_61 : a_ins 209 61 = some (.getfield 215, (11, 32, 1238)) := by decide +kernel
theorem i_209_64 : a_ins 209 64 = some (.iaload, (0, 0, 0)) := by decide +kernel
theorem i_209_65 : a_ins 209 65 = some (.ireturn, (0, 0, 0)) := by decide +kernel
theorem i_209_66 : a_ins 209 66 = some (.aload_n 0, (0, 0, 0)) := by decide +kernel
theorem i_209_67 : a_ins 209 67 = some (.getfield 106, (11, 26, 1232)) := by decide +kernel
theorem i_209_70 : a_ins 209 70 = some (.aload_n 0, (0, 0, 0)) := by decide +kernel
theorem i_209_71 : a_ins 209 71 = some (.getfield 215, (11, 32, 1238)) := by decide +kernel
theorem i_209_74 : a_ins 209 74 = some (.iaload, (0, 0, 0)) := by decide +kernel
theorem i_209_75 : a_ins 209 75 = some (.ireturn, (0, 0, 0)) := by decide +kernel
theorem i_209_76 : a_ins 209 76 = some (.aload_n 0, (0, 0, 0)) := by decide +kernel
theorem i_209_77 : a_ins 209 77 = some (.getfield 109, (11, 27, 1233)) := by decide +kernel
theorem i_209_80 : a_ins 209 80 = some (.aload_n 0, (0, 0, 0)) := by decide +kernel
theorem i_209_81 : a_ins 209 81 = some (.getfield 215, (11, 32, 1238)) := by decide +kernel
theorem i_209_84 : a_ins 209 84 = some (.iaload, (0, 0, 0)) := by decide +kernel
theorem i_209_85 : a_ins 209 85 = some (.ireturn, (0, 0, 0)) := by decide +kernel
theorem i_209_86 : a_ins 209 86 = some (.aload_n 0, (0, 0, 0)) := by decide +kernel
theorem i_209_87 : a_ins 209 87 = some (.getfield 112, (11, 28, 1234)) := by decide +kernel
theorem i_209_90 : a_ins 209 90 = some (.aload_n 0, (0, 0, 0)) := by decide +kernel
theorem i_209_91 : a_ins 209 91 = some (.getfield 215, (11, 32, 1238)) := by decide +kernel
theorem i_209_94 : a_ins 209 94 = some (.iaload, (0, 0, 0)) := by decide +kernel
theorem i_209_95 : a_ins 209 95 = some (.ireturn, (0, 0, 0)) := by decide +kernel
theorem i_209_96 : a_ins 209 96 = some (.aload_n 0, (0, 0, 0)) := by decide +kernel
theorem i_209_97 : a_ins 209 97 = some (.getfield 224, (11, 38, 1244)) := by decide +kernel
theorem i_209_100 : a_ins 209 100 = some (.ireturn, (0, 0, 0)) := by decide +kernel
theorem i_209_101 : a_ins 209 101 = some (.aload_n 0, (0, 0, 0)) := by decide +kernel
theorem i_209_102 : a_ins 209 102 = some (.getfield 227, (11, 39, 1245)) := by decide +kernel
theorem i_209_105 : a_ins 209 105 = some (.ireturn, (0, 0, 0)) := by decide +kernel
theorem i_209_106 : a_ins 209 106 = some (.aload_n 0, (0, 0, 0)) := by decide +kernel
theorem i_209_107 : a_ins 209 107 = some (.getfield 298, (11, 40, 1246)) := by decide +kernel
theorem i_209_110 : a_ins 209 110 = some (.ireturn, (0, 0, 0)) := by decide +kernel
theorem i_209_111 : a_ins 209 111 = some (.aload_n 0, (0, 0, 0)) := by decide +kernel
theorem i_209_112 : a_ins 209 112 = some (.getfield 146, (11, 45, 1251)) := by decide +kernel
theorem i_209_115 : a_ins 209 115 = some (.ireturn, (0, 0, 0)) := by decide +kernel
theorem i_209_116 : a_ins 209 116 = some (.aload_n 0, (0, 0, 0)) := by decide +kernel
theorem i_209_117 : a_ins 209 117 = some (.getfield 233, (11, 66, 1272)) := by decide +kernel
theorem i_209_120 : a_ins 209 120 = some (.ireturn, (0, 0, 0)) := by decide +kernel
theorem i_209_121 : a_ins 209 121 = some (.aload_n 0, (0, 0, 0)) := by decide +kernel
theorem i_209_122 : a_ins 209 122 = some (.getfield 240, (11, 2, 1208)) := by decide +kernel
theorem i_209_125 : a_ins 209 125 = some (.ireturn, (0, 0, 0)) := by decide +kernel
theorem i_209_126 : a_ins 209 126 = some (.iconst (-1), (0, 0, 0)) := by decide +kernel
theorem i_209_127 : a_ins 209 127 = some (.ireturn, (0, 0, 0)) := by decide +kernel
theorem i_210_0 : a_ins 210 0 = some (.aload_n 0, (0, 0, 0)) := by decide +kernel
theorem i_210_1 : a_ins 210 1 = some (.getfield 240, (11, 2, 1208)) := by decide +kernel
theorem i_210_4 : a_ins 210 4 = some (.bipush 20, (0, 0, 0)) := by decide +kernel
theorem i_210_6 : a_ins 210 6 = some (.iadd, (0, 0, 0)) := by decide +kernel
theorem i_210_7 : a_ins 210 7 = some (.sipush 2000, (0, 0, 0)) := by decide +kernel
theorem i_210_10 : a_ins 210 10 = some (.if_icmp .le 5, (0, 0, 0)) := by decide +kernel
theorem i_210_13 : a_ins 210 13 = some (.iconst (-1), (0, 0, 0)) := by decide +kernel
theorem i_210_14 : a_ins 210 14 = some (.ireturn, (0, 0, 0)) := by decide +kernel
theorem i_210_15 : a_ins 210 15 = some (.iconst 0, (0, 0, 0)) := by decide +kernel
theorem i_210_16 : a_ins 210 16 = some (.istore 6, (0, 0, 0)) := by decide +kernel
theorem i_210_18 : a_ins 210 18 = some (.iload 6, (0, 0, 0)) := by decide +kernel
theorem i_210_20 : a_ins 210 20 = some (.bipush 20, (0, 0, 0)) := by decide +kernel
theorem i_210_22 : a_ins 210 22 = some (.if_icmp .ge 83, (0, 0, 0)) := by decide +kernel
theorem i_210_25 : a_ins 210 25 = some (.iload 6, (0, 0, 0)) := by decide +kernel
theorem i_210_27 : a_ins 210 27 = some (.iconst 4, (0, 0, 0)) := by decide +kernel
theorem i_210_28 : a_ins 210 28 = some (.if_icmp .ge 7, (0, 0, 0)) := by decide +kernel
theorem i_210_31 : a_ins 210 31 = some (.iload_n 1, (0, 0, 0)) := by decide +kernel
theorem i_210_32 : a_ins 210 32 = some (.goto 39, (0, 0, 0)) := by decide +kernel
theorem i_210_35 : a_ins 210 35 = some (.iload 6, (0, 0, 0)) := by decide +kernel
theorem i_210_37 : a_ins 210 37 = some (.bipush 8, (0, 0, 0)) := by decide +kernel
theorem i_210_39 : a_ins 210 39 = some (.if_icmp .ge 7, (0, 0, 0)) := by decide +kernel
theorem i_210_42 : a_ins 210 42 = some (.iload_n 2, (0, 0, 0)) := by decide +kernel
theorem i_210_43 : a_ins 210 43 = some (.goto 28, (0, 0, 0)) := by decide +kernel
theorem i_210_46 : a_ins 210 46 = some (.iload 6, (0, 0, 0)) := by decide +kernel
theorem i_210_48 : a_ins 210 48 = some (.bipush 12, (0, 0, 0)) := by decide +kernel
theorem i_210_50 : a_ins 210 50 = some (.if_icmp .ge 7, (0, 0, 0)) := by decide +kernel
theorem i_210_53 : a_ins 210 53 = some (.iload_n 3, (0, 0, 0)) := by decide +kernel
theorem i_210_54 : a_ins 210 54 = some (.goto 17, (0, 0, 0)) := by decide +kernel
theorem i_210_57 : a_ins 210 57 = some (.iload 6, (0, 0, 0)) := by decide +kernel
theorem i_210_59 : a_ins 210 59 = some (.bipush 16, (0, 0, 0)) := by decide +kernel
theorem i_210_61 : a_ins 210 61 = some (.if_icmp .ge 8, (0, 0, 0)) := by decide +kernel
theorem i_210_64 : a_ins 210 64 = some (.iload 4, (0, 0, 0)) := by decide +kernel
theorem i_210_66 : a_ins 210 66 = some (.goto 5, (0, 0, 0)) := by decide +kernel
theorem i_210_69 : a_ins 210 69 = some (.iload 5, (0, 0, 0)) := by decide +kernel
theorem i_210_71 : a_ins 210 71 = some (.istore 7, (0, 0, 0)) := by decide +kernel
theorem i_210_73 : a_ins 210 73 = some (.aload_n 0, (0, 0, 0)) := by decide +kernel
theorem i_210_74 : a_ins 210 74 = some (.getfield 57, (11, 0, 1206)) := by decide +kernel
theorem i_210_77 : a_ins 210 77 = some (.aload_n 0, (0, 0, 0)) := by decide +kernel
theorem i_210_78 : a_ins 210 78 = some (.getfield 240, (11, 2, 1208)) := by decide +kernel
theorem i_210_81 : a_ins 210 81 = some (.iload 6, (0, 0, 0)) := by decide +kernel
theorem i_210_83 : a_ins 210 83 = some (.iadd, (0, 0, 0)) := by decide +kernel
theorem i_210_84 : a_ins 210 84 = some (.iload 7, (0, 0, 0)) := by decide +kernel
theorem i_210_86 : a_ins 210 86 = some (.bipush 24, (0, 0, 0)) := by decide +kernel
theorem i_210_88 : a_ins 210 88 = some (.bipush 8, (0, 0, 0)) := by decide +kernel
theorem i_210_90 : a_ins 210 90 = some (.iload 6, (0, 0, 0)) := by decide +kernel
theorem i_210_92 : a_ins 210 92 = some (.iconst 3, (0, 0, 0)) := by decide +kernel
theorem i_210_93 : a_ins 210 93 = some (.iand, (0, 0, 0)) := by decide +kernel
theorem i_210_94 : a_ins 210 94 = some (.imul, (0, 0, 0)) := by decide +kernel
theorem i_210_95 : a_ins 210 95 = some (.isub, (0, 0, 0)) := by decide +kernel
theorem i_210_96 : a_ins 210 96 = some (.ishr, (0, 0, 0)) := by decide +kernel
theorem i_210_97 : a_ins 210 97 = some (.i2b, (0, 0, 0)) := by decide +kernel
theorem i_210_98 : a_ins 210 98 = some (.bastore, (0, 0, 0)) := by decide +kernel
theorem i_210_99 : a_ins 210 99 = some (.iinc 6 1, (0, 0, 0)) := by decide +kernel
theorem i_210_102 : a_ins 210 102 = some (.goto (-84), (0, 0, 0)) := by decide +kernel
theorem i_210_105 : a_ins 210 105 = some (.aload_n 0, (0, 0, 0)) := by decide +kernel
theorem i_210_106 : a_ins 210 106 = some (.dup, (0, 0, 0)) := by decide +kernel
theorem i_210_107 : a_ins 210 107 = some (.getfield 240, (11, 2, 1208)) := by decide +kernel
theorem i_210_110 : a_ins 210 110 = some (.bipush 20, (0, 0, 0)) := by decide +kernel
theorem i_210_112 : a_ins 210 112 = some (.iadd, (0, 0, 0)) := by decide +kernel
theorem i_210_113 : a_ins 210 113 = some (.putfield 240, (11, 2, 1208)) := by decide +kernel
theorem i_210_116 : a_ins 210 116 = some (.aload_n 0, (0, 0, 0)) := by decide +kernel
theorem i_210_117 : a_ins 210 117 = some (.getfield 240, (11, 2, 1208)) := by decide +kernel
theorem i_210_120 : a_ins 210 120 = some (.ireturn, (0, 0, 0)) := by decide +kernel
theorem i_211_0 : a_ins 211 0 = some (.iload_n 1, (0, 0, 0)) := by decide +kernel
theorem i_211_1 : a_ins 211 1 = some (.ifCond .lt 11, (0, 0, 0)) := by decide +kernel
theorem i_211_4 : a_ins 211 4 = some (.iload_n 1, (0, 0, 0)) := by decide +kernel
theorem i_211_5 : a_ins 211 5 = some (.aload_n 0, (0, 0, 0)) := by decide +kernel
theorem i_211_6 : a_ins 211 6 = some (.getfield 240, (11, 2, 1208)) := by decide +kernel
theorem i_211_9 : a_ins 211 9 = some (.if_icmp .le 5, (0, 0, 0)) := by decide +kernel
theorem i_211_12 : a_ins 211 12 = some (.iconst (-1), (0, 0, 0)) := by decide +kernel
theorem i_211_13 : a_ins 211 13 = some (.ireturn, (0, 0, 0)) := by decide +kernel
theorem i_211_14 : a_ins 211 14 = some (.aload_n 0, (0, 0, 0)) := by decide +kernel
theorem i_211_15 : a_ins 211 15 = some (.iload_n 1, (0, 0, 0)) := by decide +kernel
theorem i_211_16 : a_ins 211 16 = some (.putfield 240, (11, 2, 1208)) := by decide +kernel
theorem i_211_19 : a_ins 211 19 = some (.iload_n 1, (0, 0, 0)) := by decide +kernel
theorem i_211_20 : a_ins 211 20 = some (.ireturn, (0, 0, 0)) := by decide +kernel
theorem i_212_0 : a_ins 212 0 = some (.aload_n 0, (0, 0, 0)) := by decide +kernel
theorem i_212_1 : a_ins 212 1 = some (.getfield 9, (100, 0, 1729)) := by decide +kernel
theorem i_212_4 : a_ins 212 4 = some (.arraylength, (0, 0, 0)) := by decide +kernel
theorem i_212_5 : a_ins 212 5 = some (.aload_n 0, (0, 0, 0)) := by decide +kernel
theorem i_212_6 : a_ins 212 6 = some (.invokevirtual 335, (0, 213, 0)) := by decide +kernel
theorem i_212_9 : a_ins 212 9 = some (.ishr, (0, 0, 0)) := by decide +kernel
theorem i_212_10 : a_ins 212 10 = some (.ireturn, (0, 0, 0)) := by decide +kernel
theorem i_213_0 : a_ins 213 0 = some (.getstatic 38, (2, 0, 651)) := by decide +kernel
theorem i_213_3 : a_ins 213 3 = some (.ifCond .eq 10, (0, 0, 0)) := by decide +kernel
theorem i_213_6 : a_ins 213 6 = some (.aload_n 0, (0, 0, 0)) := by decide +kernel
theorem i_213_7 : a_ins 213 7 = some (.getfield 15, (101, 0, 1728)) := by decide +kernel
theorem i_213_10 : a_ins 213 10 = some (.goto 4, (0, 0, 0)) := by decide +kernel
theorem i_213_13 : a_ins 213 13 = some (.iconst 1, (0, 0, 0)) := by decide +kernel
theorem i_213_14 : a_ins 213 14 = some (.ireturn, (0, 0, 0)) := by decide +kernel
theorem i_214_0 : a_ins 214 0 = some (.getstatic 38, (2, 0, 651)) := by decide +kernel
theorem i_214_3 : a_ins 214 3 = some (.ifCond .eq 14, (0, 0, 0)) := by decide +kernel
theorem i_214_6 : a_ins 214 6 = some (.aload_n 0, (0, 0, 0)) := by decide +kernel
theorem i_214_7 : a_ins 214 7 = some (.getfield 15, (101, 0, 1728)) := by decide +kernel
theorem i_214_10 : a_ins 214 10 = some (.ifCond .ne 7, (0, 0, 0)) := by decide +kernel
theorem i_214_13 : a_ins 214 13 = some (.iconst 1, (0, 0, 0)) := by decide +kernel
theorem i_214_14 : a_ins 214 14 = some (.goto 4, (0, 0, 0)) := by decide +kernel
theorem i_214_17 : a_ins 214 17 = some (.iconst 0, (0, 0, 0)) := by decide +kernel
theorem i_214_18 : a_ins 214 18 = some (.ireturn, (0, 0, 0)) := by decide +kernel
theorem i_215_0 : a_ins 215 0 = some (.aload_n 0, (0, 0, 0)) := by decide +kernel
theorem i_215_1 : a_ins 215 1 = some (.invokevirtual 492, (0, 214, 0)) := by decide +kernel
theorem i_215_4 : a_ins 215 4 = some (.ifCond .eq 12, (0, 0, 0)) := by decide +kernel
theorem i_215_7 : a_ins 215 7 = some (.aload_n 0, (0, 0, 0)) := by decide +kernel
theorem i_215_8 : a_ins 215 8 = some (.getfield 9, (100, 0, 1729)) := by decide +kernel
theorem i_215_11 : a_ins 215 11 = some (.iload_n 1, (0, 0, 0)) := by decide +kernel
theorem i_215_12 : a_ins 215 12 = some (.invokestatic 495, (1, 217, 2)) := by decide +kernel
theorem i_215_15 : a_ins 215 15 = some (.ireturn, (0, 0, 0)) := by decide +kernel
theorem i_215_16 : a_ins 215 16 = some (.aload_n 0, (0, 0, 0)) := by decide +kernel
theorem i_215_17 : a_ins 215 17 = some (.getfield 9, (100, 0, 1729)) := by decide +kernel
theorem i_215_20 : a_ins 215 20 = some (.iload_n 1, (0, 0, 0)) := by decide +kernel
theorem i_215_24 : a_ins 215 24 = some (.ireturn, (0, 0, 0)) := by decide +kernel
theorem i_216_0 : a_ins 216 0 = some (.iload_n 0, (0, 0, 0)) := by decide +kernel
theorem i_216_1 : a_ins 216 1 = some (.iload_n 1, (0, 0, 0)) := by decide +kernel
theorem i_216_2 : a_ins 216 2 = some (.getstatic 1053, (3, 0, 692)) := by decide +kernel
theorem i_216_5 : a_ins 216 5 = some (.invokestatic 1059, (1, 218, 3)) := by decide +kernel
theorem i_216_8 : a_ins 216 8 = some (.pop, (0, 0, 0)) := by decide +kernel
theorem i_216_9 : a_ins 216 9 = some (.return_, (0, 0, 0)) := by decide +kernel
theorem i_217_0 : a_ins 217 0 = some (.iload_n 1, (0, 0, 0)) := by decide +kernel
theorem i_217_1 : a_ins 217 1 = some (.aload_n 0, (0, 0, 0)) := by decide +kernel
theorem i_217_2 : a_ins 217 2 = some (.arraylength, (0, 0, 0)) := by decide +kernel
theorem i_217_3 : a_ins 217 3 = some (.invokestatic 9, (1, 216, 2)) := by decide +kernel
theorem i_217_6 : a_ins 217 6 = some (.aload_n 0, (0, 0, 0)) := by decide +kernel
theorem i_217_7 : a_ins 217 7 = some (.iload_n 1, (0, 0, 0)) := by decide +kernel
theorem i_217_8 : a_ins 217 8 = some (.baload, (0, 0, 0)) := by decide +kernel
theorem i_217_9 : a_ins 217 9 = some (.sipush 255, (0, 0, 0)) := by decide +kernel
theorem i_217_12 : a_ins 217 12 = some (.iand, (0, 0, 0)) := by decide +kernel
theorem i_217_13 : a_ins 217 13 = some (.i2c, (0, 0, 0)) := by decide +kernel
theorem i_217_14 : a_ins 217 14 = some (.ireturn, (0, 0, 0)) := by decide +kernel
theorem i_218_0 : a_ins 218 0 = some (.iload_n 0, (0, 0, 0)) := by decide +kernel
theorem i_218_1 : a_ins 218 1 = some (.ifCond .lt 8, (0, 0, 0)) := by decide +kernel
theorem i_218_4 : a_ins 218 4 = some (.iload_n 0, (0, 0, 0)) := by decide +kernel
theorem i_218_5 : a_ins 218 5 = some (.iload_n 1, (0, 0, 0)) := by decide +kernel
theorem i_218_6 : a_ins 218 6 = some (.if_icmp .lt 10, (0, 0, 0)) := by decide +kernel
theorem i_218_9 : a_ins 218 9 = some (.aload_n 2, (0, 0, 0)) := by decide +kernel
theorem i_218_10 : a_ins 218 10 = some (.iload_n 0, (0, 0, 0)) := by decide +kernel
theorem i_218_11 : a_ins 218 11 = some (.iload_n 1, (0, 0, 0)) := by decide +kernel
theorem i_218_16 : a_ins 218 16 = some (.iload_n 0, (0, 0, 0)) := by decide +kernel
theorem i_218_17 : a_ins 218 17 = some (.ireturn, (0, 0, 0)) := by decide +kernel
theorem i_219_0 : a_ins 219 0 = some (.aload_n 0, (0, 0, 0)) := by decide +kernel
theorem i_219_1 : a_ins 219 1 = some (.iload_n 1, (0, 0, 0)) := by decide +kernel
theorem i_219_2 : a_ins 219 2 = some (.iconst 0, (0, 0, 0)) := by decide +kernel
theorem i_219_3 : a_ins 219 3 = some (.invokevirtual 633, (0, 220, 2)) := by decide +kernel
theorem i_219_6 : a_ins 219 6 = some (.ireturn, (0, 0, 0)) := by decide +kernel
theorem i_220_0 : a_ins 220 0 = some (.aload_n 0, (0, 0, 0)) := by decide +kernel
theorem i_220_1 : a_ins 220 1 = some (.invokevirtual 492, (0, 214, 0)) := by decide +kernel
theorem i_220_4 : a_ins 220 4 = some (.ifCond .eq 19, (0, 0, 0)) := by decide +kernel
theorem i_220_7 : a_ins 220 7 = some (.aload_n 0, (0, 0, 0)) := by decide +kernel
theorem i_220_8 : a_ins 220 8 = some (.getfield 9, (100, 0, 1729)) := by decide +kernel
theorem i_220_11 : a_ins 220 11 = some (.iload_n 1, (0, 0, 0)) := by decide +kernel
theorem i_220_12 : a_ins 220 12 = some (.iload_n 2, (0, 0, 0)) := by decide +kernel
theorem i_220_13 : a_ins 220 13 = some (.aload_n 0, (0, 0, 0)) := by decide +kernel
theorem i_220_14 : a_ins 220 14 = some (.invokevirtual 505, (0, 212, 0)) := by decide +kernel
theorem i_220_17 : a_ins 220 17 = some (.invokestatic 637, (1, 221, 4)) := by decide +kernel
theorem i_220_20 : a_ins 220 20 = some (.goto 16, (0, 0, 0)) := by decide +kernel
theorem i_220_23 : a_ins 220 23 = some (.aload_n 0, (0, 0, 0)) := by decide +kernel
theorem i_220_24 : a_ins 220 24 = some (.getfield 9, (100, 0, 1729)) := by decide +kernel
theorem i_220_27 : a_ins 220 27 = some (.iload_n 1, (0, 0, 0)) := by decide +kernel
theorem i_220_28 : a_ins 220 28 = some (.iload_n 2, (0, 0, 0)) := by decide +kernel
theorem i_220_29 : a_ins 220 29 = some (.aload_n 0, (0, 0, 0)) := by decide +kernel
theorem i_220_30 : a_ins 220 30 = some (.invokevirtual 505, (0, 212, 0)) := by decide +kernel
theorem i_220_36 : a_ins 220 36 = some (.ireturn, (0, 0, 0)) := by decide +kernel
theorem i_221_0 : a_ins 221 0 = some (.iload_n 1, (0, 0, 0)) := by decide +kernel
theorem i_221_1 : a_ins 221 1 = some (.invokestatic 88, (1, 222, 1)) := by decide +kernel
theorem i_221_4 : a_ins 221 4 = some (.ifCond .ne 5, (0, 0, 0)) := by decide +kernel
theorem i_221_7 : a_ins 221 7 = some (.iconst (-1), (0, 0, 0)) := by decide +kernel
theorem i_221_8 : a_ins 221 8 = some (.ireturn, (0, 0, 0)) := by decide +kernel
theorem i_221_9 : a_ins 221 9 = some (.iload_n 2, (0, 0, 0)) := by decide +kernel
theorem i_221_10 : a_ins 221 10 = some (.iconst 0, (0, 0, 0)) := by decide +kernel
theorem i_221_11 : a_ins 221 11 = some (.invokestatic 92, (6, 0, 2)) := by decide +kernel
theorem i_221_14 : a_ins 221 14 = some (.istore_n 2, (0, 0, 0)) := by decide +kernel
theorem i_221_15 : a_ins 221 15 = some (.iload_n 3, (0, 0, 0)) := by decide +kernel
theorem i_221_16 : a_ins 221 16 = some (.aload_n 0, (0, 0, 0)) := by decide +kernel
theorem i_221_17 : a_ins 221 17 = some (.arraylength, (0, 0, 0)) := by decide +kernel
theorem i_221_18 : a_ins 221 18 = some (.invokestatic 38, (5, 0, 2)) := by decide +kernel
theorem i_221_21 : a_ins 221 21 = some (.istore_n 3, (0, 0, 0)) := by decide +kernel
theorem i_221_22 : a_ins 221 22 = some (.iload_n 2, (0, 0, 0)) := by decide +kernel
theorem i_221_23 : a_ins 221 23 = some (.iload_n 3, (0, 0, 0)) := by decide +kernel
theorem i_221_24 : a_ins 221 24 = some (.if_icmp .lt 5, (0, 0, 0)) := by decide +kernel
theorem i_221_27 : a_ins 221 27 = some (.iconst (-1), (0, 0, 0)) := by decide +kernel
theorem i_221_28 : a_ins 221 28 = some (.ireturn, (0, 0, 0)) := by decide +kernel
theorem i_221_29 : a_ins 221 29 = some (.aload_n 0, (0, 0, 0)) := by decide +kernel
theorem i_221_30 : a_ins 221 30 = some (.iload_n 1, (0, 0, 0)) := by decide +kernel
theorem i_221_31 : a_ins 221 31 = some (.iload_n 2, (0, 0, 0)) := by decide +kernel
theorem i_221_32 : a_ins 221 32 = some (.iload_n 3, (0, 0, 0)) := by decide +kernel
theorem i_221_33 : a_ins 221 33 = some (.invokestatic 95, (1, 223, 4)) := by decide +kernel
theorem i_221_36 : a_ins 221 36 = some (.ireturn, (0, 0, 0)) := by decide +kernel
theorem i_222_0 : a_ins 222 0 = some (.iload_n 0, (0, 0, 0)) := by decide +kernel
theorem i_222_1 : a_ins 222 1 = some (.ifCond .lt 14, (0, 0, 0)) := by decide +kernel
theorem i_222_4 : a_ins 222 4 = some (.iload_n 0, (0, 0, 0)) := by decide +kernel
theorem i_222_5 : a_ins 222 5 = some (.sipush 255, (0, 0, 0)) := by decide +kernel
theorem i_222_8 : a_ins 222 8 = some (.if_icmp .gt 7, (0, 0, 0)) := by decide +kernel
theorem i_222_11 : a_ins 222 11 = some (.iconst 1, (0, 0, 0)) := by decide +kernel
theorem i_222_12 : a_ins 222 12 = some (.goto 4, (0, 0, 0)) := by decide +kernel
theorem i_222_15 : a_ins 222 15 = some (.iconst 0, (0, 0, 0)) := by decide +kernel
theorem i_222_16 : a_ins 222 16 = some (.ireturn, (0, 0, 0)) := by decide +kernel
theorem i_223_0 : a_ins 223 0 = some (.iload_n 1, (0, 0, 0)) := by decide +kernel
theorem i_223_1 : a_ins 223 1 = some (.i2b, (0, 0, 0)) := by decide +kernel
theorem i_223_2 : a_ins 223 2 = some (.istore 4, (0, 0, 0)) := by decide +kernel
theorem i_223_4 : a_ins 223 4 = some (.iload_n 2, (0, 0, 0)) := by decide +kernel
theorem i_223_5 : a_ins 223 5 = some (.istore 5, (0, 0, 0)) := by decide +kernel
theorem i_223_7 : a_ins 223 7 = some (.iload 5, (0, 0, 0)) := by decide +kernel
theorem i_223_9 : a_ins 223 9 = some (.iload_n 3, (0, 0, 0)) := by decide +kernel
theorem i_223_10 : a_ins 223 10 = some (.if_icmp .ge 21, (0, 0, 0)) := by decide +kernel
theorem i_223_13 : a_ins 223 13 = some (.aload_n 0, (0, 0, 0)) := by decide +kernel
theorem i_223_14 : a_ins 223 14 = some (.iload 5, (0, 0, 0)) := by decide +kernel
theorem i_223_16 : a_ins 223 16 = some (.baload, (0, 0, 0)) := by decide +kernel
theorem i_223_17 : a_ins 223 17 = some (.iload 4, (0, 0, 0)) := by decide +kernel
theorem i_223_19 : a_ins 223 19 = some (.if_icmp .ne 6, (0, 0, 0)) := by decide +kernel
theorem i_223_22 : a_ins 223 22 = some (.iload 5, (0, 0, 0)) := by decide +kernel
theorem i_223_24 : a_ins 223 24 = some (.ireturn, (0, 0, 0)) := by decide +kernel
theorem i_223_25 : a_ins 223 25 = some (.iinc 5 1, (0, 0, 0)) := by decide +kernel
theorem i_223_28 : a_ins 223 28 = some (.goto (-21), (0, 0, 0)) := by decide +kernel
theorem i_223_31 : a_ins 223 31 = some (.iconst (-1), (0, 0, 0)) := by decide +kernel
theorem i_223_32 : a_ins 223 32 = some (.ireturn, (0, 0, 0)) := by decide +kernel
