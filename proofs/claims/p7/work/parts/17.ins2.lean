theorem i_68_22 : a_ins 68 22 = some (.ireturn, (0, 0, 0)) := by decide +kernel
theorem i_68_23 : a_ins 68 23 = some (.aload_n 0, (0, 0, 0)) := by decide +kernel
theorem i_68_24 : a_ins 68 24 = some (.aload_n 0, (0, 0, 0)) := by decide +kernel
theorem i_68_25 : a_ins 68 25 = some (.getfield 63, (10, 8, 736)) := by decide +kernel
theorem i_68_28 : a_ins 68 28 = some (.aload_n 0, (0, 0, 0)) := by decide +kernel
theorem i_68_29 : a_ins 68 29 = some (.getfield 9, (10, 0, 728)) := by decide +kernel
theorem i_68_32 : a_ins 68 32 = some (.aload_n 0, (0, 0, 0)) := by decide +kernel
theorem i_68_33 : a_ins 68 33 = some (.getfield 45, (10, 5, 733)) := by decide +kernel
theorem i_68_36 : a_ins 68 36 = some (.iload_n 1, (0, 0, 0)) := by decide +kernel
theorem i_68_37 : a_ins 68 37 = some (.invokevirtual 105, (0, 69, 3)) := by decide +kernel
theorem i_68_40 : a_ins 68 40 = some (.putfield 69, (10, 10, 738)) := by decide +kernel
theorem i_68_43 : a_ins 68 43 = some (.aload_n 0, (0, 0, 0)) := by decide +kernel
theorem i_68_44 : a_ins 68 44 = some (.aload_n 0, (0, 0, 0)) := by decide +kernel
theorem i_68_45 : a_ins 68 45 = some (.getfield 69, (10, 10, 738)) := by decide +kernel
theorem i_68_48 : a_ins 68 48 = some (.iconst (-1), (0, 0, 0)) := by decide +kernel
theorem i_68_49 : a_ins 68 49 = some (.if_icmp .ne 7, (0, 0, 0)) := by decide +kernel
theorem i_68_52 : a_ins 68 52 = some (.iconst 0, (0, 0, 0)) := by decide +kernel
theorem i_68_53 : a_ins 68 53 = some (.goto 4, (0, 0, 0)) := by decide +kernel
theorem i_68_56 : a_ins 68 56 = some (.iconst 1, (0, 0, 0)) := by decide +kernel
theorem i_68_57 : a_ins 68 57 = some (.putfield 66, (10, 9, 737)) := by decide +kernel
theorem i_68_60 : a_ins 68 60 = some (.aload_n 0, (0, 0, 0)) := by decide +kernel
theorem i_68_61 : a_ins 68 61 = some (.getfield 69, (10, 10, 738)) := by decide +kernel
theorem i_68_64 : a_ins 68 64 = some (.iconst (-1), (0, 0, 0)) := by decide +kernel
theorem i_68_65 : a_ins 68 65 = some (.if_icmp .eq 5, (0, 0, 0)) := by decide +kernel
theorem i_68_68 : a_ins 68 68 = some (.iconst (-1), (0, 0, 0)) := by decide +kernel
theorem i_68_69 : a_ins 68 69 = some (.ireturn, (0, 0, 0)) := by decide +kernel
theorem i_68_70 : a_ins 68 70 = some (.aload_n 0, (0, 0, 0)) := by decide +kernel
theorem i_68_71 : a_ins 68 71 = some (.getfield 59, (10, 7, 735)) := by decide +kernel
theorem i_68_74 : a_ins 68 74 = some (.astore_n 2, (0, 0, 0)) := by decide +kernel
theorem i_68_75 : a_ins 68 75 = some (.aload_n 0, (0, 0, 0)) := by decide +kernel
theorem i_68_76 : a_ins 68 76 = some (.aload_n 0, (0, 0, 0)) := by decide +kernel
theorem i_68_77 : a_ins 68 77 = some (.getfield 63, (10, 8, 736)) := by decide +kernel
theorem i_68_80 : a_ins 68 80 = some (.putfield 59, (10, 7, 735)) := by decide +kernel
theorem i_68_83 : a_ins 68 83 = some (.aload_n 0, (0, 0, 0)) := by decide +kernel
theorem i_68_84 : a_ins 68 84 = some (.aload_n 2, (0, 0, 0)) := by decide +kernel
theorem i_68_85 : a_ins 68 85 = some (.putfield 63, (10, 8, 736)) := by decide +kernel
theorem i_68_88 : a_ins 68 88 = some (.aload_n 0, (0, 0, 0)) := by decide +kernel
theorem i_68_89 : a_ins 68 89 = some (.iconst 0, (0, 0, 0)) := by decide +kernel
theorem i_68_90 : a_ins 68 90 = some (.putfield 45, (10, 5, 733)) := by decide +kernel
theorem i_68_93 : a_ins 68 93 = some (.aload_n 0, (0, 0, 0)) := by decide +kernel
theorem i_68_94 : a_ins 68 94 = some (.getfield 25, (10, 2, 730)) := by decide +kernel
theorem i_68_97 : a_ins 68 97 = some (.invokevirtual 108, (0, 71, 0)) := by decide +kernel
theorem i_68_100 : a_ins 68 100 = some (.aload_n 0, (0, 0, 0)) := by decide +kernel
theorem i_68_101 : a_ins 68 101 = some (.invokevirtual 75, (0, 12, 0)) := by decide +kernel
theorem i_68_104 : a_ins 68 104 = some (.aload_n 0, (0, 0, 0)) := by decide +kernel
theorem i_68_105 : a_ins 68 105 = some (.getfield 59, (10, 7, 735)) := by decide +kernel
theorem i_68_108 : a_ins 68 108 = some (.getfield 111, (5, 5, 527)) := by decide +kernel
theorem i_68_111 : a_ins 68 111 = some (.ireturn, (0, 0, 0)) := by decide +kernel
theorem i_69_0 : a_ins 69 0 = some (.aload_n 0, (0, 0, 0)) := by decide +kernel
theorem i_69_1 : a_ins 69 1 = some (.invokevirtual 36, (0, 66, 0)) := by decide +kernel
theorem i_69_4 : a_ins 69 4 = some (.aload_n 0, (0, 0, 0)) := by decide +kernel
theorem i_69_5 : a_ins 69 5 = some (.iload_n 3, (0, 0, 0)) := by decide +kernel
theorem i_69_6 : a_ins 69 6 = some (.putfield 33, (5, 6, 528)) := by decide +kernel
theorem i_69_9 : a_ins 69 9 = some (.iconst 0, (0, 0, 0)) := by decide +kernel
theorem i_69_10 : a_ins 69 10 = some (.istore 4, (0, 0, 0)) := by decide +kernel
theorem i_69_12 : a_ins 69 12 = some (.iconst 0, (0, 0, 0)) := by decide +kernel
theorem i_69_13 : a_ins 69 13 = some (.istore 5, (0, 0, 0)) := by decide +kernel
theorem i_69_15 : a_ins 69 15 = some (.iconst 0, (0, 0, 0)) := by decide +kernel
theorem i_69_16 : a_ins 69 16 = some (.istore 6, (0, 0, 0)) := by decide +kernel
theorem i_69_18 : a_ins 69 18 = some (.iload 6, (0, 0, 0)) := by decide +kernel
theorem i_69_20 : a_ins 69 20 = some (.iload_n 2, (0, 0, 0)) := by decide +kernel
theorem i_69_21 : a_ins 69 21 = some (.if_icmp .ge 124, (0, 0, 0)) := by decide +kernel
theorem i_69_24 : a_ins 69 24 = some (.aload_n 1, (0, 0, 0)) := by decide +kernel
theorem i_69_25 : a_ins 69 25 = some (.iload 6, (0, 0, 0)) := by decide +kernel
theorem i_69_27 : a_ins 69 27 = some (.caload, (0, 0, 0)) := by decide +kernel
theorem i_69_28 : a_ins 69 28 = some (.istore 7, (0, 0, 0)) := by decide +kernel
theorem i_69_30 : a_ins 69 30 = some (.iload 7, (0, 0, 0)) := by decide +kernel
theorem i_69_32 : a_ins 69 32 = some (.invokestatic 39, (1, 43, 1)) := by decide +kernel
theorem i_69_35 : a_ins 69 35 = some (.ifCond .eq 62, (0, 0, 0)) := by decide +kernel
theorem i_69_38 : a_ins 69 38 = some (.iload 4, (0, 0, 0)) := by decide +kernel
theorem i_69_40 : a_ins 69 40 = some (.bipush 12, (0, 0, 0)) := by decide +kernel
theorem i_69_42 : a_ins 69 42 = some (.if_icmp .eq 17, (0, 0, 0)) := by decide +kernel
theorem i_69_45 : a_ins 69 45 = some (.iload 4, (0, 0, 0)) := by decide +kernel
theorem i_69_47 : a_ins 69 47 = some (.ifCond .ne 15, (0, 0, 0)) := by decide +kernel
theorem i_69_50 : a_ins 69 50 = some (.aload_n 0, (0, 0, 0)) := by decide +kernel
theorem i_69_51 : a_ins 69 51 = some (.getfield 30, (5, 5, 526)) := by decide +kernel
theorem i_69_54 : a_ins 69 54 = some (.bipush 14, (0, 0, 0)) := by decide +kernel
theorem i_69_56 : a_ins 69 56 = some (.if_icmp .ne 6, (0, 0, 0)) := by decide +kernel
theorem i_69_59 : a_ins 69 59 = some (.iload 6, (0, 0, 0)) := by decide +kernel
theorem i_69_61 : a_ins 69 61 = some (.ireturn, (0, 0, 0)) := by decide +kernel
theorem i_69_62 : a_ins 69 62 = some (.iload 4, (0, 0, 0)) := by decide +kernel
theorem i_69_64 : a_ins 69 64 = some (.ifCond .ne 11, (0, 0, 0)) := by decide +kernel
theorem i_69_67 : a_ins 69 67 = some (.aload_n 0, (0, 0, 0)) := by decide +kernel
theorem i_69_68 : a_ins 69 68 = some (.iload 6, (0, 0, 0)) := by decide +kernel
theorem i_69_70 : a_ins 69 70 = some (.iload 5, (0, 0, 0)) := by decide +kernel
theorem i_69_72 : a_ins 69 72 = some (.invokevirtual 45, (0, 70, 2)) := by decide +kernel
theorem i_69_75 : a_ins 69 75 = some (.iinc 4 1, (0, 0, 0)) := by decide +kernel
theorem i_69_78 : a_ins 69 78 = some (.aload_n 0, (0, 0, 0)) := by decide +kernel
theorem i_69_79 : a_ins 69 79 = some (.getfield 19, (5, 2, 520)) := by decide +kernel
theorem i_69_82 : a_ins 69 82 = some (.aload_n 0, (0, 0, 0)) := by decide +kernel
theorem i_69_83 : a_ins 69 83 = some (.getfield 30, (5, 5, 526)) := by decide +kernel
theorem i_69_86 : a_ins 69 86 = some (.iconst 1, (0, 0, 0)) := by decide +kernel
theorem i_69_87 : a_ins 69 87 = some (.isub, (0, 0, 0)) := by decide +kernel
theorem i_69_88 : a_ins 69 88 = some (.iload 4, (0, 0, 0)) := by decide +kernel
theorem i_69_90 : a_ins 69 90 = some (.iastore, (0, 0, 0)) := by decide +kernel
theorem i_69_91 : a_ins 69 91 = some (.iconst 0, (0, 0, 0)) := by decide +kernel
theorem i_69_92 : a_ins 69 92 = some (.istore 5, (0, 0, 0)) := by decide +kernel
theorem i_69_94 : a_ins 69 94 = some (.goto 45, (0, 0, 0)) := by decide +kernel
theorem i_69_97 : a_ins 69 97 = some (.iload 5, (0, 0, 0)) := by decide +kernel
theorem i_69_99 : a_ins 69 99 = some (.ifCond .eq 6, (0, 0, 0)) := by decide +kernel
theorem i_69_102 : a_ins 69 102 = some (.iload 6, (0, 0, 0)) := by decide +kernel
theorem i_69_104 : a_ins 69 104 = some (.ireturn, (0, 0, 0)) := by decide +kernel
theorem i_69_105 : a_ins 69 105 = some (.iload 7, (0, 0, 0)) := by decide +kernel
theorem i_69_107 : a_ins 69 107 = some (.bipush 32, (0, 0, 0)) := by decide +kernel
theorem i_69_109 : a_ins 69 109 = some (.if_icmp .ne 9, (0, 0, 0)) := by decide +kernel
theorem i_69_112 : a_ins 69 112 = some (.iconst 0, (0, 0, 0)) := by decide +kernel
theorem i_69_113 : a_ins 69 113 = some (.istore 4, (0, 0, 0)) := by decide +kernel
theorem i_69_115 : a_ins 69 115 = some (.goto 24, (0, 0, 0)) := by decide +kernel
theorem i_69_118 : a_ins 69 118 = some (.iload 7, (0, 0, 0)) := by decide +kernel
theorem i_69_120 : a_ins 69 120 = some (.bipush 61, (0, 0, 0)) := by decide +kernel
theorem i_69_122 : a_ins 69 122 = some (.if_icmp .ne 14, (0, 0, 0)) := by decide +kernel
theorem i_69_125 : a_ins 69 125 = some (.iload 4, (0, 0, 0)) := by decide +kernel
theorem i_69_127 : a_ins 69 127 = some (.ifCond .ne 9, (0, 0, 0)) := by decide +kernel
theorem i_69_130 : a_ins 69 130 = some (.iconst 1, (0, 0, 0)) := by decide +kernel
theorem i_69_131 : a_ins 69 131 = some (.istore 5, (0, 0, 0)) := by decide +kernel
theorem i_69_133 : a_ins 69 133 = some (.goto 6, (0, 0, 0)) := by decide +kernel
theorem i_69_136 : a_ins 69 136 = some (.iload 6, (0, 0, 0)) := by decide +kernel
theorem i_69_138 : a_ins 69 138 = some (.ireturn, (0, 0, 0)) := by decide +kernel
theorem i_69_139 : a_ins 69 139 = some (.iinc 6 1, (0, 0, 0)) := by decide +kernel
theorem i_69_142 : a_ins 69 142 = some (.goto (-124), (0, 0, 0)) := by decide +kernel
theorem i_69_145 : a_ins 69 145 = some (.iload 5, (0, 0, 0)) := by decide +kernel
theorem i_69_147 : a_ins 69 147 = some (.ifCond .ne 10, (0, 0, 0)) := by decide +kernel
theorem i_69_150 : a_ins 69 150 = some (.iload_n 2, (0, 0, 0)) := by decide +kernel
theorem i_69_151 : a_ins 69 151 = some (.sipush 200, (0, 0, 0)) := by decide +kernel
theorem i_69_154 : a_ins 69 154 = some (.if_icmp .le 5, (0, 0, 0)) := by decide +kernel
theorem i_69_157 : a_ins 69 157 = some (.iload_n 2, (0, 0, 0)) := by decide +kernel
theorem i_69_158 : a_ins 69 158 = some (.ireturn, (0, 0, 0)) := by decide +kernel
theorem i_69_159 : a_ins 69 159 = some (.aload_n 1, (0, 0, 0)) := by decide +kernel
theorem i_69_160 : a_ins 69 160 = some (.iconst 0, (0, 0, 0)) := by decide +kernel
theorem i_69_161 : a_ins 69 161 = some (.aload_n 0, (0, 0, 0)) := by decide +kernel
theorem i_69_162 : a_ins 69 162 = some (.getfield 9, (5, 0, 514)) := by decide +kernel
theorem i_69_165 : a_ins 69 165 = some (.iconst 0, (0, 0, 0)) := by decide +kernel
theorem i_69_166 : a_ins 69 166 = some (.iload_n 2, (0, 0, 0)) := by decide +kernel
theorem i_69_167 : a_ins 69 167 = some (.invokestatic 49, (7, 0, 5)) := by decide +kernel
theorem i_69_170 : a_ins 69 170 = some (.aload_n 0, (0, 0, 0)) := by decide +kernel
theorem i_69_171 : a_ins 69 171 = some (.iload_n 2, (0, 0, 0)) := by decide +kernel
theorem i_69_172 : a_ins 69 172 = some (.putfield 26, (5, 4, 524)) := by decide +kernel
theorem i_69_175 : a_ins 69 175 = some (.iconst (-1), (0, 0, 0)) := by decide +kernel
theorem i_69_176 : a_ins 69 176 = some (.ireturn, (0, 0, 0)) := by decide +kernel
theorem i_70_0 : a_ins 70 0 = some (.aload_n 0, (0, 0, 0)) := by decide +kernel
theorem i_70_1 : a_ins 70 1 = some (.getfield 15, (5, 1, 517)) := by decide +kernel
theorem i_70_4 : a_ins 70 4 = some (.aload_n 0, (0, 0, 0)) := by decide +kernel
theorem i_70_5 : a_ins 70 5 = some (.getfield 30, (5, 5, 526)) := by decide +kernel
theorem i_70_8 : a_ins 70 8 = some (.iload_n 1, (0, 0, 0)) := by decide +kernel
theorem i_70_9 : a_ins 70 9 = some (.iastore, (0, 0, 0)) := by decide +kernel
theorem i_70_10 : a_ins 70 10 = some (.aload_n 0, (0, 0, 0)) := by decide +kernel
theorem i_70_11 : a_ins 70 11 = some (.getfield 22, (5, 3, 522)) := by decide +kernel
theorem i_70_14 : a_ins 70 14 = some (.aload_n 0, (0, 0, 0)) := by decide +kernel
theorem i_70_15 : a_ins 70 15 = some (.getfield 30, (5, 5, 526)) := by decide +kernel
theorem i_70_18 : a_ins 70 18 = some (.iload_n 2, (0, 0, 0)) := by decide +kernel
theorem i_70_19 : a_ins 70 19 = some (.bastore, (0, 0, 0)) := by decide +kernel
theorem i_70_20 : a_ins 70 20 = some (.aload_n 0, (0, 0, 0)) := by decide +kernel
theorem i_70_21 : a_ins 70 21 = some (.dup, (0, 0, 0)) := by decide +kernel
theorem i_70_22 : a_ins 70 22 = some (.getfield 30, (5, 5, 526)) := by decide +kernel
theorem i_70_25 : a_ins 70 25 = some (.iconst 1, (0, 0, 0)) := by decide +kernel
theorem i_70_26 : a_ins 70 26 = some (.iadd, (0, 0, 0)) := by decide +kernel
theorem i_70_27 : a_ins 70 27 = some (.putfield 30, (5, 5, 526)) := by decide +kernel
theorem i_70_30 : a_ins 70 30 = some (.return_, (0, 0, 0)) := by decide +kernel
theorem i_71_0 : a_ins 71 0 = some (.iconst 0, (0, 0, 0)) := by decide +kernel
theorem i_71_1 : a_ins 71 1 = some (.istore_n 1, (0, 0, 0)) := by decide +kernel
theorem i_71_2 : a_ins 71 2 = some (.iload_n 1, (0, 0, 0)) := by decide +kernel
theorem i_71_3 : a_ins 71 3 = some (.aload_n 0, (0, 0, 0)) := by decide +kernel
theorem i_71_4 : a_ins 71 4 = some (.getfield 22, (4, 3, 322)) := by decide +kernel
theorem i_71_7 : a_ins 71 7 = some (.if_icmp .ge 16, (0, 0, 0)) := by decide +kernel
theorem i_71_10 : a_ins 71 10 = some (.aload_n 0, (0, 0, 0)) := by decide +kernel
theorem i_71_11 : a_ins 71 11 = some (.getfield 9, (4, 0, 317)) := by decide +kernel
theorem i_71_14 : a_ins 71 14 = some (.iload_n 1, (0, 0, 0)) := by decide +kernel
theorem i_71_15 : a_ins 71 15 = some (.iconst (-1), (0, 0, 0)) := by decide +kernel
theorem i_71_16 : a_ins 71 16 = some (.iastore, (0, 0, 0)) := by decide +kernel
theorem i_71_17 : a_ins 71 17 = some (.iinc 1 1, (0, 0, 0)) := by decide +kernel
theorem i_71_20 : a_ins 71 20 = some (.goto (-18), (0, 0, 0)) := by decide +kernel
theorem i_71_23 : a_ins 71 23 = some (.return_, (0, 0, 0)) := by decide +kernel
theorem i_72_0 : a_ins 72 0 = some (.iload_n 1, (0, 0, 0)) := by decide +kernel
theorem i_72_1 : a_ins 72 1 = some (.lookupswitch 37 #[(0, 27), (1, 32)], (0, 0, 0)) := by decide +kernel
theorem i_72_28 : a_ins 72 28 = some (.aload_n 0, (0, 0, 0)) := by decide +kernel
theorem i_72_29 : a_ins 72 29 = some (.getfield 66, (10, 9, 737)) := by decide +kernel
theorem i_72_32 : a_ins 72 32 = some (.ireturn, (0, 0, 0)) := by decide +kernel
theorem i_72_33 : a_ins 72 33 = some (.aload_n 0, (0, 0, 0)) := by decide +kernel
theorem i_72_34 : a_ins 72 34 = some (.getfield 69, (10, 10, 738)) := by decide +kernel
theorem i_72_37 : a_ins 72 37 = some (.ireturn, (0, 0, 0)) := by decide +kernel
theorem i_72_38 : a_ins 72 38 = some (.iconst (-1), (0, 0, 0)) := by decide +kernel
theorem i_72_39 : a_ins 72 39 = some (.ireturn, (0, 0, 0)) := by decide +kernel
theorem i_73_0 : a_ins 73 0 = some (.iload_n 1, (0, 0, 0)) := by decide +kernel
theorem i_73_1 : a_ins 73 1 = some (.iconst (-1), (0, 0, 0)) := by decide +kernel
theorem i_73_2 : a_ins 73 2 = some (.if_icmp .eq 16, (0, 0, 0)) := by decide +kernel
theorem i_73_5 : a_ins 73 5 = some (.iload_n 1, (0, 0, 0)) := by decide +kernel
theorem i_73_6 : a_ins 73 6 = some (.ifCond .lt 10, (0, 0, 0)) := by decide +kernel
theorem i_73_9 : a_ins 73 9 = some (.iload_n 1, (0, 0, 0)) := by decide +kernel
theorem i_73_10 : a_ins 73 10 = some (.sipush 400, (0, 0, 0)) := by decide +kernel
theorem i_73_13 : a_ins 73 13 = some (.if_icmp .le 5, (0, 0, 0)) := by decide +kernel
theorem i_73_16 : a_ins 73 16 = some (.iconst 0, (0, 0, 0)) := by decide +kernel
theorem i_73_17 : a_ins 73 17 = some (.ireturn, (0, 0, 0)) := by decide +kernel
theorem i_73_18 : a_ins 73 18 = some (.aload_n 0, (0, 0, 0)) := by decide +kernel
theorem i_73_19 : a_ins 73 19 = some (.iload_n 1, (0, 0, 0)) := by decide +kernel
theorem i_73_20 : a_ins 73 20 = some (.putfield 72, (10, 11, 739)) := by decide +kernel
theorem i_73_23 : a_ins 73 23 = some (.aload_n 0, (0, 0, 0)) := by decide +kernel
theorem i_73_24 : a_ins 73 24 = some (.getfield 41, (10, 4, 732)) := by decide +kernel
theorem i_73_27 : a_ins 73 27 = some (.aload_n 0, (0, 0, 0)) := by decide +kernel
theorem i_73_28 : a_ins 73 28 = some (.getfield 52, (10, 6, 734)) := by decide +kernel
theorem i_73_31 : a_ins 73 31 = some (.getfield 113, (0, 10, 202)) := by decide +kernel
theorem i_73_34 : a_ins 73 34 = some (.aload_n 0, (0, 0, 0)) := by decide +kernel
theorem i_73_35 : a_ins 73 35 = some (.getfield 72, (10, 11, 739)) := by decide +kernel
theorem i_73_38 : a_ins 73 38 = some (.invokevirtual 117, (0, 34, 2)) := by decide +kernel
theorem i_73_41 : a_ins 73 41 = some (.iconst 1, (0, 0, 0)) := by decide +kernel
theorem i_73_42 : a_ins 73 42 = some (.ireturn, (0, 0, 0)) := by decide +kernel
theorem i_74_0 : a_ins 74 0 = some (.aload_n 0, (0, 0, 0)) := by decide +kernel
theorem i_74_1 : a_ins 74 1 = some (.getfield 32, (10, 3, 731)) := by decide +kernel
theorem i_74_4 : a_ins 74 4 = some (.iload_n 1, (0, 0, 0)) := by decide +kernel
theorem i_74_5 : a_ins 74 5 = some (.invokevirtual 121, (0, 75, 1)) := by decide +kernel
theorem i_74_8 : a_ins 74 8 = some (.ifCond .eq 15, (0, 0, 0)) := by decide +kernel
theorem i_74_11 : a_ins 74 11 = some (.aload_n 0, (0, 0, 0)) := by decide +kernel
theorem i_74_12 : a_ins 74 12 = some (.getfield 32, (10, 3, 731)) := by decide +kernel
theorem i_74_15 : a_ins 74 15 = some (.getfield 124, (2, 0, 344)) := by decide +kernel
theorem i_74_18 : a_ins 74 18 = some (.iload_n 1, (0, 0, 0)) := by decide +kernel
theorem i_74_19 : a_ins 74 19 = some (.iaload, (0, 0, 0)) := by decide +kernel
theorem i_74_20 : a_ins 74 20 = some (.goto 4, (0, 0, 0)) := by decide +kernel
theorem i_74_23 : a_ins 74 23 = some (.iconst (-1), (0, 0, 0)) := by decide +kernel
theorem i_74_24 : a_ins 74 24 = some (.ireturn, (0, 0, 0)) := by decide +kernel
theorem i_75_0 : a_ins 75 0 = some (.iload_n 1, (0, 0, 0)) := by decide +kernel
theorem i_75_1 : a_ins 75 1 = some (.ifCond .lt 15, (0, 0, 0)) := by decide +kernel
theorem i_75_4 : a_ins 75 4 = some (.iload_n 1, (0, 0, 0)) := by decide +kernel
theorem i_75_5 : a_ins 75 5 = some (.aload_n 0, (0, 0, 0)) := by decide +kernel
theorem i_75_6 : a_ins 75 6 = some (.getfield 43, (2, 8, 365)) := by decide +kernel
theorem i_75_9 : a_ins 75 9 = some (.if_icmp .ge 7, (0, 0, 0)) := by decide +kernel
theorem i_75_12 : a_ins 75 12 = some (.iconst 1, (0, 0, 0)) := by decide +kernel
theorem i_75_13 : a_ins 75 13 = some (.goto 4, (0, 0, 0)) := by decide +kernel
theorem i_75_16 : a_ins 75 16 = some (.iconst 0, (0, 0, 0)) := by decide +kernel
theorem i_75_17 : a_ins 75 17 = some (.ireturn, (0, 0, 0)) := by decide +kernel
theorem i_76_0 : a_ins 76 0 = some (.aload_n 0, (0, 0, 0)) := by decide +kernel
theorem i_76_1 : a_ins 76 1 = some (.getfield 32, (10, 3, 731)) := by decide +kernel
theorem i_76_4 : a_ins 76 4 = some (.iload_n 1, (0, 0, 0)) := by decide +kernel
theorem i_76_5 : a_ins 76 5 = some (.iload_n 2, (0, 0, 0)) := by decide +kernel
theorem i_76_6 : a_ins 76 6 = some (.invokevirtual 127, (0, 77, 2)) := by decide +kernel
theorem i_76_9 : a_ins 76 9 = some (.istore 4, (0, 0, 0)) := by decide +kernel
theorem i_76_11 : a_ins 76 11 = some (.iload 4, (0, 0, 0)) := by decide +kernel
theorem i_76_13 : a_ins 76 13 = some (.iconst (-1), (0, 0, 0)) := by decide +kernel
theorem i_76_14 : a_ins 76 14 = some (.if_icmp .ne 5, (0, 0, 0)) := by decide +kernel
theorem i_76_17 : a_ins 76 17 = some (.iconst (-1), (0, 0, 0)) := by decide +kernel
theorem i_76_18 : a_ins 76 18 = some (.ireturn, (0, 0, 0)) := by decide +kernel
theorem i_76_19 : a_ins 76 19 = some (.iload_n 3, (0, 0, 0)) := by decide +kernel
theorem i_76_20 : a_ins 76 20 = some (.tableswitch 118 0 5 #[40, 51, 62, 83, 97, 108], (0, 0, 0)) := by decide +kernel
theorem i_76_60 : a_ins 76 60 = some (.aload_n 0, (0, 0, 0)) := by decide +kernel
theorem i_76_61 : a_ins 76 61 = some (.getfield 32, (10, 3, 731)) := by decide +kernel
theorem i_76_64 : a_ins 76 64 = some (.getfield 131, (2, 3, 354)) := by decide +kernel
theorem i_76_67 : a_ins 76 67 = some (.iload 4, (0, 0, 0)) := by decide +kernel
theorem i_76_69 : a_ins 76 69 = some (.iaload, (0, 0, 0)) := by decide +kernel
theorem i_76_70 : a_ins 76 70 = some (.ireturn, (0, 0, 0)) := by decide +kernel
theorem i_76_71 : a_ins 76 71 = some (.aload_n 0, (0, 0, 0)) := by decide +kernel
theorem i_76_72 : a_ins 76 72 = some (.getfield 32, (10, 3, 731)) := by decide +kernel
theorem i_76_75 : a_ins 76 75 = some (.getfield 134, (2, 4, 357)) := by decide +kernel
theorem i_76_78 : a_ins 76 78 = some (.iload 4, (0, 0, 0)) := by decide +kernel
theorem i_76_80 : a_ins 76 80 = some (.iaload, (0, 0, 0)) := by decide +kernel
theorem i_76_81 : a_ins 76 81 = some (.ireturn, (0, 0, 0)) := by decide +kernel
theorem i_76_82 : a_ins 76 82 = some (.aload_n 0, (0, 0, 0)) := by decide +kernel
theorem i_76_83 : a_ins 76 83 = some (.getfield 32, (10, 3, 731)) := by decide +kernel
theorem i_76_86 : a_ins 76 86 = some (.getfield 137, (2, 1, 348)) := by decide +kernel
theorem i_76_89 : a_ins 76 89 = some (.iload_n 1, (0, 0, 0)) := by decide +kernel
theorem i_76_90 : a_ins 76 90 = some (.iaload, (0, 0, 0)) := by decide +kernel
theorem i_76_91 : a_ins 76 91 = some (.aload_n 0, (0, 0, 0)) := by decide +kernel
theorem i_76_92 : a_ins 76 92 = some (.getfield 32, (10, 3, 731)) := by decide +kernel
theorem i_76_95 : a_ins 76 95 = some (.getfield 140, (2, 5, 361)) := by decide +kernel
theorem i_76_98 : a_ins 76 98 = some (.iload 4, (0, 0, 0)) := by decide +kernel
theorem i_76_100 : a_ins 76 100 = some (.iaload, (0, 0, 0)) := by decide +kernel
theorem i_76_101 : a_ins 76 101 = some (.iadd, (0, 0, 0)) := by decide +kernel
theorem i_76_102 : a_ins 76 102 = some (.ireturn, (0, 0, 0)) := by decide +kernel
theorem i_76_103 : a_ins 76 103 = some (.aload_n 0, (0, 0, 0)) := by decide +kernel
theorem i_76_104 : a_ins 76 104 = some (.getfield 32, (10, 3, 731)) := by decide +kernel
theorem i_76_107 : a_ins 76 107 = some (.getfield 143, (2, 2, 350)) := by decide +kernel
theorem i_76_110 : a_ins 76 110 = some (.getfield 146, (3, 1, 153)) := by decide +kernel
theorem i_76_113 : a_ins 76 113 = some (.iload 4, (0, 0, 0)) := by decide +kernel
theorem i_76_115 : a_ins 76 115 = some (.iaload, (0, 0, 0)) := by decide +kernel
theorem i_76_116 : a_ins 76 116 = some (.ireturn, (0, 0, 0)) := by decide +kernel
theorem i_76_117 : a_ins 76 117 = some (.aload_n 0, (0, 0, 0)) := by decide +kernel
theorem i_76_118 : a_ins 76 118 = some (.getfield 32, (10, 3, 731)) := by decide +kernel
theorem i_76_121 : a_ins 76 121 = some (.getfield 149, (2, 6, 363)) := by decide +kernel
theorem i_76_124 : a_ins 76 124 = some (.iload 4, (0, 0, 0)) := by decide +kernel
theorem i_76_126 : a_ins 76 126 = some (.iaload, (0, 0, 0)) := by decide +kernel
theorem i_76_127 : a_ins 76 127 = some (.ireturn, (0, 0, 0)) := by decide +kernel
theorem i_76_128 : a_ins 76 128 = some (.aload_n 0, (0, 0, 0)) := by decide +kernel
theorem i_76_129 : a_ins 76 129 = some (.getfield 41, (10, 4, 732)) := by decide +kernel
theorem i_76_132 : a_ins 76 132 = some (.iload 4, (0, 0, 0)) := by decide +kernel
theorem i_76_134 : a_ins 76 134 = some (.invokevirtual 152, (0, 78, 1)) := by decide +kernel
theorem i_76_137 : a_ins 76 137 = some (.ireturn, (0, 0, 0)) := by decide +kernel
theorem i_76_138 : a_ins 76 138 = some (.iconst (-1), (0, 0, 0)) := by decide +kernel
theorem i_76_139 : a_ins 76 139 = some (.ireturn, (0, 0, 0)) := by decide +kernel
theorem i_77_0 : a_ins 77 0 = some (.aload_n 0, (0, 0, 0)) := by decide +kernel
theorem i_77_1 : a_ins 77 1 = some (.iload_n 1, (0, 0, 0)) := by decide +kernel
theorem i_77_2 : a_ins 77 2 = some (.invokevirtual 47, (0, 75, 1)) := by decide +kernel
theorem i_77_5 : a_ins 77 5 = some (.ifCond .eq 17, (0, 0, 0)) := by decide +kernel
theorem i_77_8 : a_ins 77 8 = some (.iload_n 2, (0, 0, 0)) := by decide +kernel
theorem i_77_9 : a_ins 77 9 = some (.ifCond .lt 13, (0, 0, 0)) := by decide +kernel
theorem i_77_12 : a_ins 77 12 = some (.iload_n 2, (0, 0, 0)) := by decide +kernel
theorem i_77_13 : a_ins 77 13 = some (.aload_n 0, (0, 0, 0)) := by decide +kernel
theorem i_77_14 : a_ins 77 14 = some (.getfield 9, (2, 0, 341)) := by decide +kernel
theorem i_77_17 : a_ins 77 17 = some (.iload_n 1, (0, 0, 0)) := by decide +kernel
theorem i_77_18 : a_ins 77 18 = some (.iaload, (0, 0, 0)) := by decide +kernel
theorem i_77_19 : a_ins 77 19 = some (.if_icmp .lt 5, (0, 0, 0)) := by decide +kernel
theorem i_77_22 : a_ins 77 22 = some (.iconst (-1), (0, 0, 0)) := by decide +kernel
theorem i_77_23 : a_ins 77 23 = some (.ireturn, (0, 0, 0)) := by decide +kernel
theorem i_77_24 : a_ins 77 24 = some (.iload_n 1, (0, 0, 0)) := by decide +kernel
theorem i_77_25 : a_ins 77 25 = some (.bipush 12, (0, 0, 0)) := by decide +kernel
theorem i_77_27 : a_ins 77 27 = some (.imul, (0, 0, 0)) := by decide +kernel
theorem i_77_28 : a_ins 77 28 = some (.iload_n 2, (0, 0, 0)) := by decide +kernel
theorem i_77_29 : a_ins 77 29 = some (.iadd, (0, 0, 0)) := by decide +kernel
theorem i_77_30 : a_ins 77 30 = some (.ireturn, (0, 0, 0)) := by decide +kernel
theorem i_78_0 : a_ins 78 0 = some (.aload_n 0, (0, 0, 0)) := by decide +kernel
theorem i_78_1 : a_ins 78 1 = some (.invokevirtual 82, (0, 79, 0)) := by decide +kernel
theorem i_78_4 : a_ins 78 4 = some (.aload_n 0, (0, 0, 0)) := by decide +kernel
theorem i_78_5 : a_ins 78 5 = some (.getfield 9, (6, 3, 470)) := by decide +kernel
theorem i_78_8 : a_ins 78 8 = some (.iload_n 1, (0, 0, 0)) := by decide +kernel
theorem i_78_9 : a_ins 78 9 = some (.iaload, (0, 0, 0)) := by decide +kernel
theorem i_78_10 : a_ins 78 10 = some (.ldc 77, (0, 4, 1054)) := by decide +kernel
theorem i_78_12 : a_ins 78 12 = some (.if_icmp .ge 12, (0, 0, 0)) := by decide +kernel
theorem i_78_15 : a_ins 78 15 = some (.aload_n 0, (0, 0, 0)) := by decide +kernel
theorem i_78_16 : a_ins 78 16 = some (.getfield 9, (6, 3, 470)) := by decide +kernel
theorem i_78_19 : a_ins 78 19 = some (.iload_n 1, (0, 0, 0)) := by decide +kernel
theorem i_78_20 : a_ins 78 20 = some (.iaload, (0, 0, 0)) := by decide +kernel
theorem i_78_21 : a_ins 78 21 = some (.goto 4, (0, 0, 0)) := by decide +kernel
theorem i_78_24 : a_ins 78 24 = some (.iconst (-1), (0, 0, 0)) := by decide +kernel
theorem i_78_25 : a_ins 78 25 = some (.ireturn, (0, 0, 0)) := by decide +kernel
theorem i_79_0 : a_ins 79 0 = some (.aload_n 0, (0, 0, 0)) := by decide +kernel
theorem i_79_1 : a_ins 79 1 = some (.getfield 35, (6, 10, 479)) := by decide +kernel
theorem i_79_4 : a_ins 79 4 = some (.ifCond .eq 4, (0, 0, 0)) := by decide +kernel
theorem i_79_7 : a_ins 79 7 = some (.return_, (0, 0, 0)) := by decide +kernel
theorem i_79_8 : a_ins 79 8 = some (.aload_n 0, (0, 0, 0)) := by decide +kernel
theorem i_79_9 : a_ins 79 9 = some (.iconst 1, (0, 0, 0)) := by decide +kernel
theorem i_79_10 : a_ins 79 10 = some (.putfield 35, (6, 10, 479)) := by decide +kernel
theorem i_79_13 : a_ins 79 13 = some (.aload_n 0, (0, 0, 0)) := by decide +kernel
theorem i_79_14 : a_ins 79 14 = some (.iconst 0, (0, 0, 0)) := by decide +kernel
theorem i_79_15 : a_ins 79 15 = some (.putfield 39, (6, 11, 480)) := by decide +kernel
theorem i_79_18 : a_ins 79 18 = some (.iconst 0, (0, 0, 0)) := by decide +kernel
theorem i_79_19 : a_ins 79 19 = some (.istore_n 1, (0, 0, 0)) := by decide +kernel
theorem i_79_20 : a_ins 79 20 = some (.iload_n 1, (0, 0, 0)) := by decide +kernel
theorem i_79_21 : a_ins 79 21 = some (.bipush 14, (0, 0, 0)) := by decide +kernel
theorem i_79_23 : a_ins 79 23 = some (.if_icmp .ge 16, (0, 0, 0)) := by decide +kernel
theorem i_79_26 : a_ins 79 26 = some (.aload_n 0, (0, 0, 0)) := by decide +kernel
theorem i_79_27 : a_ins 79 27 = some (.getfield 21, (6, 6, 474)) := by decide +kernel
theorem i_79_30 : a_ins 79 30 = some (.iload_n 1, (0, 0, 0)) := by decide +kernel
theorem i_79_31 : a_ins 79 31 = some (.iconst 0, (0, 0, 0)) := by decide +kernel
theorem i_79_32 : a_ins 79 32 = some (.bastore, (0, 0, 0)) := by decide +kernel
theorem i_79_33 : a_ins 79 33 = some (.iinc 1 1, (0, 0, 0)) := by decide +kernel
theorem i_79_36 : a_ins 79 36 = some (.goto (-16), (0, 0, 0)) := by decide +kernel
theorem i_79_39 : a_ins 79 39 = some (.aload_n 0, (0, 0, 0)) := by decide +kernel
theorem i_79_40 : a_ins 79 40 = some (.getfield 42, (6, 0, 467)) := by decide +kernel
theorem i_79_43 : a_ins 79 43 = some (.getfield 64, (2, 8, 368)) := by decide +kernel
theorem i_79_46 : a_ins 79 46 = some (.ifCond .ne 9, (0, 0, 0)) := by decide +kernel
theorem i_79_49 : a_ins 79 49 = some (.aload_n 0, (0, 0, 0)) := by decide +kernel
theorem i_79_50 : a_ins 79 50 = some (.iconst 0, (0, 0, 0)) := by decide +kernel
theorem i_79_51 : a_ins 79 51 = some (.putfield 25, (6, 7, 475)) := by decide +kernel
theorem i_79_54 : a_ins 79 54 = some (.return_, (0, 0, 0)) := by decide +kernel
theorem i_79_55 : a_ins 79 55 = some (.aload_n 0, (0, 0, 0)) := by decide +kernel
theorem i_79_56 : a_ins 79 56 = some (.getfield 51, (6, 1, 468)) := by decide +kernel
theorem i_79_59 : a_ins 79 59 = some (.aload_n 0, (0, 0, 0)) := by decide +kernel
theorem i_79_60 : a_ins 79 60 = some (.getfield 29, (6, 8, 477)) := by decide +kernel
theorem i_79_63 : a_ins 79 63 = some (.aload_n 0, (0, 0, 0)) := by decide +kernel
theorem i_79_64 : a_ins 79 64 = some (.getfield 32, (6, 9, 478)) := by decide +kernel
theorem i_79_67 : a_ins 79 67 = some (.invokevirtual 69, (0, 80, 2)) := by decide +kernel
theorem i_79_70 : a_ins 79 70 = some (.aload_n 0, (0, 0, 0)) := by decide +kernel
theorem i_79_71 : a_ins 79 71 = some (.aload_n 0, (0, 0, 0)) := by decide +kernel
theorem i_79_72 : a_ins 79 72 = some (.getfield 51, (6, 1, 468)) := by decide +kernel
theorem i_79_75 : a_ins 79 75 = some (.iconst (-1), (0, 0, 0)) := by decide +kernel
theorem i_79_76 : a_ins 79 76 = some (.iconst (-1), (0, 0, 0)) := by decide +kernel
theorem i_79_77 : a_ins 79 77 = some (.aload_n 0, (0, 0, 0)) := by decide +kernel
theorem i_79_78 : a_ins 79 78 = some (.getfield 9, (6, 3, 470)) := by decide +kernel
theorem i_79_81 : a_ins 79 81 = some (.iconst 0, (0, 0, 0)) := by decide +kernel
theorem i_79_82 : a_ins 79 82 = some (.invokevirtual 73, (0, 84, 4)) := by decide +kernel
theorem i_79_85 : a_ins 79 85 = some (.putfield 25, (6, 7, 475)) := by decide +kernel
theorem i_79_88 : a_ins 79 88 = some (.aload_n 0, (0, 0, 0)) := by decide +kernel
theorem i_79_89 : a_ins 79 89 = some (.getfield 25, (6, 7, 475)) := by decide +kernel
theorem i_79_92 : a_ins 79 92 = some (.ldc 77, (0, 4, 1054)) := by decide +kernel
theorem i_79_94 : a_ins 79 94 = some (.if_icmp .ge 18, (0, 0, 0)) := by decide +kernel
theorem i_79_97 : a_ins 79 97 = some (.aload_n 0, (0, 0, 0)) := by decide +kernel
theorem i_79_98 : a_ins 79 98 = some (.getfield 51, (6, 1, 468)) := by decide +kernel
theorem i_79_101 : a_ins 79 101 = some (.aload_n 0, (0, 0, 0)) := by decide +kernel
theorem i_79_102 : a_ins 79 102 = some (.getfield 25, (6, 7, 475)) := by decide +kernel
theorem i_79_105 : a_ins 79 105 = some (.aload_n 0, (0, 0, 0)) := by decide +kernel
theorem i_79_106 : a_ins 79 106 = some (.getfield 15, (6, 4, 471)) := by decide +kernel
theorem i_79_109 : a_ins 79 109 = some (.invokevirtual 78, (0, 97, 2)) := by decide +kernel
theorem i_79_112 : a_ins 79 112 = some (.return_, (0, 0, 0)) := by decide +kernel
theorem i_80_0 : a_ins 80 0 = some (.aload_n 0, (0, 0, 0)) := by decide +kernel
theorem i_80_1 : a_ins 80 1 = some (.aload_n 1, (0, 0, 0)) := by decide +kernel
theorem i_80_2 : a_ins 80 2 = some (.putfield 21, (9, 4, 409)) := by decide +kernel
theorem i_80_5 : a_ins 80 5 = some (.iload_n 2, (0, 0, 0)) := by decide +kernel
theorem i_80_6 : a_ins 80 6 = some (.istore_n 3, (0, 0, 0)) := by decide +kernel
theorem i_80_7 : a_ins 80 7 = some (.iconst 0, (0, 0, 0)) := by decide +kernel
theorem i_80_8 : a_ins 80 8 = some (.istore 4, (0, 0, 0)) := by decide +kernel
theorem i_80_10 : a_ins 80 10 = some (.iload 4, (0, 0, 0)) := by decide +kernel
theorem i_80_12 : a_ins 80 12 = some (.aload_n 0, (0, 0, 0)) := by decide +kernel
theorem i_80_13 : a_ins 80 13 = some (.getfield 47, (9, 0, 402)) := by decide +kernel
theorem i_80_16 : a_ins 80 16 = some (.getfield 51, (2, 8, 366)) := by decide +kernel
theorem i_80_19 : a_ins 80 19 = some (.if_icmp .ge 113, (0, 0, 0)) := by decide +kernel
theorem i_80_22 : a_ins 80 22 = some (.iload_n 3, (0, 0, 0)) := by decide +kernel
theorem i_80_23 : a_ins 80 23 = some (.aload_n 0, (0, 0, 0)) := by decide +kernel
theorem i_80_24 : a_ins 80 24 = some (.getfield 47, (9, 0, 402)) := by decide +kernel
theorem i_80_27 : a_ins 80 27 = some (.getfield 56, (2, 1, 347)) := by decide +kernel
theorem i_80_30 : a_ins 80 30 = some (.iload 4, (0, 0, 0)) := by decide +kernel
theorem i_80_32 : a_ins 80 32 = some (.iaload, (0, 0, 0)) := by decide +kernel
theorem i_80_33 : a_ins 80 33 = some (.isub, (0, 0, 0)) := by decide +kernel
theorem i_80_34 : a_ins 80 34 = some (.istore_n 3, (0, 0, 0)) := by decide +kernel
theorem i_80_35 : a_ins 80 35 = some (.aload_n 0, (0, 0, 0)) := by decide +kernel
theorem i_80_36 : a_ins 80 36 = some (.getfield 24, (9, 5, 411)) := by decide +kernel
theorem i_80_39 : a_ins 80 39 = some (.iload 4, (0, 0, 0)) := by decide +kernel
theorem i_80_41 : a_ins 80 41 = some (.iconst 0, (0, 0, 0)) := by decide +kernel
theorem i_80_42 : a_ins 80 42 = some (.iastore, (0, 0, 0)) := by decide +kernel
theorem i_80_43 : a_ins 80 43 = some (.iload 4, (0, 0, 0)) := by decide +kernel
theorem i_80_45 : a_ins 80 45 = some (.bipush 12, (0, 0, 0)) := by decide +kernel
theorem i_80_47 : a_ins 80 47 = some (.imul, (0, 0, 0)) := by decide +kernel
theorem i_80_48 : a_ins 80 48 = some (.istore 5, (0, 0, 0)) := by decide +kernel
theorem i_80_50 : a_ins 80 50 = some (.iload 5, (0, 0, 0)) := by decide +kernel
theorem i_80_52 : a_ins 80 52 = some (.istore 6, (0, 0, 0)) := by decide +kernel
theorem i_80_54 : a_ins 80 54 = some (.iload 6, (0, 0, 0)) := by decide +kernel
theorem i_80_56 : a_ins 80 56 = some (.iload 5, (0, 0, 0)) := by decide +kernel
theorem i_80_58 : a_ins 80 58 = some (.aload_n 0, (0, 0, 0)) := by decide +kernel
theorem i_80_59 : a_ins 80 59 = some (.getfield 47, (9, 0, 402)) := by decide +kernel
theorem i_80_62 : a_ins 80 62 = some (.getfield 59, (2, 0, 342)) := by decide +kernel
theorem i_80_65 : a_ins 80 65 = some (.iload 4, (0, 0, 0)) := by decide +kernel
theorem i_80_67 : a_ins 80 67 = some (.iaload, (0, 0, 0)) := by decide +kernel
theorem i_80_68 : a_ins 80 68 = some (.iadd, (0, 0, 0)) := by decide +kernel
theorem i_80_69 : a_ins 80 69 = some (.if_icmp .ge 57, (0, 0, 0)) := by decide +kernel
theorem i_80_72 : a_ins 80 72 = some (.aload_n 0, (0, 0, 0)) := by decide +kernel
theorem i_80_73 : a_ins 80 73 = some (.getfield 18, (9, 3, 407)) := by decide +kernel
theorem i_80_76 : a_ins 80 76 = some (.iload 6, (0, 0, 0)) := by decide +kernel
theorem i_80_78 : a_ins 80 78 = some (.iload_n 2, (0, 0, 0)) := by decide +kernel
theorem i_80_79 : a_ins 80 79 = some (.iconst (-1), (0, 0, 0)) := by decide +kernel
theorem i_80_80 : a_ins 80 80 = some (.if_icmp .ne 7, (0, 0, 0)) := by decide +kernel
theorem i_80_83 : a_ins 80 83 = some (.iconst 0, (0, 0, 0)) := by decide +kernel
theorem i_80_84 : a_ins 80 84 = some (.goto 13, (0, 0, 0)) := by decide +kernel
theorem i_80_87 : a_ins 80 87 = some (.aload_n 0, (0, 0, 0)) := by decide +kernel
theorem i_80_88 : a_ins 80 88 = some (.getfield 47, (9, 0, 402)) := by decide +kernel
theorem i_80_91 : a_ins 80 91 = some (.getfield 62, (2, 5, 360)) := by decide +kernel
theorem i_80_94 : a_ins 80 94 = some (.iload 6, (0, 0, 0)) := by decide +kernel
theorem i_80_96 : a_ins 80 96 = some (.iaload, (0, 0, 0)) := by decide +kernel
theorem i_80_97 : a_ins 80 97 = some (.iastore, (0, 0, 0)) := by decide +kernel
theorem i_80_98 : a_ins 80 98 = some (.aload_n 0, (0, 0, 0)) := by decide +kernel
theorem i_80_99 : a_ins 80 99 = some (.getfield 24, (9, 5, 411)) := by decide +kernel
theorem i_80_102 : a_ins 80 102 = some (.iload 4, (0, 0, 0)) := by decide +kernel
theorem i_80_104 : a_ins 80 104 = some (.dup2, (0, 0, 0)) := by decide +kernel
theorem i_80_105 : a_ins 80 105 = some (.iaload, (0, 0, 0)) := by decide +kernel
theorem i_80_106 : a_ins 80 106 = some (.iconst 1, (0, 0, 0)) := by decide +kernel
theorem i_80_107 : a_ins 80 107 = some (.aload_n 0, (0, 0, 0)) := by decide +kernel
theorem i_80_108 : a_ins 80 108 = some (.getfield 47, (9, 0, 402)) := by decide +kernel
theorem i_80_111 : a_ins 80 111 = some (.getfield 63, (2, 3, 352)) := by decide +kernel
theorem i_80_114 : a_ins 80 114 = some (.iload 6, (0, 0, 0)) := by decide +kernel
theorem i_80_116 : a_ins 80 116 = some (.iaload, (0, 0, 0)) := by decide +kernel
theorem i_80_117 : a_ins 80 117 = some (.ishl, (0, 0, 0)) := by decide +kernel
theorem i_80_118 : a_ins 80 118 = some (.ior, (0, 0, 0)) := by decide +kernel
theorem i_80_119 : a_ins 80 119 = some (.iastore, (0, 0, 0)) := by decide +kernel
theorem i_80_120 : a_ins 80 120 = some (.iinc 6 1, (0, 0, 0)) := by decide +kernel
theorem i_80_123 : a_ins 80 123 = some (.goto (-69), (0, 0, 0)) := by decide +kernel
theorem i_80_126 : a_ins 80 126 = some (.iinc 4 1, (0, 0, 0)) := by decide +kernel
theorem i_80_129 : a_ins 80 129 = some (.goto (-119), (0, 0, 0)) := by decide +kernel
theorem i_80_132 : a_ins 80 132 = some (.aload_n 0, (0, 0, 0)) := by decide +kernel
theorem i_80_133 : a_ins 80 133 = some (.iload_n 2, (0, 0, 0)) := by decide +kernel
theorem i_80_134 : a_ins 80 134 = some (.iconst (-1), (0, 0, 0)) := by decide +kernel
theorem i_80_135 : a_ins 80 135 = some (.if_icmp .ne 7, (0, 0, 0)) := by decide +kernel
theorem i_80_138 : a_ins 80 138 = some (.iconst 0, (0, 0, 0)) := by decide +kernel
theorem i_80_139 : a_ins 80 139 = some (.goto 4, (0, 0, 0)) := by decide +kernel
theorem i_80_142 : a_ins 80 142 = some (.iload_n 3, (0, 0, 0)) := by decide +kernel
theorem i_80_143 : a_ins 80 143 = some (.invokevirtual 66, (0, 81, 1)) := by decide +kernel
theorem i_80_146 : a_ins 80 146 = some (.return_, (0, 0, 0)) := by decide +kernel
theorem i_81_0 : a_ins 81 0 = some (.iconst 0, (0, 0, 0)) := by decide +kernel
theorem i_81_1 : a_ins 81 1 = some (.istore_n 2, (0, 0, 0)) := by decide +kernel
theorem i_81_2 : a_ins 81 2 = some (.iconst 0, (0, 0, 0)) := by decide +kernel
theorem i_81_3 : a_ins 81 3 = some (.istore_n 3, (0, 0, 0)) := by decide +kernel
theorem i_81_4 : a_ins 81 4 = some (.iconst 0, (0, 0, 0)) := by decide +kernel
theorem i_81_5 : a_ins 81 5 = some (.istore 4, (0, 0, 0)) := by decide +kernel
theorem i_81_7 : a_ins 81 7 = some (.iload 4, (0, 0, 0)) := by decide +kernel
theorem i_81_9 : a_ins 81 9 = some (.aload_n 0, (0, 0, 0)) := by decide +kernel
theorem i_81_10 : a_ins 81 10 = some (.getfield 47, (9, 0, 402)) := by decide +kernel
theorem i_81_13 : a_ins 81 13 = some (.getfield 51, (2, 8, 366)) := by decide +kernel
theorem i_81_16 : a_ins 81 16 = some (.if_icmp .ge 43, (0, 0, 0)) := by decide +kernel
theorem i_81_19 : a_ins 81 19 = some (.iload_n 2, (0, 0, 0)) := by decide +kernel
theorem i_81_20 : a_ins 81 20 = some (.aload_n 0, (0, 0, 0)) := by decide +kernel
theorem i_81_21 : a_ins 81 21 = some (.iload 4, (0, 0, 0)) := by decide +kernel
theorem i_81_23 : a_ins 81 23 = some (.invokevirtual 70, (0, 82, 1)) := by decide +kernel
theorem i_81_26 : a_ins 81 26 = some (.iadd, (0, 0, 0)) := by decide +kernel
theorem i_81_27 : a_ins 81 27 = some (.istore_n 2, (0, 0, 0)) := by decide +kernel
theorem i_81_28 : a_ins 81 28 = some (.iload_n 3, (0, 0, 0)) := by decide +kernel
theorem i_81_29 : a_ins 81 29 = some (.aload_n 0, (0, 0, 0)) := by decide +kernel
theorem i_81_30 : a_ins 81 30 = some (.iload 4, (0, 0, 0)) := by decide +kernel
theorem i_81_32 : a_ins 81 32 = some (.invokevirtual 74, (0, 83, 1)) := by decide +kernel
theorem i_81_35 : a_ins 81 35 = some (.iadd, (0, 0, 0)) := by decide +kernel
theorem i_81_36 : a_ins 81 36 = some (.istore_n 3, (0, 0, 0)) := by decide +kernel
theorem i_81_37 : a_ins 81 37 = some (.aload_n 0, (0, 0, 0)) := by decide +kernel
theorem i_81_38 : a_ins 81 38 = some (.getfield 9, (9, 1, 403)) := by decide +kernel
theorem i_81_41 : a_ins 81 41 = some (.iload 4, (0, 0, 0)) := by decide +kernel
theorem i_81_43 : a_ins 81 43 = some (.iload_n 2, (0, 0, 0)) := by decide +kernel
theorem i_81_44 : a_ins 81 44 = some (.iastore, (0, 0, 0)) := by decide +kernel
theorem i_81_45 : a_ins 81 45 = some (.aload_n 0, (0, 0, 0)) := by decide +kernel
theorem i_81_46 : a_ins 81 46 = some (.getfield 15, (9, 2, 405)) := by decide +kernel
theorem i_81_49 : a_ins 81 49 = some (.iload 4, (0, 0, 0)) := by decide +kernel
theorem i_81_51 : a_ins 81 51 = some (.iload_n 3, (0, 0, 0)) := by decide +kernel
theorem i_81_52 : a_ins 81 52 = some (.iastore, (0, 0, 0)) := by decide +kernel
theorem i_81_53 : a_ins 81 53 = some (.iinc 4 1, (0, 0, 0)) := by decide +kernel
theorem i_81_56 : a_ins 81 56 = some (.goto (-49), (0, 0, 0)) := by decide +kernel
theorem i_81_59 : a_ins 81 59 = some (.aload_n 0, (0, 0, 0)) := by decide +kernel
theorem i_81_60 : a_ins 81 60 = some (.iload_n 2, (0, 0, 0)) := by decide +kernel
theorem i_81_61 : a_ins 81 61 = some (.iload_n 1, (0, 0, 0)) := by decide +kernel
theorem i_81_62 : a_ins 81 62 = some (.if_icmp .gt 12, (0, 0, 0)) := by decide +kernel
theorem i_81_65 : a_ins 81 65 = some (.iload_n 1, (0, 0, 0)) := by decide +kernel
theorem i_81_66 : a_ins 81 66 = some (.iload_n 3, (0, 0, 0)) := by decide +kernel
theorem i_81_67 : a_ins 81 67 = some (.if_icmp .gt 7, (0, 0, 0)) := by decide +kernel
theorem i_81_70 : a_ins 81 70 = some (.iconst 1, (0, 0, 0)) := by decide +kernel
theorem i_81_71 : a_ins 81 71 = some (.goto 4, (0, 0, 0)) := by decide +kernel
theorem i_81_74 : a_ins 81 74 = some (.iconst 0, (0, 0, 0)) := by decide +kernel
theorem i_81_75 : a_ins 81 75 = some (.putfield 36, (9, 9, 415)) := by decide +kernel
theorem i_81_78 : a_ins 81 78 = some (.iconst 0, (0, 0, 0)) := by decide +kernel
theorem i_81_79 : a_ins 81 79 = some (.istore_n 2, (0, 0, 0)) := by decide +kernel
theorem i_81_80 : a_ins 81 80 = some (.iconst 0, (0, 0, 0)) := by decide +kernel
theorem i_81_81 : a_ins 81 81 = some (.istore_n 3, (0, 0, 0)) := by decide +kernel
theorem i_81_82 : a_ins 81 82 = some (.aload_n 0, (0, 0, 0)) := by decide +kernel
theorem i_81_83 : a_ins 81 83 = some (.getfield 47, (9, 0, 402)) := by decide +kernel
theorem i_81_86 : a_ins 81 86 = some (.getfield 51, (2, 8, 366)) := by decide +kernel
theorem i_81_89 : a_ins 81 89 = some (.iconst 1, (0, 0, 0)) := by decide +kernel
theorem i_81_90 : a_ins 81 90 = some (.isub, (0, 0, 0)) := by decide +kernel
theorem i_81_91 : a_ins 81 91 = some (.istore 4, (0, 0, 0)) := by decide +kernel
theorem i_81_93 : a_ins 81 93 = some (.iload 4, (0, 0, 0)) := by decide +kernel
theorem i_81_95 : a_ins 81 95 = some (.ifCond .lt 67, (0, 0, 0)) := by decide +kernel
theorem i_81_98 : a_ins 81 98 = some (.aload_n 0, (0, 0, 0)) := by decide +kernel
theorem i_81_99 : a_ins 81 99 = some (.getfield 9, (9, 1, 403)) := by decide +kernel
theorem i_81_102 : a_ins 81 102 = some (.iload 4, (0, 0, 0)) := by decide +kernel
theorem i_81_104 : a_ins 81 104 = some (.aload_n 0, (0, 0, 0)) := by decide +kernel
theorem i_81_105 : a_ins 81 105 = some (.getfield 9, (9, 1, 403)) := by decide +kernel
theorem i_81_108 : a_ins 81 108 = some (.iload 4, (0, 0, 0)) := by decide +kernel
theorem i_81_110 : a_ins 81 110 = some (.iaload, (0, 0, 0)) := by decide +kernel
theorem i_81_111 : a_ins 81 111 = some (.iload_n 1, (0, 0, 0)) := by decide +kernel
theorem i_81_112 : a_ins 81 112 = some (.iload_n 3, (0, 0, 0)) := by decide +kernel
theorem i_81_113 : a_ins 81 113 = some (.isub, (0, 0, 0)) := by decide +kernel
theorem i_81_114 : a_ins 81 114 = some (.invokestatic 77, (6, 0, 2)) := by decide +kernel
theorem i_81_117 : a_ins 81 117 = some (.iastore, (0, 0, 0)) := by decide +kernel
theorem i_81_118 : a_ins 81 118 = some (.aload_n 0, (0, 0, 0)) := by decide +kernel
theorem i_81_119 : a_ins 81 119 = some (.getfield 15, (9, 2, 405)) := by decide +kernel
theorem i_81_122 : a_ins 81 122 = some (.iload 4, (0, 0, 0)) := by decide +kernel
theorem i_81_124 : a_ins 81 124 = some (.aload_n 0, (0, 0, 0)) := by decide +kernel
theorem i_81_125 : a_ins 81 125 = some (.getfield 15, (9, 2, 405)) := by decide +kernel
theorem i_81_128 : a_ins 81 128 = some (.iload 4, (0, 0, 0)) := by decide +kernel
theorem i_81_130 : a_ins 81 130 = some (.iaload, (0, 0, 0)) := by decide +kernel
theorem i_81_131 : a_ins 81 131 = some (.iload_n 1, (0, 0, 0)) := by decide +kernel
theorem i_81_132 : a_ins 81 132 = some (.iload_n 2, (0, 0, 0)) := by decide +kernel
theorem i_81_133 : a_ins 81 133 = some (.isub, (0, 0, 0)) := by decide +kernel
theorem i_81_134 : a_ins 81 134 = some (.invokestatic 83, (5, 0, 2)) := by decide +kernel
theorem i_81_137 : a_ins 81 137 = some (.iastore, (0, 0, 0)) := by decide +kernel
theorem i_81_138 : a_ins 81 138 = some (.iload_n 2, (0, 0, 0)) := by decide +kernel
theorem i_81_139 : a_ins 81 139 = some (.aload_n 0, (0, 0, 0)) := by decide +kernel
theorem i_81_140 : a_ins 81 140 = some (.iload 4, (0, 0, 0)) := by decide +kernel
theorem i_81_142 : a_ins 81 142 = some (.invokevirtual 70, (0, 82, 1)) := by decide +kernel
theorem i_81_145 : a_ins 81 145 = some (.iadd, (0, 0, 0)) := by decide +kernel
theorem i_81_146 : a_ins 81 146 = some (.istore_n 2, (0, 0, 0)) := by decide +kernel
theorem i_81_147 : a_ins 81 147 = some (.iload_n 3, (0, 0, 0)) := by decide +kernel
theorem i_81_148 : a_ins 81 148 = some (.aload_n 0, (0, 0, 0)) := by decide +kernel
theorem i_81_149 : a_ins 81 149 = some (.iload 4, (0, 0, 0)) := by decide +kernel
theorem i_81_151 : a_ins 81 151 = some (.invokevirtual 74, (0, 83, 1)) := by decide +kernel
theorem i_81_154 : a_ins 81 154 = some (.iadd, (0, 0, 0)) := by decide +kernel
theorem i_81_155 : a_ins 81 155 = some (.istore_n 3, (0, 0, 0)) := by decide +kernel
theorem i_81_156 : a_ins 81 156 = some (.iinc 4 (-1), (0, 0, 0)) := by decide +kernel
theorem i_81_159 : a_ins 81 159 = some (.goto (-66), (0, 0, 0)) := by decide +kernel
theorem i_81_162 : a_ins 81 162 = some (.return_, (0, 0, 0)) := by decide +kernel
theorem i_82_0 : a_ins 82 0 = some (.bipush 12, (0, 0, 0)) := by decide +kernel
theorem i_82_2 : a_ins 82 2 = some (.istore_n 2, (0, 0, 0)) := by decide +kernel
theorem i_82_3 : a_ins 82 3 = some (.iconst 0, (0, 0, 0)) := by decide +kernel
theorem i_82_4 : a_ins 82 4 = some (.istore_n 3, (0, 0, 0)) := by decide +kernel
theorem i_82_5 : a_ins 82 5 = some (.iload_n 3, (0, 0, 0)) := by decide +kernel
theorem i_82_6 : a_ins 82 6 = some (.aload_n 0, (0, 0, 0)) := by decide +kernel
theorem i_82_7 : a_ins 82 7 = some (.getfield 47, (9, 0, 402)) := by decide +kernel
theorem i_82_10 : a_ins 82 10 = some (.getfield 59, (2, 0, 342)) := by decide +kernel
theorem i_82_13 : a_ins 82 13 = some (.iload_n 1, (0, 0, 0)) := by decide +kernel
theorem i_82_14 : a_ins 82 14 = some (.iaload, (0, 0, 0)) := by decide +kernel
theorem i_82_15 : a_ins 82 15 = some (.if_icmp .ge 25, (0, 0, 0)) := by decide +kernel
theorem i_82_18 : a_ins 82 18 = some (.iload_n 2, (0, 0, 0)) := by decide +kernel
theorem i_82_19 : a_ins 82 19 = some (.aload_n 0, (0, 0, 0)) := by decide +kernel
theorem i_82_20 : a_ins 82 20 = some (.getfield 18, (9, 3, 407)) := by decide +kernel
theorem i_82_23 : a_ins 82 23 = some (.iload_n 1, (0, 0, 0)) := by decide +kernel
theorem i_82_24 : a_ins 82 24 = some (.bipush 12, (0, 0, 0)) := by decide +kernel
theorem i_82_26 : a_ins 82 26 = some (.imul, (0, 0, 0)) := by decide +kernel
theorem i_82_27 : a_ins 82 27 = some (.iload_n 3, (0, 0, 0)) := by decide +kernel
theorem i_82_28 : a_ins 82 28 = some (.iadd, (0, 0, 0)) := by decide +kernel
theorem i_82_29 : a_ins 82 29 = some (.iaload, (0, 0, 0)) := by decide +kernel
theorem i_82_30 : a_ins 82 30 = some (.invokestatic 83, (5, 0, 2)) := by decide +kernel
theorem i_82_33 : a_ins 82 33 = some (.istore_n 2, (0, 0, 0)) := by decide +kernel
theorem i_82_34 : a_ins 82 34 = some (.iinc 3 1, (0, 0, 0)) := by decide +kernel
theorem i_82_37 : a_ins 82 37 = some (.goto (-32), (0, 0, 0)) := by decide +kernel
theorem i_82_40 : a_ins 82 40 = some (.iload_n 2, (0, 0, 0)) := by decide +kernel
theorem i_82_41 : a_ins 82 41 = some (.ireturn, (0, 0, 0)) := by decide +kernel
theorem i_83_0 : a_ins 83 0 = some (.iconst 0, (0, 0, 0)) := by decide +kernel
theorem i_83_1 : a_ins 83 1 = some (.istore_n 2, (0, 0, 0)) := by decide +kernel
theorem i_83_2 : a_ins 83 2 = some (.iconst 0, (0, 0, 0)) := by decide +kernel
theorem i_83_3 : a_ins 83 3 = some (.istore_n 3, (0, 0, 0)) := by decide +kernel
theorem i_83_4 : a_ins 83 4 = some (.iload_n 3, (0, 0, 0)) := by decide +kernel
theorem i_83_5 : a_ins 83 5 = some (.aload_n 0, (0, 0, 0)) := by decide +kernel
theorem i_83_6 : a_ins 83 6 = some (.getfield 47, (9, 0, 402)) := by decide +kernel
theorem i_83_9 : a_ins 83 9 = some (.getfield 59, (2, 0, 342)) := by decide +kernel
theorem i_83_12 : a_ins 83 12 = some (.iload_n 1, (0, 0, 0)) := by decide +kernel
theorem i_83_13 : a_ins 83 13 = some (.iaload, (0, 0, 0)) := by decide +kernel
theorem i_83_14 : a_ins 83 14 = some (.if_icmp .ge 25, (0, 0, 0)) := by decide +kernel
theorem i_83_17 : a_ins 83 17 = some (.iload_n 2, (0, 0, 0)) := by decide +kernel
theorem i_83_18 : a_ins 83 18 = some (.aload_n 0, (0, 0, 0)) := by decide +kernel
theorem i_83_19 : a_ins 83 19 = some (.getfield 18, (9, 3, 407)) := by decide +kernel
theorem i_83_22 : a_ins 83 22 = some (.iload_n 1, (0, 0, 0)) := by decide +kernel
theorem i_83_23 : a_ins 83 23 = some (.bipush 12, (0, 0, 0)) := by decide +kernel
theorem i_83_25 : a_ins 83 25 = some (.imul, (0, 0, 0)) := by decide +kernel
theorem i_83_26 : a_ins 83 26 = some (.iload_n 3, (0, 0, 0)) := by decide +kernel
theorem i_83_27 : a_ins 83 27 = some (.iadd, (0, 0, 0)) := by decide +kernel
theorem i_83_28 : a_ins 83 28 = some (.iaload, (0, 0, 0)) := by decide +kernel
theorem i_83_29 : a_ins 83 29 = some (.invokestatic 77, (6, 0, 2)) := by decide +kernel
theorem i_83_32 : a_ins 83 32 = some (.istore_n 2, (0, 0, 0)) := by decide +kernel
theorem i_83_33 : a_ins 83 33 = some (.iinc 3 1, (0, 0, 0)) := by decide +kernel
theorem i_83_36 : a_ins 83 36 = some (.goto (-32), (0, 0, 0)) := by decide +kernel
theorem i_83_39 : a_ins 83 39 = some (.iload_n 2, (0, 0, 0)) := by decide +kernel
theorem i_83_40 : a_ins 83 40 = some (.ireturn, (0, 0, 0)) := by decide +kernel
theorem i_84_0 : a_ins 84 0 = some (.aload_n 3, (0, 0, 0)) := by decide +kernel
theorem i_84_1 : a_ins 84 1 = some (.iload 4, (0, 0, 0)) := by decide +kernel
theorem i_84_3 : a_ins 84 3 = some (.iload 4, (0, 0, 0)) := by decide +kernel
theorem i_84_5 : a_ins 84 5 = some (.sipush 168, (0, 0, 0)) := by decide +kernel
theorem i_84_8 : a_ins 84 8 = some (.iadd, (0, 0, 0)) := by decide +kernel
theorem i_84_9 : a_ins 84 9 = some (.ldc 86, (0, 4, 1006)) := by decide +kernel
theorem i_84_11 : a_ins 84 11 = some (.invokestatic 87, (1, 85, 4)) := by decide +kernel
theorem i_84_14 : a_ins 84 14 = some (.aload_n 0, (0, 0, 0)) := by decide +kernel
theorem i_84_15 : a_ins 84 15 = some (.getfield 36, (9, 9, 415)) := by decide +kernel
theorem i_84_18 : a_ins 84 18 = some (.ifCond .ne 6, (0, 0, 0)) := by decide +kernel
theorem i_84_21 : a_ins 84 21 = some (.ldc 86, (0, 4, 1006)) := by decide +kernel
theorem i_84_23 : a_ins 84 23 = some (.ireturn, (0, 0, 0)) := by decide +kernel
theorem i_84_24 : a_ins 84 24 = some (.aload_n 0, (0, 0, 0)) := by decide +kernel
theorem i_84_25 : a_ins 84 25 = some (.iload_n 1, (0, 0, 0)) := by decide +kernel
theorem i_84_26 : a_ins 84 26 = some (.putfield 40, (9, 10, 416)) := by decide +kernel
theorem i_84_29 : a_ins 84 29 = some (.aload_n 0, (0, 0, 0)) := by decide +kernel
theorem i_84_30 : a_ins 84 30 = some (.iload_n 2, (0, 0, 0)) := by decide +kernel
theorem i_84_31 : a_ins 84 31 = some (.putfield 44, (9, 11, 417)) := by decide +kernel
theorem i_84_34 : a_ins 84 34 = some (.aload_n 0, (0, 0, 0)) := by decide +kernel
theorem i_84_35 : a_ins 84 35 = some (.invokevirtual 93, (0, 87, 0)) := by decide +kernel
theorem i_84_38 : a_ins 84 38 = some (.aload_n 0, (0, 0, 0)) := by decide +kernel
theorem i_84_39 : a_ins 84 39 = some (.aload_n 3, (0, 0, 0)) := by decide +kernel
theorem i_84_40 : a_ins 84 40 = some (.iload 4, (0, 0, 0)) := by decide +kernel
theorem i_84_42 : a_ins 84 42 = some (.invokevirtual 96, (0, 93, 2)) := by decide +kernel
theorem i_84_45 : a_ins 84 45 = some (.ldc 86, (0, 4, 1006)) := by decide +kernel
theorem i_84_47 : a_ins 84 47 = some (.istore 5, (0, 0, 0)) := by decide +kernel
theorem i_84_49 : a_ins 84 49 = some (.iconst 0, (0, 0, 0)) := by decide +kernel
theorem i_84_50 : a_ins 84 50 = some (.istore 6, (0, 0, 0)) := by decide +kernel
theorem i_84_52 : a_ins 84 52 = some (.iload 6, (0, 0, 0)) := by decide +kernel
theorem i_84_54 : a_ins 84 54 = some (.bipush 12, (0, 0, 0)) := by decide +kernel
theorem i_84_56 : a_ins 84 56 = some (.if_icmp .ge 23, (0, 0, 0)) := by decide +kernel
theorem i_84_59 : a_ins 84 59 = some (.iload 5, (0, 0, 0)) := by decide +kernel
theorem i_84_61 : a_ins 84 61 = some (.aload_n 3, (0, 0, 0)) := by decide +kernel
theorem i_84_62 : a_ins 84 62 = some (.iload 4, (0, 0, 0)) := by decide +kernel
theorem i_84_64 : a_ins 84 64 = some (.iload 6, (0, 0, 0)) := by decide +kernel
theorem i_84_66 : a_ins 84 66 = some (.iadd, (0, 0, 0)) := by decide +kernel
theorem i_84_67 : a_ins 84 67 = some (.iaload, (0, 0, 0)) := by decide +kernel
theorem i_84_68 : a_ins 84 68 = some (.invokestatic 83, (5, 0, 2)) := by decide +kernel
theorem i_84_71 : a_ins 84 71 = some (.istore 5, (0, 0, 0)) := by decide +kernel
theorem i_84_73 : a_ins 84 73 = some (.iinc 6 1, (0, 0, 0)) := by decide +kernel
theorem i_84_76 : a_ins 84 76 = some (.goto (-24), (0, 0, 0)) := by decide +kernel
theorem i_84_79 : a_ins 84 79 = some (.iload 5, (0, 0, 0)) := by decide +kernel
theorem i_84_81 : a_ins 84 81 = some (.ireturn, (0, 0, 0)) := by decide +kernel
theorem i_85_0 : a_ins 85 0 = some (.aload_n 0, (0, 0, 0)) := by decide +kernel
theorem i_85_1 : a_ins 85 1 = some (.arraylength, (0, 0, 0)) := by decide +kernel
theorem i_85_2 : a_ins 85 2 = some (.iload_n 1, (0, 0, 0)) := by decide +kernel
theorem i_85_3 : a_ins 85 3 = some (.iload_n 2, (0, 0, 0)) := by decide +kernel
theorem i_85_4 : a_ins 85 4 = some (.invokestatic 13, (1, 86, 3)) := by decide +kernel
theorem i_85_7 : a_ins 85 7 = some (.iload_n 1, (0, 0, 0)) := by decide +kernel
theorem i_85_8 : a_ins 85 8 = some (.istore 4, (0, 0, 0)) := by decide +kernel
theorem i_85_10 : a_ins 85 10 = some (.iload 4, (0, 0, 0)) := by decide +kernel
theorem i_85_12 : a_ins 85 12 = some (.iload_n 2, (0, 0, 0)) := by decide +kernel
theorem i_85_13 : a_ins 85 13 = some (.if_icmp .ge 14, (0, 0, 0)) := by decide +kernel
theorem i_85_16 : a_ins 85 16 = some (.aload_n 0, (0, 0, 0)) := by decide +kernel
theorem i_85_17 : a_ins 85 17 = some (.iload 4, (0, 0, 0)) := by decide +kernel
theorem i_85_19 : a_ins 85 19 = some (.iload_n 3, (0, 0, 0)) := by decide +kernel
theorem i_85_20 : a_ins 85 20 = some (.iastore, (0, 0, 0)) := by decide +kernel
theorem i_85_21 : a_ins 85 21 = some (.iinc 4 1, (0, 0, 0)) := by decide +kernel
theorem i_85_24 : a_ins 85 24 = some (.goto (-14), (0, 0, 0)) := by decide +kernel
theorem i_85_27 : a_ins 85 27 = some (.return_, (0, 0, 0)) := by decide +kernel
theorem i_86_0 : a_ins 86 0 = some (.iload_n 1, (0, 0, 0)) := by decide +kernel
theorem i_86_1 : a_ins 86 1 = some (.iload_n 2, (0, 0, 0)) := by decide +kernel
theorem i_86_2 : a_ins 86 2 = some (.if_icmp .le 44, (0, 0, 0)) := by decide +kernel
theorem i_86_8 : a_ins 86 8 = some (.dup, (0, 0, 0)) := by decide +kernel
theorem i_86_12 : a_ins 86 12 = some (.dup, (0, 0, 0)) := by decide +kernel
theorem i_86_21 : a_ins 86 21 = some (.iload_n 1, (0, 0, 0)) := by decide +kernel
theorem i_86_30 : a_ins 86 30 = some (.iload_n 2, (0, 0, 0)) := by decide +kernel
theorem i_86_46 : a_ins 86 46 = some (.iload_n 1, (0, 0, 0)) := by decide +kernel
theorem i_86_47 : a_ins 86 47 = some (.ifCond .ge 12, (0, 0, 0)) := by decide +kernel
theorem i_86_53 : a_ins 86 53 = some (.dup, (0, 0, 0)) := by decide +kernel
theorem i_86_54 : a_ins 86 54 = some (.iload_n 1, (0, 0, 0)) := by decide +kernel
theorem i_86_59 : a_ins 86 59 = some (.iload_n 2, (0, 0, 0)) := by decide +kernel
theorem i_86_60 : a_ins 86 60 = some (.iload_n 0, (0, 0, 0)) := by decide +kernel
theorem i_86_61 : a_ins 86 61 = some (.if_icmp .le 12, (0, 0, 0)) := by decide +kernel
theorem i_86_67 : a_ins 86 67 = some (.dup, (0, 0, 0)) := by decide +kernel
theorem i_86_68 : a_ins 86 68 = some (.iload_n 2, (0, 0, 0)) := by decide +kernel
theorem i_86_73 : a_ins 86 73 = some (.return_, (0, 0, 0)) := by decide +kernel
theorem i_87_0 : a_ins 87 0 = some (.aload_n 0, (0, 0, 0)) := by decide +kernel
theorem i_87_1 : a_ins 87 1 = some (.getfield 47, (9, 0, 402)) := by decide +kernel
theorem i_87_4 : a_ins 87 4 = some (.getfield 51, (2, 8, 366)) := by decide +kernel
theorem i_87_7 : a_ins 87 7 = some (.iconst 1, (0, 0, 0)) := by decide +kernel
theorem i_87_8 : a_ins 87 8 = some (.isub, (0, 0, 0)) := by decide +kernel
theorem i_87_9 : a_ins 87 9 = some (.istore_n 1, (0, 0, 0)) := by decide +kernel
theorem i_87_10 : a_ins 87 10 = some (.iload_n 1, (0, 0, 0)) := by decide +kernel
theorem i_87_11 : a_ins 87 11 = some (.ifCond .lt 38, (0, 0, 0)) := by decide +kernel
theorem i_87_14 : a_ins 87 14 = some (.iconst 0, (0, 0, 0)) := by decide +kernel
theorem i_87_15 : a_ins 87 15 = some (.istore_n 2, (0, 0, 0)) := by decide +kernel
theorem i_87_16 : a_ins 87 16 = some (.iload_n 2, (0, 0, 0)) := by decide +kernel
theorem i_87_17 : a_ins 87 17 = some (.bipush 8, (0, 0, 0)) := by decide +kernel
theorem i_87_19 : a_ins 87 19 = some (.if_icmp .ge 24, (0, 0, 0)) := by decide +kernel
theorem i_87_22 : a_ins 87 22 = some (.aload_n 0, (0, 0, 0)) := by decide +kernel
theorem i_87_23 : a_ins 87 23 = some (.iload_n 1, (0, 0, 0)) := by decide +kernel
theorem i_87_24 : a_ins 87 24 = some (.iload_n 2, (0, 0, 0)) := by decide +kernel
theorem i_87_25 : a_ins 87 25 = some (.invokevirtual 103, (0, 88, 2)) := by decide +kernel
theorem i_87_28 : a_ins 87 28 = some (.ifCond .eq 9, (0, 0, 0)) := by decide +kernel
theorem i_87_31 : a_ins 87 31 = some (.aload_n 0, (0, 0, 0)) := by decide +kernel
theorem i_87_32 : a_ins 87 32 = some (.iload_n 1, (0, 0, 0)) := by decide +kernel
theorem i_87_33 : a_ins 87 33 = some (.iload_n 2, (0, 0, 0)) := by decide +kernel
theorem i_87_34 : a_ins 87 34 = some (.invokevirtual 107, (0, 89, 2)) := by decide +kernel
theorem i_87_37 : a_ins 87 37 = some (.iinc 2 1, (0, 0, 0)) := by decide +kernel
theorem i_87_40 : a_ins 87 40 = some (.goto (-24), (0, 0, 0)) := by decide +kernel
theorem i_87_43 : a_ins 87 43 = some (.iinc 1 (-1), (0, 0, 0)) := by decide +kernel
theorem i_87_46 : a_ins 87 46 = some (.goto (-36), (0, 0, 0)) := by decide +kernel
theorem i_87_49 : a_ins 87 49 = some (.return_, (0, 0, 0)) := by decide +kernel
theorem i_88_0 : a_ins 88 0 = some (.aload_n 0, (0, 0, 0)) := by decide +kernel
theorem i_88_1 : a_ins 88 1 = some (.getfield 24, (9, 5, 411)) := by decide +kernel
theorem i_88_4 : a_ins 88 4 = some (.iload_n 1, (0, 0, 0)) := by decide +kernel
theorem i_88_5 : a_ins 88 5 = some (.iaload, (0, 0, 0)) := by decide +kernel
theorem i_88_6 : a_ins 88 6 = some (.iload_n 2, (0, 0, 0)) := by decide +kernel
theorem i_88_7 : a_ins 88 7 = some (.ishr, (0, 0, 0)) := by decide +kernel
theorem i_88_8 : a_ins 88 8 = some (.iconst 1, (0, 0, 0)) := by decide +kernel
theorem i_88_9 : a_ins 88 9 = some (.iand, (0, 0, 0)) := by decide +kernel
theorem i_88_10 : a_ins 88 10 = some (.ifCond .eq 7, (0, 0, 0)) := by decide +kernel
theorem i_88_13 : a_ins 88 13 = some (.iconst 1, (0, 0, 0)) := by decide +kernel
theorem i_88_14 : a_ins 88 14 = some (.goto 4, (0, 0, 0)) := by decide +kernel
theorem i_88_17 : a_ins 88 17 = some (.iconst 0, (0, 0, 0)) := by decide +kernel
theorem i_88_18 : a_ins 88 18 = some (.ireturn, (0, 0, 0)) := by decide +kernel
theorem i_89_0 : a_ins 89 0 = some (.aload_n 0, (0, 0, 0)) := by decide +kernel
theorem i_89_1 : a_ins 89 1 = some (.iload_n 1, (0, 0, 0)) := by decide +kernel
theorem i_89_2 : a_ins 89 2 = some (.iload_n 2, (0, 0, 0)) := by decide +kernel
theorem i_89_3 : a_ins 89 3 = some (.invokevirtual 100, (0, 90, 2)) := by decide +kernel
theorem i_89_6 : a_ins 89 6 = some (.istore_n 3, (0, 0, 0)) := by decide +kernel
theorem i_89_7 : a_ins 89 7 = some (.iload_n 1, (0, 0, 0)) := by decide +kernel
theorem i_89_8 : a_ins 89 8 = some (.aload_n 0, (0, 0, 0)) := by decide +kernel
theorem i_89_9 : a_ins 89 9 = some (.getfield 47, (9, 0, 402)) := by decide +kernel
theorem i_89_12 : a_ins 89 12 = some (.getfield 51, (2, 8, 366)) := by decide +kernel
theorem i_89_15 : a_ins 89 15 = some (.iconst 1, (0, 0, 0)) := by decide +kernel
theorem i_89_16 : a_ins 89 16 = some (.isub, (0, 0, 0)) := by decide +kernel
theorem i_89_17 : a_ins 89 17 = some (.if_icmp .ne 7, (0, 0, 0)) := by decide +kernel
theorem i_89_20 : a_ins 89 20 = some (.iconst 1, (0, 0, 0)) := by decide +kernel
theorem i_89_21 : a_ins 89 21 = some (.goto 4, (0, 0, 0)) := by decide +kernel
theorem i_89_24 : a_ins 89 24 = some (.iconst 0, (0, 0, 0)) := by decide +kernel
theorem i_89_25 : a_ins 89 25 = some (.istore 4, (0, 0, 0)) := by decide +kernel
theorem i_89_27 : a_ins 89 27 = some (.aload_n 0, (0, 0, 0)) := by decide +kernel
theorem i_89_28 : a_ins 89 28 = some (.getfield 27, (9, 6, 412)) := by decide +kernel
theorem i_89_31 : a_ins 89 31 = some (.iload_n 3, (0, 0, 0)) := by decide +kernel
theorem i_89_32 : a_ins 89 32 = some (.aload_n 0, (0, 0, 0)) := by decide +kernel
theorem i_89_33 : a_ins 89 33 = some (.getfield 9, (9, 1, 403)) := by decide +kernel
theorem i_89_36 : a_ins 89 36 = some (.iload_n 1, (0, 0, 0)) := by decide +kernel
theorem i_89_37 : a_ins 89 37 = some (.iaload, (0, 0, 0)) := by decide +kernel
theorem i_89_38 : a_ins 89 38 = some (.iadd, (0, 0, 0)) := by decide +kernel
theorem i_89_39 : a_ins 89 39 = some (.iload_n 3, (0, 0, 0)) := by decide +kernel
theorem i_89_40 : a_ins 89 40 = some (.aload_n 0, (0, 0, 0)) := by decide +kernel
theorem i_89_41 : a_ins 89 41 = some (.getfield 15, (9, 2, 405)) := by decide +kernel
theorem i_89_44 : a_ins 89 44 = some (.iload_n 1, (0, 0, 0)) := by decide +kernel
theorem i_89_45 : a_ins 89 45 = some (.iaload, (0, 0, 0)) := by decide +kernel
theorem i_89_46 : a_ins 89 46 = some (.iadd, (0, 0, 0)) := by decide +kernel
theorem i_89_47 : a_ins 89 47 = some (.iconst 1, (0, 0, 0)) := by decide +kernel
theorem i_89_48 : a_ins 89 48 = some (.iadd, (0, 0, 0)) := by decide +kernel
theorem i_89_49 : a_ins 89 49 = some (.iload 4, (0, 0, 0)) := by decide +kernel
theorem i_89_51 : a_ins 89 51 = some (.ifCond .eq 7, (0, 0, 0)) := by decide +kernel
theorem i_89_54 : a_ins 89 54 = some (.iconst 0, (0, 0, 0)) := by decide +kernel
theorem i_89_55 : a_ins 89 55 = some (.goto 5, (0, 0, 0)) := by decide +kernel
theorem i_89_58 : a_ins 89 58 = some (.ldc 86, (0, 4, 1006)) := by decide +kernel
theorem i_89_60 : a_ins 89 60 = some (.invokestatic 87, (1, 85, 4)) := by decide +kernel
theorem i_89_63 : a_ins 89 63 = some (.iload 4, (0, 0, 0)) := by decide +kernel
theorem i_89_65 : a_ins 89 65 = some (.ifCond .eq 4, (0, 0, 0)) := by decide +kernel
theorem i_89_68 : a_ins 89 68 = some (.return_, (0, 0, 0)) := by decide +kernel
theorem i_89_69 : a_ins 89 69 = some (.iload_n 1, (0, 0, 0)) := by decide +kernel
theorem i_89_70 : a_ins 89 70 = some (.iconst 1, (0, 0, 0)) := by decide +kernel
theorem i_89_71 : a_ins 89 71 = some (.iadd, (0, 0, 0)) := by decide +kernel
theorem i_89_72 : a_ins 89 72 = some (.istore 5, (0, 0, 0)) := by decide +kernel
theorem i_89_74 : a_ins 89 74 = some (.aload_n 0, (0, 0, 0)) := by decide +kernel
theorem i_89_75 : a_ins 89 75 = some (.iload 5, (0, 0, 0)) := by decide +kernel
theorem i_89_77 : a_ins 89 77 = some (.invokevirtual 111, (0, 91, 1)) := by decide +kernel
theorem i_89_80 : a_ins 89 80 = some (.istore 6, (0, 0, 0)) := by decide +kernel
theorem i_89_82 : a_ins 89 82 = some (.iload 6, (0, 0, 0)) := by decide +kernel
theorem i_89_84 : a_ins 89 84 = some (.aload_n 0, (0, 0, 0)) := by decide +kernel
theorem i_89_85 : a_ins 89 85 = some (.iload 5, (0, 0, 0)) := by decide +kernel
theorem i_89_87 : a_ins 89 87 = some (.invokevirtual 114, (0, 92, 1)) := by decide +kernel
theorem i_89_90 : a_ins 89 90 = some (.if_icmp .gt 161, (0, 0, 0)) := by decide +kernel
theorem i_89_93 : a_ins 89 93 = some (.aload_n 0, (0, 0, 0)) := by decide +kernel
theorem i_89_94 : a_ins 89 94 = some (.getfield 18, (9, 3, 407)) := by decide +kernel
theorem i_89_97 : a_ins 89 97 = some (.iload 6, (0, 0, 0)) := by decide +kernel
theorem i_89_99 : a_ins 89 99 = some (.iaload, (0, 0, 0)) := by decide +kernel
theorem i_89_100 : a_ins 89 100 = some (.istore 7, (0, 0, 0)) := by decide +kernel
theorem i_89_102 : a_ins 89 102 = some (.aload_n 0, (0, 0, 0)) := by decide +kernel
theorem i_89_103 : a_ins 89 103 = some (.iload 5, (0, 0, 0)) := by decide +kernel
theorem i_89_105 : a_ins 89 105 = some (.aload_n 0, (0, 0, 0)) := by decide +kernel
theorem i_89_106 : a_ins 89 106 = some (.getfield 47, (9, 0, 402)) := by decide +kernel
theorem i_89_109 : a_ins 89 109 = some (.getfield 63, (2, 3, 352)) := by decide +kernel
theorem i_89_112 : a_ins 89 112 = some (.iload 6, (0, 0, 0)) := by decide +kernel
theorem i_89_114 : a_ins 89 114 = some (.iaload, (0, 0, 0)) := by decide +kernel
theorem i_89_115 : a_ins 89 115 = some (.invokevirtual 100, (0, 90, 2)) := by decide +kernel
theorem i_89_118 : a_ins 89 118 = some (.iload 7, (0, 0, 0)) := by decide +kernel
theorem i_89_120 : a_ins 89 120 = some (.iadd, (0, 0, 0)) := by decide +kernel
theorem i_89_121 : a_ins 89 121 = some (.istore 8, (0, 0, 0)) := by decide +kernel
theorem i_89_123 : a_ins 89 123 = some (.aload_n 0, (0, 0, 0)) := by decide +kernel
theorem i_89_124 : a_ins 89 124 = some (.getfield 21, (9, 4, 409)) := by decide +kernel
theorem i_89_127 : a_ins 89 127 = some (.iload_n 2, (0, 0, 0)) := by decide +kernel
theorem i_89_128 : a_ins 89 128 = some (.bipush 8, (0, 0, 0)) := by decide +kernel
theorem i_89_130 : a_ins 89 130 = some (.imul, (0, 0, 0)) := by decide +kernel
theorem i_89_131 : a_ins 89 131 = some (.aload_n 0, (0, 0, 0)) := by decide +kernel
theorem i_89_132 : a_ins 89 132 = some (.getfield 47, (9, 0, 402)) := by decide +kernel
theorem i_89_135 : a_ins 89 135 = some (.getfield 63, (2, 3, 352)) := by decide +kernel
theorem i_89_138 : a_ins 89 138 = some (.iload 6, (0, 0, 0)) := by decide +kernel
theorem i_89_140 : a_ins 89 140 = some (.iaload, (0, 0, 0)) := by decide +kernel
theorem i_89_141 : a_ins 89 141 = some (.iadd, (0, 0, 0)) := by decide +kernel
theorem i_89_142 : a_ins 89 142 = some (.iaload, (0, 0, 0)) := by decide +kernel
theorem i_89_143 : a_ins 89 143 = some (.aload_n 0, (0, 0, 0)) := by decide +kernel
theorem i_89_144 : a_ins 89 144 = some (.getfield 47, (9, 0, 402)) := by decide +kernel
theorem i_89_147 : a_ins 89 147 = some (.getfield 117, (2, 4, 358)) := by decide +kernel
theorem i_89_150 : a_ins 89 150 = some (.iload 6, (0, 0, 0)) := by decide +kernel
theorem i_89_152 : a_ins 89 152 = some (.iaload, (0, 0, 0)) := by decide +kernel
theorem i_89_153 : a_ins 89 153 = some (.iadd, (0, 0, 0)) := by decide +kernel
theorem i_89_154 : a_ins 89 154 = some (.istore 9, (0, 0, 0)) := by decide +kernel
theorem i_89_156 : a_ins 89 156 = some (.aload_n 0, (0, 0, 0)) := by decide +kernel
theorem i_89_157 : a_ins 89 157 = some (.getfield 15, (9, 2, 405)) := by decide +kernel
theorem i_89_160 : a_ins 89 160 = some (.iload_n 1, (0, 0, 0)) := by decide +kernel
theorem i_89_161 : a_ins 89 161 = some (.iaload, (0, 0, 0)) := by decide +kernel
theorem i_89_162 : a_ins 89 162 = some (.aload_n 0, (0, 0, 0)) := by decide +kernel
theorem i_89_163 : a_ins 89 163 = some (.getfield 15, (9, 2, 405)) := by decide +kernel
theorem i_89_166 : a_ins 89 166 = some (.iload 5, (0, 0, 0)) := by decide +kernel
theorem i_89_168 : a_ins 89 168 = some (.iaload, (0, 0, 0)) := by decide +kernel
theorem i_89_169 : a_ins 89 169 = some (.iload 7, (0, 0, 0)) := by decide +kernel
theorem i_89_171 : a_ins 89 171 = some (.isub, (0, 0, 0)) := by decide +kernel
theorem i_89_172 : a_ins 89 172 = some (.invokestatic 83, (5, 0, 2)) := by decide +kernel
theorem i_89_175 : a_ins 89 175 = some (.istore 10, (0, 0, 0)) := by decide +kernel
theorem i_89_177 : a_ins 89 177 = some (.aload_n 0, (0, 0, 0)) := by decide +kernel
theorem i_89_178 : a_ins 89 178 = some (.getfield 9, (9, 1, 403)) := by decide +kernel
theorem i_89_181 : a_ins 89 181 = some (.iload_n 1, (0, 0, 0)) := by decide +kernel
theorem i_89_182 : a_ins 89 182 = some (.iaload, (0, 0, 0)) := by decide +kernel
theorem i_89_183 : a_ins 89 183 = some (.aload_n 0, (0, 0, 0)) := by decide +kernel
theorem i_89_184 : a_ins 89 184 = some (.getfield 9, (9, 1, 403)) := by decide +kernel
theorem i_89_187 : a_ins 89 187 = some (.iload 5, (0, 0, 0)) := by decide +kernel
theorem i_89_189 : a_ins 89 189 = some (.iaload, (0, 0, 0)) := by decide +kernel
theorem i_89_190 : a_ins 89 190 = some (.iload 7, (0, 0, 0)) := by decide +kernel
theorem i_89_192 : a_ins 89 192 = some (.isub, (0, 0, 0)) := by decide +kernel
theorem i_89_193 : a_ins 89 193 = some (.invokestatic 77, (6, 0, 2)) := by decide +kernel
theorem i_89_196 : a_ins 89 196 = some (.istore 11, (0, 0, 0)) := by decide +kernel
theorem i_89_198 : a_ins 89 198 = some (.iload 11, (0, 0, 0)) := by decide +kernel
theorem i_89_200 : a_ins 89 200 = some (.iload 10, (0, 0, 0)) := by decide +kernel
theorem i_89_202 : a_ins 89 202 = some (.if_icmp .gt 43, (0, 0, 0)) := by decide +kernel
theorem i_89_205 : a_ins 89 205 = some (.aload_n 0, (0, 0, 0)) := by decide +kernel
theorem i_89_206 : a_ins 89 206 = some (.getfield 27, (9, 6, 412)) := by decide +kernel
theorem i_89_209 : a_ins 89 209 = some (.iload_n 3, (0, 0, 0)) := by decide +kernel
theorem i_89_210 : a_ins 89 210 = some (.iload 11, (0, 0, 0)) := by decide +kernel
theorem i_89_212 : a_ins 89 212 = some (.iadd, (0, 0, 0)) := by decide +kernel
theorem i_89_213 : a_ins 89 213 = some (.aload_n 0, (0, 0, 0)) := by decide +kernel
theorem i_89_214 : a_ins 89 214 = some (.getfield 27, (9, 6, 412)) := by decide +kernel
theorem i_89_217 : a_ins 89 217 = some (.iload_n 3, (0, 0, 0)) := by decide +kernel
theorem i_89_218 : a_ins 89 218 = some (.iload 11, (0, 0, 0)) := by decide +kernel
theorem i_89_220 : a_ins 89 220 = some (.iadd, (0, 0, 0)) := by decide +kernel
theorem i_89_221 : a_ins 89 221 = some (.iaload, (0, 0, 0)) := by decide +kernel
theorem i_89_222 : a_ins 89 222 = some (.iload 9, (0, 0, 0)) := by decide +kernel
theorem i_89_224 : a_ins 89 224 = some (.aload_n 0, (0, 0, 0)) := by decide +kernel
theorem i_89_225 : a_ins 89 225 = some (.getfield 27, (9, 6, 412)) := by decide +kernel
theorem i_89_228 : a_ins 89 228 = some (.iload 8, (0, 0, 0)) := by decide +kernel
theorem i_89_230 : a_ins 89 230 = some (.iload 11, (0, 0, 0)) := by decide +kernel
theorem i_89_232 : a_ins 89 232 = some (.iadd, (0, 0, 0)) := by decide +kernel
theorem i_89_233 : a_ins 89 233 = some (.iaload, (0, 0, 0)) := by decide +kernel
theorem i_89_234 : a_ins 89 234 = some (.iadd, (0, 0, 0)) := by decide +kernel
theorem i_89_235 : a_ins 89 235 = some (.invokestatic 83, (5, 0, 2)) := by decide +kernel
theorem i_89_238 : a_ins 89 238 = some (.iastore, (0, 0, 0)) := by decide +kernel
theorem i_89_239 : a_ins 89 239 = some (.iinc 11 1, (0, 0, 0)) := by decide +kernel
theorem i_89_242 : a_ins 89 242 = some (.goto (-44), (0, 0, 0)) := by decide +kernel
theorem i_89_245 : a_ins 89 245 = some (.iinc 6 1, (0, 0, 0)) := by decide +kernel
theorem i_89_248 : a_ins 89 248 = some (.goto (-166), (0, 0, 0)) := by decide +kernel
theorem i_89_251 : a_ins 89 251 = some (.return_, (0, 0, 0)) := by decide +kernel
theorem i_90_0 : a_ins 90 0 = some (.iload_n 1, (0, 0, 0)) := by decide +kernel
theorem i_90_1 : a_ins 90 1 = some (.bipush 8, (0, 0, 0)) := by decide +kernel
theorem i_90_3 : a_ins 90 3 = some (.imul, (0, 0, 0)) := by decide +kernel
theorem i_90_4 : a_ins 90 4 = some (.iload_n 2, (0, 0, 0)) := by decide +kernel
theorem i_90_5 : a_ins 90 5 = some (.iadd, (0, 0, 0)) := by decide +kernel
theorem i_90_6 : a_ins 90 6 = some (.bipush 85, (0, 0, 0)) := by decide +kernel
theorem i_90_8 : a_ins 90 8 = some (.imul, (0, 0, 0)) := by decide +kernel
theorem i_90_9 : a_ins 90 9 = some (.aload_n 0, (0, 0, 0)) := by decide +kernel
theorem i_90_10 : a_ins 90 10 = some (.getfield 9, (9, 1, 403)) := by decide +kernel
theorem i_90_13 : a_ins 90 13 = some (.iload_n 1, (0, 0, 0)) := by decide +kernel
theorem i_90_14 : a_ins 90 14 = some (.iaload, (0, 0, 0)) := by decide +kernel
theorem i_90_15 : a_ins 90 15 = some (.isub, (0, 0, 0)) := by decide +kernel
theorem i_90_16 : a_ins 90 16 = some (.ireturn, (0, 0, 0)) := by decide +kernel
theorem i_91_0 : a_ins 91 0 = some (.iload_n 1, (0, 0, 0)) := by decide +kernel
theorem i_91_1 : a_ins 91 1 = some (.bipush 12, (0, 0, 0)) := by decide +kernel
theorem i_91_3 : a_ins 91 3 = some (.imul, (0, 0, 0)) := by decide +kernel
theorem i_91_4 : a_ins 91 4 = some (.iload_n 1, (0, 0, 0)) := by decide +kernel
theorem i_91_5 : a_ins 91 5 = some (.aload_n 0, (0, 0, 0)) := by decide +kernel
theorem i_91_6 : a_ins 91 6 = some (.getfield 40, (9, 10, 416)) := by decide +kernel
theorem i_91_9 : a_ins 91 9 = some (.if_icmp .ne 10, (0, 0, 0)) := by decide +kernel
theorem i_91_12 : a_ins 91 12 = some (.aload_n 0, (0, 0, 0)) := by decide +kernel
theorem i_91_13 : a_ins 91 13 = some (.getfield 44, (9, 11, 417)) := by decide +kernel
theorem i_91_16 : a_ins 91 16 = some (.goto 4, (0, 0, 0)) := by decide +kernel
theorem i_91_19 : a_ins 91 19 = some (.iconst 0, (0, 0, 0)) := by decide +kernel
theorem i_91_20 : a_ins 91 20 = some (.iadd, (0, 0, 0)) := by decide +kernel
theorem i_91_21 : a_ins 91 21 = some (.ireturn, (0, 0, 0)) := by decide +kernel
theorem i_92_0 : a_ins 92 0 = some (.iload_n 1, (0, 0, 0)) := by decide +kernel
theorem i_92_1 : a_ins 92 1 = some (.bipush 12, (0, 0, 0)) := by decide +kernel
theorem i_92_3 : a_ins 92 3 = some (.imul, (0, 0, 0)) := by decide +kernel
theorem i_92_4 : a_ins 92 4 = some (.iload_n 1, (0, 0, 0)) := by decide +kernel
theorem i_92_5 : a_ins 92 5 = some (.aload_n 0, (0, 0, 0)) := by decide +kernel
theorem i_92_6 : a_ins 92 6 = some (.getfield 40, (9, 10, 416)) := by decide +kernel
theorem i_92_9 : a_ins 92 9 = some (.if_icmp .ne 10, (0, 0, 0)) := by decide +kernel
theorem i_92_12 : a_ins 92 12 = some (.aload_n 0, (0, 0, 0)) := by decide +kernel
theorem i_92_13 : a_ins 92 13 = some (.getfield 44, (9, 11, 417)) := by decide +kernel
theorem i_92_16 : a_ins 92 16 = some (.goto 14, (0, 0, 0)) := by decide +kernel
theorem i_92_19 : a_ins 92 19 = some (.aload_n 0, (0, 0, 0)) := by decide +kernel
theorem i_92_20 : a_ins 92 20 = some (.getfield 47, (9, 0, 402)) := by decide +kernel
theorem i_92_23 : a_ins 92 23 = some (.getfield 59, (2, 0, 342)) := by decide +kernel
theorem i_92_26 : a_ins 92 26 = some (.iload_n 1, (0, 0, 0)) := by decide +kernel
theorem i_92_27 : a_ins 92 27 = some (.iaload, (0, 0, 0)) := by decide +kernel
theorem i_92_28 : a_ins 92 28 = some (.iconst 1, (0, 0, 0)) := by decide +kernel
theorem i_92_29 : a_ins 92 29 = some (.isub, (0, 0, 0)) := by decide +kernel
theorem i_92_30 : a_ins 92 30 = some (.iadd, (0, 0, 0)) := by decide +kernel
theorem i_92_31 : a_ins 92 31 = some (.ireturn, (0, 0, 0)) := by decide +kernel
theorem i_93_0 : a_ins 93 0 = some (.iconst 0, (0, 0, 0)) := by decide +kernel
theorem i_93_1 : a_ins 93 1 = some (.istore_n 3, (0, 0, 0)) := by decide +kernel
theorem i_93_2 : a_ins 93 2 = some (.iload_n 3, (0, 0, 0)) := by decide +kernel
theorem i_93_3 : a_ins 93 3 = some (.aload_n 0, (0, 0, 0)) := by decide +kernel
theorem i_93_4 : a_ins 93 4 = some (.getfield 47, (9, 0, 402)) := by decide +kernel
theorem i_93_7 : a_ins 93 7 = some (.getfield 51, (2, 8, 366)) := by decide +kernel
theorem i_93_10 : a_ins 93 10 = some (.if_icmp .ge 59, (0, 0, 0)) := by decide +kernel
theorem i_93_13 : a_ins 93 13 = some (.aload_n 0, (0, 0, 0)) := by decide +kernel
theorem i_93_14 : a_ins 93 14 = some (.iload_n 3, (0, 0, 0)) := by decide +kernel
theorem i_93_15 : a_ins 93 15 = some (.invokevirtual 120, (0, 94, 1)) := by decide +kernel
theorem i_93_18 : a_ins 93 18 = some (.aload_n 0, (0, 0, 0)) := by decide +kernel
theorem i_93_19 : a_ins 93 19 = some (.getfield 30, (9, 7, 413)) := by decide +kernel
theorem i_93_22 : a_ins 93 22 = some (.ldc 86, (0, 4, 1006)) := by decide +kernel
theorem i_93_24 : a_ins 93 24 = some (.invokestatic 123, (1, 41, 2)) := by decide +kernel
theorem i_93_27 : a_ins 93 27 = some (.aload_n 0, (0, 0, 0)) := by decide +kernel
theorem i_93_28 : a_ins 93 28 = some (.iload_n 3, (0, 0, 0)) := by decide +kernel
theorem i_93_29 : a_ins 93 29 = some (.invokevirtual 111, (0, 91, 1)) := by decide +kernel
theorem i_93_32 : a_ins 93 32 = some (.istore 4, (0, 0, 0)) := by decide +kernel
theorem i_93_34 : a_ins 93 34 = some (.iload 4, (0, 0, 0)) := by decide +kernel
theorem i_93_36 : a_ins 93 36 = some (.aload_n 0, (0, 0, 0)) := by decide +kernel
theorem i_93_37 : a_ins 93 37 = some (.iload_n 3, (0, 0, 0)) := by decide +kernel
theorem i_93_38 : a_ins 93 38 = some (.invokevirtual 114, (0, 92, 1)) := by decide +kernel
theorem i_93_41 : a_ins 93 41 = some (.if_icmp .gt 22, (0, 0, 0)) := by decide +kernel
theorem i_93_44 : a_ins 93 44 = some (.aload_n 1, (0, 0, 0)) := by decide +kernel
theorem i_93_45 : a_ins 93 45 = some (.iload_n 2, (0, 0, 0)) := by decide +kernel
theorem i_93_46 : a_ins 93 46 = some (.iload 4, (0, 0, 0)) := by decide +kernel
theorem i_93_48 : a_ins 93 48 = some (.iadd, (0, 0, 0)) := by decide +kernel
theorem i_93_49 : a_ins 93 49 = some (.aload_n 0, (0, 0, 0)) := by decide +kernel
theorem i_93_50 : a_ins 93 50 = some (.iload_n 3, (0, 0, 0)) := by decide +kernel
theorem i_93_51 : a_ins 93 51 = some (.iload 4, (0, 0, 0)) := by decide +kernel
theorem i_93_53 : a_ins 93 53 = some (.invokevirtual 125, (0, 96, 2)) := by decide +kernel
theorem i_93_56 : a_ins 93 56 = some (.iastore, (0, 0, 0)) := by decide +kernel
theorem i_93_57 : a_ins 93 57 = some (.iinc 4 1, (0, 0, 0)) := by decide +kernel
theorem i_93_60 : a_ins 93 60 = some (.goto (-26), (0, 0, 0)) := by decide +kernel
theorem i_93_63 : a_ins 93 63 = some (.iinc 3 1, (0, 0, 0)) := by decide +kernel
theorem i_93_66 : a_ins 93 66 = some (.goto (-64), (0, 0, 0)) := by decide +kernel
theorem i_93_69 : a_ins 93 69 = some (.return_, (0, 0, 0)) := by decide +kernel
theorem i_94_0 : a_ins 94 0 = some (.iconst 0, (0, 0, 0)) := by decide +kernel
theorem i_94_1 : a_ins 94 1 = some (.istore_n 2, (0, 0, 0)) := by decide +kernel
theorem i_94_2 : a_ins 94 2 = some (.iload_n 2, (0, 0, 0)) := by decide +kernel
theorem i_94_3 : a_ins 94 3 = some (.bipush 8, (0, 0, 0)) := by decide +kernel
theorem i_94_5 : a_ins 94 5 = some (.if_icmp .ge 113, (0, 0, 0)) := by decide +kernel
theorem i_94_8 : a_ins 94 8 = some (.aload_n 0, (0, 0, 0)) := by decide +kernel
theorem i_94_9 : a_ins 94 9 = some (.iload_n 1, (0, 0, 0)) := by decide +kernel
theorem i_94_10 : a_ins 94 10 = some (.iload_n 2, (0, 0, 0)) := by decide +kernel
theorem i_94_11 : a_ins 94 11 = some (.invokevirtual 103, (0, 88, 2)) := by decide +kernel
theorem i_94_14 : a_ins 94 14 = some (.ifCond .ne 6, (0, 0, 0)) := by decide +kernel
theorem i_94_17 : a_ins 94 17 = some (.goto 95, (0, 0, 0)) := by decide +kernel
theorem i_94_20 : a_ins 94 20 = some (.iload_n 1, (0, 0, 0)) := by decide +kernel
theorem i_94_21 : a_ins 94 21 = some (.ifCond .ne 16, (0, 0, 0)) := by decide +kernel
theorem i_94_24 : a_ins 94 24 = some (.aload_n 0, (0, 0, 0)) := by decide +kernel
theorem i_94_25 : a_ins 94 25 = some (.getfield 33, (9, 8, 414)) := by decide +kernel
theorem i_94_28 : a_ins 94 28 = some (.iload_n 2, (0, 0, 0)) := by decide +kernel
theorem i_94_29 : a_ins 94 29 = some (.bipush 85, (0, 0, 0)) := by decide +kernel
theorem i_94_31 : a_ins 94 31 = some (.imul, (0, 0, 0)) := by decide +kernel
theorem i_94_32 : a_ins 94 32 = some (.iconst 0, (0, 0, 0)) := by decide +kernel
theorem i_94_33 : a_ins 94 33 = some (.iastore, (0, 0, 0)) := by decide +kernel
theorem i_94_34 : a_ins 94 34 = some (.goto 78, (0, 0, 0)) := by decide +kernel
theorem i_94_37 : a_ins 94 37 = some (.aload_n 0, (0, 0, 0)) := by decide +kernel
theorem i_94_38 : a_ins 94 38 = some (.getfield 15, (9, 2, 405)) := by decide +kernel
theorem i_94_41 : a_ins 94 41 = some (.iload_n 1, (0, 0, 0)) := by decide +kernel
theorem i_94_42 : a_ins 94 42 = some (.iconst 1, (0, 0, 0)) := by decide +kernel
theorem i_94_43 : a_ins 94 43 = some (.isub, (0, 0, 0)) := by decide +kernel
theorem i_94_44 : a_ins 94 44 = some (.iaload, (0, 0, 0)) := by decide +kernel
theorem i_94_45 : a_ins 94 45 = some (.aload_n 0, (0, 0, 0)) := by decide +kernel
theorem i_94_46 : a_ins 94 46 = some (.getfield 9, (9, 1, 403)) := by decide +kernel
theorem i_94_49 : a_ins 94 49 = some (.iload_n 1, (0, 0, 0)) := by decide +kernel
theorem i_94_50 : a_ins 94 50 = some (.iconst 1, (0, 0, 0)) := by decide +kernel
theorem i_94_51 : a_ins 94 51 = some (.isub, (0, 0, 0)) := by decide +kernel
theorem i_94_52 : a_ins 94 52 = some (.iaload, (0, 0, 0)) := by decide +kernel
theorem i_94_53 : a_ins 94 53 = some (.isub, (0, 0, 0)) := by decide +kernel
theorem i_94_54 : a_ins 94 54 = some (.iconst 1, (0, 0, 0)) := by decide +kernel
theorem i_94_55 : a_ins 94 55 = some (.iadd, (0, 0, 0)) := by decide +kernel
theorem i_94_56 : a_ins 94 56 = some (.istore_n 3, (0, 0, 0)) := by decide +kernel
theorem i_94_57 : a_ins 94 57 = some (.aload_n 0, (0, 0, 0)) := by decide +kernel
theorem i_94_58 : a_ins 94 58 = some (.getfield 33, (9, 8, 414)) := by decide +kernel
theorem i_94_61 : a_ins 94 61 = some (.iload_n 2, (0, 0, 0)) := by decide +kernel
theorem i_94_62 : a_ins 94 62 = some (.bipush 85, (0, 0, 0)) := by decide +kernel
theorem i_94_64 : a_ins 94 64 = some (.imul, (0, 0, 0)) := by decide +kernel
theorem i_94_65 : a_ins 94 65 = some (.iload_n 2, (0, 0, 0)) := by decide +kernel
theorem i_94_66 : a_ins 94 66 = some (.bipush 85, (0, 0, 0)) := by decide +kernel
theorem i_94_68 : a_ins 94 68 = some (.imul, (0, 0, 0)) := by decide +kernel
theorem i_94_69 : a_ins 94 69 = some (.iload_n 3, (0, 0, 0)) := by decide +kernel
theorem i_94_70 : a_ins 94 70 = some (.iadd, (0, 0, 0)) := by decide +kernel
theorem i_94_71 : a_ins 94 71 = some (.ldc 86, (0, 4, 1006)) := by decide +kernel
theorem i_94_73 : a_ins 94 73 = some (.invokestatic 87, (1, 85, 4)) := by decide +kernel
theorem i_94_76 : a_ins 94 76 = some (.iconst 0, (0, 0, 0)) := by decide +kernel
theorem i_94_77 : a_ins 94 77 = some (.istore 4, (0, 0, 0)) := by decide +kernel
theorem i_94_79 : a_ins 94 79 = some (.iload 4, (0, 0, 0)) := by decide +kernel
theorem i_94_81 : a_ins 94 81 = some (.bipush 8, (0, 0, 0)) := by decide +kernel
theorem i_94_83 : a_ins 94 83 = some (.if_icmp .ge 29, (0, 0, 0)) := by decide +kernel
theorem i_94_86 : a_ins 94 86 = some (.aload_n 0, (0, 0, 0)) := by decide +kernel
theorem i_94_87 : a_ins 94 87 = some (.iload_n 1, (0, 0, 0)) := by decide +kernel
theorem i_94_88 : a_ins 94 88 = some (.iconst 1, (0, 0, 0)) := by decide +kernel
theorem i_94_89 : a_ins 94 89 = some (.isub, (0, 0, 0)) := by decide +kernel
theorem i_94_90 : a_ins 94 90 = some (.iload 4, (0, 0, 0)) := by decide +kernel
theorem i_94_92 : a_ins 94 92 = some (.invokevirtual 103, (0, 88, 2)) := by decide +kernel
theorem i_94_95 : a_ins 94 95 = some (.ifCond .eq 11, (0, 0, 0)) := by decide +kernel
theorem i_94_98 : a_ins 94 98 = some (.aload_n 0, (0, 0, 0)) := by decide +kernel
theorem i_94_99 : a_ins 94 99 = some (.iload 4, (0, 0, 0)) := by decide +kernel
theorem i_94_101 : a_ins 94 101 = some (.iload_n 2, (0, 0, 0)) := by decide +kernel
theorem i_94_102 : a_ins 94 102 = some (.iload_n 3, (0, 0, 0)) := by decide +kernel
theorem i_94_103 : a_ins 94 103 = some (.invokevirtual 128, (0, 95, 3)) := by decide +kernel
theorem i_94_106 : a_ins 94 106 = some (.iinc 4 1, (0, 0, 0)) := by decide +kernel
theorem i_94_109 : a_ins 94 109 = some (.goto (-30), (0, 0, 0)) := by decide +kernel
theorem i_94_112 : a_ins 94 112 = some (.iinc 2 1, (0, 0, 0)) := by decide +kernel
theorem i_94_115 : a_ins 94 115 = some (.goto (-113), (0, 0, 0)) := by decide +kernel
theorem i_94_118 : a_ins 94 118 = some (.return_, (0, 0, 0)) := by decide +kernel
theorem i_95_0 : a_ins 95 0 = some (.aload_n 0, (0, 0, 0)) := by decide +kernel
theorem i_95_1 : a_ins 95 1 = some (.getfield 21, (9, 4, 409)) := by decide +kernel
theorem i_95_4 : a_ins 95 4 = some (.iload_n 1, (0, 0, 0)) := by decide +kernel
theorem i_95_5 : a_ins 95 5 = some (.bipush 8, (0, 0, 0)) := by decide +kernel
theorem i_95_7 : a_ins 95 7 = some (.imul, (0, 0, 0)) := by decide +kernel
theorem i_95_8 : a_ins 95 8 = some (.iload_n 2, (0, 0, 0)) := by decide +kernel
theorem i_95_9 : a_ins 95 9 = some (.iadd, (0, 0, 0)) := by decide +kernel
theorem i_95_10 : a_ins 95 10 = some (.iaload, (0, 0, 0)) := by decide +kernel
theorem i_95_11 : a_ins 95 11 = some (.istore 4, (0, 0, 0)) := by decide +kernel
theorem i_95_13 : a_ins 95 13 = some (.iconst 0, (0, 0, 0)) := by decide +kernel
theorem i_95_14 : a_ins 95 14 = some (.istore 5, (0, 0, 0)) := by decide +kernel
theorem i_95_16 : a_ins 95 16 = some (.iload 5, (0, 0, 0)) := by decide +kernel
theorem i_95_18 : a_ins 95 18 = some (.iload_n 3, (0, 0, 0)) := by decide +kernel
theorem i_95_19 : a_ins 95 19 = some (.if_icmp .ge 51, (0, 0, 0)) := by decide +kernel
theorem i_95_22 : a_ins 95 22 = some (.aload_n 0, (0, 0, 0)) := by decide +kernel
theorem i_95_23 : a_ins 95 23 = some (.getfield 33, (9, 8, 414)) := by decide +kernel
theorem i_95_26 : a_ins 95 26 = some (.iload_n 2, (0, 0, 0)) := by decide +kernel
theorem i_95_27 : a_ins 95 27 = some (.bipush 85, (0, 0, 0)) := by decide +kernel
theorem i_95_29 : a_ins 95 29 = some (.imul, (0, 0, 0)) := by decide +kernel
theorem i_95_30 : a_ins 95 30 = some (.iload 5, (0, 0, 0)) := by decide +kernel
theorem i_95_32 : a_ins 95 32 = some (.iadd, (0, 0, 0)) := by decide +kernel
theorem i_95_33 : a_ins 95 33 = some (.aload_n 0, (0, 0, 0)) := by decide +kernel
theorem i_95_34 : a_ins 95 34 = some (.getfield 33, (9, 8, 414)) := by decide +kernel
theorem i_95_37 : a_ins 95 37 = some (.iload_n 2, (0, 0, 0)) := by decide +kernel
theorem i_95_38 : a_ins 95 38 = some (.bipush 85, (0, 0, 0)) := by decide +kernel
theorem i_95_40 : a_ins 95 40 = some (.imul, (0, 0, 0)) := by decide +kernel
theorem i_95_41 : a_ins 95 41 = some (.iload 5, (0, 0, 0)) := by decide +kernel
theorem i_95_43 : a_ins 95 43 = some (.iadd, (0, 0, 0)) := by decide +kernel
theorem i_95_44 : a_ins 95 44 = some (.iaload, (0, 0, 0)) := by decide +kernel
theorem i_95_45 : a_ins 95 45 = some (.aload_n 0, (0, 0, 0)) := by decide +kernel
theorem i_95_46 : a_ins 95 46 = some (.getfield 30, (9, 7, 413)) := by decide +kernel
theorem i_95_49 : a_ins 95 49 = some (.iload_n 1, (0, 0, 0)) := by decide +kernel
theorem i_95_50 : a_ins 95 50 = some (.bipush 85, (0, 0, 0)) := by decide +kernel
theorem i_95_52 : a_ins 95 52 = some (.imul, (0, 0, 0)) := by decide +kernel
theorem i_95_53 : a_ins 95 53 = some (.iload 5, (0, 0, 0)) := by decide +kernel
theorem i_95_55 : a_ins 95 55 = some (.iadd, (0, 0, 0)) := by decide +kernel
theorem i_95_56 : a_ins 95 56 = some (.iaload, (0, 0, 0)) := by decide +kernel
theorem i_95_57 : a_ins 95 57 = some (.iload 4, (0, 0, 0)) := by decide +kernel
theorem i_95_59 : a_ins 95 59 = some (.iadd, (0, 0, 0)) := by decide +kernel
theorem i_95_60 : a_ins 95 60 = some (.invokestatic 83, (5, 0, 2)) := by decide +kernel
theorem i_95_63 : a_ins 95 63 = some (.iastore, (0, 0, 0)) := by decide +kernel
theorem i_95_64 : a_ins 95 64 = some (.iinc 5 1, (0, 0, 0)) := by decide +kernel
theorem i_95_67 : a_ins 95 67 = some (.goto (-51), (0, 0, 0)) := by decide +kernel
theorem i_95_70 : a_ins 95 70 = some (.return_, (0, 0, 0)) := by decide +kernel
theorem i_96_0 : a_ins 96 0 = some (.iload_n 1, (0, 0, 0)) := by decide +kernel
theorem i_96_1 : a_ins 96 1 = some (.ifCond .ne 7, (0, 0, 0)) := by decide +kernel
theorem i_96_4 : a_ins 96 4 = some (.iconst 0, (0, 0, 0)) := by decide +kernel
theorem i_96_5 : a_ins 96 5 = some (.goto 11, (0, 0, 0)) := by decide +kernel
theorem i_96_8 : a_ins 96 8 = some (.aload_n 0, (0, 0, 0)) := by decide +kernel
theorem i_96_9 : a_ins 96 9 = some (.getfield 9, (9, 1, 403)) := by decide +kernel
theorem i_96_12 : a_ins 96 12 = some (.iload_n 1, (0, 0, 0)) := by decide +kernel
theorem i_96_13 : a_ins 96 13 = some (.iconst 1, (0, 0, 0)) := by decide +kernel
theorem i_96_14 : a_ins 96 14 = some (.isub, (0, 0, 0)) := by decide +kernel
theorem i_96_15 : a_ins 96 15 = some (.iaload, (0, 0, 0)) := by decide +kernel
theorem i_96_16 : a_ins 96 16 = some (.istore_n 3, (0, 0, 0)) := by decide +kernel
theorem i_96_17 : a_ins 96 17 = some (.iload_n 1, (0, 0, 0)) := by decide +kernel
theorem i_96_18 : a_ins 96 18 = some (.ifCond .ne 7, (0, 0, 0)) := by decide +kernel
theorem i_96_21 : a_ins 96 21 = some (.iconst 0, (0, 0, 0)) := by decide +kernel
theorem i_96_22 : a_ins 96 22 = some (.goto 11, (0, 0, 0)) := by decide +kernel
theorem i_96_25 : a_ins 96 25 = some (.aload_n 0, (0, 0, 0)) := by decide +kernel
theorem i_96_26 : a_ins 96 26 = some (.getfield 15, (9, 2, 405)) := by decide +kernel
theorem i_96_29 : a_ins 96 29 = some (.iload_n 1, (0, 0, 0)) := by decide +kernel
theorem i_96_30 : a_ins 96 30 = some (.iconst 1, (0, 0, 0)) := by decide +kernel
theorem i_96_31 : a_ins 96 31 = some (.isub, (0, 0, 0)) := by decide +kernel
theorem i_96_32 : a_ins 96 32 = some (.iaload, (0, 0, 0)) := by decide +kernel
theorem i_96_33 : a_ins 96 33 = some (.istore 4, (0, 0, 0)) := by decide +kernel
theorem i_96_35 : a_ins 96 35 = some (.aload_n 0, (0, 0, 0)) := by decide +kernel
theorem i_96_36 : a_ins 96 36 = some (.getfield 47, (9, 0, 402)) := by decide +kernel
theorem i_96_39 : a_ins 96 39 = some (.getfield 63, (2, 3, 352)) := by decide +kernel
theorem i_96_42 : a_ins 96 42 = some (.iload_n 2, (0, 0, 0)) := by decide +kernel
theorem i_96_43 : a_ins 96 43 = some (.iaload, (0, 0, 0)) := by decide +kernel
theorem i_96_44 : a_ins 96 44 = some (.istore 5, (0, 0, 0)) := by decide +kernel
theorem i_96_46 : a_ins 96 46 = some (.aload_n 0, (0, 0, 0)) := by decide +kernel
theorem i_96_47 : a_ins 96 47 = some (.getfield 18, (9, 3, 407)) := by decide +kernel
theorem i_96_50 : a_ins 96 50 = some (.iload_n 2, (0, 0, 0)) := by decide +kernel
theorem i_96_51 : a_ins 96 51 = some (.iaload, (0, 0, 0)) := by decide +kernel
theorem i_96_52 : a_ins 96 52 = some (.istore 6, (0, 0, 0)) := by decide +kernel
theorem i_96_54 : a_ins 96 54 = some (.aload_n 0, (0, 0, 0)) := by decide +kernel
theorem i_96_55 : a_ins 96 55 = some (.iload_n 1, (0, 0, 0)) := by decide +kernel
theorem i_96_56 : a_ins 96 56 = some (.iload 5, (0, 0, 0)) := by decide +kernel
theorem i_96_58 : a_ins 96 58 = some (.invokevirtual 100, (0, 90, 2)) := by decide +kernel
theorem i_96_61 : a_ins 96 61 = some (.iload 6, (0, 0, 0)) := by decide +kernel
theorem i_96_63 : a_ins 96 63 = some (.iadd, (0, 0, 0)) := by decide +kernel
theorem i_96_64 : a_ins 96 64 = some (.istore 7, (0, 0, 0)) := by decide +kernel
theorem i_96_66 : a_ins 96 66 = some (.iload 5, (0, 0, 0)) := by decide +kernel
theorem i_96_68 : a_ins 96 68 = some (.bipush 85, (0, 0, 0)) := by decide +kernel
theorem i_96_70 : a_ins 96 70 = some (.imul, (0, 0, 0)) := by decide +kernel
theorem i_96_71 : a_ins 96 71 = some (.iload_n 3, (0, 0, 0)) := by decide +kernel
theorem i_96_72 : a_ins 96 72 = some (.isub, (0, 0, 0)) := by decide +kernel
theorem i_96_73 : a_ins 96 73 = some (.istore 8, (0, 0, 0)) := by decide +kernel
theorem i_96_75 : a_ins 96 75 = some (.iload 5, (0, 0, 0)) := by decide +kernel
theorem i_96_77 : a_ins 96 77 = some (.bipush 85, (0, 0, 0)) := by decide +kernel
theorem i_96_79 : a_ins 96 79 = some (.imul, (0, 0, 0)) := by decide +kernel
theorem i_96_80 : a_ins 96 80 = some (.aload_n 0, (0, 0, 0)) := by decide +kernel
theorem i_96_81 : a_ins 96 81 = some (.getfield 9, (9, 1, 403)) := by decide +kernel
theorem i_96_84 : a_ins 96 84 = some (.iload_n 1, (0, 0, 0)) := by decide +kernel
theorem i_96_85 : a_ins 96 85 = some (.iaload, (0, 0, 0)) := by decide +kernel
theorem i_96_86 : a_ins 96 86 = some (.isub, (0, 0, 0)) := by decide +kernel
theorem i_96_87 : a_ins 96 87 = some (.iload 6, (0, 0, 0)) := by decide +kernel
theorem i_96_89 : a_ins 96 89 = some (.iadd, (0, 0, 0)) := by decide +kernel
theorem i_96_90 : a_ins 96 90 = some (.istore 9, (0, 0, 0)) := by decide +kernel
theorem i_96_92 : a_ins 96 92 = some (.iload 4, (0, 0, 0)) := by decide +kernel
theorem i_96_94 : a_ins 96 94 = some (.aload_n 0, (0, 0, 0)) := by decide +kernel
theorem i_96_95 : a_ins 96 95 = some (.getfield 15, (9, 2, 405)) := by decide +kernel
theorem i_96_98 : a_ins 96 98 = some (.iload_n 1, (0, 0, 0)) := by decide +kernel
theorem i_96_99 : a_ins 96 99 = some (.iaload, (0, 0, 0)) := by decide +kernel
theorem i_96_100 : a_ins 96 100 = some (.iload 6, (0, 0, 0)) := by decide +kernel
theorem i_96_102 : a_ins 96 102 = some (.isub, (0, 0, 0)) := by decide +kernel
theorem i_96_103 : a_ins 96 103 = some (.invokestatic 83, (5, 0, 2)) := by decide +kernel
theorem i_96_106 : a_ins 96 106 = some (.istore 10, (0, 0, 0)) := by decide +kernel
theorem i_96_108 : a_ins 96 108 = some (.ldc 86, (0, 4, 1006)) := by decide +kernel
theorem i_96_110 : a_ins 96 110 = some (.istore 11, (0, 0, 0)) := by decide +kernel
theorem i_96_112 : a_ins 96 112 = some (.iload_n 3, (0, 0, 0)) := by decide +kernel
theorem i_96_113 : a_ins 96 113 = some (.aload_n 0, (0, 0, 0)) := by decide +kernel
theorem i_96_114 : a_ins 96 114 = some (.getfield 9, (9, 1, 403)) := by decide +kernel
theorem i_96_117 : a_ins 96 117 = some (.iload_n 1, (0, 0, 0)) := by decide +kernel
theorem i_96_118 : a_ins 96 118 = some (.iaload, (0, 0, 0)) := by decide +kernel
theorem i_96_119 : a_ins 96 119 = some (.iload 6, (0, 0, 0)) := by decide +kernel
theorem i_96_121 : a_ins 96 121 = some (.isub, (0, 0, 0)) := by decide +kernel
theorem i_96_122 : a_ins 96 122 = some (.invokestatic 77, (6, 0, 2)) := by decide +kernel
theorem i_96_125 : a_ins 96 125 = some (.istore 12, (0, 0, 0)) := by decide +kernel
theorem i_96_127 : a_ins 96 127 = some (.iload 12, (0, 0, 0)) := by decide +kernel
theorem i_96_129 : a_ins 96 129 = some (.iload 10, (0, 0, 0)) := by decide +kernel
theorem i_96_131 : a_ins 96 131 = some (.if_icmp .gt 76, (0, 0, 0)) := by decide +kernel
theorem i_96_134 : a_ins 96 134 = some (.aload_n 0, (0, 0, 0)) := by decide +kernel
theorem i_96_135 : a_ins 96 135 = some (.getfield 33, (9, 8, 414)) := by decide +kernel
theorem i_96_138 : a_ins 96 138 = some (.iload 8, (0, 0, 0)) := by decide +kernel
theorem i_96_140 : a_ins 96 140 = some (.iload 12, (0, 0, 0)) := by decide +kernel
theorem i_96_142 : a_ins 96 142 = some (.iadd, (0, 0, 0)) := by decide +kernel
theorem i_96_143 : a_ins 96 143 = some (.iaload, (0, 0, 0)) := by decide +kernel
theorem i_96_144 : a_ins 96 144 = some (.aload_n 0, (0, 0, 0)) := by decide +kernel
theorem i_96_145 : a_ins 96 145 = some (.getfield 47, (9, 0, 402)) := by decide +kernel
theorem i_96_148 : a_ins 96 148 = some (.getfield 117, (2, 4, 358)) := by decide +kernel
theorem i_96_151 : a_ins 96 151 = some (.iload_n 2, (0, 0, 0)) := by decide +kernel
theorem i_96_152 : a_ins 96 152 = some (.iaload, (0, 0, 0)) := by decide +kernel
theorem i_96_153 : a_ins 96 153 = some (.iadd, (0, 0, 0)) := by decide +kernel
theorem i_96_154 : a_ins 96 154 = some (.istore 13, (0, 0, 0)) := by decide +kernel
theorem i_96_156 : a_ins 96 156 = some (.aload_n 0, (0, 0, 0)) := by decide +kernel
theorem i_96_157 : a_ins 96 157 = some (.getfield 30, (9, 7, 413)) := by decide +kernel
theorem i_96_160 : a_ins 96 160 = some (.iload 9, (0, 0, 0)) := by decide +kernel
theorem i_96_162 : a_ins 96 162 = some (.iload 12, (0, 0, 0)) := by decide +kernel
theorem i_96_164 : a_ins 96 164 = some (.iadd, (0, 0, 0)) := by decide +kernel
theorem i_96_165 : a_ins 96 165 = some (.aload_n 0, (0, 0, 0)) := by decide +kernel
theorem i_96_166 : a_ins 96 166 = some (.getfield 30, (9, 7, 413)) := by decide +kernel
theorem i_96_169 : a_ins 96 169 = some (.iload 9, (0, 0, 0)) := by decide +kernel
theorem i_96_171 : a_ins 96 171 = some (.iload 12, (0, 0, 0)) := by decide +kernel
theorem i_96_173 : a_ins 96 173 = some (.iadd, (0, 0, 0)) := by decide +kernel
theorem i_96_174 : a_ins 96 174 = some (.iaload, (0, 0, 0)) := by decide +kernel
theorem i_96_175 : a_ins 96 175 = some (.iload 13, (0, 0, 0)) := by decide +kernel
theorem i_96_177 : a_ins 96 177 = some (.invokestatic 83, (5, 0, 2)) := by decide +kernel
theorem i_96_180 : a_ins 96 180 = some (.iastore, (0, 0, 0)) := by decide +kernel
theorem i_96_181 : a_ins 96 181 = some (.iload 11, (0, 0, 0)) := by decide +kernel
theorem i_96_183 : a_ins 96 183 = some (.iload 13, (0, 0, 0)) := by decide +kernel
theorem i_96_185 : a_ins 96 185 = some (.aload_n 0, (0, 0, 0)) := by decide +kernel
theorem i_96_186 : a_ins 96 186 = some (.getfield 27, (9, 6, 412)) := by decide +kernel
theorem i_96_189 : a_ins 96 189 = some (.iload 7, (0, 0, 0)) := by decide +kernel
theorem i_96_191 : a_ins 96 191 = some (.iload 12, (0, 0, 0)) := by decide +kernel
theorem i_96_193 : a_ins 96 193 = some (.iadd, (0, 0, 0)) := by decide +kernel
theorem i_96_194 : a_ins 96 194 = some (.iaload, (0, 0, 0)) := by decide +kernel
theorem i_96_195 : a_ins 96 195 = some (.iadd, (0, 0, 0)) := by decide +kernel
theorem i_96_196 : a_ins 96 196 = some (.invokestatic 83, (5, 0, 2)) := by decide +kernel
theorem i_96_199 : a_ins 96 199 = some (.istore 11, (0, 0, 0)) := by decide +kernel
theorem i_96_201 : a_ins 96 201 = some (.iinc 12 1, (0, 0, 0)) := by decide +kernel
theorem i_96_204 : a_ins 96 204 = some (.goto (-77), (0, 0, 0)) := by decide +kernel
theorem i_96_207 : a_ins 96 207 = some (.iload 11, (0, 0, 0)) := by decide +kernel
theorem i_96_209 : a_ins 96 209 = some (.ireturn, (0, 0, 0)) := by decide +kernel
theorem i_97_0 : a_ins 97 0 = some (.iload_n 1, (0, 0, 0)) := by decide +kernel
theorem i_97_1 : a_ins 97 1 = some (.istore_n 3, (0, 0, 0)) := by decide +kernel
theorem i_97_2 : a_ins 97 2 = some (.iconst 0, (0, 0, 0)) := by decide +kernel
theorem i_97_3 : a_ins 97 3 = some (.istore 4, (0, 0, 0)) := by decide +kernel
theorem i_97_5 : a_ins 97 5 = some (.iconst (-1), (0, 0, 0)) := by decide +kernel
theorem i_97_6 : a_ins 97 6 = some (.istore 5, (0, 0, 0)) := by decide +kernel
theorem i_97_8 : a_ins 97 8 = some (.iconst 0, (0, 0, 0)) := by decide +kernel
theorem i_97_9 : a_ins 97 9 = some (.istore 6, (0, 0, 0)) := by decide +kernel
theorem i_97_11 : a_ins 97 11 = some (.iload 6, (0, 0, 0)) := by decide +kernel
theorem i_97_13 : a_ins 97 13 = some (.aload_n 0, (0, 0, 0)) := by decide +kernel
theorem i_97_14 : a_ins 97 14 = some (.getfield 47, (9, 0, 402)) := by decide +kernel
theorem i_97_17 : a_ins 97 17 = some (.getfield 51, (2, 8, 366)) := by decide +kernel
theorem i_97_20 : a_ins 97 20 = some (.if_icmp .ge 152, (0, 0, 0)) := by decide +kernel
theorem i_97_23 : a_ins 97 23 = some (.iload 6, (0, 0, 0)) := by decide +kernel
theorem i_97_25 : a_ins 97 25 = some (.bipush 12, (0, 0, 0)) := by decide +kernel
theorem i_97_27 : a_ins 97 27 = some (.imul, (0, 0, 0)) := by decide +kernel
theorem i_97_28 : a_ins 97 28 = some (.istore 7, (0, 0, 0)) := by decide +kernel
theorem i_97_30 : a_ins 97 30 = some (.iconst 0, (0, 0, 0)) := by decide +kernel
theorem i_97_31 : a_ins 97 31 = some (.istore 8, (0, 0, 0)) := by decide +kernel
theorem i_97_33 : a_ins 97 33 = some (.iload 8, (0, 0, 0)) := by decide +kernel
theorem i_97_35 : a_ins 97 35 = some (.aload_n 0, (0, 0, 0)) := by decide +kernel
theorem i_97_36 : a_ins 97 36 = some (.getfield 47, (9, 0, 402)) := by decide +kernel
theorem i_97_39 : a_ins 97 39 = some (.getfield 59, (2, 0, 342)) := by decide +kernel
theorem i_97_42 : a_ins 97 42 = some (.iload 6, (0, 0, 0)) := by decide +kernel
theorem i_97_44 : a_ins 97 44 = some (.iaload, (0, 0, 0)) := by decide +kernel
theorem i_97_45 : a_ins 97 45 = some (.if_icmp .ge 121, (0, 0, 0)) := by decide +kernel
theorem i_97_48 : a_ins 97 48 = some (.iload 7, (0, 0, 0)) := by decide +kernel
theorem i_97_50 : a_ins 97 50 = some (.iload 8, (0, 0, 0)) := by decide +kernel
theorem i_97_52 : a_ins 97 52 = some (.iadd, (0, 0, 0)) := by decide +kernel
theorem i_97_53 : a_ins 97 53 = some (.istore 9, (0, 0, 0)) := by decide +kernel
theorem i_97_55 : a_ins 97 55 = some (.aload_n 0, (0, 0, 0)) := by decide +kernel
theorem i_97_56 : a_ins 97 56 = some (.getfield 47, (9, 0, 402)) := by decide +kernel
theorem i_97_59 : a_ins 97 59 = some (.getfield 63, (2, 3, 352)) := by decide +kernel
theorem i_97_62 : a_ins 97 62 = some (.iload 9, (0, 0, 0)) := by decide +kernel
theorem i_97_64 : a_ins 97 64 = some (.iaload, (0, 0, 0)) := by decide +kernel
theorem i_97_65 : a_ins 97 65 = some (.istore 10, (0, 0, 0)) := by decide +kernel
theorem i_97_67 : a_ins 97 67 = some (.aload_n 0, (0, 0, 0)) := by decide +kernel
theorem i_97_68 : a_ins 97 68 = some (.getfield 47, (9, 0, 402)) := by decide +kernel
theorem i_97_71 : a_ins 97 71 = some (.getfield 117, (2, 4, 358)) := by decide +kernel
theorem i_97_74 : a_ins 97 74 = some (.iload 9, (0, 0, 0)) := by decide +kernel
theorem i_97_76 : a_ins 97 76 = some (.iaload, (0, 0, 0)) := by decide +kernel
theorem i_97_77 : a_ins 97 77 = some (.iload 5, (0, 0, 0)) := by decide +kernel
theorem i_97_79 : a_ins 97 79 = some (.iconst (-1), (0, 0, 0)) := by decide +kernel
theorem i_97_80 : a_ins 97 80 = some (.if_icmp .ne 7, (0, 0, 0)) := by decide +kernel
theorem i_97_83 : a_ins 97 83 = some (.iconst 0, (0, 0, 0)) := by decide +kernel
theorem i_97_84 : a_ins 97 84 = some (.goto 16, (0, 0, 0)) := by decide +kernel
theorem i_97_87 : a_ins 97 87 = some (.aload_n 0, (0, 0, 0)) := by decide +kernel
theorem i_97_88 : a_ins 97 88 = some (.getfield 21, (9, 4, 409)) := by decide +kernel
theorem i_97_91 : a_ins 97 91 = some (.iload 5, (0, 0, 0)) := by decide +kernel
theorem i_97_93 : a_ins 97 93 = some (.bipush 8, (0, 0, 0)) := by decide +kernel
theorem i_97_95 : a_ins 97 95 = some (.imul, (0, 0, 0)) := by decide +kernel
theorem i_97_96 : a_ins 97 96 = some (.iload 10, (0, 0, 0)) := by decide +kernel
theorem i_97_98 : a_ins 97 98 = some (.iadd, (0, 0, 0)) := by decide +kernel
theorem i_97_99 : a_ins 97 99 = some (.iaload, (0, 0, 0)) := by decide +kernel
theorem i_97_100 : a_ins 97 100 = some (.iadd, (0, 0, 0)) := by decide +kernel
theorem i_97_101 : a_ins 97 101 = some (.istore 11, (0, 0, 0)) := by decide +kernel
theorem i_97_103 : a_ins 97 103 = some (.aload_n 0, (0, 0, 0)) := by decide +kernel
theorem i_97_104 : a_ins 97 104 = some (.iload 6, (0, 0, 0)) := by decide +kernel
theorem i_97_106 : a_ins 97 106 = some (.iload 10, (0, 0, 0)) := by decide +kernel
theorem i_97_108 : a_ins 97 108 = some (.iload 4, (0, 0, 0)) := by decide +kernel
theorem i_97_110 : a_ins 97 110 = some (.aload_n 0, (0, 0, 0)) := by decide +kernel
theorem i_97_111 : a_ins 97 111 = some (.getfield 18, (9, 3, 407)) := by decide +kernel
theorem i_97_114 : a_ins 97 114 = some (.iload 9, (0, 0, 0)) := by decide +kernel
theorem i_97_116 : a_ins 97 116 = some (.iaload, (0, 0, 0)) := by decide +kernel
theorem i_97_117 : a_ins 97 117 = some (.iadd, (0, 0, 0)) := by decide +kernel
theorem i_97_118 : a_ins 97 118 = some (.invokevirtual 132, (0, 98, 3)) := by decide +kernel
theorem i_97_121 : a_ins 97 121 = some (.istore 12, (0, 0, 0)) := by decide +kernel
theorem i_97_123 : a_ins 97 123 = some (.iload 11, (0, 0, 0)) := by decide +kernel
theorem i_97_125 : a_ins 97 125 = some (.iload 12, (0, 0, 0)) := by decide +kernel
theorem i_97_127 : a_ins 97 127 = some (.iadd, (0, 0, 0)) := by decide +kernel
theorem i_97_128 : a_ins 97 128 = some (.iload_n 3, (0, 0, 0)) := by decide +kernel
theorem i_97_129 : a_ins 97 129 = some (.if_icmp .ne 31, (0, 0, 0)) := by decide +kernel
theorem i_97_132 : a_ins 97 132 = some (.aload_n 2, (0, 0, 0)) := by decide +kernel
theorem i_97_133 : a_ins 97 133 = some (.iload 6, (0, 0, 0)) := by decide +kernel
theorem i_97_135 : a_ins 97 135 = some (.iload 8, (0, 0, 0)) := by decide +kernel
theorem i_97_137 : a_ins 97 137 = some (.iastore, (0, 0, 0)) := by decide +kernel
theorem i_97_138 : a_ins 97 138 = some (.iload 12, (0, 0, 0)) := by decide +kernel
theorem i_97_140 : a_ins 97 140 = some (.istore_n 3, (0, 0, 0)) := by decide +kernel
theorem i_97_141 : a_ins 97 141 = some (.iload 4, (0, 0, 0)) := by decide +kernel
theorem i_97_143 : a_ins 97 143 = some (.aload_n 0, (0, 0, 0)) := by decide +kernel
theorem i_97_144 : a_ins 97 144 = some (.getfield 18, (9, 3, 407)) := by decide +kernel
theorem i_97_147 : a_ins 97 147 = some (.iload 9, (0, 0, 0)) := by decide +kernel
theorem i_97_149 : a_ins 97 149 = some (.iaload, (0, 0, 0)) := by decide +kernel
theorem i_97_150 : a_ins 97 150 = some (.iadd, (0, 0, 0)) := by decide +kernel
theorem i_97_151 : a_ins 97 151 = some (.istore 4, (0, 0, 0)) := by decide +kernel
theorem i_97_153 : a_ins 97 153 = some (.iload 10, (0, 0, 0)) := by decide +kernel
theorem i_97_155 : a_ins 97 155 = some (.istore 5, (0, 0, 0)) := by decide +kernel
theorem i_97_157 : a_ins 97 157 = some (.goto 9, (0, 0, 0)) := by decide +kernel
theorem i_97_160 : a_ins 97 160 = some (.iinc 8 1, (0, 0, 0)) := by decide +kernel
theorem i_97_163 : a_ins 97 163 = some (.goto (-130), (0, 0, 0)) := by decide +kernel
theorem i_97_166 : a_ins 97 166 = some (.iinc 6 1, (0, 0, 0)) := by decide +kernel
theorem i_97_169 : a_ins 97 169 = some (.goto (-158), (0, 0, 0)) := by decide +kernel
theorem i_97_172 : a_ins 97 172 = some (.return_, (0, 0, 0)) := by decide +kernel
theorem i_98_0 : a_ins 98 0 = some (.iload_n 3, (0, 0, 0)) := by decide +kernel
theorem i_98_1 : a_ins 98 1 = some (.aload_n 0, (0, 0, 0)) := by decide +kernel
theorem i_98_2 : a_ins 98 2 = some (.getfield 9, (9, 1, 403)) := by decide +kernel
theorem i_98_5 : a_ins 98 5 = some (.iload_n 1, (0, 0, 0)) := by decide +kernel
theorem i_98_6 : a_ins 98 6 = some (.iaload, (0, 0, 0)) := by decide +kernel
theorem i_98_7 : a_ins 98 7 = some (.if_icmp .lt 13, (0, 0, 0)) := by decide +kernel
theorem i_98_10 : a_ins 98 10 = some (.iload_n 3, (0, 0, 0)) := by decide +kernel
theorem i_98_11 : a_ins 98 11 = some (.aload_n 0, (0, 0, 0)) := by decide +kernel
theorem i_98_12 : a_ins 98 12 = some (.getfield 15, (9, 2, 405)) := by decide +kernel
theorem i_98_15 : a_ins 98 15 = some (.iload_n 1, (0, 0, 0)) := by decide +kernel
theorem i_98_16 : a_ins 98 16 = some (.iaload, (0, 0, 0)) := by decide +kernel
theorem i_98_17 : a_ins 98 17 = some (.if_icmp .le 6, (0, 0, 0)) := by decide +kernel
theorem i_98_20 : a_ins 98 20 = some (.ldc 86, (0, 4, 1006)) := by decide +kernel
theorem i_98_22 : a_ins 98 22 = some (.ireturn, (0, 0, 0)) := by decide +kernel
theorem i_98_23 : a_ins 98 23 = some (.aload_n 0, (0, 0, 0)) := by decide +kernel
theorem i_98_24 : a_ins 98 24 = some (.getfield 27, (9, 6, 412)) := by decide +kernel
theorem i_98_27 : a_ins 98 27 = some (.aload_n 0, (0, 0, 0)) := by decide +kernel
theorem i_98_28 : a_ins 98 28 = some (.iload_n 1, (0, 0, 0)) := by decide +kernel
theorem i_98_29 : a_ins 98 29 = some (.iload_n 2, (0, 0, 0)) := by decide +kernel
theorem i_98_30 : a_ins 98 30 = some (.invokevirtual 100, (0, 90, 2)) := by decide +kernel
theorem i_98_33 : a_ins 98 33 = some (.iload_n 3, (0, 0, 0)) := by decide +kernel
theorem i_98_34 : a_ins 98 34 = some (.iadd, (0, 0, 0)) := by decide +kernel
theorem i_98_35 : a_ins 98 35 = some (.iaload, (0, 0, 0)) := by decide +kernel
theorem i_98_36 : a_ins 98 36 = some (.ireturn, (0, 0, 0)) := by decide +kernel
theorem i_99_0 : a_ins 99 0 = some (.aload_n 0, (0, 0, 0)) := by decide +kernel
theorem i_99_1 : a_ins 99 1 = some (.getfield 32, (10, 3, 731)) := by decide +kernel
theorem i_99_4 : a_ins 99 4 = some (.iload_n 1, (0, 0, 0)) := by decide +kernel
theorem i_99_5 : a_ins 99 5 = some (.iload_n 2, (0, 0, 0)) := by decide +kernel
theorem i_99_6 : a_ins 99 6 = some (.invokevirtual 127, (0, 77, 2)) := by decide +kernel
theorem i_99_9 : a_ins 99 9 = some (.istore 4, (0, 0, 0)) := by decide +kernel
theorem i_99_11 : a_ins 99 11 = some (.iload 4, (0, 0, 0)) := by decide +kernel
theorem i_99_13 : a_ins 99 13 = some (.iconst (-1), (0, 0, 0)) := by decide +kernel
theorem i_99_14 : a_ins 99 14 = some (.if_icmp .eq 24, (0, 0, 0)) := by decide +kernel
theorem i_99_17 : a_ins 99 17 = some (.iload_n 3, (0, 0, 0)) := by decide +kernel
theorem i_99_18 : a_ins 99 18 = some (.ifCond .lt 20, (0, 0, 0)) := by decide +kernel
theorem i_99_21 : a_ins 99 21 = some (.iload_n 3, (0, 0, 0)) := by decide +kernel
theorem i_99_22 : a_ins 99 22 = some (.aload_n 0, (0, 0, 0)) := by decide +kernel
theorem i_99_23 : a_ins 99 23 = some (.getfield 32, (10, 3, 731)) := by decide +kernel
theorem i_99_26 : a_ins 99 26 = some (.getfield 143, (2, 2, 350)) := by decide +kernel
theorem i_99_29 : a_ins 99 29 = some (.getfield 146, (3, 1, 153)) := by decide +kernel
