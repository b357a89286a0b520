theorem i_99_32 : a_ins 99 32 = some (.iload 4, (0, 0, 0)) := by decide +kernel
theorem i_99_34 : a_ins 99 34 = some (.iaload, (0, 0, 0)) := by decide +kernel
theorem i_99_35 : a_ins 99 35 = some (.if_icmp .lt 5, (0, 0, 0)) := by decide +kernel
theorem i_99_38 : a_ins 99 38 = some (.iconst (-1), (0, 0, 0)) := by decide +kernel
theorem i_99_39 : a_ins 99 39 = some (.ireturn, (0, 0, 0)) := by decide +kernel
theorem i_99_40 : a_ins 99 40 = some (.aload_n 0, (0, 0, 0)) := by decide +kernel
theorem i_99_41 : a_ins 99 41 = some (.getfield 32, (10, 3, 731)) := by decide +kernel
theorem i_99_44 : a_ins 99 44 = some (.getfield 143, (2, 2, 350)) := by decide +kernel
theorem i_99_47 : a_ins 99 47 = some (.iload 4, (0, 0, 0)) := by decide +kernel
theorem i_99_49 : a_ins 99 49 = some (.iload_n 3, (0, 0, 0)) := by decide +kernel
theorem i_99_50 : a_ins 99 50 = some (.invokevirtual 156, (0, 32, 2)) := by decide +kernel
theorem i_99_53 : a_ins 99 53 = some (.ireturn, (0, 0, 0)) := by decide +kernel
theorem i_100_0 : a_ins 100 0 = some (.aload_n 0, (0, 0, 0)) := by decide +kernel
theorem i_100_1 : a_ins 100 1 = some (.getfield 41, (10, 4, 732)) := by decide +kernel
theorem i_100_4 : a_ins 100 4 = some (.invokevirtual 160, (0, 101, 0)) := by decide +kernel
theorem i_100_7 : a_ins 100 7 = some (.ifCond .eq 13, (0, 0, 0)) := by decide +kernel
theorem i_100_10 : a_ins 100 10 = some (.aload_n 0, (0, 0, 0)) := by decide +kernel
theorem i_100_11 : a_ins 100 11 = some (.getfield 41, (10, 4, 732)) := by decide +kernel
theorem i_100_14 : a_ins 100 14 = some (.getfield 164, (6, 7, 476)) := by decide +kernel
theorem i_100_17 : a_ins 100 17 = some (.goto 5, (0, 0, 0)) := by decide +kernel
theorem i_100_20 : a_ins 100 20 = some (.bipush (-2), (0, 0, 0)) := by decide +kernel
theorem i_100_22 : a_ins 100 22 = some (.ireturn, (0, 0, 0)) := by decide +kernel
theorem i_101_0 : a_ins 101 0 = some (.aload_n 0, (0, 0, 0)) := by decide +kernel
theorem i_101_1 : a_ins 101 1 = some (.invokevirtual 82, (0, 79, 0)) := by decide +kernel
theorem i_101_4 : a_ins 101 4 = some (.aload_n 0, (0, 0, 0)) := by decide +kernel
theorem i_101_5 : a_ins 101 5 = some (.getfield 25, (6, 7, 475)) := by decide +kernel
theorem i_101_8 : a_ins 101 8 = some (.ldc 77, (0, 4, 1054)) := by decide +kernel
theorem i_101_10 : a_ins 101 10 = some (.if_icmp .ge 7, (0, 0, 0)) := by decide +kernel
theorem i_101_13 : a_ins 101 13 = some (.iconst 1, (0, 0, 0)) := by decide +kernel
theorem i_101_14 : a_ins 101 14 = some (.goto 4, (0, 0, 0)) := by decide +kernel
theorem i_101_17 : a_ins 101 17 = some (.iconst 0, (0, 0, 0)) := by decide +kernel
theorem i_101_18 : a_ins 101 18 = some (.ireturn, (0, 0, 0)) := by decide +kernel
theorem i_102_0 : a_ins 102 0 = some (.aload_n 0, (0, 0, 0)) := by decide +kernel
theorem i_102_1 : a_ins 102 1 = some (.getfield 32, (10, 3, 731)) := by decide +kernel
theorem i_102_4 : a_ins 102 4 = some (.iload_n 1, (0, 0, 0)) := by decide +kernel
theorem i_102_5 : a_ins 102 5 = some (.invokevirtual 121, (0, 75, 1)) := by decide +kernel
theorem i_102_8 : a_ins 102 8 = some (.ifCond .eq 25, (0, 0, 0)) := by decide +kernel
theorem i_102_11 : a_ins 102 11 = some (.aload_n 0, (0, 0, 0)) := by decide +kernel
theorem i_102_12 : a_ins 102 12 = some (.getfield 41, (10, 4, 732)) := by decide +kernel
theorem i_102_15 : a_ins 102 15 = some (.invokevirtual 160, (0, 101, 0)) := by decide +kernel
theorem i_102_18 : a_ins 102 18 = some (.ifCond .eq 15, (0, 0, 0)) := by decide +kernel
theorem i_102_21 : a_ins 102 21 = some (.aload_n 0, (0, 0, 0)) := by decide +kernel
theorem i_102_22 : a_ins 102 22 = some (.getfield 41, (10, 4, 732)) := by decide +kernel
theorem i_102_25 : a_ins 102 25 = some (.getfield 167, (6, 4, 472)) := by decide +kernel
theorem i_102_28 : a_ins 102 28 = some (.iload_n 1, (0, 0, 0)) := by decide +kernel
theorem i_102_29 : a_ins 102 29 = some (.iaload, (0, 0, 0)) := by decide +kernel
theorem i_102_30 : a_ins 102 30 = some (.goto 4, (0, 0, 0)) := by decide +kernel
theorem i_102_33 : a_ins 102 33 = some (.iconst (-1), (0, 0, 0)) := by decide +kernel
theorem i_102_34 : a_ins 102 34 = some (.ireturn, (0, 0, 0)) := by decide +kernel
theorem i_103_0 : a_ins 103 0 = some (.iload_n 1, (0, 0, 0)) := by decide +kernel
theorem i_103_1 : a_ins 103 1 = some (.invokestatic 170, (1, 104, 1)) := by decide +kernel
theorem i_103_4 : a_ins 103 4 = some (.ifCond .ne 7, (0, 0, 0)) := by decide +kernel
theorem i_103_7 : a_ins 103 7 = some (.ldc2_w 173, (0, 0, 1087)) := by decide +kernel
theorem i_103_10 : a_ins 103 10 = some (.lreturn, (0, 0, 0)) := by decide +kernel
theorem i_103_11 : a_ins 103 11 = some (.aload_n 0, (0, 0, 0)) := by decide +kernel
theorem i_103_12 : a_ins 103 12 = some (.getfield 41, (10, 4, 732)) := by decide +kernel
theorem i_103_15 : a_ins 103 15 = some (.invokevirtual 160, (0, 101, 0)) := by decide +kernel
theorem i_103_18 : a_ins 103 18 = some (.ifCond .eq 14, (0, 0, 0)) := by decide +kernel
theorem i_103_21 : a_ins 103 21 = some (.aload_n 0, (0, 0, 0)) := by decide +kernel
theorem i_103_22 : a_ins 103 22 = some (.getfield 41, (10, 4, 732)) := by decide +kernel
theorem i_103_25 : a_ins 103 25 = some (.iload_n 1, (0, 0, 0)) := by decide +kernel
theorem i_103_26 : a_ins 103 26 = some (.invokevirtual 175, (0, 105, 1)) := by decide +kernel
theorem i_103_29 : a_ins 103 29 = some (.goto 4, (0, 0, 0)) := by decide +kernel
theorem i_103_32 : a_ins 103 32 = some (.lconst 0, (0, 0, 0)) := by decide +kernel
theorem i_103_33 : a_ins 103 33 = some (.lreturn, (0, 0, 0)) := by decide +kernel
theorem i_104_0 : a_ins 104 0 = some (.iload_n 0, (0, 0, 0)) := by decide +kernel
theorem i_104_1 : a_ins 104 1 = some (.ifCond .lt 13, (0, 0, 0)) := by decide +kernel
theorem i_104_4 : a_ins 104 4 = some (.iload_n 0, (0, 0, 0)) := by decide +kernel
theorem i_104_5 : a_ins 104 5 = some (.bipush 100, (0, 0, 0)) := by decide +kernel
theorem i_104_7 : a_ins 104 7 = some (.if_icmp .gt 7, (0, 0, 0)) := by decide +kernel
theorem i_104_10 : a_ins 104 10 = some (.iconst 1, (0, 0, 0)) := by decide +kernel
theorem i_104_11 : a_ins 104 11 = some (.goto 4, (0, 0, 0)) := by decide +kernel
theorem i_104_14 : a_ins 104 14 = some (.iconst 0, (0, 0, 0)) := by decide +kernel
theorem i_104_15 : a_ins 104 15 = some (.ireturn, (0, 0, 0)) := by decide +kernel
theorem i_105_0 : a_ins 105 0 = some (.aload_n 0, (0, 0, 0)) := by decide +kernel
theorem i_105_1 : a_ins 105 1 = some (.getfield 42, (6, 0, 467)) := by decide +kernel
theorem i_105_4 : a_ins 105 4 = some (.getfield 64, (2, 8, 368)) := by decide +kernel
theorem i_105_7 : a_ins 105 7 = some (.ifCond .ne 5, (0, 0, 0)) := by decide +kernel
theorem i_105_10 : a_ins 105 10 = some (.lconst 1, (0, 0, 0)) := by decide +kernel
theorem i_105_11 : a_ins 105 11 = some (.lreturn, (0, 0, 0)) := by decide +kernel
theorem i_105_12 : a_ins 105 12 = some (.aload_n 0, (0, 0, 0)) := by decide +kernel
theorem i_105_13 : a_ins 105 13 = some (.getfield 39, (6, 11, 480)) := by decide +kernel
theorem i_105_16 : a_ins 105 16 = some (.ifCond .ne 34, (0, 0, 0)) := by decide +kernel
theorem i_105_19 : a_ins 105 19 = some (.aload_n 0, (0, 0, 0)) := by decide +kernel
theorem i_105_20 : a_ins 105 20 = some (.getfield 51, (6, 1, 468)) := by decide +kernel
theorem i_105_23 : a_ins 105 23 = some (.iconst (-1), (0, 0, 0)) := by decide +kernel
theorem i_105_24 : a_ins 105 24 = some (.iconst (-1), (0, 0, 0)) := by decide +kernel
theorem i_105_25 : a_ins 105 25 = some (.aload_n 0, (0, 0, 0)) := by decide +kernel
theorem i_105_26 : a_ins 105 26 = some (.getfield 9, (6, 3, 470)) := by decide +kernel
theorem i_105_29 : a_ins 105 29 = some (.iconst 0, (0, 0, 0)) := by decide +kernel
theorem i_105_30 : a_ins 105 30 = some (.invokevirtual 73, (0, 84, 4)) := by decide +kernel
theorem i_105_33 : a_ins 105 33 = some (.pop, (0, 0, 0)) := by decide +kernel
theorem i_105_34 : a_ins 105 34 = some (.aload_n 0, (0, 0, 0)) := by decide +kernel
theorem i_105_35 : a_ins 105 35 = some (.getfield 60, (6, 2, 469)) := by decide +kernel
theorem i_105_38 : a_ins 105 38 = some (.aload_n 0, (0, 0, 0)) := by decide +kernel
theorem i_105_39 : a_ins 105 39 = some (.getfield 25, (6, 7, 475)) := by decide +kernel
theorem i_105_42 : a_ins 105 42 = some (.invokevirtual 85, (0, 106, 1)) := by decide +kernel
theorem i_105_45 : a_ins 105 45 = some (.aload_n 0, (0, 0, 0)) := by decide +kernel
theorem i_105_46 : a_ins 105 46 = some (.iconst 1, (0, 0, 0)) := by decide +kernel
theorem i_105_47 : a_ins 105 47 = some (.putfield 39, (6, 11, 480)) := by decide +kernel
theorem i_105_50 : a_ins 105 50 = some (.aload_n 0, (0, 0, 0)) := by decide +kernel
theorem i_105_51 : a_ins 105 51 = some (.getfield 60, (6, 2, 469)) := by decide +kernel
theorem i_105_54 : a_ins 105 54 = some (.getfield 89, (7, 2, 452)) := by decide +kernel
theorem i_105_57 : a_ins 105 57 = some (.iload_n 1, (0, 0, 0)) := by decide +kernel
theorem i_105_58 : a_ins 105 58 = some (.laload, (0, 0, 0)) := by decide +kernel
theorem i_105_59 : a_ins 105 59 = some (.lreturn, (0, 0, 0)) := by decide +kernel
theorem i_106_0 : a_ins 106 0 = some (.aload_n 0, (0, 0, 0)) := by decide +kernel
theorem i_106_1 : a_ins 106 1 = some (.getfield 17, (7, 3, 453)) := by decide +kernel
theorem i_106_4 : a_ins 106 4 = some (.arraylength, (0, 0, 0)) := by decide +kernel
theorem i_106_5 : a_ins 106 5 = some (.ldc 32, (0, 0, 1096)) := by decide +kernel
theorem i_106_7 : a_ins 106 7 = some (.if_icmp .lt 13, (0, 0, 0)) := by decide +kernel
theorem i_106_10 : a_ins 106 10 = some (.aload_n 0, (0, 0, 0)) := by decide +kernel
theorem i_106_11 : a_ins 106 11 = some (.getfield 20, (7, 4, 454)) := by decide +kernel
theorem i_106_14 : a_ins 106 14 = some (.arraylength, (0, 0, 0)) := by decide +kernel
theorem i_106_15 : a_ins 106 15 = some (.ldc 32, (0, 0, 1096)) := by decide +kernel
theorem i_106_17 : a_ins 106 17 = some (.if_icmp .ge 19, (0, 0, 0)) := by decide +kernel
theorem i_106_20 : a_ins 106 20 = some (.aload_n 0, (0, 0, 0)) := by decide +kernel
theorem i_106_21 : a_ins 106 21 = some (.ldc 32, (0, 0, 1096)) := by decide +kernel
theorem i_106_23 : a_ins 106 23 = some (.newarray .long, (0, 0, 0)) := by decide +kernel
theorem i_106_25 : a_ins 106 25 = some (.putfield 17, (7, 3, 453)) := by decide +kernel
theorem i_106_28 : a_ins 106 28 = some (.aload_n 0, (0, 0, 0)) := by decide +kernel
theorem i_106_29 : a_ins 106 29 = some (.ldc 32, (0, 0, 1096)) := by decide +kernel
theorem i_106_31 : a_ins 106 31 = some (.newarray .long, (0, 0, 0)) := by decide +kernel
theorem i_106_33 : a_ins 106 33 = some (.putfield 20, (7, 4, 454)) := by decide +kernel
theorem i_106_36 : a_ins 106 36 = some (.aload_n 0, (0, 0, 0)) := by decide +kernel
theorem i_106_37 : a_ins 106 37 = some (.aload_n 0, (0, 0, 0)) := by decide +kernel
theorem i_106_38 : a_ins 106 38 = some (.getfield 17, (7, 3, 453)) := by decide +kernel
theorem i_106_41 : a_ins 106 41 = some (.iconst 0, (0, 0, 0)) := by decide +kernel
theorem i_106_42 : a_ins 106 42 = some (.invokevirtual 33, (0, 107, 2)) := by decide +kernel
theorem i_106_45 : a_ins 106 45 = some (.aload_n 0, (0, 0, 0)) := by decide +kernel
theorem i_106_46 : a_ins 106 46 = some (.iload_n 1, (0, 0, 0)) := by decide +kernel
theorem i_106_47 : a_ins 106 47 = some (.invokevirtual 37, (0, 110, 1)) := by decide +kernel
theorem i_106_50 : a_ins 106 50 = some (.iconst 1, (0, 0, 0)) := by decide +kernel
theorem i_106_51 : a_ins 106 51 = some (.istore_n 2, (0, 0, 0)) := by decide +kernel
theorem i_106_52 : a_ins 106 52 = some (.iload_n 2, (0, 0, 0)) := by decide +kernel
theorem i_106_53 : a_ins 106 53 = some (.aload_n 0, (0, 0, 0)) := by decide +kernel
theorem i_106_54 : a_ins 106 54 = some (.getfield 31, (7, 1, 450)) := by decide +kernel
theorem i_106_57 : a_ins 106 57 = some (.getfield 41, (2, 8, 367)) := by decide +kernel
theorem i_106_60 : a_ins 106 60 = some (.if_icmp .ge 41, (0, 0, 0)) := by decide +kernel
theorem i_106_63 : a_ins 106 63 = some (.aload_n 0, (0, 0, 0)) := by decide +kernel
theorem i_106_64 : a_ins 106 64 = some (.aload_n 0, (0, 0, 0)) := by decide +kernel
theorem i_106_65 : a_ins 106 65 = some (.getfield 20, (7, 4, 454)) := by decide +kernel
theorem i_106_68 : a_ins 106 68 = some (.iload_n 2, (0, 0, 0)) := by decide +kernel
theorem i_106_69 : a_ins 106 69 = some (.invokevirtual 33, (0, 107, 2)) := by decide +kernel
theorem i_106_72 : a_ins 106 72 = some (.aload_n 0, (0, 0, 0)) := by decide +kernel
theorem i_106_73 : a_ins 106 73 = some (.iload_n 2, (0, 0, 0)) := by decide +kernel
theorem i_106_74 : a_ins 106 74 = some (.invokevirtual 47, (0, 111, 1)) := by decide +kernel
theorem i_106_77 : a_ins 106 77 = some (.aload_n 0, (0, 0, 0)) := by decide +kernel
theorem i_106_78 : a_ins 106 78 = some (.getfield 17, (7, 3, 453)) := by decide +kernel
theorem i_106_81 : a_ins 106 81 = some (.astore_n 3, (0, 0, 0)) := by decide +kernel
theorem i_106_82 : a_ins 106 82 = some (.aload_n 0, (0, 0, 0)) := by decide +kernel
theorem i_106_83 : a_ins 106 83 = some (.aload_n 0, (0, 0, 0)) := by decide +kernel
theorem i_106_84 : a_ins 106 84 = some (.getfield 20, (7, 4, 454)) := by decide +kernel
theorem i_106_87 : a_ins 106 87 = some (.putfield 17, (7, 3, 453)) := by decide +kernel
theorem i_106_90 : a_ins 106 90 = some (.aload_n 0, (0, 0, 0)) := by decide +kernel
theorem i_106_91 : a_ins 106 91 = some (.aload_n 3, (0, 0, 0)) := by decide +kernel
theorem i_106_92 : a_ins 106 92 = some (.putfield 20, (7, 4, 454)) := by decide +kernel
theorem i_106_95 : a_ins 106 95 = some (.iinc 2 1, (0, 0, 0)) := by decide +kernel
theorem i_106_98 : a_ins 106 98 = some (.goto (-46), (0, 0, 0)) := by decide +kernel
theorem i_106_101 : a_ins 106 101 = some (.aload_n 0, (0, 0, 0)) := by decide +kernel
theorem i_106_102 : a_ins 106 102 = some (.invokevirtual 50, (0, 114, 0)) := by decide +kernel
theorem i_106_105 : a_ins 106 105 = some (.return_, (0, 0, 0)) := by decide +kernel
theorem i_107_0 : a_ins 107 0 = some (.iconst 0, (0, 0, 0)) := by decide +kernel
theorem i_107_1 : a_ins 107 1 = some (.istore_n 3, (0, 0, 0)) := by decide +kernel
theorem i_107_2 : a_ins 107 2 = some (.iload_n 3, (0, 0, 0)) := by decide +kernel
theorem i_107_3 : a_ins 107 3 = some (.bipush 8, (0, 0, 0)) := by decide +kernel
theorem i_107_5 : a_ins 107 5 = some (.if_icmp .ge 63, (0, 0, 0)) := by decide +kernel
theorem i_107_8 : a_ins 107 8 = some (.aload_n 0, (0, 0, 0)) := by decide +kernel
theorem i_107_9 : a_ins 107 9 = some (.getfield 23, (7, 0, 449)) := by decide +kernel
theorem i_107_12 : a_ins 107 12 = some (.iload_n 2, (0, 0, 0)) := by decide +kernel
theorem i_107_13 : a_ins 107 13 = some (.iload_n 3, (0, 0, 0)) := by decide +kernel
theorem i_107_14 : a_ins 107 14 = some (.invokevirtual 57, (0, 88, 2)) := by decide +kernel
theorem i_107_17 : a_ins 107 17 = some (.ifCond .eq 45, (0, 0, 0)) := by decide +kernel
theorem i_107_20 : a_ins 107 20 = some (.aload_n 0, (0, 0, 0)) := by decide +kernel
theorem i_107_21 : a_ins 107 21 = some (.iload_n 2, (0, 0, 0)) := by decide +kernel
theorem i_107_22 : a_ins 107 22 = some (.iload_n 3, (0, 0, 0)) := by decide +kernel
theorem i_107_23 : a_ins 107 23 = some (.aload_n 0, (0, 0, 0)) := by decide +kernel
theorem i_107_24 : a_ins 107 24 = some (.getfield 23, (7, 0, 449)) := by decide +kernel
theorem i_107_27 : a_ins 107 27 = some (.getfield 53, (9, 1, 404)) := by decide +kernel
theorem i_107_30 : a_ins 107 30 = some (.iload_n 2, (0, 0, 0)) := by decide +kernel
theorem i_107_31 : a_ins 107 31 = some (.iaload, (0, 0, 0)) := by decide +kernel
theorem i_107_32 : a_ins 107 32 = some (.invokevirtual 61, (0, 108, 3)) := by decide +kernel
theorem i_107_35 : a_ins 107 35 = some (.istore 4, (0, 0, 0)) := by decide +kernel
theorem i_107_37 : a_ins 107 37 = some (.aload_n 1, (0, 0, 0)) := by decide +kernel
theorem i_107_38 : a_ins 107 38 = some (.iload 4, (0, 0, 0)) := by decide +kernel
theorem i_107_40 : a_ins 107 40 = some (.aload_n 0, (0, 0, 0)) := by decide +kernel
theorem i_107_41 : a_ins 107 41 = some (.iload_n 2, (0, 0, 0)) := by decide +kernel
theorem i_107_42 : a_ins 107 42 = some (.iload_n 3, (0, 0, 0)) := by decide +kernel
theorem i_107_43 : a_ins 107 43 = some (.aload_n 0, (0, 0, 0)) := by decide +kernel
theorem i_107_44 : a_ins 107 44 = some (.getfield 23, (7, 0, 449)) := by decide +kernel
theorem i_107_47 : a_ins 107 47 = some (.getfield 65, (9, 2, 406)) := by decide +kernel
theorem i_107_50 : a_ins 107 50 = some (.iload_n 2, (0, 0, 0)) := by decide +kernel
theorem i_107_51 : a_ins 107 51 = some (.iaload, (0, 0, 0)) := by decide +kernel
theorem i_107_52 : a_ins 107 52 = some (.invokevirtual 61, (0, 108, 3)) := by decide +kernel
theorem i_107_55 : a_ins 107 55 = some (.bipush 101, (0, 0, 0)) := by decide +kernel
theorem i_107_57 : a_ins 107 57 = some (.iadd, (0, 0, 0)) := by decide +kernel
theorem i_107_58 : a_ins 107 58 = some (.lconst 0, (0, 0, 0)) := by decide +kernel
theorem i_107_59 : a_ins 107 59 = some (.invokestatic 68, (1, 109, 4)) := by decide +kernel
theorem i_107_62 : a_ins 107 62 = some (.iinc 3 1, (0, 0, 0)) := by decide +kernel
theorem i_107_65 : a_ins 107 65 = some (.goto (-63), (0, 0, 0)) := by decide +kernel
theorem i_107_68 : a_ins 107 68 = some (.return_, (0, 0, 0)) := by decide +kernel
theorem i_108_0 : a_ins 108 0 = some (.iload_n 2, (0, 0, 0)) := by decide +kernel
theorem i_108_1 : a_ins 108 1 = some (.bipush 85, (0, 0, 0)) := by decide +kernel
theorem i_108_3 : a_ins 108 3 = some (.imul, (0, 0, 0)) := by decide +kernel
theorem i_108_4 : a_ins 108 4 = some (.iload_n 3, (0, 0, 0)) := by decide +kernel
theorem i_108_5 : a_ins 108 5 = some (.iadd, (0, 0, 0)) := by decide +kernel
theorem i_108_6 : a_ins 108 6 = some (.aload_n 0, (0, 0, 0)) := by decide +kernel
theorem i_108_7 : a_ins 108 7 = some (.getfield 23, (7, 0, 449)) := by decide +kernel
theorem i_108_10 : a_ins 108 10 = some (.getfield 53, (9, 1, 404)) := by decide +kernel
theorem i_108_13 : a_ins 108 13 = some (.iload_n 1, (0, 0, 0)) := by decide +kernel
theorem i_108_14 : a_ins 108 14 = some (.iaload, (0, 0, 0)) := by decide +kernel
theorem i_108_15 : a_ins 108 15 = some (.isub, (0, 0, 0)) := by decide +kernel
theorem i_108_16 : a_ins 108 16 = some (.bipush 101, (0, 0, 0)) := by decide +kernel
theorem i_108_18 : a_ins 108 18 = some (.imul, (0, 0, 0)) := by decide +kernel
theorem i_108_19 : a_ins 108 19 = some (.ireturn, (0, 0, 0)) := by decide +kernel
theorem i_109_0 : a_ins 109 0 = some (.aload_n 0, (0, 0, 0)) := by decide +kernel
theorem i_109_1 : a_ins 109 1 = some (.arraylength, (0, 0, 0)) := by decide +kernel
theorem i_109_2 : a_ins 109 2 = some (.iload_n 1, (0, 0, 0)) := by decide +kernel
theorem i_109_3 : a_ins 109 3 = some (.iload_n 2, (0, 0, 0)) := by decide +kernel
theorem i_109_4 : a_ins 109 4 = some (.invokestatic 13, (1, 86, 3)) := by decide +kernel
theorem i_109_7 : a_ins 109 7 = some (.iload_n 1, (0, 0, 0)) := by decide +kernel
theorem i_109_8 : a_ins 109 8 = some (.istore 5, (0, 0, 0)) := by decide +kernel
theorem i_109_10 : a_ins 109 10 = some (.iload 5, (0, 0, 0)) := by decide +kernel
theorem i_109_12 : a_ins 109 12 = some (.iload_n 2, (0, 0, 0)) := by decide +kernel
theorem i_109_13 : a_ins 109 13 = some (.if_icmp .ge 14, (0, 0, 0)) := by decide +kernel
theorem i_109_16 : a_ins 109 16 = some (.aload_n 0, (0, 0, 0)) := by decide +kernel
theorem i_109_17 : a_ins 109 17 = some (.iload 5, (0, 0, 0)) := by decide +kernel
theorem i_109_19 : a_ins 109 19 = some (.lload_n 3, (0, 0, 0)) := by decide +kernel
theorem i_109_20 : a_ins 109 20 = some (.lastore, (0, 0, 0)) := by decide +kernel
theorem i_109_21 : a_ins 109 21 = some (.iinc 5 1, (0, 0, 0)) := by decide +kernel
theorem i_109_24 : a_ins 109 24 = some (.goto (-14), (0, 0, 0)) := by decide +kernel
theorem i_109_27 : a_ins 109 27 = some (.return_, (0, 0, 0)) := by decide +kernel
theorem i_110_0 : a_ins 110 0 = some (.iconst 0, (0, 0, 0)) := by decide +kernel
theorem i_110_1 : a_ins 110 1 = some (.istore_n 2, (0, 0, 0)) := by decide +kernel
theorem i_110_2 : a_ins 110 2 = some (.iload_n 2, (0, 0, 0)) := by decide +kernel
theorem i_110_3 : a_ins 110 3 = some (.aload_n 0, (0, 0, 0)) := by decide +kernel
theorem i_110_4 : a_ins 110 4 = some (.getfield 31, (7, 1, 450)) := by decide +kernel
theorem i_110_7 : a_ins 110 7 = some (.getfield 74, (2, 0, 343)) := by decide +kernel
theorem i_110_10 : a_ins 110 10 = some (.iconst 0, (0, 0, 0)) := by decide +kernel
theorem i_110_11 : a_ins 110 11 = some (.iaload, (0, 0, 0)) := by decide +kernel
theorem i_110_12 : a_ins 110 12 = some (.if_icmp .ge 87, (0, 0, 0)) := by decide +kernel
theorem i_110_15 : a_ins 110 15 = some (.aload_n 0, (0, 0, 0)) := by decide +kernel
theorem i_110_16 : a_ins 110 16 = some (.getfield 31, (7, 1, 450)) := by decide +kernel
theorem i_110_19 : a_ins 110 19 = some (.getfield 77, (2, 3, 353)) := by decide +kernel
theorem i_110_22 : a_ins 110 22 = some (.iload_n 2, (0, 0, 0)) := by decide +kernel
theorem i_110_23 : a_ins 110 23 = some (.iaload, (0, 0, 0)) := by decide +kernel
theorem i_110_24 : a_ins 110 24 = some (.istore_n 3, (0, 0, 0)) := by decide +kernel
theorem i_110_25 : a_ins 110 25 = some (.aload_n 0, (0, 0, 0)) := by decide +kernel
theorem i_110_26 : a_ins 110 26 = some (.getfield 23, (7, 0, 449)) := by decide +kernel
theorem i_110_29 : a_ins 110 29 = some (.getfield 80, (9, 3, 408)) := by decide +kernel
theorem i_110_32 : a_ins 110 32 = some (.iload_n 2, (0, 0, 0)) := by decide +kernel
theorem i_110_33 : a_ins 110 33 = some (.iaload, (0, 0, 0)) := by decide +kernel
theorem i_110_34 : a_ins 110 34 = some (.istore 4, (0, 0, 0)) := by decide +kernel
theorem i_110_36 : a_ins 110 36 = some (.aload_n 0, (0, 0, 0)) := by decide +kernel
theorem i_110_37 : a_ins 110 37 = some (.getfield 31, (7, 1, 450)) := by decide +kernel
theorem i_110_40 : a_ins 110 40 = some (.getfield 83, (2, 4, 356)) := by decide +kernel
theorem i_110_43 : a_ins 110 43 = some (.iload_n 2, (0, 0, 0)) := by decide +kernel
theorem i_110_44 : a_ins 110 44 = some (.iaload, (0, 0, 0)) := by decide +kernel
theorem i_110_45 : a_ins 110 45 = some (.aload_n 0, (0, 0, 0)) := by decide +kernel
theorem i_110_46 : a_ins 110 46 = some (.getfield 23, (7, 0, 449)) := by decide +kernel
theorem i_110_49 : a_ins 110 49 = some (.iconst 0, (0, 0, 0)) := by decide +kernel
theorem i_110_50 : a_ins 110 50 = some (.iload_n 3, (0, 0, 0)) := by decide +kernel
theorem i_110_51 : a_ins 110 51 = some (.iload 4, (0, 0, 0)) := by decide +kernel
theorem i_110_53 : a_ins 110 53 = some (.invokevirtual 86, (0, 98, 3)) := by decide +kernel
theorem i_110_56 : a_ins 110 56 = some (.iadd, (0, 0, 0)) := by decide +kernel
theorem i_110_57 : a_ins 110 57 = some (.iload_n 1, (0, 0, 0)) := by decide +kernel
theorem i_110_58 : a_ins 110 58 = some (.isub, (0, 0, 0)) := by decide +kernel
theorem i_110_59 : a_ins 110 59 = some (.istore 5, (0, 0, 0)) := by decide +kernel
theorem i_110_61 : a_ins 110 61 = some (.iload 5, (0, 0, 0)) := by decide +kernel
theorem i_110_63 : a_ins 110 63 = some (.ifCond .lt 30, (0, 0, 0)) := by decide +kernel
theorem i_110_66 : a_ins 110 66 = some (.iload 5, (0, 0, 0)) := by decide +kernel
theorem i_110_68 : a_ins 110 68 = some (.bipush 101, (0, 0, 0)) := by decide +kernel
theorem i_110_70 : a_ins 110 70 = some (.if_icmp .ge 23, (0, 0, 0)) := by decide +kernel
theorem i_110_73 : a_ins 110 73 = some (.aload_n 0, (0, 0, 0)) := by decide +kernel
theorem i_110_74 : a_ins 110 74 = some (.getfield 17, (7, 3, 453)) := by decide +kernel
theorem i_110_77 : a_ins 110 77 = some (.aload_n 0, (0, 0, 0)) := by decide +kernel
theorem i_110_78 : a_ins 110 78 = some (.iconst 0, (0, 0, 0)) := by decide +kernel
theorem i_110_79 : a_ins 110 79 = some (.iload_n 3, (0, 0, 0)) := by decide +kernel
theorem i_110_80 : a_ins 110 80 = some (.iload 4, (0, 0, 0)) := by decide +kernel
theorem i_110_82 : a_ins 110 82 = some (.invokevirtual 61, (0, 108, 3)) := by decide +kernel
theorem i_110_85 : a_ins 110 85 = some (.iload 5, (0, 0, 0)) := by decide +kernel
theorem i_110_87 : a_ins 110 87 = some (.iadd, (0, 0, 0)) := by decide +kernel
theorem i_110_88 : a_ins 110 88 = some (.dup2, (0, 0, 0)) := by decide +kernel
theorem i_110_89 : a_ins 110 89 = some (.laload, (0, 0, 0)) := by decide +kernel
theorem i_110_90 : a_ins 110 90 = some (.lconst 1, (0, 0, 0)) := by decide +kernel
theorem i_110_91 : a_ins 110 91 = some (.ladd, (0, 0, 0)) := by decide +kernel
theorem i_110_92 : a_ins 110 92 = some (.lastore, (0, 0, 0)) := by decide +kernel
theorem i_110_93 : a_ins 110 93 = some (.iinc 2 1, (0, 0, 0)) := by decide +kernel
theorem i_110_96 : a_ins 110 96 = some (.goto (-94), (0, 0, 0)) := by decide +kernel
theorem i_110_99 : a_ins 110 99 = some (.return_, (0, 0, 0)) := by decide +kernel
theorem i_111_0 : a_ins 111 0 = some (.iload_n 1, (0, 0, 0)) := by decide +kernel
theorem i_111_1 : a_ins 111 1 = some (.iconst 1, (0, 0, 0)) := by decide +kernel
theorem i_111_2 : a_ins 111 2 = some (.isub, (0, 0, 0)) := by decide +kernel
theorem i_111_3 : a_ins 111 3 = some (.istore_n 2, (0, 0, 0)) := by decide +kernel
theorem i_111_4 : a_ins 111 4 = some (.iconst 0, (0, 0, 0)) := by decide +kernel
theorem i_111_5 : a_ins 111 5 = some (.istore_n 3, (0, 0, 0)) := by decide +kernel
theorem i_111_6 : a_ins 111 6 = some (.iload_n 3, (0, 0, 0)) := by decide +kernel
theorem i_111_7 : a_ins 111 7 = some (.bipush 8, (0, 0, 0)) := by decide +kernel
theorem i_111_9 : a_ins 111 9 = some (.if_icmp .ge 92, (0, 0, 0)) := by decide +kernel
theorem i_111_12 : a_ins 111 12 = some (.aload_n 0, (0, 0, 0)) := by decide +kernel
theorem i_111_13 : a_ins 111 13 = some (.getfield 23, (7, 0, 449)) := by decide +kernel
theorem i_111_16 : a_ins 111 16 = some (.iload_n 2, (0, 0, 0)) := by decide +kernel
theorem i_111_17 : a_ins 111 17 = some (.iload_n 3, (0, 0, 0)) := by decide +kernel
theorem i_111_18 : a_ins 111 18 = some (.invokevirtual 57, (0, 88, 2)) := by decide +kernel
theorem i_111_21 : a_ins 111 21 = some (.ifCond .ne 6, (0, 0, 0)) := by decide +kernel
theorem i_111_24 : a_ins 111 24 = some (.goto 71, (0, 0, 0)) := by decide +kernel
theorem i_111_27 : a_ins 111 27 = some (.aload_n 0, (0, 0, 0)) := by decide +kernel
theorem i_111_28 : a_ins 111 28 = some (.getfield 23, (7, 0, 449)) := by decide +kernel
theorem i_111_31 : a_ins 111 31 = some (.getfield 53, (9, 1, 404)) := by decide +kernel
theorem i_111_34 : a_ins 111 34 = some (.iload_n 2, (0, 0, 0)) := by decide +kernel
theorem i_111_35 : a_ins 111 35 = some (.iaload, (0, 0, 0)) := by decide +kernel
theorem i_111_36 : a_ins 111 36 = some (.istore 4, (0, 0, 0)) := by decide +kernel
theorem i_111_38 : a_ins 111 38 = some (.iload 4, (0, 0, 0)) := by decide +kernel
theorem i_111_40 : a_ins 111 40 = some (.aload_n 0, (0, 0, 0)) := by decide +kernel
theorem i_111_41 : a_ins 111 41 = some (.getfield 23, (7, 0, 449)) := by decide +kernel
theorem i_111_44 : a_ins 111 44 = some (.getfield 65, (9, 2, 406)) := by decide +kernel
theorem i_111_47 : a_ins 111 47 = some (.iload_n 2, (0, 0, 0)) := by decide +kernel
theorem i_111_48 : a_ins 111 48 = some (.iaload, (0, 0, 0)) := by decide +kernel
theorem i_111_49 : a_ins 111 49 = some (.if_icmp .gt 46, (0, 0, 0)) := by decide +kernel
theorem i_111_52 : a_ins 111 52 = some (.aload_n 0, (0, 0, 0)) := by decide +kernel
theorem i_111_53 : a_ins 111 53 = some (.iload_n 2, (0, 0, 0)) := by decide +kernel
theorem i_111_54 : a_ins 111 54 = some (.iload_n 3, (0, 0, 0)) := by decide +kernel
theorem i_111_55 : a_ins 111 55 = some (.iload 4, (0, 0, 0)) := by decide +kernel
theorem i_111_57 : a_ins 111 57 = some (.invokevirtual 61, (0, 108, 3)) := by decide +kernel
theorem i_111_60 : a_ins 111 60 = some (.istore 5, (0, 0, 0)) := by decide +kernel
theorem i_111_62 : a_ins 111 62 = some (.aload_n 0, (0, 0, 0)) := by decide +kernel
theorem i_111_63 : a_ins 111 63 = some (.iload 5, (0, 0, 0)) := by decide +kernel
theorem i_111_65 : a_ins 111 65 = some (.invokevirtual 89, (0, 112, 1)) := by decide +kernel
theorem i_111_68 : a_ins 111 68 = some (.istore 6, (0, 0, 0)) := by decide +kernel
theorem i_111_70 : a_ins 111 70 = some (.iload 6, (0, 0, 0)) := by decide +kernel
theorem i_111_72 : a_ins 111 72 = some (.bipush 101, (0, 0, 0)) := by decide +kernel
theorem i_111_74 : a_ins 111 74 = some (.if_icmp .ge 15, (0, 0, 0)) := by decide +kernel
theorem i_111_77 : a_ins 111 77 = some (.aload_n 0, (0, 0, 0)) := by decide +kernel
theorem i_111_78 : a_ins 111 78 = some (.iload_n 1, (0, 0, 0)) := by decide +kernel
theorem i_111_79 : a_ins 111 79 = some (.iload_n 3, (0, 0, 0)) := by decide +kernel
theorem i_111_80 : a_ins 111 80 = some (.iload 4, (0, 0, 0)) := by decide +kernel
theorem i_111_82 : a_ins 111 82 = some (.iload 5, (0, 0, 0)) := by decide +kernel
theorem i_111_84 : a_ins 111 84 = some (.iload 6, (0, 0, 0)) := by decide +kernel
theorem i_111_86 : a_ins 111 86 = some (.invokevirtual 93, (0, 113, 5)) := by decide +kernel
theorem i_111_89 : a_ins 111 89 = some (.iinc 4 1, (0, 0, 0)) := by decide +kernel
theorem i_111_92 : a_ins 111 92 = some (.goto (-54), (0, 0, 0)) := by decide +kernel
theorem i_111_95 : a_ins 111 95 = some (.iinc 3 1, (0, 0, 0)) := by decide +kernel
theorem i_111_98 : a_ins 111 98 = some (.goto (-92), (0, 0, 0)) := by decide +kernel
theorem i_111_101 : a_ins 111 101 = some (.return_, (0, 0, 0)) := by decide +kernel
theorem i_112_0 : a_ins 112 0 = some (.iconst 0, (0, 0, 0)) := by decide +kernel
theorem i_112_1 : a_ins 112 1 = some (.istore_n 2, (0, 0, 0)) := by decide +kernel
theorem i_112_2 : a_ins 112 2 = some (.iload_n 2, (0, 0, 0)) := by decide +kernel
theorem i_112_3 : a_ins 112 3 = some (.bipush 101, (0, 0, 0)) := by decide +kernel
theorem i_112_5 : a_ins 112 5 = some (.if_icmp .ge 24, (0, 0, 0)) := by decide +kernel
theorem i_112_8 : a_ins 112 8 = some (.aload_n 0, (0, 0, 0)) := by decide +kernel
theorem i_112_9 : a_ins 112 9 = some (.getfield 17, (7, 3, 453)) := by decide +kernel
theorem i_112_12 : a_ins 112 12 = some (.iload_n 1, (0, 0, 0)) := by decide +kernel
theorem i_112_13 : a_ins 112 13 = some (.iload_n 2, (0, 0, 0)) := by decide +kernel
theorem i_112_14 : a_ins 112 14 = some (.iadd, (0, 0, 0)) := by decide +kernel
theorem i_112_15 : a_ins 112 15 = some (.laload, (0, 0, 0)) := by decide +kernel
theorem i_112_16 : a_ins 112 16 = some (.lconst 0, (0, 0, 0)) := by decide +kernel
theorem i_112_17 : a_ins 112 17 = some (.lcmp, (0, 0, 0)) := by decide +kernel
theorem i_112_18 : a_ins 112 18 = some (.ifCond .eq 5, (0, 0, 0)) := by decide +kernel
theorem i_112_21 : a_ins 112 21 = some (.iload_n 2, (0, 0, 0)) := by decide +kernel
theorem i_112_22 : a_ins 112 22 = some (.ireturn, (0, 0, 0)) := by decide +kernel
theorem i_112_23 : a_ins 112 23 = some (.iinc 2 1, (0, 0, 0)) := by decide +kernel
theorem i_112_26 : a_ins 112 26 = some (.goto (-24), (0, 0, 0)) := by decide +kernel
theorem i_112_29 : a_ins 112 29 = some (.bipush 101, (0, 0, 0)) := by decide +kernel
theorem i_112_31 : a_ins 112 31 = some (.ireturn, (0, 0, 0)) := by decide +kernel
theorem i_113_0 : a_ins 113 0 = some (.aload_n 0, (0, 0, 0)) := by decide +kernel
theorem i_113_1 : a_ins 113 1 = some (.getfield 23, (7, 0, 449)) := by decide +kernel
theorem i_113_4 : a_ins 113 4 = some (.iload_n 1, (0, 0, 0)) := by decide +kernel
theorem i_113_5 : a_ins 113 5 = some (.iconst 1, (0, 0, 0)) := by decide +kernel
theorem i_113_6 : a_ins 113 6 = some (.isub, (0, 0, 0)) := by decide +kernel
theorem i_113_7 : a_ins 113 7 = some (.iload_n 2, (0, 0, 0)) := by decide +kernel
theorem i_113_8 : a_ins 113 8 = some (.iload_n 3, (0, 0, 0)) := by decide +kernel
theorem i_113_9 : a_ins 113 9 = some (.invokevirtual 86, (0, 98, 3)) := by decide +kernel
theorem i_113_12 : a_ins 113 12 = some (.istore 6, (0, 0, 0)) := by decide +kernel
theorem i_113_14 : a_ins 113 14 = some (.iload_n 1, (0, 0, 0)) := by decide +kernel
theorem i_113_15 : a_ins 113 15 = some (.bipush 12, (0, 0, 0)) := by decide +kernel
theorem i_113_17 : a_ins 113 17 = some (.imul, (0, 0, 0)) := by decide +kernel
theorem i_113_18 : a_ins 113 18 = some (.istore 7, (0, 0, 0)) := by decide +kernel
theorem i_113_20 : a_ins 113 20 = some (.iload 7, (0, 0, 0)) := by decide +kernel
theorem i_113_22 : a_ins 113 22 = some (.istore 8, (0, 0, 0)) := by decide +kernel
theorem i_113_24 : a_ins 113 24 = some (.iload 8, (0, 0, 0)) := by decide +kernel
theorem i_113_26 : a_ins 113 26 = some (.iload 7, (0, 0, 0)) := by decide +kernel
theorem i_113_28 : a_ins 113 28 = some (.aload_n 0, (0, 0, 0)) := by decide +kernel
theorem i_113_29 : a_ins 113 29 = some (.getfield 31, (7, 1, 450)) := by decide +kernel
theorem i_113_32 : a_ins 113 32 = some (.getfield 74, (2, 0, 343)) := by decide +kernel
theorem i_113_35 : a_ins 113 35 = some (.iload_n 1, (0, 0, 0)) := by decide +kernel
theorem i_113_36 : a_ins 113 36 = some (.iaload, (0, 0, 0)) := by decide +kernel
theorem i_113_37 : a_ins 113 37 = some (.iadd, (0, 0, 0)) := by decide +kernel
theorem i_113_38 : a_ins 113 38 = some (.if_icmp .ge 158, (0, 0, 0)) := by decide +kernel
theorem i_113_41 : a_ins 113 41 = some (.aload_n 0, (0, 0, 0)) := by decide +kernel
theorem i_113_42 : a_ins 113 42 = some (.getfield 31, (7, 1, 450)) := by decide +kernel
theorem i_113_45 : a_ins 113 45 = some (.getfield 77, (2, 3, 353)) := by decide +kernel
theorem i_113_48 : a_ins 113 48 = some (.iload 8, (0, 0, 0)) := by decide +kernel
theorem i_113_50 : a_ins 113 50 = some (.iaload, (0, 0, 0)) := by decide +kernel
theorem i_113_51 : a_ins 113 51 = some (.istore 9, (0, 0, 0)) := by decide +kernel
theorem i_113_53 : a_ins 113 53 = some (.iload_n 3, (0, 0, 0)) := by decide +kernel
theorem i_113_54 : a_ins 113 54 = some (.aload_n 0, (0, 0, 0)) := by decide +kernel
theorem i_113_55 : a_ins 113 55 = some (.getfield 23, (7, 0, 449)) := by decide +kernel
theorem i_113_58 : a_ins 113 58 = some (.getfield 80, (9, 3, 408)) := by decide +kernel
theorem i_113_61 : a_ins 113 61 = some (.iload 8, (0, 0, 0)) := by decide +kernel
theorem i_113_63 : a_ins 113 63 = some (.iaload, (0, 0, 0)) := by decide +kernel
theorem i_113_64 : a_ins 113 64 = some (.iadd, (0, 0, 0)) := by decide +kernel
theorem i_113_65 : a_ins 113 65 = some (.istore 10, (0, 0, 0)) := by decide +kernel
theorem i_113_67 : a_ins 113 67 = some (.aload_n 0, (0, 0, 0)) := by decide +kernel
theorem i_113_68 : a_ins 113 68 = some (.getfield 23, (7, 0, 449)) := by decide +kernel
theorem i_113_71 : a_ins 113 71 = some (.getfield 97, (9, 4, 410)) := by decide +kernel
theorem i_113_74 : a_ins 113 74 = some (.iload_n 2, (0, 0, 0)) := by decide +kernel
theorem i_113_75 : a_ins 113 75 = some (.bipush 8, (0, 0, 0)) := by decide +kernel
theorem i_113_77 : a_ins 113 77 = some (.imul, (0, 0, 0)) := by decide +kernel
theorem i_113_78 : a_ins 113 78 = some (.iload 9, (0, 0, 0)) := by decide +kernel
theorem i_113_80 : a_ins 113 80 = some (.iadd, (0, 0, 0)) := by decide +kernel
theorem i_113_81 : a_ins 113 81 = some (.iaload, (0, 0, 0)) := by decide +kernel
theorem i_113_82 : a_ins 113 82 = some (.aload_n 0, (0, 0, 0)) := by decide +kernel
theorem i_113_83 : a_ins 113 83 = some (.getfield 31, (7, 1, 450)) := by decide +kernel
theorem i_113_86 : a_ins 113 86 = some (.getfield 83, (2, 4, 356)) := by decide +kernel
theorem i_113_89 : a_ins 113 89 = some (.iload 8, (0, 0, 0)) := by decide +kernel
theorem i_113_91 : a_ins 113 91 = some (.iaload, (0, 0, 0)) := by decide +kernel
theorem i_113_92 : a_ins 113 92 = some (.iadd, (0, 0, 0)) := by decide +kernel
theorem i_113_93 : a_ins 113 93 = some (.istore 11, (0, 0, 0)) := by decide +kernel
theorem i_113_95 : a_ins 113 95 = some (.iload 11, (0, 0, 0)) := by decide +kernel
theorem i_113_97 : a_ins 113 97 = some (.aload_n 0, (0, 0, 0)) := by decide +kernel
theorem i_113_98 : a_ins 113 98 = some (.getfield 23, (7, 0, 449)) := by decide +kernel
theorem i_113_101 : a_ins 113 101 = some (.iload_n 1, (0, 0, 0)) := by decide +kernel
theorem i_113_102 : a_ins 113 102 = some (.iload 9, (0, 0, 0)) := by decide +kernel
theorem i_113_104 : a_ins 113 104 = some (.iload 10, (0, 0, 0)) := by decide +kernel
theorem i_113_106 : a_ins 113 106 = some (.invokevirtual 86, (0, 98, 3)) := by decide +kernel
theorem i_113_109 : a_ins 113 109 = some (.iadd, (0, 0, 0)) := by decide +kernel
theorem i_113_110 : a_ins 113 110 = some (.iload 6, (0, 0, 0)) := by decide +kernel
theorem i_113_112 : a_ins 113 112 = some (.isub, (0, 0, 0)) := by decide +kernel
theorem i_113_113 : a_ins 113 113 = some (.istore 12, (0, 0, 0)) := by decide +kernel
theorem i_113_115 : a_ins 113 115 = some (.iload 12, (0, 0, 0)) := by decide +kernel
theorem i_113_117 : a_ins 113 117 = some (.ifCond .lt 73, (0, 0, 0)) := by decide +kernel
theorem i_113_120 : a_ins 113 120 = some (.iload 12, (0, 0, 0)) := by decide +kernel
theorem i_113_122 : a_ins 113 122 = some (.iload 5, (0, 0, 0)) := by decide +kernel
theorem i_113_124 : a_ins 113 124 = some (.iadd, (0, 0, 0)) := by decide +kernel
theorem i_113_125 : a_ins 113 125 = some (.bipush 101, (0, 0, 0)) := by decide +kernel
theorem i_113_127 : a_ins 113 127 = some (.if_icmp .lt 6, (0, 0, 0)) := by decide +kernel
theorem i_113_130 : a_ins 113 130 = some (.goto 60, (0, 0, 0)) := by decide +kernel
theorem i_113_133 : a_ins 113 133 = some (.aload_n 0, (0, 0, 0)) := by decide +kernel
theorem i_113_134 : a_ins 113 134 = some (.iload_n 1, (0, 0, 0)) := by decide +kernel
theorem i_113_135 : a_ins 113 135 = some (.iload 9, (0, 0, 0)) := by decide +kernel
theorem i_113_137 : a_ins 113 137 = some (.iload 10, (0, 0, 0)) := by decide +kernel
theorem i_113_139 : a_ins 113 139 = some (.invokevirtual 61, (0, 108, 3)) := by decide +kernel
theorem i_113_142 : a_ins 113 142 = some (.iload 12, (0, 0, 0)) := by decide +kernel
theorem i_113_144 : a_ins 113 144 = some (.iadd, (0, 0, 0)) := by decide +kernel
theorem i_113_145 : a_ins 113 145 = some (.istore 13, (0, 0, 0)) := by decide +kernel
theorem i_113_147 : a_ins 113 147 = some (.iload 5, (0, 0, 0)) := by decide +kernel
theorem i_113_149 : a_ins 113 149 = some (.istore 14, (0, 0, 0)) := by decide +kernel
theorem i_113_151 : a_ins 113 151 = some (.iload 14, (0, 0, 0)) := by decide +kernel
theorem i_113_153 : a_ins 113 153 = some (.iload 12, (0, 0, 0)) := by decide +kernel
theorem i_113_155 : a_ins 113 155 = some (.iadd, (0, 0, 0)) := by decide +kernel
theorem i_113_156 : a_ins 113 156 = some (.bipush 101, (0, 0, 0)) := by decide +kernel
theorem i_113_158 : a_ins 113 158 = some (.if_icmp .ge 32, (0, 0, 0)) := by decide +kernel
theorem i_113_161 : a_ins 113 161 = some (.aload_n 0, (0, 0, 0)) := by decide +kernel
theorem i_113_162 : a_ins 113 162 = some (.getfield 20, (7, 4, 454)) := by decide +kernel
theorem i_113_165 : a_ins 113 165 = some (.iload 13, (0, 0, 0)) := by decide +kernel
theorem i_113_167 : a_ins 113 167 = some (.iload 14, (0, 0, 0)) := by decide +kernel
theorem i_113_169 : a_ins 113 169 = some (.iadd, (0, 0, 0)) := by decide +kernel
theorem i_113_170 : a_ins 113 170 = some (.dup2, (0, 0, 0)) := by decide +kernel
theorem i_113_171 : a_ins 113 171 = some (.laload, (0, 0, 0)) := by decide +kernel
theorem i_113_172 : a_ins 113 172 = some (.aload_n 0, (0, 0, 0)) := by decide +kernel
theorem i_113_173 : a_ins 113 173 = some (.getfield 17, (7, 3, 453)) := by decide +kernel
theorem i_113_176 : a_ins 113 176 = some (.iload 4, (0, 0, 0)) := by decide +kernel
theorem i_113_178 : a_ins 113 178 = some (.iload 14, (0, 0, 0)) := by decide +kernel
theorem i_113_180 : a_ins 113 180 = some (.iadd, (0, 0, 0)) := by decide +kernel
theorem i_113_181 : a_ins 113 181 = some (.laload, (0, 0, 0)) := by decide +kernel
theorem i_113_182 : a_ins 113 182 = some (.ladd, (0, 0, 0)) := by decide +kernel
theorem i_113_183 : a_ins 113 183 = some (.lastore, (0, 0, 0)) := by decide +kernel
theorem i_113_184 : a_ins 113 184 = some (.iinc 14 1, (0, 0, 0)) := by decide +kernel
theorem i_113_187 : a_ins 113 187 = some (.goto (-36), (0, 0, 0)) := by decide +kernel
theorem i_113_190 : a_ins 113 190 = some (.iinc 8 1, (0, 0, 0)) := by decide +kernel
theorem i_113_193 : a_ins 113 193 = some (.goto (-169), (0, 0, 0)) := by decide +kernel
theorem i_113_196 : a_ins 113 196 = some (.return_, (0, 0, 0)) := by decide +kernel
theorem i_114_0 : a_ins 114 0 = some (.aload_n 0, (0, 0, 0)) := by decide +kernel
theorem i_114_1 : a_ins 114 1 = some (.getfield 31, (7, 1, 450)) := by decide +kernel
theorem i_114_4 : a_ins 114 4 = some (.getfield 41, (2, 8, 367)) := by decide +kernel
theorem i_114_7 : a_ins 114 7 = some (.iconst 1, (0, 0, 0)) := by decide +kernel
theorem i_114_8 : a_ins 114 8 = some (.isub, (0, 0, 0)) := by decide +kernel
theorem i_114_9 : a_ins 114 9 = some (.istore_n 1, (0, 0, 0)) := by decide +kernel
theorem i_114_10 : a_ins 114 10 = some (.lconst 0, (0, 0, 0)) := by decide +kernel
theorem i_114_11 : a_ins 114 11 = some (.lstore_n 2, (0, 0, 0)) := by decide +kernel
theorem i_114_12 : a_ins 114 12 = some (.iconst 0, (0, 0, 0)) := by decide +kernel
theorem i_114_13 : a_ins 114 13 = some (.istore 4, (0, 0, 0)) := by decide +kernel
theorem i_114_15 : a_ins 114 15 = some (.iload 4, (0, 0, 0)) := by decide +kernel
theorem i_114_17 : a_ins 114 17 = some (.bipush 101, (0, 0, 0)) := by decide +kernel
theorem i_114_19 : a_ins 114 19 = some (.if_icmp .ge 73, (0, 0, 0)) := by decide +kernel
theorem i_114_22 : a_ins 114 22 = some (.iconst 0, (0, 0, 0)) := by decide +kernel
theorem i_114_23 : a_ins 114 23 = some (.istore 5, (0, 0, 0)) := by decide +kernel
theorem i_114_25 : a_ins 114 25 = some (.iload 5, (0, 0, 0)) := by decide +kernel
theorem i_114_27 : a_ins 114 27 = some (.bipush 8, (0, 0, 0)) := by decide +kernel
theorem i_114_29 : a_ins 114 29 = some (.if_icmp .ge 49, (0, 0, 0)) := by decide +kernel
theorem i_114_32 : a_ins 114 32 = some (.aload_n 0, (0, 0, 0)) := by decide +kernel
theorem i_114_33 : a_ins 114 33 = some (.getfield 23, (7, 0, 449)) := by decide +kernel
theorem i_114_36 : a_ins 114 36 = some (.iload_n 1, (0, 0, 0)) := by decide +kernel
theorem i_114_37 : a_ins 114 37 = some (.iload 5, (0, 0, 0)) := by decide +kernel
theorem i_114_39 : a_ins 114 39 = some (.invokevirtual 57, (0, 88, 2)) := by decide +kernel
theorem i_114_42 : a_ins 114 42 = some (.ifCond .eq 30, (0, 0, 0)) := by decide +kernel
theorem i_114_45 : a_ins 114 45 = some (.lload_n 2, (0, 0, 0)) := by decide +kernel
theorem i_114_46 : a_ins 114 46 = some (.aload_n 0, (0, 0, 0)) := by decide +kernel
theorem i_114_47 : a_ins 114 47 = some (.getfield 17, (7, 3, 453)) := by decide +kernel
theorem i_114_50 : a_ins 114 50 = some (.aload_n 0, (0, 0, 0)) := by decide +kernel
theorem i_114_51 : a_ins 114 51 = some (.iload_n 1, (0, 0, 0)) := by decide +kernel
theorem i_114_52 : a_ins 114 52 = some (.iload 5, (0, 0, 0)) := by decide +kernel
theorem i_114_54 : a_ins 114 54 = some (.aload_n 0, (0, 0, 0)) := by decide +kernel
theorem i_114_55 : a_ins 114 55 = some (.getfield 23, (7, 0, 449)) := by decide +kernel
theorem i_114_58 : a_ins 114 58 = some (.getfield 53, (9, 1, 404)) := by decide +kernel
theorem i_114_61 : a_ins 114 61 = some (.iload_n 1, (0, 0, 0)) := by decide +kernel
theorem i_114_62 : a_ins 114 62 = some (.iaload, (0, 0, 0)) := by decide +kernel
theorem i_114_63 : a_ins 114 63 = some (.invokevirtual 61, (0, 108, 3)) := by decide +kernel
theorem i_114_66 : a_ins 114 66 = some (.iload 4, (0, 0, 0)) := by decide +kernel
theorem i_114_68 : a_ins 114 68 = some (.iadd, (0, 0, 0)) := by decide +kernel
theorem i_114_69 : a_ins 114 69 = some (.laload, (0, 0, 0)) := by decide +kernel
theorem i_114_70 : a_ins 114 70 = some (.ladd, (0, 0, 0)) := by decide +kernel
theorem i_114_71 : a_ins 114 71 = some (.lstore_n 2, (0, 0, 0)) := by decide +kernel
theorem i_114_72 : a_ins 114 72 = some (.iinc 5 1, (0, 0, 0)) := by decide +kernel
theorem i_114_75 : a_ins 114 75 = some (.goto (-50), (0, 0, 0)) := by decide +kernel
theorem i_114_78 : a_ins 114 78 = some (.aload_n 0, (0, 0, 0)) := by decide +kernel
theorem i_114_79 : a_ins 114 79 = some (.getfield 13, (7, 2, 451)) := by decide +kernel
theorem i_114_82 : a_ins 114 82 = some (.iload 4, (0, 0, 0)) := by decide +kernel
theorem i_114_84 : a_ins 114 84 = some (.lload_n 2, (0, 0, 0)) := by decide +kernel
theorem i_114_85 : a_ins 114 85 = some (.lastore, (0, 0, 0)) := by decide +kernel
theorem i_114_86 : a_ins 114 86 = some (.iinc 4 1, (0, 0, 0)) := by decide +kernel
theorem i_114_89 : a_ins 114 89 = some (.goto (-74), (0, 0, 0)) := by decide +kernel
theorem i_114_92 : a_ins 114 92 = some (.return_, (0, 0, 0)) := by decide +kernel
theorem i_115_0 : a_ins 115 0 = some (.aload_n 0, (0, 0, 0)) := by decide +kernel
theorem i_115_1 : a_ins 115 1 = some (.getfield 32, (10, 3, 731)) := by decide +kernel
theorem i_115_4 : a_ins 115 4 = some (.iload_n 1, (0, 0, 0)) := by decide +kernel
theorem i_115_5 : a_ins 115 5 = some (.invokevirtual 121, (0, 75, 1)) := by decide +kernel
theorem i_115_8 : a_ins 115 8 = some (.ifCond .eq 20, (0, 0, 0)) := by decide +kernel
theorem i_115_11 : a_ins 115 11 = some (.iload_n 2, (0, 0, 0)) := by decide +kernel
theorem i_115_12 : a_ins 115 12 = some (.invokestatic 170, (1, 104, 1)) := by decide +kernel
theorem i_115_15 : a_ins 115 15 = some (.ifCond .eq 13, (0, 0, 0)) := by decide +kernel
theorem i_115_18 : a_ins 115 18 = some (.aload_n 0, (0, 0, 0)) := by decide +kernel
theorem i_115_19 : a_ins 115 19 = some (.getfield 41, (10, 4, 732)) := by decide +kernel
theorem i_115_22 : a_ins 115 22 = some (.invokevirtual 160, (0, 101, 0)) := by decide +kernel
theorem i_115_25 : a_ins 115 25 = some (.ifCond .ne 5, (0, 0, 0)) := by decide +kernel
theorem i_115_28 : a_ins 115 28 = some (.iconst (-1), (0, 0, 0)) := by decide +kernel
theorem i_115_29 : a_ins 115 29 = some (.ireturn, (0, 0, 0)) := by decide +kernel
theorem i_115_30 : a_ins 115 30 = some (.aload_n 0, (0, 0, 0)) := by decide +kernel
theorem i_115_31 : a_ins 115 31 = some (.getfield 41, (10, 4, 732)) := by decide +kernel
theorem i_115_34 : a_ins 115 34 = some (.iload_n 1, (0, 0, 0)) := by decide +kernel
theorem i_115_35 : a_ins 115 35 = some (.iload_n 2, (0, 0, 0)) := by decide +kernel
theorem i_115_36 : a_ins 115 36 = some (.invokevirtual 179, (0, 116, 2)) := by decide +kernel
theorem i_115_39 : a_ins 115 39 = some (.ifCond .eq 7, (0, 0, 0)) := by decide +kernel
theorem i_115_42 : a_ins 115 42 = some (.iconst 1, (0, 0, 0)) := by decide +kernel
theorem i_115_43 : a_ins 115 43 = some (.goto 4, (0, 0, 0)) := by decide +kernel
theorem i_115_46 : a_ins 115 46 = some (.iconst 0, (0, 0, 0)) := by decide +kernel
theorem i_115_47 : a_ins 115 47 = some (.ireturn, (0, 0, 0)) := by decide +kernel
theorem i_116_0 : a_ins 116 0 = some (.aload_n 0, (0, 0, 0)) := by decide +kernel
theorem i_116_1 : a_ins 116 1 = some (.aload_n 0, (0, 0, 0)) := by decide +kernel
theorem i_116_2 : a_ins 116 2 = some (.getfield 9, (6, 3, 470)) := by decide +kernel
theorem i_116_5 : a_ins 116 5 = some (.iconst 0, (0, 0, 0)) := by decide +kernel
theorem i_116_6 : a_ins 116 6 = some (.iload_n 1, (0, 0, 0)) := by decide +kernel
theorem i_116_7 : a_ins 116 7 = some (.iload_n 2, (0, 0, 0)) := by decide +kernel
theorem i_116_8 : a_ins 116 8 = some (.invokevirtual 93, (0, 117, 4)) := by decide +kernel
theorem i_116_11 : a_ins 116 11 = some (.ireturn, (0, 0, 0)) := by decide +kernel
theorem i_117_0 : a_ins 117 0 = some (.aload_n 0, (0, 0, 0)) := by decide +kernel
theorem i_117_1 : a_ins 117 1 = some (.aload_n 1, (0, 0, 0)) := by decide +kernel
theorem i_117_2 : a_ins 117 2 = some (.iload_n 2, (0, 0, 0)) := by decide +kernel
theorem i_117_3 : a_ins 117 3 = some (.iload_n 3, (0, 0, 0)) := by decide +kernel
theorem i_117_4 : a_ins 117 4 = some (.bipush 12, (0, 0, 0)) := by decide +kernel
theorem i_117_6 : a_ins 117 6 = some (.imul, (0, 0, 0)) := by decide +kernel
theorem i_117_7 : a_ins 117 7 = some (.iload 4, (0, 0, 0)) := by decide +kernel
theorem i_117_9 : a_ins 117 9 = some (.invokevirtual 97, (0, 118, 4)) := by decide +kernel
theorem i_117_12 : a_ins 117 12 = some (.istore 5, (0, 0, 0)) := by decide +kernel
theorem i_117_14 : a_ins 117 14 = some (.iload_n 3, (0, 0, 0)) := by decide +kernel
theorem i_117_15 : a_ins 117 15 = some (.bipush 12, (0, 0, 0)) := by decide +kernel
theorem i_117_17 : a_ins 117 17 = some (.imul, (0, 0, 0)) := by decide +kernel
theorem i_117_18 : a_ins 117 18 = some (.aload_n 0, (0, 0, 0)) := by decide +kernel
theorem i_117_19 : a_ins 117 19 = some (.getfield 42, (6, 0, 467)) := by decide +kernel
theorem i_117_22 : a_ins 117 22 = some (.getfield 101, (2, 0, 345)) := by decide +kernel
theorem i_117_25 : a_ins 117 25 = some (.iload_n 3, (0, 0, 0)) := by decide +kernel
theorem i_117_26 : a_ins 117 26 = some (.iaload, (0, 0, 0)) := by decide +kernel
theorem i_117_27 : a_ins 117 27 = some (.iadd, (0, 0, 0)) := by decide +kernel
theorem i_117_28 : a_ins 117 28 = some (.istore 6, (0, 0, 0)) := by decide +kernel
theorem i_117_30 : a_ins 117 30 = some (.iload 5, (0, 0, 0)) := by decide +kernel
theorem i_117_32 : a_ins 117 32 = some (.iconst (-1), (0, 0, 0)) := by decide +kernel
theorem i_117_33 : a_ins 117 33 = some (.if_icmp .ne 5, (0, 0, 0)) := by decide +kernel
theorem i_117_36 : a_ins 117 36 = some (.iconst 0, (0, 0, 0)) := by decide +kernel
theorem i_117_37 : a_ins 117 37 = some (.ireturn, (0, 0, 0)) := by decide +kernel
theorem i_117_38 : a_ins 117 38 = some (.iload 5, (0, 0, 0)) := by decide +kernel
theorem i_117_40 : a_ins 117 40 = some (.iconst 1, (0, 0, 0)) := by decide +kernel
theorem i_117_41 : a_ins 117 41 = some (.iadd, (0, 0, 0)) := by decide +kernel
theorem i_117_42 : a_ins 117 42 = some (.istore 7, (0, 0, 0)) := by decide +kernel
theorem i_117_44 : a_ins 117 44 = some (.iload 7, (0, 0, 0)) := by decide +kernel
theorem i_117_46 : a_ins 117 46 = some (.iload 6, (0, 0, 0)) := by decide +kernel
theorem i_117_48 : a_ins 117 48 = some (.if_icmp .ge 41, (0, 0, 0)) := by decide +kernel
theorem i_117_51 : a_ins 117 51 = some (.aload_n 1, (0, 0, 0)) := by decide +kernel
theorem i_117_52 : a_ins 117 52 = some (.iload_n 2, (0, 0, 0)) := by decide +kernel
theorem i_117_53 : a_ins 117 53 = some (.iload 7, (0, 0, 0)) := by decide +kernel
theorem i_117_55 : a_ins 117 55 = some (.iadd, (0, 0, 0)) := by decide +kernel
theorem i_117_56 : a_ins 117 56 = some (.iaload, (0, 0, 0)) := by decide +kernel
theorem i_117_57 : a_ins 117 57 = some (.aload_n 0, (0, 0, 0)) := by decide +kernel
theorem i_117_58 : a_ins 117 58 = some (.getfield 25, (6, 7, 475)) := by decide +kernel
theorem i_117_61 : a_ins 117 61 = some (.iload 4, (0, 0, 0)) := by decide +kernel
theorem i_117_63 : a_ins 117 63 = some (.iadd, (0, 0, 0)) := by decide +kernel
theorem i_117_64 : a_ins 117 64 = some (.if_icmp .gt 19, (0, 0, 0)) := by decide +kernel
theorem i_117_67 : a_ins 117 67 = some (.aload_n 0, (0, 0, 0)) := by decide +kernel
theorem i_117_68 : a_ins 117 68 = some (.getfield 42, (6, 0, 467)) := by decide +kernel
theorem i_117_71 : a_ins 117 71 = some (.iload 5, (0, 0, 0)) := by decide +kernel
theorem i_117_73 : a_ins 117 73 = some (.iload 7, (0, 0, 0)) := by decide +kernel
theorem i_117_75 : a_ins 117 75 = some (.invokevirtual 104, (0, 119, 2)) := by decide +kernel
theorem i_117_78 : a_ins 117 78 = some (.ifCond .ne 5, (0, 0, 0)) := by decide +kernel
theorem i_117_81 : a_ins 117 81 = some (.iconst 0, (0, 0, 0)) := by decide +kernel
theorem i_117_82 : a_ins 117 82 = some (.ireturn, (0, 0, 0)) := by decide +kernel
theorem i_117_83 : a_ins 117 83 = some (.iinc 7 1, (0, 0, 0)) := by decide +kernel
theorem i_117_86 : a_ins 117 86 = some (.goto (-42), (0, 0, 0)) := by decide +kernel
theorem i_117_89 : a_ins 117 89 = some (.iconst 1, (0, 0, 0)) := by decide +kernel
theorem i_117_90 : a_ins 117 90 = some (.ireturn, (0, 0, 0)) := by decide +kernel
theorem i_118_0 : a_ins 118 0 = some (.iload_n 3, (0, 0, 0)) := by decide +kernel
theorem i_118_1 : a_ins 118 1 = some (.bipush 12, (0, 0, 0)) := by decide +kernel
theorem i_118_3 : a_ins 118 3 = some (.idiv, (0, 0, 0)) := by decide +kernel
theorem i_118_4 : a_ins 118 4 = some (.istore 5, (0, 0, 0)) := by decide +kernel
theorem i_118_6 : a_ins 118 6 = some (.iload 5, (0, 0, 0)) := by decide +kernel
theorem i_118_8 : a_ins 118 8 = some (.bipush 12, (0, 0, 0)) := by decide +kernel
theorem i_118_10 : a_ins 118 10 = some (.imul, (0, 0, 0)) := by decide +kernel
theorem i_118_11 : a_ins 118 11 = some (.aload_n 0, (0, 0, 0)) := by decide +kernel
theorem i_118_12 : a_ins 118 12 = some (.getfield 42, (6, 0, 467)) := by decide +kernel
theorem i_118_15 : a_ins 118 15 = some (.getfield 101, (2, 0, 345)) := by decide +kernel
theorem i_118_18 : a_ins 118 18 = some (.iload 5, (0, 0, 0)) := by decide +kernel
theorem i_118_20 : a_ins 118 20 = some (.iaload, (0, 0, 0)) := by decide +kernel
theorem i_118_21 : a_ins 118 21 = some (.iadd, (0, 0, 0)) := by decide +kernel
theorem i_118_22 : a_ins 118 22 = some (.istore 6, (0, 0, 0)) := by decide +kernel
theorem i_118_24 : a_ins 118 24 = some (.iload_n 3, (0, 0, 0)) := by decide +kernel
theorem i_118_25 : a_ins 118 25 = some (.istore 7, (0, 0, 0)) := by decide +kernel
theorem i_118_27 : a_ins 118 27 = some (.iload 7, (0, 0, 0)) := by decide +kernel
theorem i_118_29 : a_ins 118 29 = some (.iload 6, (0, 0, 0)) := by decide +kernel
theorem i_118_31 : a_ins 118 31 = some (.if_icmp .ge 28, (0, 0, 0)) := by decide +kernel
theorem i_118_34 : a_ins 118 34 = some (.aload_n 1, (0, 0, 0)) := by decide +kernel
theorem i_118_35 : a_ins 118 35 = some (.iload_n 2, (0, 0, 0)) := by decide +kernel
theorem i_118_36 : a_ins 118 36 = some (.iload 7, (0, 0, 0)) := by decide +kernel
theorem i_118_38 : a_ins 118 38 = some (.iadd, (0, 0, 0)) := by decide +kernel
theorem i_118_39 : a_ins 118 39 = some (.iaload, (0, 0, 0)) := by decide +kernel
theorem i_118_40 : a_ins 118 40 = some (.aload_n 0, (0, 0, 0)) := by decide +kernel
theorem i_118_41 : a_ins 118 41 = some (.getfield 25, (6, 7, 475)) := by decide +kernel
theorem i_118_44 : a_ins 118 44 = some (.iload 4, (0, 0, 0)) := by decide +kernel
theorem i_118_46 : a_ins 118 46 = some (.iadd, (0, 0, 0)) := by decide +kernel
theorem i_118_47 : a_ins 118 47 = some (.if_icmp .gt 6, (0, 0, 0)) := by decide +kernel
theorem i_118_50 : a_ins 118 50 = some (.iload 7, (0, 0, 0)) := by decide +kernel
theorem i_118_52 : a_ins 118 52 = some (.ireturn, (0, 0, 0)) := by decide +kernel
theorem i_118_53 : a_ins 118 53 = some (.iinc 7 1, (0, 0, 0)) := by decide +kernel
theorem i_118_56 : a_ins 118 56 = some (.goto (-29), (0, 0, 0)) := by decide +kernel
theorem i_118_59 : a_ins 118 59 = some (.iconst (-1), (0, 0, 0)) := by decide +kernel
theorem i_118_60 : a_ins 118 60 = some (.ireturn, (0, 0, 0)) := by decide +kernel
theorem i_119_0 : a_ins 119 0 = some (.aload_n 0, (0, 0, 0)) := by decide +kernel
theorem i_119_1 : a_ins 119 1 = some (.getfield 23, (2, 2, 349)) := by decide +kernel
theorem i_119_4 : a_ins 119 4 = some (.iload_n 1, (0, 0, 0)) := by decide +kernel
theorem i_119_5 : a_ins 119 5 = some (.aload_n 0, (0, 0, 0)) := by decide +kernel
theorem i_119_6 : a_ins 119 6 = some (.getfield 23, (2, 2, 349)) := by decide +kernel
theorem i_119_9 : a_ins 119 9 = some (.getfield 106, (3, 0, 150)) := by decide +kernel
theorem i_119_12 : a_ins 119 12 = some (.aload_n 0, (0, 0, 0)) := by decide +kernel
theorem i_119_13 : a_ins 119 13 = some (.getfield 23, (2, 2, 349)) := by decide +kernel
theorem i_119_16 : a_ins 119 16 = some (.iload_n 2, (0, 0, 0)) := by decide +kernel
theorem i_119_17 : a_ins 119 17 = some (.invokevirtual 109, (0, 16, 1)) := by decide +kernel
theorem i_119_20 : a_ins 119 20 = some (.aload_n 0, (0, 0, 0)) := by decide +kernel
theorem i_119_21 : a_ins 119 21 = some (.getfield 23, (2, 2, 349)) := by decide +kernel
theorem i_119_24 : a_ins 119 24 = some (.getfield 122, (3, 1, 152)) := by decide +kernel
theorem i_119_27 : a_ins 119 27 = some (.iload_n 2, (0, 0, 0)) := by decide +kernel
theorem i_119_28 : a_ins 119 28 = some (.iaload, (0, 0, 0)) := by decide +kernel
theorem i_119_29 : a_ins 119 29 = some (.invokevirtual 144, (0, 29, 4)) := by decide +kernel
theorem i_119_32 : a_ins 119 32 = some (.ireturn, (0, 0, 0)) := by decide +kernel
theorem i_120_0 : a_ins 120 0 = some (.iload_n 1, (0, 0, 0)) := by decide +kernel
theorem i_120_1 : a_ins 120 1 = some (.invokestatic 170, (1, 104, 1)) := by decide +kernel
theorem i_120_4 : a_ins 120 4 = some (.ifCond .eq 18, (0, 0, 0)) := by decide +kernel
theorem i_120_7 : a_ins 120 7 = some (.iload_n 2, (0, 0, 0)) := by decide +kernel
theorem i_120_8 : a_ins 120 8 = some (.ifCond .lt 14, (0, 0, 0)) := by decide +kernel
theorem i_120_11 : a_ins 120 11 = some (.iload_n 2, (0, 0, 0)) := by decide +kernel
theorem i_120_12 : a_ins 120 12 = some (.aload_n 0, (0, 0, 0)) := by decide +kernel
theorem i_120_13 : a_ins 120 13 = some (.getfield 59, (10, 7, 735)) := by decide +kernel
theorem i_120_16 : a_ins 120 16 = some (.getfield 183, (5, 4, 525)) := by decide +kernel
theorem i_120_19 : a_ins 120 19 = some (.if_icmp .lt 5, (0, 0, 0)) := by decide +kernel
theorem i_120_22 : a_ins 120 22 = some (.iconst (-1), (0, 0, 0)) := by decide +kernel
theorem i_120_23 : a_ins 120 23 = some (.ireturn, (0, 0, 0)) := by decide +kernel
theorem i_120_24 : a_ins 120 24 = some (.aload_n 0, (0, 0, 0)) := by decide +kernel
theorem i_120_25 : a_ins 120 25 = some (.getfield 59, (10, 7, 735)) := by decide +kernel
theorem i_120_28 : a_ins 120 28 = some (.iload_n 2, (0, 0, 0)) := by decide +kernel
theorem i_120_29 : a_ins 120 29 = some (.invokevirtual 186, (0, 121, 1)) := by decide +kernel
theorem i_120_32 : a_ins 120 32 = some (.istore_n 3, (0, 0, 0)) := by decide +kernel
theorem i_120_33 : a_ins 120 33 = some (.iload_n 3, (0, 0, 0)) := by decide +kernel
theorem i_120_34 : a_ins 120 34 = some (.iconst (-1), (0, 0, 0)) := by decide +kernel
theorem i_120_35 : a_ins 120 35 = some (.if_icmp .eq 25, (0, 0, 0)) := by decide +kernel
theorem i_120_38 : a_ins 120 38 = some (.aload_n 0, (0, 0, 0)) := by decide +kernel
theorem i_120_39 : a_ins 120 39 = some (.getfield 41, (10, 4, 732)) := by decide +kernel
theorem i_120_42 : a_ins 120 42 = some (.invokevirtual 160, (0, 101, 0)) := by decide +kernel
theorem i_120_45 : a_ins 120 45 = some (.ifCond .eq 15, (0, 0, 0)) := by decide +kernel
theorem i_120_48 : a_ins 120 48 = some (.aload_n 0, (0, 0, 0)) := by decide +kernel
theorem i_120_49 : a_ins 120 49 = some (.getfield 41, (10, 4, 732)) := by decide +kernel
theorem i_120_52 : a_ins 120 52 = some (.iload_n 3, (0, 0, 0)) := by decide +kernel
theorem i_120_53 : a_ins 120 53 = some (.iload_n 1, (0, 0, 0)) := by decide +kernel
theorem i_120_54 : a_ins 120 54 = some (.invokevirtual 179, (0, 116, 2)) := by decide +kernel
theorem i_120_57 : a_ins 120 57 = some (.ifCond .ne 13, (0, 0, 0)) := by decide +kernel
theorem i_120_60 : a_ins 120 60 = some (.aload_n 0, (0, 0, 0)) := by decide +kernel
theorem i_120_61 : a_ins 120 61 = some (.getfield 59, (10, 7, 735)) := by decide +kernel
theorem i_120_64 : a_ins 120 64 = some (.getfield 189, (5, 0, 516)) := by decide +kernel
theorem i_120_67 : a_ins 120 67 = some (.iload_n 2, (0, 0, 0)) := by decide +kernel
theorem i_120_68 : a_ins 120 68 = some (.caload, (0, 0, 0)) := by decide +kernel
theorem i_120_69 : a_ins 120 69 = some (.ireturn, (0, 0, 0)) := by decide +kernel
theorem i_120_70 : a_ins 120 70 = some (.aload_n 0, (0, 0, 0)) := by decide +kernel
theorem i_120_71 : a_ins 120 71 = some (.getfield 32, (10, 3, 731)) := by decide +kernel
theorem i_120_74 : a_ins 120 74 = some (.getfield 143, (2, 2, 350)) := by decide +kernel
theorem i_120_77 : a_ins 120 77 = some (.aload_n 0, (0, 0, 0)) := by decide +kernel
theorem i_120_78 : a_ins 120 78 = some (.getfield 41, (10, 4, 732)) := by decide +kernel
theorem i_120_81 : a_ins 120 81 = some (.iload_n 3, (0, 0, 0)) := by decide +kernel
theorem i_120_82 : a_ins 120 82 = some (.iload_n 1, (0, 0, 0)) := by decide +kernel
theorem i_120_83 : a_ins 120 83 = some (.invokevirtual 192, (0, 122, 2)) := by decide +kernel
theorem i_120_86 : a_ins 120 86 = some (.iload_n 2, (0, 0, 0)) := by decide +kernel
theorem i_120_87 : a_ins 120 87 = some (.aload_n 0, (0, 0, 0)) := by decide +kernel
theorem i_120_88 : a_ins 120 88 = some (.getfield 59, (10, 7, 735)) := by decide +kernel
theorem i_120_91 : a_ins 120 91 = some (.getfield 195, (5, 1, 519)) := by decide +kernel
theorem i_120_94 : a_ins 120 94 = some (.iload_n 3, (0, 0, 0)) := by decide +kernel
theorem i_120_95 : a_ins 120 95 = some (.iaload, (0, 0, 0)) := by decide +kernel
theorem i_120_96 : a_ins 120 96 = some (.isub, (0, 0, 0)) := by decide +kernel
theorem i_120_97 : a_ins 120 97 = some (.invokevirtual 156, (0, 32, 2)) := by decide +kernel
theorem i_120_100 : a_ins 120 100 = some (.ireturn, (0, 0, 0)) := by decide +kernel
theorem i_121_0 : a_ins 121 0 = some (.iconst 0, (0, 0, 0)) := by decide +kernel
theorem i_121_1 : a_ins 121 1 = some (.istore_n 2, (0, 0, 0)) := by decide +kernel
theorem i_121_2 : a_ins 121 2 = some (.iload_n 2, (0, 0, 0)) := by decide +kernel
theorem i_121_3 : a_ins 121 3 = some (.aload_n 0, (0, 0, 0)) := by decide +kernel
theorem i_121_4 : a_ins 121 4 = some (.getfield 30, (5, 5, 526)) := by decide +kernel
theorem i_121_7 : a_ins 121 7 = some (.if_icmp .ge 38, (0, 0, 0)) := by decide +kernel
theorem i_121_10 : a_ins 121 10 = some (.iload_n 1, (0, 0, 0)) := by decide +kernel
theorem i_121_11 : a_ins 121 11 = some (.aload_n 0, (0, 0, 0)) := by decide +kernel
theorem i_121_12 : a_ins 121 12 = some (.getfield 15, (5, 1, 517)) := by decide +kernel
theorem i_121_15 : a_ins 121 15 = some (.iload_n 2, (0, 0, 0)) := by decide +kernel
theorem i_121_16 : a_ins 121 16 = some (.iaload, (0, 0, 0)) := by decide +kernel
theorem i_121_17 : a_ins 121 17 = some (.if_icmp .lt 22, (0, 0, 0)) := by decide +kernel
theorem i_121_20 : a_ins 121 20 = some (.iload_n 1, (0, 0, 0)) := by decide +kernel
theorem i_121_21 : a_ins 121 21 = some (.aload_n 0, (0, 0, 0)) := by decide +kernel
theorem i_121_22 : a_ins 121 22 = some (.getfield 15, (5, 1, 517)) := by decide +kernel
theorem i_121_25 : a_ins 121 25 = some (.iload_n 2, (0, 0, 0)) := by decide +kernel
theorem i_121_26 : a_ins 121 26 = some (.iaload, (0, 0, 0)) := by decide +kernel
theorem i_121_27 : a_ins 121 27 = some (.aload_n 0, (0, 0, 0)) := by decide +kernel
theorem i_121_28 : a_ins 121 28 = some (.getfield 19, (5, 2, 520)) := by decide +kernel
theorem i_121_31 : a_ins 121 31 = some (.iload_n 2, (0, 0, 0)) := by decide +kernel
theorem i_121_32 : a_ins 121 32 = some (.iaload, (0, 0, 0)) := by decide +kernel
theorem i_121_33 : a_ins 121 33 = some (.iadd, (0, 0, 0)) := by decide +kernel
theorem i_121_34 : a_ins 121 34 = some (.if_icmp .ge 5, (0, 0, 0)) := by decide +kernel
theorem i_121_37 : a_ins 121 37 = some (.iload_n 2, (0, 0, 0)) := by decide +kernel
theorem i_121_38 : a_ins 121 38 = some (.ireturn, (0, 0, 0)) := by decide +kernel
theorem i_121_39 : a_ins 121 39 = some (.iinc 2 1, (0, 0, 0)) := by decide +kernel
theorem i_121_42 : a_ins 121 42 = some (.goto (-40), (0, 0, 0)) := by decide +kernel
theorem i_121_45 : a_ins 121 45 = some (.iconst (-1), (0, 0, 0)) := by decide +kernel
theorem i_121_46 : a_ins 121 46 = some (.ireturn, (0, 0, 0)) := by decide +kernel
theorem i_122_0 : a_ins 122 0 = some (.aload_n 0, (0, 0, 0)) := by decide +kernel
theorem i_122_1 : a_ins 122 1 = some (.aload_n 0, (0, 0, 0)) := by decide +kernel
theorem i_122_2 : a_ins 122 2 = some (.getfield 9, (6, 3, 470)) := by decide +kernel
theorem i_122_5 : a_ins 122 5 = some (.iconst 0, (0, 0, 0)) := by decide +kernel
theorem i_122_6 : a_ins 122 6 = some (.iload_n 1, (0, 0, 0)) := by decide +kernel
theorem i_122_7 : a_ins 122 7 = some (.bipush 12, (0, 0, 0)) := by decide +kernel
theorem i_122_9 : a_ins 122 9 = some (.imul, (0, 0, 0)) := by decide +kernel
theorem i_122_10 : a_ins 122 10 = some (.iload_n 2, (0, 0, 0)) := by decide +kernel
theorem i_122_11 : a_ins 122 11 = some (.invokevirtual 97, (0, 118, 4)) := by decide +kernel
theorem i_122_14 : a_ins 122 14 = some (.ireturn, (0, 0, 0)) := by decide +kernel
theorem i_123_0 : a_ins 123 0 = some (.aload_n 0, (0, 0, 0)) := by decide +kernel
theorem i_123_1 : a_ins 123 1 = some (.getfield 32, (10, 3, 731)) := by decide +kernel
theorem i_123_4 : a_ins 123 4 = some (.iload_n 1, (0, 0, 0)) := by decide +kernel
theorem i_123_5 : a_ins 123 5 = some (.iload_n 2, (0, 0, 0)) := by decide +kernel
theorem i_123_6 : a_ins 123 6 = some (.invokevirtual 127, (0, 77, 2)) := by decide +kernel
theorem i_123_9 : a_ins 123 9 = some (.istore_n 3, (0, 0, 0)) := by decide +kernel
theorem i_123_10 : a_ins 123 10 = some (.iload_n 3, (0, 0, 0)) := by decide +kernel
theorem i_123_11 : a_ins 123 11 = some (.iconst (-1), (0, 0, 0)) := by decide +kernel
theorem i_123_12 : a_ins 123 12 = some (.if_icmp .eq 28, (0, 0, 0)) := by decide +kernel
theorem i_123_15 : a_ins 123 15 = some (.aload_n 0, (0, 0, 0)) := by decide +kernel
theorem i_123_16 : a_ins 123 16 = some (.getfield 32, (10, 3, 731)) := by decide +kernel
theorem i_123_19 : a_ins 123 19 = some (.getfield 149, (2, 6, 363)) := by decide +kernel
theorem i_123_22 : a_ins 123 22 = some (.iload_n 3, (0, 0, 0)) := by decide +kernel
theorem i_123_23 : a_ins 123 23 = some (.iaload, (0, 0, 0)) := by decide +kernel
theorem i_123_24 : a_ins 123 24 = some (.iconst (-1), (0, 0, 0)) := by decide +kernel
theorem i_123_25 : a_ins 123 25 = some (.if_icmp .eq 15, (0, 0, 0)) := by decide +kernel
theorem i_123_28 : a_ins 123 28 = some (.aload_n 0, (0, 0, 0)) := by decide +kernel
theorem i_123_29 : a_ins 123 29 = some (.getfield 25, (10, 2, 730)) := by decide +kernel
theorem i_123_32 : a_ins 123 32 = some (.getfield 198, (4, 3, 323)) := by decide +kernel
theorem i_123_35 : a_ins 123 35 = some (.bipush 60, (0, 0, 0)) := by decide +kernel
theorem i_123_37 : a_ins 123 37 = some (.if_icmp .lt 5, (0, 0, 0)) := by decide +kernel
theorem i_123_40 : a_ins 123 40 = some (.iconst (-1), (0, 0, 0)) := by decide +kernel
theorem i_123_41 : a_ins 123 41 = some (.ireturn, (0, 0, 0)) := by decide +kernel
theorem i_123_42 : a_ins 123 42 = some (.aload_n 0, (0, 0, 0)) := by decide +kernel
theorem i_123_43 : a_ins 123 43 = some (.getfield 32, (10, 3, 731)) := by decide +kernel
theorem i_123_46 : a_ins 123 46 = some (.getfield 149, (2, 6, 363)) := by decide +kernel
theorem i_123_49 : a_ins 123 49 = some (.iload_n 3, (0, 0, 0)) := by decide +kernel
theorem i_123_50 : a_ins 123 50 = some (.iaload, (0, 0, 0)) := by decide +kernel
theorem i_123_51 : a_ins 123 51 = some (.istore 4, (0, 0, 0)) := by decide +kernel
theorem i_123_53 : a_ins 123 53 = some (.aload_n 0, (0, 0, 0)) := by decide +kernel
theorem i_123_54 : a_ins 123 54 = some (.getfield 52, (10, 6, 734)) := by decide +kernel
theorem i_123_57 : a_ins 123 57 = some (.getfield 199, (0, 5, 187)) := by decide +kernel
theorem i_123_60 : a_ins 123 60 = some (.iload 4, (0, 0, 0)) := by decide +kernel
theorem i_123_62 : a_ins 123 62 = some (.dup2, (0, 0, 0)) := by decide +kernel
theorem i_123_63 : a_ins 123 63 = some (.iaload, (0, 0, 0)) := by decide +kernel
theorem i_123_64 : a_ins 123 64 = some (.iconst 1, (0, 0, 0)) := by decide +kernel
theorem i_123_65 : a_ins 123 65 = some (.iadd, (0, 0, 0)) := by decide +kernel
theorem i_123_66 : a_ins 123 66 = some (.iastore, (0, 0, 0)) := by decide +kernel
theorem i_123_67 : a_ins 123 67 = some (.aload_n 0, (0, 0, 0)) := by decide +kernel
theorem i_123_68 : a_ins 123 68 = some (.getfield 25, (10, 2, 730)) := by decide +kernel
theorem i_123_71 : a_ins 123 71 = some (.iload_n 1, (0, 0, 0)) := by decide +kernel
theorem i_123_72 : a_ins 123 72 = some (.iload 4, (0, 0, 0)) := by decide +kernel
theorem i_123_74 : a_ins 123 74 = some (.invokevirtual 202, (0, 124, 2)) := by decide +kernel
theorem i_123_77 : a_ins 123 77 = some (.istore 5, (0, 0, 0)) := by decide +kernel
theorem i_123_79 : a_ins 123 79 = some (.aload_n 0, (0, 0, 0)) := by decide +kernel
theorem i_123_80 : a_ins 123 80 = some (.invokevirtual 75, (0, 12, 0)) := by decide +kernel
theorem i_123_83 : a_ins 123 83 = some (.iload 5, (0, 0, 0)) := by decide +kernel
theorem i_123_85 : a_ins 123 85 = some (.ireturn, (0, 0, 0)) := by decide +kernel
theorem i_124_0 : a_ins 124 0 = some (.aload_n 0, (0, 0, 0)) := by decide +kernel
theorem i_124_1 : a_ins 124 1 = some (.getfield 22, (4, 3, 322)) := by decide +kernel
theorem i_124_4 : a_ins 124 4 = some (.bipush 60, (0, 0, 0)) := by decide +kernel
theorem i_124_6 : a_ins 124 6 = some (.if_icmp .lt 5, (0, 0, 0)) := by decide +kernel
theorem i_124_9 : a_ins 124 9 = some (.iconst (-1), (0, 0, 0)) := by decide +kernel
theorem i_124_10 : a_ins 124 10 = some (.ireturn, (0, 0, 0)) := by decide +kernel
theorem i_124_11 : a_ins 124 11 = some (.aload_n 0, (0, 0, 0)) := by decide +kernel
theorem i_124_12 : a_ins 124 12 = some (.getfield 9, (4, 0, 317)) := by decide +kernel
theorem i_124_15 : a_ins 124 15 = some (.aload_n 0, (0, 0, 0)) := by decide +kernel
theorem i_124_16 : a_ins 124 16 = some (.getfield 22, (4, 3, 322)) := by decide +kernel
theorem i_124_19 : a_ins 124 19 = some (.iload_n 1, (0, 0, 0)) := by decide +kernel
theorem i_124_20 : a_ins 124 20 = some (.iastore, (0, 0, 0)) := by decide +kernel
theorem i_124_21 : a_ins 124 21 = some (.aload_n 0, (0, 0, 0)) := by decide +kernel
theorem i_124_22 : a_ins 124 22 = some (.getfield 15, (4, 1, 318)) := by decide +kernel
theorem i_124_25 : a_ins 124 25 = some (.aload_n 0, (0, 0, 0)) := by decide +kernel
theorem i_124_26 : a_ins 124 26 = some (.getfield 22, (4, 3, 322)) := by decide +kernel
theorem i_124_29 : a_ins 124 29 = some (.iload_n 2, (0, 0, 0)) := by decide +kernel
theorem i_124_30 : a_ins 124 30 = some (.iastore, (0, 0, 0)) := by decide +kernel
theorem i_124_31 : a_ins 124 31 = some (.aload_n 0, (0, 0, 0)) := by decide +kernel
theorem i_124_32 : a_ins 124 32 = some (.getfield 18, (4, 2, 320)) := by decide +kernel
theorem i_124_35 : a_ins 124 35 = some (.aload_n 0, (0, 0, 0)) := by decide +kernel
theorem i_124_36 : a_ins 124 36 = some (.getfield 22, (4, 3, 322)) := by decide +kernel
theorem i_124_39 : a_ins 124 39 = some (.iconst 0, (0, 0, 0)) := by decide +kernel
theorem i_124_40 : a_ins 124 40 = some (.bastore, (0, 0, 0)) := by decide +kernel
theorem i_124_41 : a_ins 124 41 = some (.aload_n 0, (0, 0, 0)) := by decide +kernel
theorem i_124_42 : a_ins 124 42 = some (.dup, (0, 0, 0)) := by decide +kernel
theorem i_124_43 : a_ins 124 43 = some (.getfield 22, (4, 3, 322)) := by decide +kernel
theorem i_124_46 : a_ins 124 46 = some (.iconst 1, (0, 0, 0)) := by decide +kernel
theorem i_124_47 : a_ins 124 47 = some (.iadd, (0, 0, 0)) := by decide +kernel
theorem i_124_48 : a_ins 124 48 = some (.putfield 22, (4, 3, 322)) := by decide +kernel
theorem i_124_51 : a_ins 124 51 = some (.aload_n 0, (0, 0, 0)) := by decide +kernel
theorem i_124_52 : a_ins 124 52 = some (.getfield 22, (4, 3, 322)) := by decide +kernel
theorem i_124_55 : a_ins 124 55 = some (.iconst 1, (0, 0, 0)) := by decide +kernel
theorem i_124_56 : a_ins 124 56 = some (.isub, (0, 0, 0)) := by decide +kernel
theorem i_124_57 : a_ins 124 57 = some (.ireturn, (0, 0, 0)) := by decide +kernel
theorem i_125_0 : a_ins 125 0 = some (.aload_n 0, (0, 0, 0)) := by decide +kernel
theorem i_125_1 : a_ins 125 1 = some (.getfield 25, (10, 2, 730)) := by decide +kernel
theorem i_125_4 : a_ins 125 4 = some (.iload_n 1, (0, 0, 0)) := by decide +kernel
theorem i_125_5 : a_ins 125 5 = some (.invokevirtual 205, (0, 126, 1)) := by decide +kernel
theorem i_125_8 : a_ins 125 8 = some (.ifCond .ne 5, (0, 0, 0)) := by decide +kernel
theorem i_125_11 : a_ins 125 11 = some (.iconst 0, (0, 0, 0)) := by decide +kernel
theorem i_125_12 : a_ins 125 12 = some (.ireturn, (0, 0, 0)) := by decide +kernel
theorem i_125_13 : a_ins 125 13 = some (.aload_n 0, (0, 0, 0)) := by decide +kernel
theorem i_125_14 : a_ins 125 14 = some (.getfield 25, (10, 2, 730)) := by decide +kernel
theorem i_125_17 : a_ins 125 17 = some (.getfield 208, (4, 2, 321)) := by decide +kernel
theorem i_125_20 : a_ins 125 20 = some (.iload_n 1, (0, 0, 0)) := by decide +kernel
theorem i_125_21 : a_ins 125 21 = some (.iconst 1, (0, 0, 0)) := by decide +kernel
theorem i_125_22 : a_ins 125 22 = some (.bastore, (0, 0, 0)) := by decide +kernel
theorem i_125_23 : a_ins 125 23 = some (.aload_n 0, (0, 0, 0)) := by decide +kernel
theorem i_125_24 : a_ins 125 24 = some (.getfield 52, (10, 6, 734)) := by decide +kernel
theorem i_125_27 : a_ins 125 27 = some (.getfield 199, (0, 5, 187)) := by decide +kernel
theorem i_125_30 : a_ins 125 30 = some (.aload_n 0, (0, 0, 0)) := by decide +kernel
theorem i_125_31 : a_ins 125 31 = some (.getfield 25, (10, 2, 730)) := by decide +kernel
theorem i_125_34 : a_ins 125 34 = some (.getfield 212, (4, 1, 319)) := by decide +kernel
theorem i_125_37 : a_ins 125 37 = some (.iload_n 1, (0, 0, 0)) := by decide +kernel
theorem i_125_38 : a_ins 125 38 = some (.iaload, (0, 0, 0)) := by decide +kernel
theorem i_125_39 : a_ins 125 39 = some (.dup2, (0, 0, 0)) := by decide +kernel
theorem i_125_40 : a_ins 125 40 = some (.iaload, (0, 0, 0)) := by decide +kernel
theorem i_125_41 : a_ins 125 41 = some (.iconst 1, (0, 0, 0)) := by decide +kernel
theorem i_125_42 : a_ins 125 42 = some (.isub, (0, 0, 0)) := by decide +kernel
theorem i_125_43 : a_ins 125 43 = some (.iastore, (0, 0, 0)) := by decide +kernel
theorem i_125_44 : a_ins 125 44 = some (.aload_n 0, (0, 0, 0)) := by decide +kernel
theorem i_125_45 : a_ins 125 45 = some (.invokevirtual 75, (0, 12, 0)) := by decide +kernel
theorem i_125_48 : a_ins 125 48 = some (.iconst 1, (0, 0, 0)) := by decide +kernel
theorem i_125_49 : a_ins 125 49 = some (.ireturn, (0, 0, 0)) := by decide +kernel
theorem i_126_0 : a_ins 126 0 = some (.iload_n 1, (0, 0, 0)) := by decide +kernel
theorem i_126_1 : a_ins 126 1 = some (.ifCond .lt 24, (0, 0, 0)) := by decide +kernel
theorem i_126_4 : a_ins 126 4 = some (.iload_n 1, (0, 0, 0)) := by decide +kernel
theorem i_126_5 : a_ins 126 5 = some (.aload_n 0, (0, 0, 0)) := by decide +kernel
theorem i_126_6 : a_ins 126 6 = some (.getfield 22, (4, 3, 322)) := by decide +kernel
theorem i_126_9 : a_ins 126 9 = some (.if_icmp .ge 16, (0, 0, 0)) := by decide +kernel
theorem i_126_12 : a_ins 126 12 = some (.aload_n 0, (0, 0, 0)) := by decide +kernel
theorem i_126_13 : a_ins 126 13 = some (.getfield 18, (4, 2, 320)) := by decide +kernel
theorem i_126_16 : a_ins 126 16 = some (.iload_n 1, (0, 0, 0)) := by decide +kernel
theorem i_126_17 : a_ins 126 17 = some (.baload, (0, 0, 0)) := by decide +kernel
theorem i_126_18 : a_ins 126 18 = some (.ifCond .ne 7, (0, 0, 0)) := by decide +kernel
theorem i_126_21 : a_ins 126 21 = some (.iconst 1, (0, 0, 0)) := by decide +kernel
theorem i_126_22 : a_ins 126 22 = some (.goto 4, (0, 0, 0)) := by decide +kernel
theorem i_126_25 : a_ins 126 25 = some (.iconst 0, (0, 0, 0)) := by decide +kernel
theorem i_126_26 : a_ins 126 26 = some (.ireturn, (0, 0, 0)) := by decide +kernel
theorem i_127_0 : a_ins 127 0 = some (.iload_n 1, (0, 0, 0)) := by decide +kernel
theorem i_127_1 : a_ins 127 1 = some (.invokestatic 170, (1, 104, 1)) := by decide +kernel
theorem i_127_4 : a_ins 127 4 = some (.ifCond .eq 24, (0, 0, 0)) := by decide +kernel
theorem i_127_7 : a_ins 127 7 = some (.aload_n 0, (0, 0, 0)) := by decide +kernel
theorem i_127_8 : a_ins 127 8 = some (.getfield 41, (10, 4, 732)) := by decide +kernel
theorem i_127_11 : a_ins 127 11 = some (.invokevirtual 160, (0, 101, 0)) := by decide +kernel
theorem i_127_14 : a_ins 127 14 = some (.ifCond .eq 14, (0, 0, 0)) := by decide +kernel
theorem i_127_17 : a_ins 127 17 = some (.aload_n 0, (0, 0, 0)) := by decide +kernel
theorem i_127_18 : a_ins 127 18 = some (.getfield 41, (10, 4, 732)) := by decide +kernel
theorem i_127_21 : a_ins 127 21 = some (.iload_n 1, (0, 0, 0)) := by decide +kernel
theorem i_127_22 : a_ins 127 22 = some (.invokevirtual 213, (0, 128, 1)) := by decide +kernel
theorem i_127_25 : a_ins 127 25 = some (.goto 4, (0, 0, 0)) := by decide +kernel
theorem i_127_28 : a_ins 127 28 = some (.iconst (-1), (0, 0, 0)) := by decide +kernel
theorem i_127_29 : a_ins 127 29 = some (.ireturn, (0, 0, 0)) := by decide +kernel
theorem i_128_0 : a_ins 128 0 = some (.iconst (-1), (0, 0, 0)) := by decide +kernel
theorem i_128_1 : a_ins 128 1 = some (.istore_n 2, (0, 0, 0)) := by decide +kernel
theorem i_128_2 : a_ins 128 2 = some (.iconst (-1), (0, 0, 0)) := by decide +kernel
theorem i_128_3 : a_ins 128 3 = some (.istore_n 3, (0, 0, 0)) := by decide +kernel
theorem i_128_4 : a_ins 128 4 = some (.iconst 0, (0, 0, 0)) := by decide +kernel
theorem i_128_5 : a_ins 128 5 = some (.istore 4, (0, 0, 0)) := by decide +kernel
theorem i_128_7 : a_ins 128 7 = some (.iload 4, (0, 0, 0)) := by decide +kernel
theorem i_128_9 : a_ins 128 9 = some (.aload_n 0, (0, 0, 0)) := by decide +kernel
theorem i_128_10 : a_ins 128 10 = some (.getfield 42, (6, 0, 467)) := by decide +kernel
theorem i_128_13 : a_ins 128 13 = some (.getfield 64, (2, 8, 368)) := by decide +kernel
theorem i_128_16 : a_ins 128 16 = some (.if_icmp .ge 40, (0, 0, 0)) := by decide +kernel
theorem i_128_19 : a_ins 128 19 = some (.aload_n 0, (0, 0, 0)) := by decide +kernel
theorem i_128_20 : a_ins 128 20 = some (.iload 4, (0, 0, 0)) := by decide +kernel
theorem i_128_22 : a_ins 128 22 = some (.iload_n 1, (0, 0, 0)) := by decide +kernel
theorem i_128_23 : a_ins 128 23 = some (.invokevirtual 108, (0, 116, 2)) := by decide +kernel
theorem i_128_26 : a_ins 128 26 = some (.ifCond .ne 24, (0, 0, 0)) := by decide +kernel
theorem i_128_29 : a_ins 128 29 = some (.aload_n 0, (0, 0, 0)) := by decide +kernel
theorem i_128_30 : a_ins 128 30 = some (.iload 4, (0, 0, 0)) := by decide +kernel
theorem i_128_32 : a_ins 128 32 = some (.iload_n 1, (0, 0, 0)) := by decide +kernel
theorem i_128_33 : a_ins 128 33 = some (.invokevirtual 111, (0, 129, 2)) := by decide +kernel
theorem i_128_36 : a_ins 128 36 = some (.istore 5, (0, 0, 0)) := by decide +kernel
theorem i_128_38 : a_ins 128 38 = some (.iload 5, (0, 0, 0)) := by decide +kernel
theorem i_128_40 : a_ins 128 40 = some (.iload_n 3, (0, 0, 0)) := by decide +kernel
theorem i_128_41 : a_ins 128 41 = some (.if_icmp .le 9, (0, 0, 0)) := by decide +kernel
theorem i_128_44 : a_ins 128 44 = some (.iload 5, (0, 0, 0)) := by decide +kernel
theorem i_128_46 : a_ins 128 46 = some (.istore_n 3, (0, 0, 0)) := by decide +kernel
theorem i_128_47 : a_ins 128 47 = some (.iload 4, (0, 0, 0)) := by decide +kernel
theorem i_128_49 : a_ins 128 49 = some (.istore_n 2, (0, 0, 0)) := by decide +kernel
theorem i_128_50 : a_ins 128 50 = some (.iinc 4 1, (0, 0, 0)) := by decide +kernel
theorem i_128_53 : a_ins 128 53 = some (.goto (-46), (0, 0, 0)) := by decide +kernel
theorem i_128_56 : a_ins 128 56 = some (.iload_n 2, (0, 0, 0)) := by decide +kernel
theorem i_128_57 : a_ins 128 57 = some (.ireturn, (0, 0, 0)) := by decide +kernel
theorem i_129_0 : a_ins 129 0 = some (.iload_n 1, (0, 0, 0)) := by decide +kernel
theorem i_129_1 : a_ins 129 1 = some (.sipush 168, (0, 0, 0)) := by decide +kernel
theorem i_129_4 : a_ins 129 4 = some (.imul, (0, 0, 0)) := by decide +kernel
theorem i_129_5 : a_ins 129 5 = some (.istore_n 3, (0, 0, 0)) := by decide +kernel
theorem i_129_6 : a_ins 129 6 = some (.aload_n 0, (0, 0, 0)) := by decide +kernel
theorem i_129_7 : a_ins 129 7 = some (.getfield 21, (6, 6, 474)) := by decide +kernel
theorem i_129_10 : a_ins 129 10 = some (.iload_n 1, (0, 0, 0)) := by decide +kernel
theorem i_129_11 : a_ins 129 11 = some (.baload, (0, 0, 0)) := by decide +kernel
theorem i_129_12 : a_ins 129 12 = some (.ifCond .ne 30, (0, 0, 0)) := by decide +kernel
theorem i_129_15 : a_ins 129 15 = some (.aload_n 0, (0, 0, 0)) := by decide +kernel
theorem i_129_16 : a_ins 129 16 = some (.getfield 51, (6, 1, 468)) := by decide +kernel
theorem i_129_19 : a_ins 129 19 = some (.iload_n 1, (0, 0, 0)) := by decide +kernel
theorem i_129_20 : a_ins 129 20 = some (.aload_n 0, (0, 0, 0)) := by decide +kernel
theorem i_129_21 : a_ins 129 21 = some (.getfield 15, (6, 4, 471)) := by decide +kernel
theorem i_129_24 : a_ins 129 24 = some (.iload_n 1, (0, 0, 0)) := by decide +kernel
theorem i_129_25 : a_ins 129 25 = some (.iaload, (0, 0, 0)) := by decide +kernel
theorem i_129_26 : a_ins 129 26 = some (.aload_n 0, (0, 0, 0)) := by decide +kernel
theorem i_129_27 : a_ins 129 27 = some (.getfield 18, (6, 5, 473)) := by decide +kernel
theorem i_129_30 : a_ins 129 30 = some (.iload_n 3, (0, 0, 0)) := by decide +kernel
theorem i_129_31 : a_ins 129 31 = some (.invokevirtual 73, (0, 84, 4)) := by decide +kernel
theorem i_129_34 : a_ins 129 34 = some (.pop, (0, 0, 0)) := by decide +kernel
theorem i_129_35 : a_ins 129 35 = some (.aload_n 0, (0, 0, 0)) := by decide +kernel
theorem i_129_36 : a_ins 129 36 = some (.getfield 21, (6, 6, 474)) := by decide +kernel
theorem i_129_39 : a_ins 129 39 = some (.iload_n 1, (0, 0, 0)) := by decide +kernel
theorem i_129_40 : a_ins 129 40 = some (.iconst 1, (0, 0, 0)) := by decide +kernel
theorem i_129_41 : a_ins 129 41 = some (.bastore, (0, 0, 0)) := by decide +kernel
theorem i_129_42 : a_ins 129 42 = some (.iconst 0, (0, 0, 0)) := by decide +kernel
theorem i_129_43 : a_ins 129 43 = some (.istore 4, (0, 0, 0)) := by decide +kernel
theorem i_129_45 : a_ins 129 45 = some (.iconst 0, (0, 0, 0)) := by decide +kernel
theorem i_129_46 : a_ins 129 46 = some (.istore 5, (0, 0, 0)) := by decide +kernel
theorem i_129_48 : a_ins 129 48 = some (.iload 5, (0, 0, 0)) := by decide +kernel
theorem i_129_50 : a_ins 129 50 = some (.aload_n 0, (0, 0, 0)) := by decide +kernel
theorem i_129_51 : a_ins 129 51 = some (.getfield 42, (6, 0, 467)) := by decide +kernel
theorem i_129_54 : a_ins 129 54 = some (.getfield 64, (2, 8, 368)) := by decide +kernel
theorem i_129_57 : a_ins 129 57 = some (.if_icmp .ge 27, (0, 0, 0)) := by decide +kernel
theorem i_129_60 : a_ins 129 60 = some (.aload_n 0, (0, 0, 0)) := by decide +kernel
theorem i_129_61 : a_ins 129 61 = some (.aload_n 0, (0, 0, 0)) := by decide +kernel
theorem i_129_62 : a_ins 129 62 = some (.getfield 18, (6, 5, 473)) := by decide +kernel
theorem i_129_65 : a_ins 129 65 = some (.iload_n 3, (0, 0, 0)) := by decide +kernel
theorem i_129_66 : a_ins 129 66 = some (.iload 5, (0, 0, 0)) := by decide +kernel
theorem i_129_68 : a_ins 129 68 = some (.iload_n 2, (0, 0, 0)) := by decide +kernel
theorem i_129_69 : a_ins 129 69 = some (.invokevirtual 93, (0, 117, 4)) := by decide +kernel
theorem i_129_72 : a_ins 129 72 = some (.ifCond .eq 6, (0, 0, 0)) := by decide +kernel
theorem i_129_75 : a_ins 129 75 = some (.iinc 4 1, (0, 0, 0)) := by decide +kernel
theorem i_129_78 : a_ins 129 78 = some (.iinc 5 1, (0, 0, 0)) := by decide +kernel
theorem i_129_81 : a_ins 129 81 = some (.goto (-33), (0, 0, 0)) := by decide +kernel
theorem i_129_84 : a_ins 129 84 = some (.iload 4, (0, 0, 0)) := by decide +kernel
theorem i_129_86 : a_ins 129 86 = some (.ireturn, (0, 0, 0)) := by decide +kernel
theorem i_130_0 : a_ins 130 0 = some (.iload_n 1, (0, 0, 0)) := by decide +kernel
theorem i_130_1 : a_ins 130 1 = some (.ifCond .lt 17, (0, 0, 0)) := by decide +kernel
theorem i_130_4 : a_ins 130 4 = some (.iload_n 1, (0, 0, 0)) := by decide +kernel
theorem i_130_5 : a_ins 130 5 = some (.aload_n 0, (0, 0, 0)) := by decide +kernel
theorem i_130_6 : a_ins 130 6 = some (.getfield 52, (10, 6, 734)) := by decide +kernel
theorem i_130_9 : a_ins 130 9 = some (.getfield 95, (0, 0, 170)) := by decide +kernel
theorem i_130_12 : a_ins 130 12 = some (.getfield 99, (3, 2, 157)) := by decide +kernel
theorem i_130_15 : a_ins 130 15 = some (.if_icmp .lt 5, (0, 0, 0)) := by decide +kernel
theorem i_130_18 : a_ins 130 18 = some (.iconst (-1), (0, 0, 0)) := by decide +kernel
theorem i_130_19 : a_ins 130 19 = some (.ireturn, (0, 0, 0)) := by decide +kernel
theorem i_130_20 : a_ins 130 20 = some (.iload_n 2, (0, 0, 0)) := by decide +kernel
theorem i_130_21 : a_ins 130 21 = some (.tableswitch 102 0 5 #[39, 49, 59, 69, 82, 92], (0, 0, 0)) := by decide +kernel
theorem i_130_60 : a_ins 130 60 = some (.aload_n 0, (0, 0, 0)) := by decide +kernel
theorem i_130_61 : a_ins 130 61 = some (.getfield 52, (10, 6, 734)) := by decide +kernel
theorem i_130_64 : a_ins 130 64 = some (.getfield 216, (0, 1, 175)) := by decide +kernel
theorem i_130_67 : a_ins 130 67 = some (.iload_n 1, (0, 0, 0)) := by decide +kernel
theorem i_130_68 : a_ins 130 68 = some (.iaload, (0, 0, 0)) := by decide +kernel
theorem i_130_69 : a_ins 130 69 = some (.ireturn, (0, 0, 0)) := by decide +kernel
theorem i_130_70 : a_ins 130 70 = some (.aload_n 0, (0, 0, 0)) := by decide +kernel
theorem i_130_71 : a_ins 130 71 = some (.getfield 52, (10, 6, 734)) := by decide +kernel
theorem i_130_74 : a_ins 130 74 = some (.getfield 217, (0, 2, 178)) := by decide +kernel
theorem i_130_77 : a_ins 130 77 = some (.iload_n 1, (0, 0, 0)) := by decide +kernel
theorem i_130_78 : a_ins 130 78 = some (.iaload, (0, 0, 0)) := by decide +kernel
theorem i_130_79 : a_ins 130 79 = some (.ireturn, (0, 0, 0)) := by decide +kernel
theorem i_130_80 : a_ins 130 80 = some (.aload_n 0, (0, 0, 0)) := by decide +kernel
theorem i_130_81 : a_ins 130 81 = some (.getfield 52, (10, 6, 734)) := by decide +kernel
theorem i_130_84 : a_ins 130 84 = some (.getfield 199, (0, 5, 187)) := by decide +kernel
theorem i_130_87 : a_ins 130 87 = some (.iload_n 1, (0, 0, 0)) := by decide +kernel
theorem i_130_88 : a_ins 130 88 = some (.iaload, (0, 0, 0)) := by decide +kernel
theorem i_130_89 : a_ins 130 89 = some (.ireturn, (0, 0, 0)) := by decide +kernel
theorem i_130_90 : a_ins 130 90 = some (.aload_n 0, (0, 0, 0)) := by decide +kernel
theorem i_130_91 : a_ins 130 91 = some (.getfield 52, (10, 6, 734)) := by decide +kernel
theorem i_130_94 : a_ins 130 94 = some (.getfield 95, (0, 0, 170)) := by decide +kernel
theorem i_130_97 : a_ins 130 97 = some (.getfield 146, (3, 1, 153)) := by decide +kernel
theorem i_130_100 : a_ins 130 100 = some (.iload_n 1, (0, 0, 0)) := by decide +kernel
theorem i_130_101 : a_ins 130 101 = some (.iaload, (0, 0, 0)) := by decide +kernel
theorem i_130_102 : a_ins 130 102 = some (.ireturn, (0, 0, 0)) := by decide +kernel
theorem i_130_103 : a_ins 130 103 = some (.aload_n 0, (0, 0, 0)) := by decide +kernel
theorem i_130_104 : a_ins 130 104 = some (.getfield 52, (10, 6, 734)) := by decide +kernel
theorem i_130_107 : a_ins 130 107 = some (.getfield 218, (0, 3, 181)) := by decide +kernel
theorem i_130_110 : a_ins 130 110 = some (.iload_n 1, (0, 0, 0)) := by decide +kernel
theorem i_130_111 : a_ins 130 111 = some (.iaload, (0, 0, 0)) := by decide +kernel
theorem i_130_112 : a_ins 130 112 = some (.ireturn, (0, 0, 0)) := by decide +kernel
theorem i_130_113 : a_ins 130 113 = some (.aload_n 0, (0, 0, 0)) := by decide +kernel
theorem i_130_114 : a_ins 130 114 = some (.getfield 52, (10, 6, 734)) := by decide +kernel
theorem i_130_117 : a_ins 130 117 = some (.getfield 221, (0, 4, 184)) := by decide +kernel
theorem i_130_120 : a_ins 130 120 = some (.iload_n 1, (0, 0, 0)) := by decide +kernel
theorem i_130_121 : a_ins 130 121 = some (.iaload, (0, 0, 0)) := by decide +kernel
theorem i_130_122 : a_ins 130 122 = some (.ireturn, (0, 0, 0)) := by decide +kernel
theorem i_130_123 : a_ins 130 123 = some (.iconst (-1), (0, 0, 0)) := by decide +kernel
theorem i_130_124 : a_ins 130 124 = some (.ireturn, (0, 0, 0)) := by decide +kernel
theorem i_131_0 : a_ins 131 0 = some (.iload_n 1, (0, 0, 0)) := by decide +kernel
theorem i_131_1 : a_ins 131 1 = some (.tableswitch 138 0 9 #[55, 66, 77, 88, 96, 104, 112, 120, 125, 133], (0, 0, 0)) := by decide +kernel
theorem i_131_56 : a_ins 131 56 = some (.aload_n 0, (0, 0, 0)) := by decide +kernel
theorem i_131_57 : a_ins 131 57 = some (.getfield 52, (10, 6, 734)) := by decide +kernel
theorem i_131_60 : a_ins 131 60 = some (.getfield 95, (0, 0, 170)) := by decide +kernel
theorem i_131_63 : a_ins 131 63 = some (.getfield 99, (3, 2, 157)) := by decide +kernel
theorem i_131_66 : a_ins 131 66 = some (.ireturn, (0, 0, 0)) := by decide +kernel
theorem i_131_67 : a_ins 131 67 = some (.aload_n 0, (0, 0, 0)) := by decide +kernel
theorem i_131_68 : a_ins 131 68 = some (.getfield 52, (10, 6, 734)) := by decide +kernel
theorem i_131_71 : a_ins 131 71 = some (.getfield 224, (0, 6, 191)) := by decide +kernel
theorem i_131_74 : a_ins 131 74 = some (.getfield 99, (3, 2, 157)) := by decide +kernel
theorem i_131_77 : a_ins 131 77 = some (.ireturn, (0, 0, 0)) := by decide +kernel
theorem i_131_78 : a_ins 131 78 = some (.aload_n 0, (0, 0, 0)) := by decide +kernel
theorem i_131_79 : a_ins 131 79 = some (.getfield 52, (10, 6, 734)) := by decide +kernel
theorem i_131_82 : a_ins 131 82 = some (.getfield 227, (0, 9, 200)) := by decide +kernel
theorem i_131_85 : a_ins 131 85 = some (.getfield 99, (3, 2, 157)) := by decide +kernel
theorem i_131_88 : a_ins 131 88 = some (.ireturn, (0, 0, 0)) := by decide +kernel
theorem i_131_89 : a_ins 131 89 = some (.aload_n 0, (0, 0, 0)) := by decide +kernel
theorem i_131_90 : a_ins 131 90 = some (.getfield 52, (10, 6, 734)) := by decide +kernel
theorem i_131_93 : a_ins 131 93 = some (.getfield 230, (0, 12, 207)) := by decide +kernel
theorem i_131_96 : a_ins 131 96 = some (.ireturn, (0, 0, 0)) := by decide +kernel
theorem i_131_97 : a_ins 131 97 = some (.aload_n 0, (0, 0, 0)) := by decide +kernel
theorem i_131_98 : a_ins 131 98 = some (.getfield 59, (10, 7, 735)) := by decide +kernel
theorem i_131_101 : a_ins 131 101 = some (.getfield 111, (5, 5, 527)) := by decide +kernel
theorem i_131_104 : a_ins 131 104 = some (.ireturn, (0, 0, 0)) := by decide +kernel
theorem i_131_105 : a_ins 131 105 = some (.aload_n 0, (0, 0, 0)) := by decide +kernel
theorem i_131_106 : a_ins 131 106 = some (.getfield 59, (10, 7, 735)) := by decide +kernel
theorem i_131_109 : a_ins 131 109 = some (.getfield 183, (5, 4, 525)) := by decide +kernel
theorem i_131_112 : a_ins 131 112 = some (.ireturn, (0, 0, 0)) := by decide +kernel
theorem i_131_113 : a_ins 131 113 = some (.aload_n 0, (0, 0, 0)) := by decide +kernel
theorem i_131_114 : a_ins 131 114 = some (.getfield 59, (10, 7, 735)) := by decide +kernel
theorem i_131_117 : a_ins 131 117 = some (.getfield 233, (5, 6, 530)) := by decide +kernel
theorem i_131_120 : a_ins 131 120 = some (.ireturn, (0, 0, 0)) := by decide +kernel
theorem i_131_121 : a_ins 131 121 = some (.aload_n 0, (0, 0, 0)) := by decide +kernel
theorem i_131_122 : a_ins 131 122 = some (.getfield 72, (10, 11, 739)) := by decide +kernel
theorem i_131_125 : a_ins 131 125 = some (.ireturn, (0, 0, 0)) := by decide +kernel
theorem i_131_126 : a_ins 131 126 = some (.aload_n 0, (0, 0, 0)) := by decide +kernel
theorem i_131_127 : a_ins 131 127 = some (.getfield 25, (10, 2, 730)) := by decide +kernel
theorem i_131_130 : a_ins 131 130 = some (.getfield 198, (4, 3, 323)) := by decide +kernel
theorem i_131_133 : a_ins 131 133 = some (.ireturn, (0, 0, 0)) := by decide +kernel
theorem i_131_134 : a_ins 131 134 = some (.aload_n 0, (0, 0, 0)) := by decide +kernel
theorem i_131_135 : a_ins 131 135 = some (.getfield 45, (10, 5, 733)) := by decide +kernel
theorem i_131_138 : a_ins 131 138 = some (.ireturn, (0, 0, 0)) := by decide +kernel
theorem i_131_139 : a_ins 131 139 = some (.iconst (-1), (0, 0, 0)) := by decide +kernel
theorem i_131_140 : a_ins 131 140 = some (.ireturn, (0, 0, 0)) := by decide +kernel
theorem i_132_0 : a_ins 132 0 = some (.aload_n 0, (0, 0, 0)) := by decide +kernel
theorem i_132_1 : a_ins 132 1 = some (.invokespecial 51, (4, 0, 0)) := by decide +kernel
theorem i_132_4 : a_ins 132 4 = some (.aload_n 0, (0, 0, 0)) := by decide +kernel
theorem i_132_5 : a_ins 132 5 = some (.sipush 2020, (0, 0, 0)) := by decide +kernel
theorem i_132_8 : a_ins 132 8 = some (.newarray .byte, (0, 0, 0)) := by decide +kernel
theorem i_132_10 : a_ins 132 10 = some (.putfield 57, (11, 0, 1206)) := by decide +kernel
theorem i_132_13 : a_ins 132 13 = some (.aload_n 0, (0, 0, 0)) := by decide +kernel
theorem i_132_14 : a_ins 132 14 = some (.sipush 2000, (0, 0, 0)) := by decide +kernel
theorem i_132_17 : a_ins 132 17 = some (.newarray .byte, (0, 0, 0)) := by decide +kernel
theorem i_132_19 : a_ins 132 19 = some (.putfield 7, (11, 1, 1207)) := by decide +kernel
theorem i_132_22 : a_ins 132 22 = some (.aload_n 0, (0, 0, 0)) := by decide +kernel
theorem i_132_23 : a_ins 132 23 = some (.iconst (-1), (0, 0, 0)) := by decide +kernel
theorem i_132_24 : a_ins 132 24 = some (.putfield 18, (11, 5, 1211)) := by decide +kernel
theorem i_132_27 : a_ins 132 27 = some (.aload_n 0, (0, 0, 0)) := by decide +kernel
theorem i_132_28 : a_ins 132 28 = some (.sipush 1920, (0, 0, 0)) := by decide +kernel
theorem i_132_31 : a_ins 132 31 = some (.newarray .byte, (0, 0, 0)) := by decide +kernel
theorem i_132_33 : a_ins 132 33 = some (.putfield 60, (11, 11, 1217)) := by decide +kernel
theorem i_132_36 : a_ins 132 36 = some (.aload_n 0, (0, 0, 0)) := by decide +kernel
theorem i_132_37 : a_ins 132 37 = some (.sipush 480, (0, 0, 0)) := by decide +kernel
theorem i_132_40 : a_ins 132 40 = some (.newarray .byte, (0, 0, 0)) := by decide +kernel
theorem i_132_42 : a_ins 132 42 = some (.putfield 63, (11, 12, 1218)) := by decide +kernel
theorem i_132_45 : a_ins 132 45 = some (.aload_n 0, (0, 0, 0)) := by decide +kernel
theorem i_132_46 : a_ins 132 46 = some (.sipush 480, (0, 0, 0)) := by decide +kernel
theorem i_132_49 : a_ins 132 49 = some (.newarray .byte, (0, 0, 0)) := by decide +kernel
theorem i_132_51 : a_ins 132 51 = some (.putfield 66, (11, 13, 1219)) := by decide +kernel
theorem i_132_54 : a_ins 132 54 = some (.aload_n 0, (0, 0, 0)) := by decide +kernel
theorem i_132_55 : a_ins 132 55 = some (.sipush 480, (0, 0, 0)) := by decide +kernel
theorem i_132_58 : a_ins 132 58 = some (.newarray .byte, (0, 0, 0)) := by decide +kernel
theorem i_132_60 : a_ins 132 60 = some (.putfield 69, (11, 14, 1220)) := by decide +kernel
theorem i_132_63 : a_ins 132 63 = some (.aload_n 0, (0, 0, 0)) := by decide +kernel
theorem i_132_64 : a_ins 132 64 = some (.sipush 160, (0, 0, 0)) := by decide +kernel
theorem i_132_67 : a_ins 132 67 = some (.newarray .int, (0, 0, 0)) := by decide +kernel
theorem i_132_69 : a_ins 132 69 = some (.putfield 72, (11, 15, 1221)) := by decide +kernel
theorem i_132_72 : a_ins 132 72 = some (.aload_n 0, (0, 0, 0)) := by decide +kernel
theorem i_132_73 : a_ins 132 73 = some (.sipush 160, (0, 0, 0)) := by decide +kernel
theorem i_132_76 : a_ins 132 76 = some (.newarray .int, (0, 0, 0)) := by decide +kernel
theorem i_132_78 : a_ins 132 78 = some (.putfield 76, (11, 16, 1222)) := by decide +kernel
theorem i_132_81 : a_ins 132 81 = some (.aload_n 0, (0, 0, 0)) := by decide +kernel
theorem i_132_82 : a_ins 132 82 = some (.sipush 160, (0, 0, 0)) := by decide +kernel
theorem i_132_85 : a_ins 132 85 = some (.newarray .int, (0, 0, 0)) := by decide +kernel
theorem i_132_87 : a_ins 132 87 = some (.putfield 79, (11, 17, 1223)) := by decide +kernel
theorem i_132_90 : a_ins 132 90 = some (.aload_n 0, (0, 0, 0)) := by decide +kernel
theorem i_132_91 : a_ins 132 91 = some (.sipush 160, (0, 0, 0)) := by decide +kernel
theorem i_132_94 : a_ins 132 94 = some (.newarray .int, (0, 0, 0)) := by decide +kernel
theorem i_132_96 : a_ins 132 96 = some (.putfield 82, (11, 18, 1224)) := by decide +kernel
theorem i_132_99 : a_ins 132 99 = some (.aload_n 0, (0, 0, 0)) := by decide +kernel
theorem i_132_100 : a_ins 132 100 = some (.sipush 160, (0, 0, 0)) := by decide +kernel
theorem i_132_103 : a_ins 132 103 = some (.newarray .int, (0, 0, 0)) := by decide +kernel
theorem i_132_105 : a_ins 132 105 = some (.putfield 85, (11, 19, 1225)) := by decide +kernel
theorem i_132_108 : a_ins 132 108 = some (.aload_n 0, (0, 0, 0)) := by decide +kernel
theorem i_132_109 : a_ins 132 109 = some (.bipush 40, (0, 0, 0)) := by decide +kernel
theorem i_132_111 : a_ins 132 111 = some (.newarray .int, (0, 0, 0)) := by decide +kernel
theorem i_132_113 : a_ins 132 113 = some (.putfield 88, (11, 20, 1226)) := by decide +kernel
theorem i_132_116 : a_ins 132 116 = some (.aload_n 0, (0, 0, 0)) := by decide +kernel
theorem i_132_117 : a_ins 132 117 = some (.bipush 40, (0, 0, 0)) := by decide +kernel
theorem i_132_119 : a_ins 132 119 = some (.newarray .int, (0, 0, 0)) := by decide +kernel
theorem i_132_121 : a_ins 132 121 = some (.putfield 91, (11, 21, 1227)) := by decide +kernel
theorem i_132_124 : a_ins 132 124 = some (.aload_n 0, (0, 0, 0)) := by decide +kernel
theorem i_132_125 : a_ins 132 125 = some (.bipush 40, (0, 0, 0)) := by decide +kernel
theorem i_132_127 : a_ins 132 127 = some (.newarray .int, (0, 0, 0)) := by decide +kernel
theorem i_132_129 : a_ins 132 129 = some (.putfield 94, (11, 22, 1228)) := by decide +kernel
theorem i_132_132 : a_ins 132 132 = some (.aload_n 0, (0, 0, 0)) := by decide +kernel
theorem i_132_133 : a_ins 132 133 = some (.bipush 40, (0, 0, 0)) := by decide +kernel
theorem i_132_135 : a_ins 132 135 = some (.newarray .int, (0, 0, 0)) := by decide +kernel
theorem i_132_137 : a_ins 132 137 = some (.putfield 97, (11, 23, 1229)) := by decide +kernel
theorem i_132_140 : a_ins 132 140 = some (.aload_n 0, (0, 0, 0)) := by decide +kernel
theorem i_132_141 : a_ins 132 141 = some (.sipush 128, (0, 0, 0)) := by decide +kernel
theorem i_132_144 : a_ins 132 144 = some (.newarray .int, (0, 0, 0)) := by decide +kernel
theorem i_132_146 : a_ins 132 146 = some (.putfield 100, (11, 24, 1230)) := by decide +kernel
theorem i_132_149 : a_ins 132 149 = some (.aload_n 0, (0, 0, 0)) := by decide +kernel
theorem i_132_150 : a_ins 132 150 = some (.iconst 2, (0, 0, 0)) := by decide +kernel
theorem i_132_151 : a_ins 132 151 = some (.newarray .int, (0, 0, 0)) := by decide +kernel
theorem i_132_153 : a_ins 132 153 = some (.putfield 103, (11, 25, 1231)) := by decide +kernel
theorem i_132_156 : a_ins 132 156 = some (.aload_n 0, (0, 0, 0)) := by decide +kernel
theorem i_132_157 : a_ins 132 157 = some (.iconst 2, (0, 0, 0)) := by decide +kernel
theorem i_132_158 : a_ins 132 158 = some (.newarray .int, (0, 0, 0)) := by decide +kernel
theorem i_132_160 : a_ins 132 160 = some (.putfield 106, (11, 26, 1232)) := by decide +kernel
theorem i_132_163 : a_ins 132 163 = some (.aload_n 0, (0, 0, 0)) := by decide +kernel
theorem i_132_164 : a_ins 132 164 = some (.iconst 2, (0, 0, 0)) := by decide +kernel
theorem i_132_165 : a_ins 132 165 = some (.newarray .int, (0, 0, 0)) := by decide +kernel
theorem i_132_167 : a_ins 132 167 = some (.putfield 109, (11, 27, 1233)) := by decide +kernel
theorem i_132_170 : a_ins 132 170 = some (.aload_n 0, (0, 0, 0)) := by decide +kernel
theorem i_132_171 : a_ins 132 171 = some (.iconst 2, (0, 0, 0)) := by decide +kernel
theorem i_132_172 : a_ins 132 172 = some (.newarray .int, (0, 0, 0)) := by decide +kernel
theorem i_132_174 : a_ins 132 174 = some (.putfield 112, (11, 28, 1234)) := by decide +kernel
theorem i_132_177 : a_ins 132 177 = some (.aload_n 0, (0, 0, 0)) := by decide +kernel
theorem i_132_178 : a_ins 132 178 = some (.iconst 2, (0, 0, 0)) := by decide +kernel
theorem i_132_179 : a_ins 132 179 = some (.newarray .int, (0, 0, 0)) := by decide +kernel
theorem i_132_181 : a_ins 132 181 = some (.putfield 115, (11, 29, 1235)) := by decide +kernel
theorem i_132_184 : a_ins 132 184 = some (.aload_n 0, (0, 0, 0)) := by decide +kernel
theorem i_132_185 : a_ins 132 185 = some (.iconst 2, (0, 0, 0)) := by decide +kernel
theorem i_132_186 : a_ins 132 186 = some (.newarray .int, (0, 0, 0)) := by decide +kernel
theorem i_132_188 : a_ins 132 188 = some (.putfield 118, (11, 30, 1236)) := by decide +kernel
theorem i_132_191 : a_ins 132 191 = some (.aload_n 0, (0, 0, 0)) := by decide +kernel
theorem i_132_192 : a_ins 132 192 = some (.iconst 2, (0, 0, 0)) := by decide +kernel
theorem i_132_193 : a_ins 132 193 = some (.newarray .boolean, (0, 0, 0)) := by decide +kernel
theorem i_132_195 : a_ins 132 195 = some (.putfield 121, (11, 31, 1237)) := by decide +kernel
theorem i_132_198 : a_ins 132 198 = some (.aload_n 0, (0, 0, 0)) := by decide +kernel
theorem i_132_199 : a_ins 132 199 = some (.sipush 200, (0, 0, 0)) := by decide +kernel
theorem i_132_202 : a_ins 132 202 = some (.newarray .byte, (0, 0, 0)) := by decide +kernel
theorem i_132_204 : a_ins 132 204 = some (.putfield 125, (11, 34, 1240)) := by decide +kernel
theorem i_132_207 : a_ins 132 207 = some (.aload_n 0, (0, 0, 0)) := by decide +kernel
theorem i_132_208 : a_ins 132 208 = some (.bipush 14, (0, 0, 0)) := by decide +kernel
theorem i_132_210 : a_ins 132 210 = some (.newarray .int, (0, 0, 0)) := by decide +kernel
theorem i_132_212 : a_ins 132 212 = some (.putfield 128, (11, 35, 1241)) := by decide +kernel
theorem i_132_215 : a_ins 132 215 = some (.aload_n 0, (0, 0, 0)) := by decide +kernel
theorem i_132_216 : a_ins 132 216 = some (.bipush 14, (0, 0, 0)) := by decide +kernel
theorem i_132_218 : a_ins 132 218 = some (.newarray .int, (0, 0, 0)) := by decide +kernel
theorem i_132_220 : a_ins 132 220 = some (.putfield 131, (11, 36, 1242)) := by decide +kernel
theorem i_132_223 : a_ins 132 223 = some (.aload_n 0, (0, 0, 0)) := by decide +kernel
theorem i_132_224 : a_ins 132 224 = some (.bipush 14, (0, 0, 0)) := by decide +kernel
theorem i_132_226 : a_ins 132 226 = some (.newarray .boolean, (0, 0, 0)) := by decide +kernel
theorem i_132_228 : a_ins 132 228 = some (.putfield 134, (11, 37, 1243)) := by decide +kernel
theorem i_132_231 : a_ins 132 231 = some (.aload_n 0, (0, 0, 0)) := by decide +kernel
theorem i_132_232 : a_ins 132 232 = some (.bipush 14, (0, 0, 0)) := by decide +kernel
theorem i_132_234 : a_ins 132 234 = some (.newarray .int, (0, 0, 0)) := by decide +kernel
theorem i_132_236 : a_ins 132 236 = some (.putfield 137, (11, 42, 1248)) := by decide +kernel
theorem i_132_239 : a_ins 132 239 = some (.aload_n 0, (0, 0, 0)) := by decide +kernel
theorem i_132_240 : a_ins 132 240 = some (.bipush 14, (0, 0, 0)) := by decide +kernel
theorem i_132_242 : a_ins 132 242 = some (.newarray .int, (0, 0, 0)) := by decide +kernel
theorem i_132_244 : a_ins 132 244 = some (.putfield 140, (11, 43, 1249)) := by decide +kernel
theorem i_132_247 : a_ins 132 247 = some (.aload_n 0, (0, 0, 0)) := by decide +kernel
theorem i_132_248 : a_ins 132 248 = some (.bipush 14, (0, 0, 0)) := by decide +kernel
theorem i_132_250 : a_ins 132 250 = some (.newarray .boolean, (0, 0, 0)) := by decide +kernel
theorem i_132_252 : a_ins 132 252 = some (.putfield 143, (11, 44, 1250)) := by decide +kernel
theorem i_132_255 : a_ins 132 255 = some (.aload_n 0, (0, 0, 0)) := by decide +kernel
theorem i_132_256 : a_ins 132 256 = some (.iconst (-1), (0, 0, 0)) := by decide +kernel
theorem i_132_257 : a_ins 132 257 = some (.putfield 146, (11, 45, 1251)) := by decide +kernel
theorem i_132_260 : a_ins 132 260 = some (.aload_n 0, (0, 0, 0)) := by decide +kernel
theorem i_132_261 : a_ins 132 261 = some (.sipush 2184, (0, 0, 0)) := by decide +kernel
theorem i_132_264 : a_ins 132 264 = some (.newarray .byte, (0, 0, 0)) := by decide +kernel
theorem i_132_266 : a_ins 132 266 = some (.putfield 149, (11, 46, 1252)) := by decide +kernel
theorem i_132_269 : a_ins 132 269 = some (.aload_n 0, (0, 0, 0)) := by decide +kernel
theorem i_132_270 : a_ins 132 270 = some (.bipush 14, (0, 0, 0)) := by decide +kernel
theorem i_132_272 : a_ins 132 272 = some (.newarray .int, (0, 0, 0)) := by decide +kernel
theorem i_132_274 : a_ins 132 274 = some (.putfield 152, (11, 47, 1253)) := by decide +kernel
theorem i_132_277 : a_ins 132 277 = some (.aload_n 0, (0, 0, 0)) := by decide +kernel
theorem i_132_278 : a_ins 132 278 = some (.sipush 182, (0, 0, 0)) := by decide +kernel
theorem i_132_281 : a_ins 132 281 = some (.newarray .int, (0, 0, 0)) := by decide +kernel
theorem i_132_283 : a_ins 132 283 = some (.putfield 155, (11, 48, 1254)) := by decide +kernel
theorem i_132_286 : a_ins 132 286 = some (.aload_n 0, (0, 0, 0)) := by decide +kernel
theorem i_132_287 : a_ins 132 287 = some (.sipush 182, (0, 0, 0)) := by decide +kernel
theorem i_132_290 : a_ins 132 290 = some (.newarray .int, (0, 0, 0)) := by decide +kernel
theorem i_132_292 : a_ins 132 292 = some (.putfield 158, (11, 49, 1255)) := by decide +kernel
theorem i_132_295 : a_ins 132 295 = some (.aload_n 0, (0, 0, 0)) := by decide +kernel
theorem i_132_296 : a_ins 132 296 = some (.sipush 182, (0, 0, 0)) := by decide +kernel
theorem i_132_299 : a_ins 132 299 = some (.newarray .int, (0, 0, 0)) := by decide +kernel
theorem i_132_301 : a_ins 132 301 = some (.putfield 161, (11, 50, 1256)) := by decide +kernel
theorem i_132_304 : a_ins 132 304 = some (.aload_n 0, (0, 0, 0)) := by decide +kernel
theorem i_132_305 : a_ins 132 305 = some (.sipush 182, (0, 0, 0)) := by decide +kernel
theorem i_132_308 : a_ins 132 308 = some (.newarray .int, (0, 0, 0)) := by decide +kernel
theorem i_132_310 : a_ins 132 310 = some (.putfield 164, (11, 51, 1257)) := by decide +kernel
theorem i_132_313 : a_ins 132 313 = some (.aload_n 0, (0, 0, 0)) := by decide +kernel
theorem i_132_314 : a_ins 132 314 = some (.bipush 80, (0, 0, 0)) := by decide +kernel
theorem i_132_316 : a_ins 132 316 = some (.newarray .int, (0, 0, 0)) := by decide +kernel
theorem i_132_318 : a_ins 132 318 = some (.putfield 167, (11, 52, 1258)) := by decide +kernel
theorem i_132_321 : a_ins 132 321 = some (.aload_n 0, (0, 0, 0)) := by decide +kernel
theorem i_132_322 : a_ins 132 322 = some (.sipush 18928, (0, 0, 0)) := by decide +kernel
theorem i_132_325 : a_ins 132 325 = some (.newarray .int, (0, 0, 0)) := by decide +kernel
theorem i_132_327 : a_ins 132 327 = some (.putfield 170, (11, 54, 1260)) := by decide +kernel
theorem i_132_330 : a_ins 132 330 = some (.aload_n 0, (0, 0, 0)) := by decide +kernel
theorem i_132_331 : a_ins 132 331 = some (.sipush 18928, (0, 0, 0)) := by decide +kernel
theorem i_132_334 : a_ins 132 334 = some (.newarray .int, (0, 0, 0)) := by decide +kernel
theorem i_132_336 : a_ins 132 336 = some (.putfield 173, (11, 55, 1261)) := by decide +kernel
theorem i_132_339 : a_ins 132 339 = some (.aload_n 0, (0, 0, 0)) := by decide +kernel
theorem i_132_340 : a_ins 132 340 = some (.iconst (-1), (0, 0, 0)) := by decide +kernel
theorem i_132_341 : a_ins 132 341 = some (.putfield 176, (11, 58, 1264)) := by decide +kernel
theorem i_132_344 : a_ins 132 344 = some (.aload_n 0, (0, 0, 0)) := by decide +kernel
theorem i_132_345 : a_ins 132 345 = some (.bipush 14, (0, 0, 0)) := by decide +kernel
theorem i_132_347 : a_ins 132 347 = some (.newarray .int, (0, 0, 0)) := by decide +kernel
theorem i_132_349 : a_ins 132 349 = some (.putfield 179, (11, 60, 1266)) := by decide +kernel
theorem i_132_352 : a_ins 132 352 = some (.aload_n 0, (0, 0, 0)) := by decide +kernel
theorem i_132_353 : a_ins 132 353 = some (.ldc 182, (0, 3, 1205)) := by decide +kernel
theorem i_132_355 : a_ins 132 355 = some (.newarray .long, (0, 0, 0)) := by decide +kernel
theorem i_132_357 : a_ins 132 357 = some (.putfield 183, (11, 61, 1267)) := by decide +kernel
theorem i_132_360 : a_ins 132 360 = some (.aload_n 0, (0, 0, 0)) := by decide +kernel
theorem i_132_361 : a_ins 132 361 = some (.bipush 60, (0, 0, 0)) := by decide +kernel
theorem i_132_363 : a_ins 132 363 = some (.newarray .int, (0, 0, 0)) := by decide +kernel
theorem i_132_365 : a_ins 132 365 = some (.putfield 187, (11, 62, 1268)) := by decide +kernel
theorem i_132_368 : a_ins 132 368 = some (.aload_n 0, (0, 0, 0)) := by decide +kernel
theorem i_132_369 : a_ins 132 369 = some (.bipush 60, (0, 0, 0)) := by decide +kernel
theorem i_132_371 : a_ins 132 371 = some (.newarray .int, (0, 0, 0)) := by decide +kernel
theorem i_132_373 : a_ins 132 373 = some (.putfield 190, (11, 63, 1269)) := by decide +kernel
theorem i_132_376 : a_ins 132 376 = some (.aload_n 0, (0, 0, 0)) := by decide +kernel
theorem i_132_377 : a_ins 132 377 = some (.bipush 60, (0, 0, 0)) := by decide +kernel
theorem i_132_379 : a_ins 132 379 = some (.newarray .int, (0, 0, 0)) := by decide +kernel
theorem i_132_381 : a_ins 132 381 = some (.putfield 193, (11, 64, 1270)) := by decide +kernel
theorem i_132_384 : a_ins 132 384 = some (.aload_n 0, (0, 0, 0)) := by decide +kernel
theorem i_132_385 : a_ins 132 385 = some (.bipush 60, (0, 0, 0)) := by decide +kernel
theorem i_132_387 : a_ins 132 387 = some (.newarray .boolean, (0, 0, 0)) := by decide +kernel
theorem i_132_389 : a_ins 132 389 = some (.putfield 196, (11, 65, 1271)) := by decide +kernel
theorem i_132_392 : a_ins 132 392 = some (.iconst 0, (0, 0, 0)) := by decide +kernel
theorem i_132_393 : a_ins 132 393 = some (.istore_n 1, (0, 0, 0)) := by decide +kernel
theorem i_132_394 : a_ins 132 394 = some (.iload_n 1, (0, 0, 0)) := by decide +kernel
theorem i_132_395 : a_ins 132 395 = some (.sipush 128, (0, 0, 0)) := by decide +kernel
theorem i_132_398 : a_ins 132 398 = some (.if_icmp .ge 17, (0, 0, 0)) := by decide +kernel
theorem i_132_401 : a_ins 132 401 = some (.aload_n 0, (0, 0, 0)) := by decide +kernel
theorem i_132_402 : a_ins 132 402 = some (.getfield 100, (11, 24, 1230)) := by decide +kernel
theorem i_132_405 : a_ins 132 405 = some (.iload_n 1, (0, 0, 0)) := by decide +kernel
theorem i_132_406 : a_ins 132 406 = some (.bipush (-2), (0, 0, 0)) := by decide +kernel
theorem i_132_408 : a_ins 132 408 = some (.iastore, (0, 0, 0)) := by decide +kernel
theorem i_132_409 : a_ins 132 409 = some (.iinc 1 1, (0, 0, 0)) := by decide +kernel
theorem i_132_412 : a_ins 132 412 = some (.goto (-18), (0, 0, 0)) := by decide +kernel
theorem i_132_415 : a_ins 132 415 = some (.aload_n 0, (0, 0, 0)) := by decide +kernel
theorem i_132_416 : a_ins 132 416 = some (.getfield 118, (11, 30, 1236)) := by decide +kernel
theorem i_132_419 : a_ins 132 419 = some (.iconst 0, (0, 0, 0)) := by decide +kernel
theorem i_132_420 : a_ins 132 420 = some (.bipush 50, (0, 0, 0)) := by decide +kernel
theorem i_132_422 : a_ins 132 422 = some (.iastore, (0, 0, 0)) := by decide +kernel
theorem i_132_423 : a_ins 132 423 = some (.return_, (0, 0, 0)) := by decide +kernel
theorem i_133_0 : a_ins 133 0 = some (.aload_n 0, (0, 0, 0)) := by decide +kernel
theorem i_133_1 : a_ins 133 1 = some (.iconst 0, (0, 0, 0)) := by decide +kernel
theorem i_133_2 : a_ins 133 2 = some (.putfield 15, (11, 4, 1210)) := by decide +kernel
theorem i_133_5 : a_ins 133 5 = some (.aload_n 0, (0, 0, 0)) := by decide +kernel
theorem i_133_6 : a_ins 133 6 = some (.iconst (-1), (0, 0, 0)) := by decide +kernel
theorem i_133_7 : a_ins 133 7 = some (.putfield 18, (11, 5, 1211)) := by decide +kernel
theorem i_133_10 : a_ins 133 10 = some (.aload_n 0, (0, 0, 0)) := by decide +kernel
theorem i_133_11 : a_ins 133 11 = some (.invokevirtual 212, (0, 134, 0)) := by decide +kernel
theorem i_133_14 : a_ins 133 14 = some (.aload_n 0, (0, 0, 0)) := by decide +kernel
theorem i_133_15 : a_ins 133 15 = some (.iconst 0, (0, 0, 0)) := by decide +kernel
theorem i_133_16 : a_ins 133 16 = some (.putfield 21, (11, 7, 1213)) := by decide +kernel
theorem i_133_19 : a_ins 133 19 = some (.aload_n 0, (0, 0, 0)) := by decide +kernel
theorem i_133_20 : a_ins 133 20 = some (.iconst 1, (0, 0, 0)) := by decide +kernel
theorem i_133_21 : a_ins 133 21 = some (.aload_n 0, (0, 0, 0)) := by decide +kernel
theorem i_133_22 : a_ins 133 22 = some (.getfield 215, (11, 32, 1238)) := by decide +kernel
theorem i_133_25 : a_ins 133 25 = some (.isub, (0, 0, 0)) := by decide +kernel
theorem i_133_26 : a_ins 133 26 = some (.putfield 218, (11, 33, 1239)) := by decide +kernel
theorem i_133_29 : a_ins 133 29 = some (.aload_n 0, (0, 0, 0)) := by decide +kernel
theorem i_133_30 : a_ins 133 30 = some (.getfield 103, (11, 25, 1231)) := by decide +kernel
theorem i_133_33 : a_ins 133 33 = some (.aload_n 0, (0, 0, 0)) := by decide +kernel
theorem i_133_34 : a_ins 133 34 = some (.getfield 218, (11, 33, 1239)) := by decide +kernel
theorem i_133_37 : a_ins 133 37 = some (.iconst 0, (0, 0, 0)) := by decide +kernel
theorem i_133_38 : a_ins 133 38 = some (.iastore, (0, 0, 0)) := by decide +kernel
theorem i_133_39 : a_ins 133 39 = some (.aload_n 0, (0, 0, 0)) := by decide +kernel
theorem i_133_40 : a_ins 133 40 = some (.getfield 106, (11, 26, 1232)) := by decide +kernel
theorem i_133_43 : a_ins 133 43 = some (.aload_n 0, (0, 0, 0)) := by decide +kernel
theorem i_133_44 : a_ins 133 44 = some (.getfield 218, (11, 33, 1239)) := by decide +kernel
theorem i_133_47 : a_ins 133 47 = some (.iconst 0, (0, 0, 0)) := by decide +kernel
theorem i_133_48 : a_ins 133 48 = some (.iastore, (0, 0, 0)) := by decide +kernel
theorem i_133_49 : a_ins 133 49 = some (.aload_n 0, (0, 0, 0)) := by decide +kernel
theorem i_133_50 : a_ins 133 50 = some (.getfield 109, (11, 27, 1233)) := by decide +kernel
theorem i_133_53 : a_ins 133 53 = some (.aload_n 0, (0, 0, 0)) := by decide +kernel
theorem i_133_54 : a_ins 133 54 = some (.getfield 218, (11, 33, 1239)) := by decide +kernel
theorem i_133_57 : a_ins 133 57 = some (.iconst 0, (0, 0, 0)) := by decide +kernel
theorem i_133_58 : a_ins 133 58 = some (.iastore, (0, 0, 0)) := by decide +kernel
theorem i_133_59 : a_ins 133 59 = some (.aload_n 0, (0, 0, 0)) := by decide +kernel
theorem i_133_60 : a_ins 133 60 = some (.getfield 112, (11, 28, 1234)) := by decide +kernel
theorem i_133_63 : a_ins 133 63 = some (.aload_n 0, (0, 0, 0)) := by decide +kernel
theorem i_133_64 : a_ins 133 64 = some (.getfield 218, (11, 33, 1239)) := by decide +kernel
theorem i_133_67 : a_ins 133 67 = some (.iconst 0, (0, 0, 0)) := by decide +kernel
theorem i_133_68 : a_ins 133 68 = some (.iastore, (0, 0, 0)) := by decide +kernel
