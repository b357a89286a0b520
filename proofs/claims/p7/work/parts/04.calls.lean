theorem k_c0 : k_ok (((1, 3), (4, 0, 0)), (128, 0, 0)) = true := by decide +kernel
theorem k_c1 : k_ok (((1, 15), (2, 2, 1)), (133, 134, 0)) = true := by decide +kernel
theorem k_c2 : k_ok (((1, 24), (3, 6, 0)), (313, 314, 0)) = true := by decide +kernel
theorem k_c3 : k_ok (((1, 31), (3, 7, 0)), (335, 336, 0)) = true := by decide +kernel
theorem k_c4 : k_ok (((1, 38), (2, 8, 1)), (391, 392, 0)) = true := by decide +kernel
theorem k_c5 : k_ok (((1, 51), (3, 3, 0)), (507, 140, 0)) = true := by decide +kernel
theorem k_c6 : k_ok (((1, 58), (3, 11, 0)), (510, 511, 0)) = true := by decide +kernel
theorem k_c7 : k_ok (((1, 75), (0, 12, 0)), (546, 548, 0)) = true := by decide +kernel
theorem k_c8 : k_ok (((1, 78), (0, 36, 1)), (770, 772, 7)) = true := by decide +kernel
theorem k_c9 : k_ok (((1, 82), (0, 39, 1)), (782, 783, 784)) = true := by decide +kernel
theorem k_c10 : k_ok (((1, 91), (0, 66, 0)), (923, 924, 925)) = true := by decide +kernel
theorem k_c11 : k_ok (((1, 94), (0, 67, 0)), (927, 928, 929)) = true := by decide +kernel
theorem k_c12 : k_ok (((1, 105), (0, 69, 3)), (936, 937, 938)) = true := by decide +kernel
theorem k_c13 : k_ok (((1, 108), (0, 71, 0)), (947, 948, 949)) = true := by decide +kernel
theorem k_c14 : k_ok (((1, 117), (0, 34, 2)), (724, 725, 726)) = true := by decide +kernel
theorem k_c15 : k_ok (((1, 121), (0, 75, 1)), (963, 964, 965)) = true := by decide +kernel
theorem k_c16 : k_ok (((1, 127), (0, 77, 2)), (971, 972, 973)) = true := by decide +kernel
theorem k_c17 : k_ok (((1, 152), (0, 78, 1)), (976, 977, 978)) = true := by decide +kernel
theorem k_c18 : k_ok (((1, 156), (0, 32, 2)), (1067, 632, 633)) = true := by decide +kernel
theorem k_c19 : k_ok (((1, 160), (0, 101, 0)), (1072, 1073, 1074)) = true := by decide +kernel
theorem k_c20 : k_ok (((1, 170), (1, 104, 1)), (1084, 1085, 0)) = true := by decide +kernel
theorem k_c21 : k_ok (((1, 175), (0, 105, 1)), (1088, 1089, 1090)) = true := by decide +kernel
theorem k_c22 : k_ok (((1, 179), (0, 116, 2)), (1134, 1135, 1136)) = true := by decide +kernel
theorem k_c23 : k_ok (((1, 186), (0, 121, 1)), (1154, 1155, 1156)) = true := by decide +kernel
theorem k_c24 : k_ok (((1, 192), (0, 122, 2)), (1158, 1159, 1160)) = true := by decide +kernel
theorem k_c25 : k_ok (((1, 202), (0, 124, 2)), (1166, 1167, 1168)) = true := by decide +kernel
theorem k_c26 : k_ok (((1, 205), (0, 126, 1)), (1174, 1175, 1176)) = true := by decide +kernel
theorem k_c27 : k_ok (((1, 213), (0, 128, 1)), (1182, 1183, 1184)) = true := by decide +kernel
theorem k_c28 : k_ok (((1, 237), (0, 13, 1)), (550, 551, 552)) = true := by decide +kernel
theorem k_c29 : k_ok (((1, 240), (0, 14, 4)), (554, 555, 556)) = true := by decide +kernel
theorem k_c30 : k_ok (((2, 3), (4, 0, 0)), (142, 0, 0)) = true := by decide +kernel
theorem k_c31 : k_ok (((2, 11), (2, 4, 1)), (145, 146, 0)) = true := by decide +kernel
theorem k_c32 : k_ok (((2, 72), (1, 41, 2)), (790, 791, 0)) = true := by decide +kernel
theorem k_c33 : k_ok (((2, 78), (0, 29, 4)), (878, 621, 622)) = true := by decide +kernel
theorem k_c34 : k_ok (((2, 82), (0, 21, 4)), (588, 589, 590)) = true := by decide +kernel
theorem k_c35 : k_ok (((2, 85), (6, 0, 2)), (570, 0, 0)) = true := by decide +kernel
theorem k_c36 : k_ok (((3, 3), (4, 0, 0)), (136, 0, 0)) = true := by decide +kernel
theorem k_c37 : k_ok (((3, 20), (3, 3, 0)), (139, 140, 0)) = true := by decide +kernel
theorem k_c38 : k_ok (((3, 27), (3, 5, 0)), (252, 253, 0)) = true := by decide +kernel
theorem k_c39 : k_ok (((3, 51), (0, 40, 0)), (786, 787, 788)) = true := by decide +kernel
theorem k_c40 : k_ok (((3, 54), (0, 42, 2)), (793, 794, 795)) = true := by decide +kernel
theorem k_c41 : k_ok (((3, 61), (0, 48, 0)), (816, 818, 11)) = true := by decide +kernel
theorem k_c42 : k_ok (((3, 64), (0, 49, 0)), (820, 822, 12)) = true := by decide +kernel
theorem k_c43 : k_ok (((3, 70), (0, 50, 1)), (825, 827, 13)) = true := by decide +kernel
theorem k_c44 : k_ok (((3, 74), (0, 51, 0)), (850, 852, 14)) = true := by decide +kernel
theorem k_c45 : k_ok (((3, 79), (0, 60, 0)), (892, 894, 21)) = true := by decide +kernel
theorem k_c46 : k_ok (((3, 84), (0, 62, 0)), (902, 904, 23)) = true := by decide +kernel
theorem k_c47 : k_ok (((3, 89), (0, 63, 1)), (908, 910, 24)) = true := by decide +kernel
theorem k_c48 : k_ok (((3, 97), (0, 65, 0)), (919, 921, 25)) = true := by decide +kernel
theorem k_c49 : k_ok (((3, 100), (0, 52, 0)), (854, 856, 15)) = true := by decide +kernel
theorem k_c50 : k_ok (((3, 110), (0, 53, 0)), (858, 860, 16)) = true := by decide +kernel
theorem k_c51 : k_ok (((3, 113), (0, 55, 1)), (866, 868, 18)) = true := by decide +kernel
theorem k_c52 : k_ok (((3, 117), (0, 57, 4)), (874, 875, 876)) = true := by decide +kernel
theorem k_c53 : k_ok (((3, 121), (0, 56, 2)), (870, 872, 19)) = true := by decide +kernel
theorem k_c54 : k_ok (((3, 135), (0, 58, 1)), (879, 881, 20)) = true := by decide +kernel
theorem k_c55 : k_ok (((3, 138), (0, 59, 3)), (886, 887, 888)) = true := by decide +kernel
theorem k_c56 : k_ok (((3, 151), (0, 54, 1)), (862, 864, 17)) = true := by decide +kernel
theorem k_c57 : k_ok (((3, 157), (1, 22, 5)), (896, 594, 0)) = true := by decide +kernel
theorem k_c58 : k_ok (((3, 169), (0, 61, 0)), (897, 899, 22)) = true := by decide +kernel
theorem k_c59 : k_ok (((3, 175), (0, 20, 3)), (906, 585, 586)) = true := by decide +kernel
theorem k_a0 : ∀ e ∈ k_T0.zip k_P0, k_ok e = true := List.forall_mem_cons.mpr ⟨k_c0, List.forall_mem_cons.mpr ⟨k_c1, List.forall_mem_cons.mpr ⟨k_c2, List.forall_mem_cons.mpr ⟨k_c3, List.forall_mem_cons.mpr ⟨k_c4, List.forall_mem_cons.mpr ⟨k_c5, List.forall_mem_cons.mpr ⟨k_c6, List.forall_mem_cons.mpr ⟨k_c7, List.forall_mem_cons.mpr ⟨k_c8, List.forall_mem_cons.mpr ⟨k_c9, List.forall_mem_cons.mpr ⟨k_c10, List.forall_mem_cons.mpr ⟨k_c11, List.forall_mem_cons.mpr ⟨k_c12, List.forall_mem_cons.mpr ⟨k_c13, List.forall_mem_cons.mpr ⟨k_c14, List.forall_mem_cons.mpr ⟨k_c15, List.forall_mem_cons.mpr ⟨k_c16, List.forall_mem_cons.mpr ⟨k_c17, List.forall_mem_cons.mpr ⟨k_c18, List.forall_mem_cons.mpr ⟨k_c19, List.forall_mem_cons.mpr ⟨k_c20, List.forall_mem_cons.mpr ⟨k_c21, List.forall_mem_cons.mpr ⟨k_c22, List.forall_mem_cons.mpr ⟨k_c23, List.forall_mem_cons.mpr ⟨k_c24, List.forall_mem_cons.mpr ⟨k_c25, List.forall_mem_cons.mpr ⟨k_c26, List.forall_mem_cons.mpr ⟨k_c27, List.forall_mem_cons.mpr ⟨k_c28, List.forall_mem_cons.mpr ⟨k_c29, List.forall_mem_cons.mpr ⟨k_c30, List.forall_mem_cons.mpr ⟨k_c31, List.forall_mem_cons.mpr ⟨k_c32, List.forall_mem_cons.mpr ⟨k_c33, List.forall_mem_cons.mpr ⟨k_c34, List.forall_mem_cons.mpr ⟨k_c35, List.forall_mem_cons.mpr ⟨k_c36, List.forall_mem_cons.mpr ⟨k_c37, List.forall_mem_cons.mpr ⟨k_c38, List.forall_mem_cons.mpr ⟨k_c39, List.forall_mem_cons.mpr ⟨k_c40, List.forall_mem_cons.mpr ⟨k_c41, List.forall_mem_cons.mpr ⟨k_c42, List.forall_mem_cons.mpr ⟨k_c43, List.forall_mem_cons.mpr ⟨k_c44, List.forall_mem_cons.mpr ⟨k_c45, List.forall_mem_cons.mpr ⟨k_c46, List.forall_mem_cons.mpr ⟨k_c47, List.forall_mem_cons.mpr ⟨k_c48, List.forall_mem_cons.mpr ⟨k_c49, List.forall_mem_cons.mpr ⟨k_c50, List.forall_mem_cons.mpr ⟨k_c51, List.forall_mem_cons.mpr ⟨k_c52, List.forall_mem_cons.mpr ⟨k_c53, List.forall_mem_cons.mpr ⟨k_c54, List.forall_mem_cons.mpr ⟨k_c55, List.forall_mem_cons.mpr ⟨k_c56, List.forall_mem_cons.mpr ⟨k_c57, List.forall_mem_cons.mpr ⟨k_c58, List.forall_mem_cons.mpr ⟨k_c59, fun _ h => absurd h List.not_mem_nil⟩⟩⟩⟩⟩⟩⟩⟩⟩⟩⟩⟩⟩⟩⟩⟩⟩⟩⟩⟩⟩⟩⟩⟩⟩⟩⟩⟩⟩⟩⟩⟩⟩⟩⟩⟩⟩⟩⟩⟩⟩⟩⟩⟩⟩⟩⟩⟩⟩⟩⟩⟩⟩⟩⟩⟩⟩⟩⟩⟩
theorem k_c60 : k_ok (((3, 187), (0, 64, 2)), (913, 914, 915)) = true := by decide +kernel
theorem k_c61 : k_ok (((3, 201), (0, 212, 0)), (829, 654, 655)) = true := by decide +kernel
theorem k_c62 : k_ok (((3, 206), (0, 215, 1)), (830, 831, 832)) = true := by decide +kernel
theorem k_c63 : k_ok (((4, 3), (4, 0, 0)), (338, 0, 0)) = true := by decide +kernel
theorem k_c64 : k_ok (((4, 20), (2, 4, 1)), (340, 146, 0)) = true := by decide +kernel
theorem k_c65 : k_ok (((4, 47), (0, 75, 1)), (975, 964, 965)) = true := by decide +kernel
theorem k_c66 : k_ok (((4, 59), (0, 15, 3)), (558, 560, 1)) = true := by decide +kernel
theorem k_c67 : k_ok (((4, 70), (0, 20, 3)), (584, 585, 586)) = true := by decide +kernel
theorem k_c68 : k_ok (((4, 76), (0, 18, 6)), (573, 575, 2)) = true := by decide +kernel
theorem k_c69 : k_ok (((4, 80), (0, 23, 3)), (596, 598, 3)) = true := by decide +kernel
theorem k_c70 : k_ok (((4, 84), (0, 27, 3)), (611, 613, 4)) = true := by decide +kernel
theorem k_c71 : k_ok (((4, 87), (0, 31, 1)), (627, 629, 6)) = true := by decide +kernel
theorem k_c72 : k_ok (((4, 95), (0, 21, 4)), (600, 589, 590)) = true := by decide +kernel
theorem k_c73 : k_ok (((4, 102), (0, 24, 2)), (601, 602, 603)) = true := by decide +kernel
theorem k_c74 : k_ok (((4, 109), (0, 16, 1)), (562, 563, 564)) = true := by decide +kernel
theorem k_c75 : k_ok (((4, 113), (1, 25, 5)), (605, 606, 0)) = true := by decide +kernel
theorem k_c76 : k_ok (((4, 123), (7, 0, 5)), (615, 0, 0)) = true := by decide +kernel
theorem k_c77 : k_ok (((4, 129), (0, 28, 4)), (616, 618, 5)) = true := by decide +kernel
theorem k_c78 : k_ok (((4, 144), (0, 29, 4)), (620, 621, 622)) = true := by decide +kernel
theorem k_c79 : k_ok (((4, 148), (0, 17, 1)), (566, 567, 568)) = true := by decide +kernel
theorem k_c80 : k_ok (((4, 151), (0, 19, 4)), (577, 578, 579)) = true := by decide +kernel
theorem k_c81 : k_ok (((4, 155), (0, 32, 2)), (631, 632, 633)) = true := by decide +kernel
theorem k_c82 : k_ok (((4, 159), (1, 33, 1)), (635, 636, 0)) = true := by decide +kernel
theorem k_c83 : k_ok (((4, 163), (1, 26, 1)), (723, 609, 0)) = true := by decide +kernel
theorem k_c84 : k_ok (((5, 3), (4, 0, 0)), (148, 0, 0)) = true := by decide +kernel
theorem k_c85 : k_ok (((5, 23), (7, 0, 5)), (581, 0, 0)) = true := by decide +kernel
theorem k_c86 : k_ok (((5, 29), (0, 19, 4)), (890, 578, 579)) = true := by decide +kernel
theorem k_c87 : k_ok (((5, 33), (0, 16, 1)), (592, 563, 564)) = true := by decide +kernel
theorem k_c88 : k_ok (((5, 37), (1, 30, 5)), (624, 625, 0)) = true := by decide +kernel
theorem k_c89 : k_ok (((5, 43), (1, 22, 5)), (593, 594, 0)) = true := by decide +kernel
theorem k_c90 : k_ok (((6, 3), (4, 0, 0)), (316, 0, 0)) = true := by decide +kernel
theorem k_c91 : k_ok (((7, 11), (0, 219, 1)), (639, 640, 641)) = true := by decide +kernel
theorem k_c92 : k_ok (((7, 17), (1, 26, 1)), (608, 609, 0)) = true := by decide +kernel
theorem k_c93 : k_ok (((8, 3), (4, 0, 0)), (513, 0, 0)) = true := by decide +kernel
theorem k_c94 : k_ok (((8, 36), (0, 66, 0)), (940, 924, 925)) = true := by decide +kernel
theorem k_c95 : k_ok (((8, 39), (1, 43, 1)), (941, 798, 0)) = true := by decide +kernel
theorem k_c96 : k_ok (((8, 45), (0, 70, 2)), (942, 944, 26)) = true := by decide +kernel
theorem k_c97 : k_ok (((8, 49), (7, 0, 5)), (946, 0, 0)) = true := by decide +kernel
theorem k_c98 : k_ok (((9, 3), (4, 0, 0)), (394, 0, 0)) = true := by decide +kernel
theorem k_c99 : k_ok (((9, 48), (2, 9, 1)), (397, 398, 0)) = true := by decide +kernel
theorem k_c100 : k_ok (((9, 57), (2, 10, 1)), (445, 446, 0)) = true := by decide +kernel
theorem k_c101 : k_ok (((9, 69), (0, 80, 2)), (984, 985, 986)) = true := by decide +kernel
theorem k_c102 : k_ok (((9, 73), (0, 84, 4)), (1002, 1003, 1004)) = true := by decide +kernel
theorem k_c103 : k_ok (((9, 78), (0, 97, 2)), (1055, 1056, 1057)) = true := by decide +kernel
theorem k_c104 : k_ok (((9, 82), (0, 79, 0)), (980, 982, 27)) = true := by decide +kernel
theorem k_c105 : k_ok (((9, 85), (0, 106, 1)), (1092, 1093, 1094)) = true := by decide +kernel
theorem k_c106 : k_ok (((9, 93), (0, 117, 4)), (1138, 1140, 47)) = true := by decide +kernel
theorem k_c107 : k_ok (((9, 97), (0, 118, 4)), (1142, 1144, 48)) = true := by decide +kernel
theorem k_c108 : k_ok (((9, 104), (0, 119, 2)), (1146, 1147, 1148)) = true := by decide +kernel
theorem k_c109 : k_ok (((9, 108), (0, 116, 2)), (1186, 1135, 1136)) = true := by decide +kernel
theorem k_c110 : k_ok (((9, 111), (0, 129, 2)), (1187, 1189, 49)) = true := by decide +kernel
theorem k_c111 : k_ok (((10, 7), (4, 0, 0)), (448, 0, 0)) = true := by decide +kernel
theorem k_c112 : k_ok (((10, 33), (0, 107, 2)), (1097, 1099, 40)) = true := by decide +kernel
theorem k_c113 : k_ok (((10, 37), (0, 110, 1)), (1109, 1111, 42)) = true := by decide +kernel
theorem k_c114 : k_ok (((10, 47), (0, 111, 1)), (1114, 1116, 43)) = true := by decide +kernel
theorem k_c115 : k_ok (((10, 50), (0, 114, 0)), (1126, 1128, 46)) = true := by decide +kernel
theorem k_c116 : k_ok (((10, 57), (0, 88, 2)), (1101, 1018, 1019)) = true := by decide +kernel
theorem k_c117 : k_ok (((10, 61), (0, 108, 3)), (1102, 1104, 41)) = true := by decide +kernel
theorem k_c118 : k_ok (((10, 68), (1, 109, 4)), (1106, 1107, 0)) = true := by decide +kernel
theorem k_c119 : k_ok (((10, 86), (0, 98, 3)), (1113, 1060, 1061)) = true := by decide +kernel
theorem k_a1 : ∀ e ∈ k_T1.zip k_P1, k_ok e = true := List.forall_mem_cons.mpr ⟨k_c60, List.forall_mem_cons.mpr ⟨k_c61, List.forall_mem_cons.mpr ⟨k_c62, List.forall_mem_cons.mpr ⟨k_c63, List.forall_mem_cons.mpr ⟨k_c64, List.forall_mem_cons.mpr ⟨k_c65, List.forall_mem_cons.mpr ⟨k_c66, List.forall_mem_cons.mpr ⟨k_c67, List.forall_mem_cons.mpr ⟨k_c68, List.forall_mem_cons.mpr ⟨k_c69, List.forall_mem_cons.mpr ⟨k_c70, List.forall_mem_cons.mpr ⟨k_c71, List.forall_mem_cons.mpr ⟨k_c72, List.forall_mem_cons.mpr ⟨k_c73, List.forall_mem_cons.mpr ⟨k_c74, List.forall_mem_cons.mpr ⟨k_c75, List.forall_mem_cons.mpr ⟨k_c76, List.forall_mem_cons.mpr ⟨k_c77, List.forall_mem_cons.mpr ⟨k_c78, List.forall_mem_cons.mpr ⟨k_c79, List.forall_mem_cons.mpr ⟨k_c80, List.forall_mem_cons.mpr ⟨k_c81, List.forall_mem_cons.mpr ⟨k_c82, List.forall_mem_cons.mpr ⟨k_c83, List.forall_mem_cons.mpr ⟨k_c84, List.forall_mem_cons.mpr ⟨k_c85, List.forall_mem_cons.mpr ⟨k_c86, List.forall_mem_cons.mpr ⟨k_c87, List.forall_mem_cons.mpr ⟨k_c88, List.forall_mem_cons.mpr ⟨k_c89, List.forall_mem_cons.mpr ⟨k_c90, List.forall_mem_cons.mpr ⟨k_c91, List.forall_mem_cons.mpr ⟨k_c92, List.forall_mem_cons.mpr ⟨k_c93, List.forall_mem_cons.mpr ⟨k_c94, List.forall_mem_cons.mpr ⟨k_c95, List.forall_mem_cons.mpr ⟨k_c96, List.forall_mem_cons.mpr ⟨k_c97, List.forall_mem_cons.mpr ⟨k_c98, List.forall_mem_cons.mpr ⟨k_c99, List.forall_mem_cons.mpr ⟨k_c100, List.forall_mem_cons.mpr ⟨k_c101, List.forall_mem_cons.mpr ⟨k_c102, List.forall_mem_cons.mpr ⟨k_c103, List.forall_mem_cons.mpr ⟨k_c104, List.forall_mem_cons.mpr ⟨k_c105, List.forall_mem_cons.mpr ⟨k_c106, List.forall_mem_cons.mpr ⟨k_c107, List.forall_mem_cons.mpr ⟨k_c108, List.forall_mem_cons.mpr ⟨k_c109, List.forall_mem_cons.mpr ⟨k_c110, List.forall_mem_cons.mpr ⟨k_c111, List.forall_mem_cons.mpr ⟨k_c112, List.forall_mem_cons.mpr ⟨k_c113, List.forall_mem_cons.mpr ⟨k_c114, List.forall_mem_cons.mpr ⟨k_c115, List.forall_mem_cons.mpr ⟨k_c116, List.forall_mem_cons.mpr ⟨k_c117, List.forall_mem_cons.mpr ⟨k_c118, List.forall_mem_cons.mpr ⟨k_c119, fun _ h => absurd h List.not_mem_nil⟩⟩⟩⟩⟩⟩⟩⟩⟩⟩⟩⟩⟩⟩⟩⟩⟩⟩⟩⟩⟩⟩⟩⟩⟩⟩⟩⟩⟩⟩⟩⟩⟩⟩⟩⟩⟩⟩⟩⟩⟩⟩⟩⟩⟩⟩⟩⟩⟩⟩⟩⟩⟩⟩⟩⟩⟩⟩⟩⟩
theorem k_c120 : k_ok (((10, 89), (0, 112, 1)), (1118, 1120, 44)) = true := by decide +kernel
theorem k_c121 : k_ok (((10, 93), (0, 113, 5)), (1122, 1124, 45)) = true := by decide +kernel
theorem k_c122 : k_ok (((11, 3), (4, 0, 0)), (255, 0, 0)) = true := by decide +kernel
theorem k_c123 : k_ok (((11, 28), (1, 43, 1)), (797, 798, 0)) = true := by decide +kernel
theorem k_c124 : k_ok (((11, 34), (0, 44, 3)), (800, 802, 8)) = true := by decide +kernel
theorem k_c125 : k_ok (((11, 38), (1, 46, 1)), (809, 810, 0)) = true := by decide +kernel
theorem k_c126 : k_ok (((11, 41), (0, 47, 3)), (812, 814, 10)) = true := by decide +kernel
theorem k_c127 : k_ok (((11, 44), (0, 45, 4)), (805, 807, 9)) = true := by decide +kernel
theorem k_c128 : k_ok (((11, 48), (5, 0, 2)), (804, 0, 0)) = true := by decide +kernel
theorem k_c129 : k_ok (((12, 3), (4, 0, 0)), (400, 0, 0)) = true := by decide +kernel
theorem k_c130 : k_ok (((12, 66), (0, 81, 1)), (988, 990, 28)) = true := by decide +kernel
theorem k_c131 : k_ok (((12, 70), (0, 82, 1)), (992, 994, 29)) = true := by decide +kernel
theorem k_c132 : k_ok (((12, 74), (0, 83, 1)), (997, 999, 30)) = true := by decide +kernel
theorem k_c133 : k_ok (((12, 77), (6, 0, 2)), (1001, 0, 0)) = true := by decide +kernel
theorem k_c134 : k_ok (((12, 83), (5, 0, 2)), (996, 0, 0)) = true := by decide +kernel
theorem k_c135 : k_ok (((12, 87), (1, 85, 4)), (1007, 1008, 0)) = true := by decide +kernel
theorem k_c136 : k_ok (((12, 93), (0, 87, 0)), (1013, 1015, 31)) = true := by decide +kernel
theorem k_c137 : k_ok (((12, 96), (0, 93, 2)), (1037, 1039, 36)) = true := by decide +kernel
theorem k_c138 : k_ok (((12, 100), (0, 90, 2)), (1025, 1027, 33)) = true := by decide +kernel
theorem k_c139 : k_ok (((12, 103), (0, 88, 2)), (1017, 1018, 1019)) = true := by decide +kernel
theorem k_c140 : k_ok (((12, 107), (0, 89, 2)), (1021, 1023, 32)) = true := by decide +kernel
theorem k_c141 : k_ok (((12, 111), (0, 91, 1)), (1029, 1031, 34)) = true := by decide +kernel
theorem k_c142 : k_ok (((12, 114), (0, 92, 1)), (1033, 1035, 35)) = true := by decide +kernel
theorem k_c143 : k_ok (((12, 120), (0, 94, 1)), (1041, 1043, 37)) = true := by decide +kernel
theorem k_c144 : k_ok (((12, 123), (1, 41, 2)), (1049, 791, 0)) = true := by decide +kernel
theorem k_c145 : k_ok (((12, 125), (0, 96, 2)), (1050, 1052, 39)) = true := by decide +kernel
theorem k_c146 : k_ok (((12, 128), (0, 95, 3)), (1045, 1047, 38)) = true := by decide +kernel
theorem k_c147 : k_ok (((12, 132), (0, 98, 3)), (1059, 1060, 1061)) = true := by decide +kernel
theorem k_c148 : k_ok (((0, 9), (2, 1, 0)), (125, 126, 0)) = true := by decide +kernel
theorem k_c149 : k_ok (((0, 12), (2, 132, 0)), (1201, 1202, 0)) = true := by decide +kernel
theorem k_c150 : k_ok (((0, 13), (0, 35, 5)), (766, 767, 768)) = true := by decide +kernel
theorem k_c151 : k_ok (((0, 17), (0, 210, 5)), (1720, 1721, 1722)) = true := by decide +kernel
theorem k_c152 : k_ok (((0, 18), (0, 37, 1)), (774, 775, 776)) = true := by decide +kernel
theorem k_c153 : k_ok (((0, 22), (0, 211, 1)), (1724, 1725, 1726)) = true := by decide +kernel
theorem k_c154 : k_ok (((0, 23), (0, 38, 0)), (778, 779, 780)) = true := by decide +kernel
theorem k_c155 : k_ok (((0, 27), (0, 133, 0)), (1408, 1409, 1410)) = true := by decide +kernel
theorem k_c156 : k_ok (((0, 28), (0, 68, 1)), (931, 932, 933)) = true := by decide +kernel
theorem k_c157 : k_ok (((0, 31), (0, 156, 1)), (1504, 1505, 1506)) = true := by decide +kernel
theorem k_c158 : k_ok (((0, 32), (0, 72, 1)), (951, 952, 953)) = true := by decide +kernel
theorem k_c159 : k_ok (((0, 35), (0, 155, 1)), (1500, 1501, 1502)) = true := by decide +kernel
theorem k_c160 : k_ok (((0, 36), (0, 73, 1)), (955, 956, 957)) = true := by decide +kernel
theorem k_c161 : k_ok (((0, 40), (0, 158, 1)), (1512, 1513, 1514)) = true := by decide +kernel
theorem k_c162 : k_ok (((0, 41), (0, 74, 1)), (959, 960, 961)) = true := by decide +kernel
theorem k_c163 : k_ok (((0, 44), (0, 159, 1)), (1516, 1517, 1518)) = true := by decide +kernel
theorem k_c164 : k_ok (((0, 45), (0, 76, 3)), (967, 968, 969)) = true := by decide +kernel
theorem k_c165 : k_ok (((0, 49), (0, 184, 3)), (1615, 1616, 1617)) = true := by decide +kernel
theorem k_c166 : k_ok (((0, 50), (0, 99, 3)), (1063, 1064, 1065)) = true := by decide +kernel
theorem k_c167 : k_ok (((0, 53), (0, 188, 3)), (1631, 1632, 1633)) = true := by decide +kernel
theorem k_c168 : k_ok (((0, 54), (0, 100, 0)), (1068, 1069, 1070)) = true := by decide +kernel
theorem k_c169 : k_ok (((0, 57), (0, 189, 0)), (1635, 1636, 1637)) = true := by decide +kernel
theorem k_c170 : k_ok (((0, 58), (0, 102, 1)), (1076, 1077, 1078)) = true := by decide +kernel
theorem k_c171 : k_ok (((0, 61), (0, 190, 1)), (1639, 1640, 1641)) = true := by decide +kernel
theorem k_c172 : k_ok (((0, 62), (0, 103, 1)), (1080, 1081, 1082)) = true := by decide +kernel
theorem k_c173 : k_ok (((0, 66), (0, 193, 1)), (1652, 1653, 1654)) = true := by decide +kernel
theorem k_c174 : k_ok (((0, 67), (0, 115, 2)), (1130, 1131, 1132)) = true := by decide +kernel
theorem k_c175 : k_ok (((0, 71), (0, 200, 2)), (1681, 1682, 1683)) = true := by decide +kernel
theorem k_c176 : k_ok (((0, 72), (0, 120, 2)), (1150, 1151, 1152)) = true := by decide +kernel
theorem k_c177 : k_ok (((0, 75), (0, 204, 2)), (1696, 1697, 1698)) = true := by decide +kernel
theorem k_c178 : k_ok (((0, 76), (0, 123, 2)), (1162, 1163, 1164)) = true := by decide +kernel
theorem k_c179 : k_ok (((0, 79), (0, 206, 2)), (1704, 1705, 1706)) = true := by decide +kernel
theorem k_a2 : ∀ e ∈ k_T2.zip k_P2, k_ok e = true := List.forall_mem_cons.mpr ⟨k_c120, List.forall_mem_cons.mpr ⟨k_c121, List.forall_mem_cons.mpr ⟨k_c122, List.forall_mem_cons.mpr ⟨k_c123, List.forall_mem_cons.mpr ⟨k_c124, List.forall_mem_cons.mpr ⟨k_c125, List.forall_mem_cons.mpr ⟨k_c126, List.forall_mem_cons.mpr ⟨k_c127, List.forall_mem_cons.mpr ⟨k_c128, List.forall_mem_cons.mpr ⟨k_c129, List.forall_mem_cons.mpr ⟨k_c130, List.forall_mem_cons.mpr ⟨k_c131, List.forall_mem_cons.mpr ⟨k_c132, List.forall_mem_cons.mpr ⟨k_c133, List.forall_mem_cons.mpr ⟨k_c134, List.forall_mem_cons.mpr ⟨k_c135, List.forall_mem_cons.mpr ⟨k_c136, List.forall_mem_cons.mpr ⟨k_c137, List.forall_mem_cons.mpr ⟨k_c138, List.forall_mem_cons.mpr ⟨k_c139, List.forall_mem_cons.mpr ⟨k_c140, List.forall_mem_cons.mpr ⟨k_c141, List.forall_mem_cons.mpr ⟨k_c142, List.forall_mem_cons.mpr ⟨k_c143, List.forall_mem_cons.mpr ⟨k_c144, List.forall_mem_cons.mpr ⟨k_c145, List.forall_mem_cons.mpr ⟨k_c146, List.forall_mem_cons.mpr ⟨k_c147, List.forall_mem_cons.mpr ⟨k_c148, List.forall_mem_cons.mpr ⟨k_c149, List.forall_mem_cons.mpr ⟨k_c150, List.forall_mem_cons.mpr ⟨k_c151, List.forall_mem_cons.mpr ⟨k_c152, List.forall_mem_cons.mpr ⟨k_c153, List.forall_mem_cons.mpr ⟨k_c154, List.forall_mem_cons.mpr ⟨k_c155, List.forall_mem_cons.mpr ⟨k_c156, List.forall_mem_cons.mpr ⟨k_c157, List.forall_mem_cons.mpr ⟨k_c158, List.forall_mem_cons.mpr ⟨k_c159, List.forall_mem_cons.mpr ⟨k_c160, List.forall_mem_cons.mpr ⟨k_c161, List.forall_mem_cons.mpr ⟨k_c162, List.forall_mem_cons.mpr ⟨k_c163, List.forall_mem_cons.mpr ⟨k_c164, List.forall_mem_cons.mpr ⟨k_c165, List.forall_mem_cons.mpr ⟨k_c166, List.forall_mem_cons.mpr ⟨k_c167, List.forall_mem_cons.mpr ⟨k_c168, List.forall_mem_cons.mpr ⟨k_c169, List.forall_mem_cons.mpr ⟨k_c170, List.forall_mem_cons.mpr ⟨k_c171, List.forall_mem_cons.mpr ⟨k_c172, List.forall_mem_cons.mpr ⟨k_c173, List.forall_mem_cons.mpr ⟨k_c174, List.forall_mem_cons.mpr ⟨k_c175, List.forall_mem_cons.mpr ⟨k_c176, List.forall_mem_cons.mpr ⟨k_c177, List.forall_mem_cons.mpr ⟨k_c178, List.forall_mem_cons.mpr ⟨k_c179, fun _ h => absurd h List.not_mem_nil⟩⟩⟩⟩⟩⟩⟩⟩⟩⟩⟩⟩⟩⟩⟩⟩⟩⟩⟩⟩⟩⟩⟩⟩⟩⟩⟩⟩⟩⟩⟩⟩⟩⟩⟩⟩⟩⟩⟩⟩⟩⟩⟩⟩⟩⟩⟩⟩⟩⟩⟩⟩⟩⟩⟩⟩⟩⟩⟩⟩
theorem k_c180 : k_ok (((0, 80), (0, 125, 1)), (1170, 1171, 1172)) = true := by decide +kernel
theorem k_c181 : k_ok (((0, 83), (0, 207, 1)), (1708, 1709, 1710)) = true := by decide +kernel
theorem k_c182 : k_ok (((0, 84), (0, 127, 1)), (1178, 1179, 1180)) = true := by decide +kernel
theorem k_c183 : k_ok (((0, 87), (0, 205, 1)), (1700, 1701, 1702)) = true := by decide +kernel
theorem k_c184 : k_ok (((0, 88), (0, 130, 2)), (1191, 1192, 1193)) = true := by decide +kernel
theorem k_c185 : k_ok (((0, 91), (0, 208, 2)), (1712, 1713, 1714)) = true := by decide +kernel
theorem k_c186 : k_ok (((0, 92), (0, 131, 1)), (1195, 1196, 1197)) = true := by decide +kernel
theorem k_c187 : k_ok (((0, 95), (0, 209, 1)), (1716, 1717, 1718)) = true := by decide +kernel
theorem k_c188 : k_ok (((13, 11), (1, 138, 1)), (1427, 1428, 0)) = true := by decide +kernel
theorem k_c189 : k_ok (((13, 27), (0, 136, 1)), (1420, 1422, 52)) = true := by decide +kernel
theorem k_c190 : k_ok (((13, 34), (1, 137, 1)), (1424, 1425, 0)) = true := by decide +kernel
theorem k_c191 : k_ok (((13, 41), (1, 139, 1)), (1430, 1431, 0)) = true := by decide +kernel
theorem k_c192 : k_ok (((13, 47), (0, 144, 2)), (1455, 1457, 57)) = true := by decide +kernel
theorem k_c193 : k_ok (((13, 51), (4, 0, 0)), (1204, 0, 0)) = true := by decide +kernel
theorem k_c194 : k_ok (((13, 199), (0, 135, 0)), (1416, 1418, 51)) = true := by decide +kernel
theorem k_c195 : k_ok (((13, 202), (0, 140, 0)), (1433, 1435, 53)) = true := by decide +kernel
theorem k_c196 : k_ok (((13, 206), (0, 143, 0)), (1451, 1453, 56)) = true := by decide +kernel
theorem k_c197 : k_ok (((13, 209), (1, 150, 1)), (1478, 1479, 0)) = true := by decide +kernel
theorem k_c198 : k_ok (((13, 212), (0, 134, 0)), (1412, 1414, 50)) = true := by decide +kernel
theorem k_c199 : k_ok (((13, 221), (0, 141, 0)), (1437, 1439, 54)) = true := by decide +kernel
theorem k_c200 : k_ok (((13, 245), (0, 142, 1)), (1442, 1444, 55)) = true := by decide +kernel
theorem k_c201 : k_ok (((13, 259), (0, 145, 0)), (1459, 1461, 58)) = true := by decide +kernel
theorem k_c202 : k_ok (((13, 262), (0, 151, 0)), (1484, 1486, 62)) = true := by decide +kernel
theorem k_c203 : k_ok (((13, 265), (0, 152, 0)), (1488, 1490, 63)) = true := by decide +kernel
theorem k_c204 : k_ok (((13, 268), (0, 153, 1)), (1492, 1494, 64)) = true := by decide +kernel
theorem k_c205 : k_ok (((13, 272), (0, 154, 0)), (1496, 1498, 65)) = true := by decide +kernel
theorem k_c206 : k_ok (((13, 275), (0, 146, 0)), (1463, 1465, 59)) = true := by decide +kernel
theorem k_c207 : k_ok (((13, 278), (0, 147, 2)), (1467, 1469, 60)) = true := by decide +kernel
theorem k_c208 : k_ok (((13, 282), (0, 148, 1)), (1471, 1473, 61)) = true := by decide +kernel
theorem k_c209 : k_ok (((13, 285), (1, 149, 6)), (1475, 1476, 0)) = true := by decide +kernel
theorem k_c210 : k_ok (((13, 294), (0, 157, 0)), (1508, 1510, 66)) = true := by decide +kernel
theorem k_c211 : k_ok (((13, 301), (1, 168, 1)), (1552, 1553, 0)) = true := by decide +kernel
theorem k_c212 : k_ok (((13, 304), (0, 165, 1)), (1540, 1542, 72)) = true := by decide +kernel
theorem k_c213 : k_ok (((13, 307), (0, 166, 4)), (1544, 1546, 73)) = true := by decide +kernel
theorem k_c214 : k_ok (((13, 311), (0, 167, 2)), (1548, 1550, 74)) = true := by decide +kernel
theorem k_c215 : k_ok (((13, 314), (0, 170, 2)), (1559, 1561, 76)) = true := by decide +kernel
theorem k_c216 : k_ok (((13, 318), (0, 163, 1)), (1532, 1534, 70)) = true := by decide +kernel
theorem k_c217 : k_ok (((13, 321), (0, 164, 2)), (1536, 1538, 71)) = true := by decide +kernel
theorem k_c218 : k_ok (((13, 324), (0, 169, 1)), (1555, 1557, 75)) = true := by decide +kernel
theorem k_c219 : k_ok (((13, 327), (0, 171, 5)), (1563, 1565, 77)) = true := by decide +kernel
theorem k_c220 : k_ok (((13, 331), (0, 172, 2)), (1567, 1569, 78)) = true := by decide +kernel
theorem k_c221 : k_ok (((13, 334), (0, 173, 2)), (1571, 1573, 79)) = true := by decide +kernel
theorem k_c222 : k_ok (((13, 341), (0, 162, 1)), (1528, 1530, 69)) = true := by decide +kernel
theorem k_c223 : k_ok (((13, 345), (0, 174, 0)), (1575, 1577, 80)) = true := by decide +kernel
theorem k_c224 : k_ok (((13, 351), (0, 175, 0)), (1579, 1581, 81)) = true := by decide +kernel
theorem k_c225 : k_ok (((13, 354), (0, 176, 2)), (1584, 1586, 82)) = true := by decide +kernel
theorem k_c226 : k_ok (((13, 358), (0, 177, 2)), (1588, 1590, 83)) = true := by decide +kernel
theorem k_c227 : k_ok (((13, 361), (0, 182, 2)), (1607, 1609, 87)) = true := by decide +kernel
theorem k_c228 : k_ok (((13, 367), (1, 180, 3)), (1600, 1601, 0)) = true := by decide +kernel
theorem k_c229 : k_ok (((13, 371), (0, 179, 1)), (1596, 1598, 85)) = true := by decide +kernel
theorem k_c230 : k_ok (((13, 374), (0, 181, 2)), (1603, 1605, 86)) = true := by decide +kernel
theorem k_c231 : k_ok (((13, 377), (0, 178, 3)), (1592, 1594, 84)) = true := by decide +kernel
theorem k_c232 : k_ok (((13, 380), (0, 183, 3)), (1611, 1613, 88)) = true := by decide +kernel
theorem k_c233 : k_ok (((13, 383), (0, 160, 1)), (1520, 1522, 67)) = true := by decide +kernel
theorem k_c234 : k_ok (((13, 386), (0, 161, 0)), (1524, 1526, 68)) = true := by decide +kernel
theorem k_c235 : k_ok (((13, 389), (0, 185, 2)), (1619, 1621, 89)) = true := by decide +kernel
theorem k_c236 : k_ok (((13, 392), (0, 186, 2)), (1623, 1625, 90)) = true := by decide +kernel
theorem k_c237 : k_ok (((13, 395), (0, 187, 2)), (1627, 1629, 91)) = true := by decide +kernel
theorem k_c238 : k_ok (((13, 398), (0, 192, 4)), (1648, 1650, 93)) = true := by decide +kernel
theorem k_c239 : k_ok (((13, 402), (0, 189, 0)), (1643, 1636, 1637)) = true := by decide +kernel
theorem k_a3 : ∀ e ∈ k_T3.zip k_P3, k_ok e = true := List.forall_mem_cons.mpr ⟨k_c180, List.forall_mem_cons.mpr ⟨k_c181, List.forall_mem_cons.mpr ⟨k_c182, List.forall_mem_cons.mpr ⟨k_c183, List.forall_mem_cons.mpr ⟨k_c184, List.forall_mem_cons.mpr ⟨k_c185, List.forall_mem_cons.mpr ⟨k_c186, List.forall_mem_cons.mpr ⟨k_c187, List.forall_mem_cons.mpr ⟨k_c188, List.forall_mem_cons.mpr ⟨k_c189, List.forall_mem_cons.mpr ⟨k_c190, List.forall_mem_cons.mpr ⟨k_c191, List.forall_mem_cons.mpr ⟨k_c192, List.forall_mem_cons.mpr ⟨k_c193, List.forall_mem_cons.mpr ⟨k_c194, List.forall_mem_cons.mpr ⟨k_c195, List.forall_mem_cons.mpr ⟨k_c196, List.forall_mem_cons.mpr ⟨k_c197, List.forall_mem_cons.mpr ⟨k_c198, List.forall_mem_cons.mpr ⟨k_c199, List.forall_mem_cons.mpr ⟨k_c200, List.forall_mem_cons.mpr ⟨k_c201, List.forall_mem_cons.mpr ⟨k_c202, List.forall_mem_cons.mpr ⟨k_c203, List.forall_mem_cons.mpr ⟨k_c204, List.forall_mem_cons.mpr ⟨k_c205, List.forall_mem_cons.mpr ⟨k_c206, List.forall_mem_cons.mpr ⟨k_c207, List.forall_mem_cons.mpr ⟨k_c208, List.forall_mem_cons.mpr ⟨k_c209, List.forall_mem_cons.mpr ⟨k_c210, List.forall_mem_cons.mpr ⟨k_c211, List.forall_mem_cons.mpr ⟨k_c212, List.forall_mem_cons.mpr ⟨k_c213, List.forall_mem_cons.mpr ⟨k_c214, List.forall_mem_cons.mpr ⟨k_c215, List.forall_mem_cons.mpr ⟨k_c216, List.forall_mem_cons.mpr ⟨k_c217, List.forall_mem_cons.mpr ⟨k_c218, List.forall_mem_cons.mpr ⟨k_c219, List.forall_mem_cons.mpr ⟨k_c220, List.forall_mem_cons.mpr ⟨k_c221, List.forall_mem_cons.mpr ⟨k_c222, List.forall_mem_cons.mpr ⟨k_c223, List.forall_mem_cons.mpr ⟨k_c224, List.forall_mem_cons.mpr ⟨k_c225, List.forall_mem_cons.mpr ⟨k_c226, List.forall_mem_cons.mpr ⟨k_c227, List.forall_mem_cons.mpr ⟨k_c228, List.forall_mem_cons.mpr ⟨k_c229, List.forall_mem_cons.mpr ⟨k_c230, List.forall_mem_cons.mpr ⟨k_c231, List.forall_mem_cons.mpr ⟨k_c232, List.forall_mem_cons.mpr ⟨k_c233, List.forall_mem_cons.mpr ⟨k_c234, List.forall_mem_cons.mpr ⟨k_c235, List.forall_mem_cons.mpr ⟨k_c236, List.forall_mem_cons.mpr ⟨k_c237, List.forall_mem_cons.mpr ⟨k_c238, List.forall_mem_cons.mpr ⟨k_c239, fun _ h => absurd h List.not_mem_nil⟩⟩⟩⟩⟩⟩⟩⟩⟩⟩⟩⟩⟩⟩⟩⟩⟩⟩⟩⟩⟩⟩⟩⟩⟩⟩⟩⟩⟩⟩⟩⟩⟩⟩⟩⟩⟩⟩⟩⟩⟩⟩⟩⟩⟩⟩⟩⟩⟩⟩⟩⟩⟩⟩⟩⟩⟩⟩⟩⟩
theorem k_c240 : k_ok (((13, 405), (0, 191, 0)), (1644, 1646, 92)) = true := by decide +kernel
theorem k_c241 : k_ok (((13, 408), (1, 195, 4)), (1661, 1662, 0)) = true := by decide +kernel
theorem k_c242 : k_ok (((13, 412), (0, 197, 3)), (1669, 1671, 96)) = true := by decide +kernel
theorem k_c243 : k_ok (((13, 417), (0, 194, 1)), (1657, 1659, 94)) = true := by decide +kernel
theorem k_c244 : k_ok (((13, 420), (0, 196, 2)), (1665, 1667, 95)) = true := by decide +kernel
theorem k_c245 : k_ok (((13, 423), (0, 198, 4)), (1673, 1675, 97)) = true := by decide +kernel
theorem k_c246 : k_ok (((13, 426), (0, 199, 5)), (1677, 1679, 98)) = true := by decide +kernel
theorem k_c247 : k_ok (((13, 430), (0, 203, 2)), (1692, 1694, 100)) = true := by decide +kernel
theorem k_c248 : k_ok (((13, 433), (1, 201, 1)), (1685, 1686, 0)) = true := by decide +kernel
theorem k_c249 : k_ok (((13, 436), (0, 202, 2)), (1688, 1690, 99)) = true := by decide +kernel
theorem k_c250 : k_ok (((15, 335), (0, 213, 0)), (657, 658, 659)) = true := by decide +kernel
theorem k_c251 : k_ok (((15, 492), (0, 214, 0)), (647, 648, 649)) = true := by decide +kernel
theorem k_c252 : k_ok (((15, 495), (1, 217, 2)), (834, 835, 0)) = true := by decide +kernel
theorem k_c253 : k_ok (((15, 505), (0, 212, 0)), (653, 654, 655)) = true := by decide +kernel
theorem k_c254 : k_ok (((15, 633), (0, 220, 2)), (643, 644, 645)) = true := by decide +kernel
theorem k_c255 : k_ok (((15, 637), (1, 221, 4)), (661, 662, 0)) = true := by decide +kernel
theorem k_c256 : k_ok (((15, 1059), (1, 218, 3)), (840, 841, 0)) = true := by decide +kernel
theorem k_c257 : k_ok (((16, 9), (1, 216, 2)), (837, 838, 0)) = true := by decide +kernel
theorem k_c258 : k_ok (((16, 38), (5, 0, 2)), (668, 0, 0)) = true := by decide +kernel
theorem k_c259 : k_ok (((16, 88), (1, 222, 1)), (664, 665, 0)) = true := by decide +kernel
theorem k_c260 : k_ok (((16, 92), (6, 0, 2)), (667, 0, 0)) = true := by decide +kernel
theorem k_c261 : k_ok (((16, 95), (1, 223, 4)), (671, 672, 0)) = true := by decide +kernel
theorem k_c262 : k_ok (((14, 13), (1, 86, 3)), (1010, 1011, 0)) = true := by decide +kernel
theorem k_a4 : ∀ e ∈ k_T4.zip k_P4, k_ok e = true := List.forall_mem_cons.mpr ⟨k_c240, List.forall_mem_cons.mpr ⟨k_c241, List.forall_mem_cons.mpr ⟨k_c242, List.forall_mem_cons.mpr ⟨k_c243, List.forall_mem_cons.mpr ⟨k_c244, List.forall_mem_cons.mpr ⟨k_c245, List.forall_mem_cons.mpr ⟨k_c246, List.forall_mem_cons.mpr ⟨k_c247, List.forall_mem_cons.mpr ⟨k_c248, List.forall_mem_cons.mpr ⟨k_c249, List.forall_mem_cons.mpr ⟨k_c250, List.forall_mem_cons.mpr ⟨k_c251, List.forall_mem_cons.mpr ⟨k_c252, List.forall_mem_cons.mpr ⟨k_c253, List.forall_mem_cons.mpr ⟨k_c254, List.forall_mem_cons.mpr ⟨k_c255, List.forall_mem_cons.mpr ⟨k_c256, List.forall_mem_cons.mpr ⟨k_c257, List.forall_mem_cons.mpr ⟨k_c258, List.forall_mem_cons.mpr ⟨k_c259, List.forall_mem_cons.mpr ⟨k_c260, List.forall_mem_cons.mpr ⟨k_c261, List.forall_mem_cons.mpr ⟨k_c262, fun _ h => absurd h List.not_mem_nil⟩⟩⟩⟩⟩⟩⟩⟩⟩⟩⟩⟩⟩⟩⟩⟩⟩⟩⟩⟩⟩⟩⟩
theorem k_all : ∀ e ∈ k_T.zip k_P, k_ok e = true := by
  intro e he
  have h : k_T.zip k_P = k_T0.zip k_P0 ++ (k_T1.zip k_P1 ++ (k_T2.zip k_P2 ++ (k_T3.zip k_P3 ++ (k_T4.zip k_P4)))) := by decide +kernel
  rw [h] at he
  rcases List.mem_append.mp he with he | he
  · exact k_a0 e he
  rcases List.mem_append.mp he with he | he
  · exact k_a1 e he
  rcases List.mem_append.mp he with he | he
  · exact k_a2 e he
  rcases List.mem_append.mp he with he | he
  · exact k_a3 e he
  exact k_a4 e he
theorem k_len : k_T.length = k_P.length := by decide +kernel
theorem k_is {e : (Nat × Nat) × AR} (h : e ∈ k_T) : ∃ q, k_ok (e, q) = true := by
  obtain ⟨j, hj, he⟩ := List.getElem_of_mem h
  have hj2 : j < k_P.length := by rw [← k_len]; exact hj
  refine ⟨k_P[j], k_all _ ?_⟩
  have hz : (k_T.zip k_P)[j]? = some (e, k_P[j]) := by
    rw [List.getElem?_zip_eq_some]
    exact ⟨by rw [List.getElem?_eq_getElem hj, he], List.getElem?_eq_getElem hj2⟩
  exact List.mem_of_getElem? hz
def f_ok (e : (Nat × Nat) × AR) : Bool := match e with
  | ((o, i), (ci, k, p)) => match c_R[ci]? with
    | some (C, T, N, _) => decide (k < N) && at_p p (.fieldLink (o_N.getD o "") i (T k).1 (T k).2.1 (T k).2.2.1)
    | none => false
theorem f_all : f_T.all f_ok = true := by decide +kernel
def g_ok (e : (Nat × Nat) × AR) : Bool := match e with
  | ((o, i), (k, _, p)) => match k with
    | 0 => at_p p (.fieldLink (o_N.getD o "") i "java/lang/String" "value" "[B")
    | 1 => at_p p (.fieldLink (o_N.getD o "") i "java/lang/String" "coder" "B")
    | 2 => at_p p (.fieldLink (o_N.getD o "") i "java/lang/String" "COMPACT_STRINGS" "Z")
    | 3 => at_p p (.fieldLink (o_N.getD o "") i "jdk/internal/util/Preconditions" "SIOOBE_FORMATTER" "Ljava/util/function/BiFunction;")
    | _ => false
theorem g_all : g_T.all g_ok = true := by decide +kernel
def n_ok (e : (Nat × Nat) × AR) : Bool := match e with
  | ((o, i), (ci, n, p)) => match c_R[ci]? with
    | some (C, _, N, _) => decide (n = N) && at_p p (.classLink (o_N.getD o "") i C)
    | none => false
theorem n_all : n_T.all n_ok = true := by decide +kernel
def d_ok (e : (Nat × Nat) × AR) : Bool := match e with
  | ((o, i), (k, v, p)) => if k = 0 then at_p p (.constant (o_N.getD o "") i (i_V.getD v 0)) else (match s_V[v]? with
    | some (c, j, _) => decide (c = o_N.getD o "" ∧ j = i ∧ v < 9)
    | none => false)
theorem d_all : d_T.all d_ok = true := by decide +kernel
def l_ok (e : (Nat × Nat) × AR) : Bool := match e with
  | ((o, i), (_, v, p)) => at_p p (.constantLong (o_N.getD o "") i (l_V.getD v 0))
theorem l_all : l_T.all l_ok = true := by decide +kernel
theorem a_cls_R : a_cls = c_R.map (fun r => (r.1, r.2.1, r.2.2.1)) := rfl
theorem c_w0 : ∀ w ∈ u_ws "MarkBench$Book" T_0 16, w ∈ t_b := by
  have h : (List.range 16).all (fun k => at_p ([216, 218, 220, 222, 224, 226, 228, 230, 232, 234, 236, 238, 240, 242, 244, 246].getD k 0) (u_lay "MarkBench$Book" T_0 k)) = true := by decide +kernel
  intro w hw
  obtain ⟨k, hk, rfl⟩ := List.mem_map.mp hw
  exact at_p_in (List.all_eq_true.mp h k hk)
theorem c_n0 : ∀ a, a < 16 → ∀ b, b < 16 → a ≠ b → (T_0 a).2.1 ≠ (T_0 b).2.1 := by decide +kernel
theorem c_t0 : ∀ k, k < 16 → parseFieldDescriptor (T_0 k).2.2.1 = some (ty_0 k) := by decide +kernel
theorem c_i0 : .instantiable "MarkBench$Book" 16 ∈ t_b := at_p_in (k := 138) (by decide +kernel)
theorem c_z0 : .initialized "MarkBench$Book" ∈ t_b := at_p_in (k := 104) (by decide +kernel)
theorem c_w1 : ∀ w ∈ u_ws "MarkBench$BookReader" T_1 10, w ∈ t_b := by
  have h : (List.range 10).all (fun k => at_p ([290, 292, 294, 296, 298, 300, 302, 304, 306, 308].getD k 0) (u_lay "MarkBench$BookReader" T_1 k)) = true := by decide +kernel
  intro w hw
  obtain ⟨k, hk, rfl⟩ := List.mem_map.mp hw
  exact at_p_in (List.all_eq_true.mp h k hk)
theorem c_n1 : ∀ a, a < 10 → ∀ b, b < 10 → a ≠ b → (T_1 a).2.1 ≠ (T_1 b).2.1 := by decide +kernel
theorem c_t1 : ∀ k, k < 10 → parseFieldDescriptor (T_1 k).2.2.1 = some (ty_1 k) := by decide +kernel
theorem c_i1 : .instantiable "MarkBench$BookReader" 10 ∈ t_b := at_p_in (k := 132) (by decide +kernel)
theorem c_z1 : .initialized "MarkBench$BookReader" ∈ t_b := at_p_in (k := 103) (by decide +kernel)
theorem c_w2 : ∀ w ∈ u_ws "MarkBench$Choices" T_2 9, w ∈ t_b := by
  have h : (List.range 9).all (fun k => at_p ([370, 372, 374, 376, 378, 380, 382, 384, 386].getD k 0) (u_lay "MarkBench$Choices" T_2 k)) = true := by decide +kernel
  intro w hw
  obtain ⟨k, hk, rfl⟩ := List.mem_map.mp hw
  exact at_p_in (List.all_eq_true.mp h k hk)
theorem c_n2 : ∀ a, a < 9 → ∀ b, b < 9 → a ≠ b → (T_2 a).2.1 ≠ (T_2 b).2.1 := by decide +kernel
theorem c_t2 : ∀ k, k < 9 → parseFieldDescriptor (T_2 k).2.2.1 = some (ty_2 k) := by decide +kernel
theorem c_i2 : .instantiable "MarkBench$Choices" 9 ∈ t_b := at_p_in (k := 334) (by decide +kernel)
theorem c_z2 : .initialized "MarkBench$Choices" ∈ t_b := at_p_in (k := 108) (by decide +kernel)
theorem c_w3 : ∀ w ∈ u_ws "MarkBench$Forms" T_3 3, w ∈ t_b := by
  have h : (List.range 3).all (fun k => at_p ([159, 161, 163].getD k 0) (u_lay "MarkBench$Forms" T_3 k)) = true := by decide +kernel
  intro w hw
  obtain ⟨k, hk, rfl⟩ := List.mem_map.mp hw
  exact at_p_in (List.all_eq_true.mp h k hk)
theorem c_n3 : ∀ a, a < 3 → ∀ b, b < 3 → a ≠ b → (T_3 a).2.1 ≠ (T_3 b).2.1 := by decide +kernel
theorem c_t3 : ∀ k, k < 3 → parseFieldDescriptor (T_3 k).2.2.1 = some (ty_3 k) := by decide +kernel
theorem c_i3 : .instantiable "MarkBench$Forms" 3 ∈ t_b := at_p_in (k := 144) (by decide +kernel)
theorem c_z3 : .initialized "MarkBench$Forms" ∈ t_b := at_p_in (k := 105) (by decide +kernel)
theorem c_w4 : ∀ w ∈ u_ws "MarkBench$Hands" T_4 4, w ∈ t_b := by
  have h : (List.range 4).all (fun k => at_p ([324, 326, 328, 330].getD k 0) (u_lay "MarkBench$Hands" T_4 k)) = true := by decide +kernel
  intro w hw
  obtain ⟨k, hk, rfl⟩ := List.mem_map.mp hw
  exact at_p_in (List.all_eq_true.mp h k hk)
theorem c_n4 : ∀ a, a < 4 → ∀ b, b < 4 → a ≠ b → (T_4 a).2.1 ≠ (T_4 b).2.1 := by decide +kernel
theorem c_t4 : ∀ k, k < 4 → parseFieldDescriptor (T_4 k).2.2.1 = some (ty_4 k) := by decide +kernel
theorem c_i4 : .instantiable "MarkBench$Hands" 4 ∈ t_b := at_p_in (k := 312) (by decide +kernel)
theorem c_z4 : .initialized "MarkBench$Hands" ∈ t_b := at_p_in (k := 107) (by decide +kernel)
theorem c_w5 : ∀ w ∈ u_ws "MarkBench$Line" T_5 7, w ∈ t_b := by
  have h : (List.range 7).all (fun k => at_p ([531, 533, 535, 537, 539, 541, 543].getD k 0) (u_lay "MarkBench$Line" T_5 k)) = true := by decide +kernel
  intro w hw
  obtain ⟨k, hk, rfl⟩ := List.mem_map.mp hw
  exact at_p_in (List.all_eq_true.mp h k hk)
theorem c_n5 : ∀ a, a < 7 → ∀ b, b < 7 → a ≠ b → (T_5 a).2.1 ≠ (T_5 b).2.1 := by decide +kernel
theorem c_t5 : ∀ k, k < 7 → parseFieldDescriptor (T_5 k).2.2.1 = some (ty_5 k) := by decide +kernel
theorem c_i5 : .instantiable "MarkBench$Line" 7 ∈ t_b := at_p_in (k := 509) (by decide +kernel)
theorem c_z5 : .initialized "MarkBench$Line" ∈ t_b := at_p_in (k := 112) (by decide +kernel)
theorem c_w6 : ∀ w ∈ u_ws "MarkBench$Sheet" T_6 12, w ∈ t_b := by
  have h : (List.range 12).all (fun k => at_p ([481, 483, 485, 487, 489, 491, 493, 495, 497, 499, 501, 503].getD k 0) (u_lay "MarkBench$Sheet" T_6 k)) = true := by decide +kernel
  intro w hw
  obtain ⟨k, hk, rfl⟩ := List.mem_map.mp hw
  exact at_p_in (List.all_eq_true.mp h k hk)
theorem c_n6 : ∀ a, a < 12 → ∀ b, b < 12 → a ≠ b → (T_6 a).2.1 ≠ (T_6 b).2.1 := by decide +kernel
theorem c_t6 : ∀ k, k < 12 → parseFieldDescriptor (T_6 k).2.2.1 = some (ty_6 k) := by decide +kernel
theorem c_i6 : .instantiable "MarkBench$Sheet" 12 ∈ t_b := at_p_in (k := 390) (by decide +kernel)
theorem c_z6 : .initialized "MarkBench$Sheet" ∈ t_b := at_p_in (k := 109) (by decide +kernel)
theorem c_w7 : ∀ w ∈ u_ws "MarkBench$Tally" T_7 5, w ∈ t_b := by
  have h : (List.range 5).all (fun k => at_p ([455, 457, 459, 461, 463].getD k 0) (u_lay "MarkBench$Tally" T_7 k)) = true := by decide +kernel
  intro w hw
  obtain ⟨k, hk, rfl⟩ := List.mem_map.mp hw
  exact at_p_in (List.all_eq_true.mp h k hk)
theorem c_n7 : ∀ a, a < 5 → ∀ b, b < 5 → a ≠ b → (T_7 a).2.1 ≠ (T_7 b).2.1 := by decide +kernel
theorem c_t7 : ∀ k, k < 5 → parseFieldDescriptor (T_7 k).2.2.1 = some (ty_7 k) := by decide +kernel
theorem c_i7 : .instantiable "MarkBench$Tally" 5 ∈ t_b := at_p_in (k := 444) (by decide +kernel)
theorem c_z7 : .initialized "MarkBench$Tally" ∈ t_b := at_p_in (k := 111) (by decide +kernel)
theorem c_w8 : ∀ w ∈ u_ws "MarkBench$Tokens" T_8 5, w ∈ t_b := by
  have h : (List.range 5).all (fun k => at_p ([266, 268, 270, 272, 274].getD k 0) (u_lay "MarkBench$Tokens" T_8 k)) = true := by decide +kernel
  intro w hw
  obtain ⟨k, hk, rfl⟩ := List.mem_map.mp hw
  exact at_p_in (List.all_eq_true.mp h k hk)
theorem c_n8 : ∀ a, a < 5 → ∀ b, b < 5 → a ≠ b → (T_8 a).2.1 ≠ (T_8 b).2.1 := by decide +kernel
theorem c_t8 : ∀ k, k < 5 → parseFieldDescriptor (T_8 k).2.2.1 = some (ty_8 k) := by decide +kernel
theorem c_i8 : .instantiable "MarkBench$Tokens" 5 ∈ t_b := at_p_in (k := 251) (by decide +kernel)
theorem c_z8 : .initialized "MarkBench$Tokens" ∈ t_b := at_p_in (k := 106) (by decide +kernel)
theorem c_w9 : ∀ w ∈ u_ws "MarkBench$Walk" T_9 12, w ∈ t_b := by
  have h : (List.range 12).all (fun k => at_p ([418, 420, 422, 424, 426, 428, 430, 432, 434, 436, 438, 440].getD k 0) (u_lay "MarkBench$Walk" T_9 k)) = true := by decide +kernel
  intro w hw
  obtain ⟨k, hk, rfl⟩ := List.mem_map.mp hw
  exact at_p_in (List.all_eq_true.mp h k hk)
theorem c_n9 : ∀ a, a < 12 → ∀ b, b < 12 → a ≠ b → (T_9 a).2.1 ≠ (T_9 b).2.1 := by decide +kernel
theorem c_t9 : ∀ k, k < 12 → parseFieldDescriptor (T_9 k).2.2.1 = some (ty_9 k) := by decide +kernel
theorem c_i9 : .instantiable "MarkBench$Walk" 12 ∈ t_b := at_p_in (k := 396) (by decide +kernel)
theorem c_z9 : .initialized "MarkBench$Walk" ∈ t_b := at_p_in (k := 110) (by decide +kernel)
theorem c_w10 : ∀ w ∈ u_ws "MarkBench" T_10 12, w ∈ t_b := by
  have h : (List.range 12).all (fun k => at_p ([740, 742, 744, 746, 748, 750, 752, 754, 756, 758, 760, 762].getD k 0) (u_lay "MarkBench" T_10 k)) = true := by decide +kernel
  intro w hw
  obtain ⟨k, hk, rfl⟩ := List.mem_map.mp hw
  exact at_p_in (List.all_eq_true.mp h k hk)
theorem c_n10 : ∀ a, a < 12 → ∀ b, b < 12 → a ≠ b → (T_10 a).2.1 ≠ (T_10 b).2.1 := by decide +kernel
theorem c_t10 : ∀ k, k < 12 → parseFieldDescriptor (T_10 k).2.2.1 = some (ty_10 k) := by decide +kernel
theorem c_i10 : .instantiable "MarkBench" 12 ∈ t_b := at_p_in (k := 124) (by decide +kernel)
theorem c_z10 : .initialized "MarkBench" ∈ t_b := at_p_in (k := 102) (by decide +kernel)
theorem c_w11 : ∀ w ∈ u_ws "MarkBenchModel" T_11 67, w ∈ t_b := by
  have h : (List.range 67).all (fun k => at_p ([1273, 1275, 1277, 1279, 1281, 1283, 1285, 1287, 1289, 1291, 1293, 1295, 1297, 1299, 1301, 1303, 1305, 1307, 1309, 1311, 1313, 1315, 1317, 1319, 1321, 1323, 1325, 1327, 1329, 1331, 1333, 1335, 1337, 1339, 1341, 1343, 1345, 1347, 1349, 1351, 1353, 1355, 1357, 1359, 1361, 1363, 1365, 1367, 1369, 1371, 1373, 1375, 1377, 1379, 1381, 1383, 1385, 1387, 1389, 1391, 1393, 1395, 1397, 1399, 1401, 1403, 1405].getD k 0) (u_lay "MarkBenchModel" T_11 k)) = true := by decide +kernel
  intro w hw
  obtain ⟨k, hk, rfl⟩ := List.mem_map.mp hw
  exact at_p_in (List.all_eq_true.mp h k hk)
theorem c_n11 : ∀ a, a < 67 → ∀ b, b < 67 → a ≠ b → (T_11 a).2.1 ≠ (T_11 b).2.1 := by decide +kernel
theorem c_t11 : ∀ k, k < 67 → parseFieldDescriptor (T_11 k).2.2.1 = some (ty_11 k) := by decide +kernel
theorem c_i11 : .instantiable "MarkBenchModel" 67 ∈ t_b := at_p_in (k := 1200) (by decide +kernel)
theorem c_z11 : .initialized "MarkBenchModel" ∈ t_b := at_p_in (k := 121) (by decide +kernel)
def c_Ok (r : String × u_T × Nat × (Nat → FieldType)) : Prop := (∀ w ∈ u_ws r.1 r.2.1 r.2.2.1, w ∈ t_b) ∧ (∀ a, a < r.2.2.1 → ∀ b, b < r.2.2.1 → a ≠ b → (r.2.1 a).2.1 ≠ (r.2.1 b).2.1) ∧ (∀ k, k < r.2.2.1 → parseFieldDescriptor (r.2.1 k).2.2.1 = some (r.2.2.2 k)) ∧ .instantiable r.1 r.2.2.1 ∈ t_b ∧ .initialized r.1 ∈ t_b
theorem c_all : ∀ r ∈ c_R, c_Ok r := List.forall_mem_cons.mpr ⟨⟨c_w0, c_n0, c_t0, c_i0, c_z0⟩, List.forall_mem_cons.mpr ⟨⟨c_w1, c_n1, c_t1, c_i1, c_z1⟩, List.forall_mem_cons.mpr ⟨⟨c_w2, c_n2, c_t2, c_i2, c_z2⟩, List.forall_mem_cons.mpr ⟨⟨c_w3, c_n3, c_t3, c_i3, c_z3⟩, List.forall_mem_cons.mpr ⟨⟨c_w4, c_n4, c_t4, c_i4, c_z4⟩, List.forall_mem_cons.mpr ⟨⟨c_w5, c_n5, c_t5, c_i5, c_z5⟩, List.forall_mem_cons.mpr ⟨⟨c_w6, c_n6, c_t6, c_i6, c_z6⟩, List.forall_mem_cons.mpr ⟨⟨c_w7, c_n7, c_t7, c_i7, c_z7⟩, List.forall_mem_cons.mpr ⟨⟨c_w8, c_n8, c_t8, c_i8, c_z8⟩, List.forall_mem_cons.mpr ⟨⟨c_w9, c_n9, c_t9, c_i9, c_z9⟩, List.forall_mem_cons.mpr ⟨⟨c_w10, c_n10, c_t10, c_i10, c_z10⟩, List.forall_mem_cons.mpr ⟨⟨c_w11, c_n11, c_t11, c_i11, c_z11⟩, fun _ h => absurd h List.not_mem_nil⟩⟩⟩⟩⟩⟩⟩⟩⟩⟩⟩⟩
theorem o_1 : .instanceMethod Lib.objectInit ∈ t_b := at_p_in (k := 129) (by decide +kernel)
theorem o_2 : .code Lib.objectInit ⟨#[0xb1]⟩ 1 none ∈ t_b := at_p_in (k := 130) (by decide +kernel)
theorem o_min1 : .static Lib.Math.min.name ∈ t_b := at_p_in (k := 669) (by decide +kernel)
theorem o_min2 : .code Lib.Math.min.name Lib.Math.min.code 2 (some .int) ∈ t_b := at_p_in (k := 670) (by decide +kernel)
theorem o_max1 : .static Lib.Math.max.name ∈ t_b := at_p_in (k := 571) (by decide +kernel)
theorem o_max2 : .code Lib.Math.max.name Lib.Math.max.code 2 (some .int) ∈ t_b := at_p_in (k := 572) (by decide +kernel)
theorem o_m : .initialized "java/lang/Math" ∈ t_b := at_p_in (k := 113) (by decide +kernel)
theorem o_s : .initialized "java/lang/System" ∈ t_b := at_p_in (k := 114) (by decide +kernel)
theorem o_a1 : .native arraycopyName ∈ t_b := at_p_in (k := 583) (by decide +kernel)
theorem o_a2 : .static arraycopyName ∈ t_b := at_p_in (k := 582) (by decide +kernel)
theorem o_z1 : .laysStatic "java/lang/String" "COMPACT_STRINGS" "Z" ∈ lw_tbl := List.mem_of_getElem? (i := 652) (by decide +kernel)
theorem o_z2 : .laysStatic "jdk/internal/util/Preconditions" "SIOOBE_FORMATTER" "Ljava/util/function/BiFunction;" ∈ lw_tbl := List.mem_of_getElem? (i := 693) (by decide +kernel)
theorem o_tint : .arrayClass .int ∈ t_b := at_p_in (k := 167) (by decide +kernel)
theorem o_tbyte : .arrayClass .byte ∈ t_b := at_p_in (k := 765) (by decide +kernel)
theorem o_tchar : .arrayClass .char ∈ t_b := at_p_in (k := 166) (by decide +kernel)
theorem o_tboolean : .arrayClass .boolean ∈ t_b := at_p_in (k := 249) (by decide +kernel)
theorem o_tlong : .arrayClass .long ∈ t_b := at_p_in (k := 466) (by decide +kernel)
