/-! ===== code, row by row (by program) ===== -/
/-- WhoKnows$DescriptionReader.read()LWhoKnows$Scene; -/
def mm_m1 : mm_M := (mm_c1, 4, 5, [])
set_option maxRecDepth 20000 in
theorem P1 : mm_P 1 = some mm_m1 := rfl
/-- WhoKnows$Names.<init>(I)V -/
def mm_m48 : mm_M := (mm_c48, 2, 0, [])
set_option maxRecDepth 20000 in
theorem P48 : mm_P 48 = some mm_m48 := rfl
/-- WhoKnows$Scene.<init>()V -/
def mm_m61 : mm_M := (mm_c61, 1, 0, [])
set_option maxRecDepth 20000 in
theorem P61 : mm_P 61 = some mm_m61 := rfl
/-- WhoKnows$Source.addNumber(I)V -/
def mm_m64 : mm_M := (mm_c64, 3, 0, [])
set_option maxRecDepth 20000 in
theorem P64 : mm_P 64 = some mm_m64 := rfl
/-- WhoKnows.append(IIIII)I -/
def mm_m98 : mm_M := (mm_c98, 6, 1, [])
set_option maxRecDepth 20000 in
theorem P98 : mm_P 98 = some mm_m98 := rfl
/-- WhoKnows.truncate(I)I -/
def mm_m99 : mm_M := (mm_c99, 2, 1, [])
set_option maxRecDepth 20000 in
theorem P99 : mm_P 99 = some mm_m99 := rfl
/-- WhoKnows.readText()I -/
def mm_m100 : mm_M := (mm_c100, 2, 1, [])
set_option maxRecDepth 20000 in
theorem P100 : mm_P 100 = some mm_m100 := rfl
theorem k1_0 : mm_lk mm_m1.1 0 = some (0, .new 27, 3, [0, 10, 455, 456, 147]) := rfl
theorem k1_3 : mm_lk mm_m1.1 3 = some (3, .dup, 4, []) := rfl
theorem k1_4 : mm_lk mm_m1.1 4 = some (4, .invokespecial 29, 7, [7, 61, 1, 457, 458, 147, 0]) := rfl
theorem k1_7 : mm_lk mm_m1.1 7 = some (7, .astore_n 1, 8, []) := rfl
theorem k1_8 : mm_lk mm_m1.1 8 = some (8, .aload_n 0, 9, []) := rfl
theorem k1_9 : mm_lk mm_m1.1 9 = some (9, .getfield 9, 12, [0, 2, 0, 296]) := rfl
theorem k1_12 : mm_lk mm_m1.1 12 = some (12, .invokevirtual 30, 15, [0, 65, 1, 11, 520, 521, 522, 133]) := rfl
theorem k1_15 : mm_lk mm_m1.1 15 = some (15, .aload_n 0, 16, []) := rfl
theorem k1_16 : mm_lk mm_m1.1 16 = some (16, .aload_n 1, 17, []) := rfl
theorem k1_17 : mm_lk mm_m1.1 17 = some (17, .invokevirtual 35, 20, [0, 3, 2, 2, 570, 572, 13, 137]) := rfl
theorem k1_20 : mm_lk mm_m1.1 20 = some (20, .iconst 0, 21, []) := rfl
theorem k1_21 : mm_lk mm_m1.1 21 = some (21, .istore_n 2, 22, []) := rfl
theorem k1_22 : mm_lk mm_m1.1 22 = some (22, .iload_n 2, 23, []) := rfl
theorem k1_23 : mm_lk mm_m1.1 23 = some (23, .sipush 600, 26, []) := rfl
theorem k1_26 : mm_lk mm_m1.1 26 = some (26, .if_icmp .gt 130, 29, [156]) := rfl
theorem k1_29 : mm_lk mm_m1.1 29 = some (29, .aload_n 0, 30, []) := rfl
theorem k1_30 : mm_lk mm_m1.1 30 = some (30, .aload_n 1, 31, []) := rfl
theorem k1_31 : mm_lk mm_m1.1 31 = some (31, .invokevirtual 39, 34, [0, 2, 2, 2, 616, 618, 14, 137]) := rfl
theorem k1_34 : mm_lk mm_m1.1 34 = some (34, .ifCond .ne 122, 37, [156]) := rfl
theorem k1_37 : mm_lk mm_m1.1 37 = some (37, .aload_n 0, 38, []) := rfl
theorem k1_38 : mm_lk mm_m1.1 38 = some (38, .getfield 9, 41, [0, 2, 0, 296]) := rfl
theorem k1_41 : mm_lk mm_m1.1 41 = some (41, .bipush 59, 43, []) := rfl
theorem k1_43 : mm_lk mm_m1.1 43 = some (43, .invokevirtual 43, 46, [0, 80, 2, 11, 620, 621, 622, 133]) := rfl
theorem k1_46 : mm_lk mm_m1.1 46 = some (46, .ifCond .ne 5, 49, [51]) := rfl
theorem k1_49 : mm_lk mm_m1.1 49 = some (49, .aload_n 1, 50, []) := rfl
theorem k1_50 : mm_lk mm_m1.1 50 = some (50, .areturn, 51, []) := rfl
theorem k1_51 : mm_lk mm_m1.1 51 = some (51, .aload_n 1, 52, []) := rfl
theorem k1_52 : mm_lk mm_m1.1 52 = some (52, .getfield 47, 55, [1, 10, 1, 489, 0]) := rfl
theorem k1_55 : mm_lk mm_m1.1 55 = some (55, .getfield 51, 58, [1, 7, 1, 473, 0]) := rfl
theorem k1_58 : mm_lk mm_m1.1 58 = some (58, .ifCond .le 7, 61, [65]) := rfl
theorem k1_61 : mm_lk mm_m1.1 61 = some (61, .iconst 1, 62, []) := rfl
theorem k1_62 : mm_lk mm_m1.1 62 = some (62, .goto 4, 65, [66]) := rfl
theorem k1_65 : mm_lk mm_m1.1 65 = some (65, .iconst 0, 66, []) := rfl
theorem k1_66 : mm_lk mm_m1.1 66 = some (66, .istore_n 3, 67, []) := rfl
theorem k1_67 : mm_lk mm_m1.1 67 = some (67, .iload_n 3, 68, []) := rfl
theorem k1_68 : mm_lk mm_m1.1 68 = some (68, .ifCond .ne 23, 71, [91]) := rfl
theorem k1_71 : mm_lk mm_m1.1 71 = some (71, .aload_n 0, 72, []) := rfl
theorem k1_72 : mm_lk mm_m1.1 72 = some (72, .getfield 9, 75, [0, 2, 0, 296]) := rfl
theorem k1_75 : mm_lk mm_m1.1 75 = some (75, .ldc 57, 77, [1, 24, 624]) := rfl
theorem k1_77 : mm_lk mm_m1.1 77 = some (77, .invokevirtual 58, 80, [0, 77, 2, 11, 625, 580, 581, 133]) := rfl
theorem k1_80 : mm_lk mm_m1.1 80 = some (80, .ifCond .eq 11, 83, [91]) := rfl
theorem k1_83 : mm_lk mm_m1.1 83 = some (83, .aload_n 0, 84, []) := rfl
theorem k1_84 : mm_lk mm_m1.1 84 = some (84, .aload_n 1, 85, []) := rfl
theorem k1_85 : mm_lk mm_m1.1 85 = some (85, .invokevirtual 62, 88, [0, 4, 2, 2, 626, 628, 15, 137]) := rfl
theorem k1_88 : mm_lk mm_m1.1 88 = some (88, .goto 62, 91, [150]) := rfl
theorem k1_91 : mm_lk mm_m1.1 91 = some (91, .aload_n 0, 92, []) := rfl
theorem k1_92 : mm_lk mm_m1.1 92 = some (92, .getfield 9, 95, [0, 2, 0, 296]) := rfl
theorem k1_95 : mm_lk mm_m1.1 95 = some (95, .ldc 65, 97, [1, 26, 736]) := rfl
theorem k1_97 : mm_lk mm_m1.1 97 = some (97, .invokevirtual 58, 100, [0, 77, 2, 11, 625, 580, 581, 133]) := rfl
theorem k1_100 : mm_lk mm_m1.1 100 = some (100, .ifCond .eq 11, 103, [111]) := rfl
theorem k1_103 : mm_lk mm_m1.1 103 = some (103, .aload_n 0, 104, []) := rfl
theorem k1_104 : mm_lk mm_m1.1 104 = some (104, .aload_n 1, 105, []) := rfl
theorem k1_105 : mm_lk mm_m1.1 105 = some (105, .invokevirtual 67, 108, [0, 5, 2, 2, 737, 739, 24, 137]) := rfl
theorem k1_108 : mm_lk mm_m1.1 108 = some (108, .goto 42, 111, [150]) := rfl
theorem k1_111 : mm_lk mm_m1.1 111 = some (111, .iload_n 3, 112, []) := rfl
theorem k1_112 : mm_lk mm_m1.1 112 = some (112, .ifCond .eq 23, 115, [135]) := rfl
theorem k1_115 : mm_lk mm_m1.1 115 = some (115, .aload_n 0, 116, []) := rfl
theorem k1_116 : mm_lk mm_m1.1 116 = some (116, .getfield 9, 119, [0, 2, 0, 296]) := rfl
theorem k1_119 : mm_lk mm_m1.1 119 = some (119, .ldc 70, 121, [1, 28, 750]) := rfl
theorem k1_121 : mm_lk mm_m1.1 121 = some (121, .invokevirtual 58, 124, [0, 77, 2, 11, 625, 580, 581, 133]) := rfl
theorem k1_124 : mm_lk mm_m1.1 124 = some (124, .ifCond .eq 11, 127, [135]) := rfl
theorem k1_127 : mm_lk mm_m1.1 127 = some (127, .aload_n 0, 128, []) := rfl
theorem k1_128 : mm_lk mm_m1.1 128 = some (128, .aload_n 1, 129, []) := rfl
theorem k1_129 : mm_lk mm_m1.1 129 = some (129, .invokevirtual 72, 132, [0, 6, 2, 2, 751, 753, 25, 137]) := rfl
theorem k1_132 : mm_lk mm_m1.1 132 = some (132, .goto 18, 135, [150]) := rfl
theorem k1_135 : mm_lk mm_m1.1 135 = some (135, .aload_n 0, 136, []) := rfl
theorem k1_136 : mm_lk mm_m1.1 136 = some (136, .getfield 9, 139, [0, 2, 0, 296]) := rfl
theorem k1_139 : mm_lk mm_m1.1 139 = some (139, .iconst 1, 140, []) := rfl
theorem k1_140 : mm_lk mm_m1.1 140 = some (140, .aload_n 0, 141, []) := rfl
theorem k1_141 : mm_lk mm_m1.1 141 = some (141, .getfield 9, 144, [0, 2, 0, 296]) := rfl
theorem k1_144 : mm_lk mm_m1.1 144 = some (144, .getfield 75, 147, [1, 11, 8, 190, 0]) := rfl
theorem k1_147 : mm_lk mm_m1.1 147 = some (147, .invokevirtual 78, 150, [0, 75, 3, 11, 630, 584, 585, 133]) := rfl
theorem k1_150 : mm_lk mm_m1.1 150 = some (150, .iinc 2 1, 153, []) := rfl
theorem k1_153 : mm_lk mm_m1.1 153 = some (153, .goto (-131), 156, [22]) := rfl
theorem k1_156 : mm_lk mm_m1.1 156 = some (156, .aload_n 1, 157, []) := rfl
theorem k1_157 : mm_lk mm_m1.1 157 = some (157, .getfield 82, 160, [1, 10, 5, 504, 0]) := rfl
theorem k1_160 : mm_lk mm_m1.1 160 = some (160, .iconst (-1), 161, []) := rfl
theorem k1_161 : mm_lk mm_m1.1 161 = some (161, .if_icmp .ne 14, 164, [175]) := rfl
theorem k1_164 : mm_lk mm_m1.1 164 = some (164, .aload_n 1, 165, []) := rfl
theorem k1_165 : mm_lk mm_m1.1 165 = some (165, .aload_n 1, 166, []) := rfl
theorem k1_166 : mm_lk mm_m1.1 166 = some (166, .getfield 84, 169, [1, 10, 4, 501, 0]) := rfl
theorem k1_169 : mm_lk mm_m1.1 169 = some (169, .invokestatic 87, 172, [6, 162, 1, 760, 761, 132, 0]) := rfl
theorem k1_172 : mm_lk mm_m1.1 172 = some (172, .putfield 82, 175, [1, 10, 5, 504, 0]) := rfl
theorem k1_175 : mm_lk mm_m1.1 175 = some (175, .aload_n 1, 176, []) := rfl
theorem k1_176 : mm_lk mm_m1.1 176 = some (176, .areturn, 177, []) := rfl
theorem k48_0 : mm_lk mm_m48.1 0 = some (0, .aload_n 0, 1, []) := rfl
theorem k48_1 : mm_lk mm_m48.1 1 = some (1, .invokespecial 3, 4, [9, 466]) := rfl
theorem k48_4 : mm_lk mm_m48.1 4 = some (4, .aload_n 0, 5, []) := rfl
theorem k48_5 : mm_lk mm_m48.1 5 = some (5, .iload_n 1, 6, []) := rfl
theorem k48_6 : mm_lk mm_m48.1 6 = some (6, .iconst 0, 7, []) := rfl
theorem k48_7 : mm_lk mm_m48.1 7 = some (7, .invokestatic 9, 10, [11, 467]) := rfl
theorem k48_10 : mm_lk mm_m48.1 10 = some (10, .newarray .int, 12, [0]) := rfl
theorem k48_12 : mm_lk mm_m48.1 12 = some (12, .putfield 15, 15, [0, 7, 0, 470]) := rfl
theorem k48_15 : mm_lk mm_m48.1 15 = some (15, .return_, 16, []) := rfl
theorem k61_0 : mm_lk mm_m61.1 0 = some (0, .aload_n 0, 1, []) := rfl
theorem k61_1 : mm_lk mm_m61.1 1 = some (1, .invokespecial 3, 4, [9, 460]) := rfl
theorem k61_4 : mm_lk mm_m61.1 4 = some (4, .aload_n 0, 5, []) := rfl
theorem k61_5 : mm_lk mm_m61.1 5 = some (5, .new 9, 8, [0, 7, 461, 462, 148]) := rfl
theorem k61_8 : mm_lk mm_m61.1 8 = some (8, .dup, 9, []) := rfl
theorem k61_9 : mm_lk mm_m61.1 9 = some (9, .iconst 5, 10, []) := rfl
theorem k61_10 : mm_lk mm_m61.1 10 = some (10, .invokespecial 11, 13, [2, 48, 2, 463, 464, 148]) := rfl
theorem k61_13 : mm_lk mm_m61.1 13 = some (13, .putfield 14, 16, [0, 10, 0, 481]) := rfl
theorem k61_16 : mm_lk mm_m61.1 16 = some (16, .aload_n 0, 17, []) := rfl
theorem k61_17 : mm_lk mm_m61.1 17 = some (17, .new 9, 20, [0, 7, 461, 462, 148]) := rfl
theorem k61_20 : mm_lk mm_m61.1 20 = some (20, .dup, 21, []) := rfl
theorem k61_21 : mm_lk mm_m61.1 21 = some (21, .iconst 5, 22, []) := rfl
theorem k61_22 : mm_lk mm_m61.1 22 = some (22, .invokespecial 11, 25, [2, 48, 2, 463, 464, 148]) := rfl
theorem k61_25 : mm_lk mm_m61.1 25 = some (25, .putfield 20, 28, [0, 10, 1, 487]) := rfl
theorem k61_28 : mm_lk mm_m61.1 28 = some (28, .aload_n 0, 29, []) := rfl
theorem k61_29 : mm_lk mm_m61.1 29 = some (29, .iconst 5, 30, []) := rfl
theorem k61_30 : mm_lk mm_m61.1 30 = some (30, .newarray .int, 32, [0]) := rfl
theorem k61_32 : mm_lk mm_m61.1 32 = some (32, .putfield 23, 35, [0, 10, 2, 494]) := rfl
theorem k61_35 : mm_lk mm_m61.1 35 = some (35, .aload_n 0, 36, []) := rfl
theorem k61_36 : mm_lk mm_m61.1 36 = some (36, .iconst (-1), 37, []) := rfl
theorem k61_37 : mm_lk mm_m61.1 37 = some (37, .putfield 27, 40, [0, 10, 5, 503]) := rfl
theorem k61_40 : mm_lk mm_m61.1 40 = some (40, .return_, 41, []) := rfl
theorem k64_0 : mm_lk mm_m64.1 0 = some (0, .bipush 24, 2, []) := rfl
theorem k64_2 : mm_lk mm_m64.1 2 = some (2, .istore_n 2, 3, []) := rfl
theorem k64_3 : mm_lk mm_m64.1 3 = some (3, .iload_n 2, 4, []) := rfl
theorem k64_4 : mm_lk mm_m64.1 4 = some (4, .ifCond .lt 37, 7, [41]) := rfl
theorem k64_7 : mm_lk mm_m64.1 7 = some (7, .aload_n 0, 8, []) := rfl
theorem k64_8 : mm_lk mm_m64.1 8 = some (8, .getfield 9, 11, [0, 11, 0, 178]) := rfl
theorem k64_11 : mm_lk mm_m64.1 11 = some (11, .aload_n 0, 12, []) := rfl
theorem k64_12 : mm_lk mm_m64.1 12 = some (12, .getfield 40, 15, [0, 11, 4, 183]) := rfl
theorem k64_15 : mm_lk mm_m64.1 15 = some (15, .iload_n 1, 16, []) := rfl
theorem k64_16 : mm_lk mm_m64.1 16 = some (16, .iload_n 2, 17, []) := rfl
theorem k64_17 : mm_lk mm_m64.1 17 = some (17, .iushr, 18, []) := rfl
theorem k64_18 : mm_lk mm_m64.1 18 = some (18, .sipush 255, 21, []) := rfl
theorem k64_21 : mm_lk mm_m64.1 21 = some (21, .iand, 22, []) := rfl
theorem k64_22 : mm_lk mm_m64.1 22 = some (22, .invokestatic 46, 25, [6, 157, 3, 448, 449, 132, 0]) := rfl
theorem k64_25 : mm_lk mm_m64.1 25 = some (25, .aload_n 0, 26, []) := rfl
theorem k64_26 : mm_lk mm_m64.1 26 = some (26, .dup, 27, []) := rfl
theorem k64_27 : mm_lk mm_m64.1 27 = some (27, .getfield 40, 30, [0, 11, 4, 183]) := rfl
theorem k64_30 : mm_lk mm_m64.1 30 = some (30, .iconst 1, 31, []) := rfl
theorem k64_31 : mm_lk mm_m64.1 31 = some (31, .iadd, 32, []) := rfl
theorem k64_32 : mm_lk mm_m64.1 32 = some (32, .putfield 40, 35, [0, 11, 4, 183]) := rfl
theorem k64_35 : mm_lk mm_m64.1 35 = some (35, .iinc 2 (-8), 38, []) := rfl
theorem k64_38 : mm_lk mm_m64.1 38 = some (38, .goto (-35), 41, [3]) := rfl
theorem k64_41 : mm_lk mm_m64.1 41 = some (41, .return_, 42, []) := rfl
theorem k98_0 : mm_lk mm_m98.1 0 = some (0, .aload_n 0, 1, []) := rfl
theorem k98_1 : mm_lk mm_m98.1 1 = some (1, .getfield 10, 4, [0, 13, 0, 841]) := rfl
theorem k98_4 : mm_lk mm_m98.1 4 = some (4, .getfield 101, 7, [1, 11, 4, 182, 0]) := rfl
theorem k98_7 : mm_lk mm_m98.1 7 = some (7, .sipush 580, 10, []) := rfl
theorem k98_10 : mm_lk mm_m98.1 10 = some (10, .if_icmp .le 11, 13, [21]) := rfl
theorem k98_13 : mm_lk mm_m98.1 13 = some (13, .new 105, 16, [1, 17, 1447, 107]) := rfl
theorem k98_21 : mm_lk mm_m98.1 21 = some (21, .aload_n 0, 22, []) := rfl
theorem k98_22 : mm_lk mm_m98.1 22 = some (22, .getfield 10, 25, [0, 13, 0, 841]) := rfl
theorem k98_25 : mm_lk mm_m98.1 25 = some (25, .iload_n 1, 26, []) := rfl
theorem k98_26 : mm_lk mm_m98.1 26 = some (26, .invokevirtual 108, 29, [0, 64, 2, 11, 1468, 1469, 1470, 133]) := rfl
theorem k98_29 : mm_lk mm_m98.1 29 = some (29, .aload_n 0, 30, []) := rfl
theorem k98_30 : mm_lk mm_m98.1 30 = some (30, .getfield 10, 33, [0, 13, 0, 841]) := rfl
theorem k98_33 : mm_lk mm_m98.1 33 = some (33, .iload_n 2, 34, []) := rfl
theorem k98_34 : mm_lk mm_m98.1 34 = some (34, .invokevirtual 108, 37, [0, 64, 2, 11, 1468, 1469, 1470, 133]) := rfl
theorem k98_37 : mm_lk mm_m98.1 37 = some (37, .aload_n 0, 38, []) := rfl
theorem k98_38 : mm_lk mm_m98.1 38 = some (38, .getfield 10, 41, [0, 13, 0, 841]) := rfl
theorem k98_41 : mm_lk mm_m98.1 41 = some (41, .iload_n 3, 42, []) := rfl
theorem k98_42 : mm_lk mm_m98.1 42 = some (42, .invokevirtual 108, 45, [0, 64, 2, 11, 1468, 1469, 1470, 133]) := rfl
theorem k98_45 : mm_lk mm_m98.1 45 = some (45, .aload_n 0, 46, []) := rfl
theorem k98_46 : mm_lk mm_m98.1 46 = some (46, .getfield 10, 49, [0, 13, 0, 841]) := rfl
theorem k98_49 : mm_lk mm_m98.1 49 = some (49, .iload 4, 51, []) := rfl
theorem k98_51 : mm_lk mm_m98.1 51 = some (51, .invokevirtual 108, 54, [0, 64, 2, 11, 1468, 1469, 1470, 133]) := rfl
theorem k98_54 : mm_lk mm_m98.1 54 = some (54, .aload_n 0, 55, []) := rfl
theorem k98_55 : mm_lk mm_m98.1 55 = some (55, .getfield 10, 58, [0, 13, 0, 841]) := rfl
theorem k98_58 : mm_lk mm_m98.1 58 = some (58, .iload 5, 60, []) := rfl
theorem k98_60 : mm_lk mm_m98.1 60 = some (60, .invokevirtual 108, 63, [0, 64, 2, 11, 1468, 1469, 1470, 133]) := rfl
theorem k98_63 : mm_lk mm_m98.1 63 = some (63, .aload_n 0, 64, []) := rfl
theorem k98_64 : mm_lk mm_m98.1 64 = some (64, .getfield 10, 67, [0, 13, 0, 841]) := rfl
theorem k98_67 : mm_lk mm_m98.1 67 = some (67, .getfield 101, 70, [1, 11, 4, 182, 0]) := rfl
theorem k98_70 : mm_lk mm_m98.1 70 = some (70, .ireturn, 71, []) := rfl
theorem k99_0 : mm_lk mm_m99.1 0 = some (0, .iload_n 1, 1, []) := rfl
theorem k99_1 : mm_lk mm_m99.1 1 = some (1, .ifCond .lt 14, 4, [15]) := rfl
theorem k99_4 : mm_lk mm_m99.1 4 = some (4, .iload_n 1, 5, []) := rfl
theorem k99_5 : mm_lk mm_m99.1 5 = some (5, .aload_n 0, 6, []) := rfl
theorem k99_6 : mm_lk mm_m99.1 6 = some (6, .getfield 10, 9, [0, 13, 0, 841]) := rfl
theorem k99_9 : mm_lk mm_m99.1 9 = some (9, .getfield 101, 12, [1, 11, 4, 182, 0]) := rfl
theorem k99_12 : mm_lk mm_m99.1 12 = some (12, .if_icmp .le 11, 15, [23]) := rfl
theorem k99_15 : mm_lk mm_m99.1 15 = some (15, .new 112, 18, [1, 15, 1480, 114]) := rfl
theorem k99_23 : mm_lk mm_m99.1 23 = some (23, .aload_n 0, 24, []) := rfl
theorem k99_24 : mm_lk mm_m99.1 24 = some (24, .getfield 10, 27, [0, 13, 0, 841]) := rfl
theorem k99_27 : mm_lk mm_m99.1 27 = some (27, .iload_n 1, 28, []) := rfl
theorem k99_28 : mm_lk mm_m99.1 28 = some (28, .putfield 101, 31, [1, 11, 4, 182, 0]) := rfl
theorem k99_31 : mm_lk mm_m99.1 31 = some (31, .iload_n 1, 32, []) := rfl
theorem k99_32 : mm_lk mm_m99.1 32 = some (32, .ireturn, 33, []) := rfl
theorem k100_0 : mm_lk mm_m100.1 0 = some (0, .aload_n 0, 1, []) := rfl
theorem k100_1 : mm_lk mm_m100.1 1 = some (1, .getfield 44, 4, [0, 13, 2, 843]) := rfl
theorem k100_4 : mm_lk mm_m100.1 4 = some (4, .invokevirtual 74, 7, [0, 1, 1, 2, 451, 452, 453, 137]) := rfl
theorem k100_7 : mm_lk mm_m100.1 7 = some (7, .astore_n 1, 8, []) := rfl
theorem k100_8 : mm_lk mm_m100.1 8 = some (8, .aload_n 0, 9, []) := rfl
theorem k100_9 : mm_lk mm_m100.1 9 = some (9, .getfield 10, 12, [0, 13, 0, 841]) := rfl
theorem k100_12 : mm_lk mm_m100.1 12 = some (12, .invokevirtual 78, 15, [0, 66, 1, 11, 764, 765, 766, 133]) := rfl
theorem k100_15 : mm_lk mm_m100.1 15 = some (15, .ifCond .ne 11, 18, [26]) := rfl
theorem k100_18 : mm_lk mm_m100.1 18 = some (18, .new 112, 21, [1, 15, 1480, 114]) := rfl
theorem k100_26 : mm_lk mm_m100.1 26 = some (26, .aload_n 0, 27, []) := rfl
theorem k100_27 : mm_lk mm_m100.1 27 = some (27, .getfield 87, 30, [0, 13, 8, 849]) := rfl
theorem k100_30 : mm_lk mm_m100.1 30 = some (30, .aload_n 1, 31, []) := rfl
theorem k100_31 : mm_lk mm_m100.1 31 = some (31, .invokevirtual 91, 34, [0, 87, 2, 12, 819, 820, 821, 149]) := rfl
theorem k100_34 : mm_lk mm_m100.1 34 = some (34, .aload_n 0, 35, []) := rfl
theorem k100_35 : mm_lk mm_m100.1 35 = some (35, .invokevirtual 115, 38, [0, 151, 1, 13, 1492, 1494, 34, 132]) := rfl
theorem k100_38 : mm_lk mm_m100.1 38 = some (38, .aload_n 0, 39, []) := rfl
theorem k100_39 : mm_lk mm_m100.1 39 = some (39, .getfield 87, 42, [0, 13, 8, 849]) := rfl
theorem k100_42 : mm_lk mm_m100.1 42 = some (42, .getfield 118, 45, [1, 12, 0, 803, 0]) := rfl
theorem k100_45 : mm_lk mm_m100.1 45 = some (45, .invokevirtual 121, 48, [0, 28, 1, 5, 977, 978, 979, 134]) := rfl
theorem k100_48 : mm_lk mm_m100.1 48 = some (48, .ireturn, 49, []) := rfl
