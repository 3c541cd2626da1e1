/-! ===== code, row by row (by program) ===== -/
/-- WhoKnowsModel.writesTwo(IILjava/lang/String;)V -/
def mm_m306 : mm_M := (mm_c306, 4, 0, [])
set_option maxRecDepth 20000 in
theorem P306 : mm_P 306 = some mm_m306 := rfl
/-- WhoKnowsModel.writesAhead(Ljava/lang/String;II)V -/
def mm_m307 : mm_M := (mm_c307, 4, 0, [])
set_option maxRecDepth 20000 in
theorem P307 : mm_P 307 = some mm_m307 := rfl
/-- WhoKnowsModel.writesNode(I)V -/
def mm_m308 : mm_M := (mm_c308, 5, 0, [])
set_option maxRecDepth 20000 in
theorem P308 : mm_P 308 = some mm_m308 := rfl
theorem k306_0 : mm_lk mm_m306.1 0 = some (0, .aload_n 0, 1, []) := rfl
theorem k306_1 : mm_lk mm_m306.1 1 = some (1, .bipush 40, 3, []) := rfl
theorem k306_3 : mm_lk mm_m306.1 3 = some (3, .invokevirtual 431, 6, [0, 299, 2, 14, 2440, 2442, 124, 151]) := rfl
theorem k306_6 : mm_lk mm_m306.1 6 = some (6, .aload_n 0, 7, []) := rfl
theorem k306_7 : mm_lk mm_m306.1 7 = some (7, .iload_n 1, 8, []) := rfl
theorem k306_8 : mm_lk mm_m306.1 8 = some (8, .invokevirtual 449, 11, [0, 308, 2, 14, 2464, 2466, 128, 151]) := rfl
theorem k306_11 : mm_lk mm_m306.1 11 = some (11, .aload_n 0, 12, []) := rfl
theorem k306_12 : mm_lk mm_m306.1 12 = some (12, .aload_n 3, 13, []) := rfl
theorem k306_13 : mm_lk mm_m306.1 13 = some (13, .invokevirtual 436, 16, [0, 300, 2, 14, 2436, 2438, 123, 151]) := rfl
theorem k306_16 : mm_lk mm_m306.1 16 = some (16, .aload_n 0, 17, []) := rfl
theorem k306_17 : mm_lk mm_m306.1 17 = some (17, .iload_n 2, 18, []) := rfl
theorem k306_18 : mm_lk mm_m306.1 18 = some (18, .invokevirtual 449, 21, [0, 308, 2, 14, 2464, 2466, 128, 151]) := rfl
theorem k306_21 : mm_lk mm_m306.1 21 = some (21, .aload_n 0, 22, []) := rfl
theorem k306_22 : mm_lk mm_m306.1 22 = some (22, .bipush 41, 24, []) := rfl
theorem k306_24 : mm_lk mm_m306.1 24 = some (24, .invokevirtual 431, 27, [0, 299, 2, 14, 2440, 2442, 124, 151]) := rfl
theorem k306_27 : mm_lk mm_m306.1 27 = some (27, .return_, 28, []) := rfl
theorem k307_0 : mm_lk mm_m307.1 0 = some (0, .aload_n 0, 1, []) := rfl
theorem k307_1 : mm_lk mm_m307.1 1 = some (1, .aload_n 1, 2, []) := rfl
theorem k307_2 : mm_lk mm_m307.1 2 = some (2, .invokevirtual 436, 5, [0, 300, 2, 14, 2436, 2438, 123, 151]) := rfl
theorem k307_5 : mm_lk mm_m307.1 5 = some (5, .iload_n 2, 6, []) := rfl
theorem k307_6 : mm_lk mm_m307.1 6 = some (6, .iconst (-1), 7, []) := rfl
theorem k307_7 : mm_lk mm_m307.1 7 = some (7, .if_icmp .eq 20, 10, [27]) := rfl
theorem k307_10 : mm_lk mm_m307.1 10 = some (10, .aload_n 0, 11, []) := rfl
theorem k307_11 : mm_lk mm_m307.1 11 = some (11, .bipush 115, 13, []) := rfl
theorem k307_13 : mm_lk mm_m307.1 13 = some (13, .bipush 7, 15, []) := rfl
theorem k307_15 : mm_lk mm_m307.1 15 = some (15, .iload_n 2, 16, []) := rfl
theorem k307_16 : mm_lk mm_m307.1 16 = some (16, .imul, 17, []) := rfl
theorem k307_17 : mm_lk mm_m307.1 17 = some (17, .iadd, 18, []) := rfl
theorem k307_18 : mm_lk mm_m307.1 18 = some (18, .invokevirtual 440, 21, [0, 301, 2, 14, 2444, 2446, 125, 151]) := rfl
theorem k307_21 : mm_lk mm_m307.1 21 = some (21, .aload_n 0, 22, []) := rfl
theorem k307_22 : mm_lk mm_m307.1 22 = some (22, .bipush 32, 24, []) := rfl
theorem k307_24 : mm_lk mm_m307.1 24 = some (24, .invokevirtual 431, 27, [0, 299, 2, 14, 2440, 2442, 124, 151]) := rfl
theorem k307_27 : mm_lk mm_m307.1 27 = some (27, .aload_n 0, 28, []) := rfl
theorem k307_28 : mm_lk mm_m307.1 28 = some (28, .iload_n 3, 29, []) := rfl
theorem k307_29 : mm_lk mm_m307.1 29 = some (29, .invokevirtual 449, 32, [0, 308, 2, 14, 2464, 2466, 128, 151]) := rfl
theorem k307_32 : mm_lk mm_m307.1 32 = some (32, .return_, 33, []) := rfl
theorem k308_0 : mm_lk mm_m308.1 0 = some (0, .sipush 321, 3, []) := rfl
theorem k308_3 : mm_lk mm_m308.1 3 = some (3, .iconst 4, 4, []) := rfl
theorem k308_4 : mm_lk mm_m308.1 4 = some (4, .iload_n 1, 5, []) := rfl
theorem k308_5 : mm_lk mm_m308.1 5 = some (5, .imul, 6, []) := rfl
theorem k308_6 : mm_lk mm_m308.1 6 = some (6, .iadd, 7, []) := rfl
theorem k308_7 : mm_lk mm_m308.1 7 = some (7, .istore_n 2, 8, []) := rfl
theorem k308_8 : mm_lk mm_m308.1 8 = some (8, .aload_n 0, 9, []) := rfl
theorem k308_9 : mm_lk mm_m308.1 9 = some (9, .getfield 7, 12, [0, 14, 0, 1828]) := rfl
theorem k308_12 : mm_lk mm_m308.1 12 = some (12, .iload_n 2, 13, []) := rfl
theorem k308_13 : mm_lk mm_m308.1 13 = some (13, .iconst 1, 14, []) := rfl
theorem k308_14 : mm_lk mm_m308.1 14 = some (14, .iadd, 15, []) := rfl
theorem k308_15 : mm_lk mm_m308.1 15 = some (15, .iaload, 16, []) := rfl
theorem k308_16 : mm_lk mm_m308.1 16 = some (16, .istore_n 3, 17, []) := rfl
theorem k308_17 : mm_lk mm_m308.1 17 = some (17, .aload_n 0, 18, []) := rfl
theorem k308_18 : mm_lk mm_m308.1 18 = some (18, .getfield 7, 21, [0, 14, 0, 1828]) := rfl
theorem k308_21 : mm_lk mm_m308.1 21 = some (21, .iload_n 2, 22, []) := rfl
theorem k308_22 : mm_lk mm_m308.1 22 = some (22, .iconst 2, 23, []) := rfl
theorem k308_23 : mm_lk mm_m308.1 23 = some (23, .iadd, 24, []) := rfl
theorem k308_24 : mm_lk mm_m308.1 24 = some (24, .iaload, 25, []) := rfl
theorem k308_25 : mm_lk mm_m308.1 25 = some (25, .istore 4, 27, []) := rfl
theorem k308_27 : mm_lk mm_m308.1 27 = some (27, .aload_n 0, 28, []) := rfl
theorem k308_28 : mm_lk mm_m308.1 28 = some (28, .getfield 7, 31, [0, 14, 0, 1828]) := rfl
theorem k308_31 : mm_lk mm_m308.1 31 = some (31, .iload_n 2, 32, []) := rfl
theorem k308_32 : mm_lk mm_m308.1 32 = some (32, .iaload, 33, []) := rfl
theorem k308_33 : mm_lk mm_m308.1 33 = some (33, .tableswitch 119 0 6 #[43, 55, 65, 76, 87, 98, 109], 76, [152, 76, 88, 98, 109, 120, 131, 142]) := rfl
theorem k308_76 : mm_lk mm_m308.1 76 = some (76, .aload_n 0, 77, []) := rfl
theorem k308_77 : mm_lk mm_m308.1 77 = some (77, .bipush 80, 79, []) := rfl
theorem k308_79 : mm_lk mm_m308.1 79 = some (79, .bipush 7, 81, []) := rfl
theorem k308_81 : mm_lk mm_m308.1 81 = some (81, .iload_n 3, 82, []) := rfl
theorem k308_82 : mm_lk mm_m308.1 82 = some (82, .imul, 83, []) := rfl
theorem k308_83 : mm_lk mm_m308.1 83 = some (83, .iadd, 84, []) := rfl
theorem k308_84 : mm_lk mm_m308.1 84 = some (84, .invokevirtual 440, 87, [0, 301, 2, 14, 2444, 2446, 125, 151]) := rfl
theorem k308_87 : mm_lk mm_m308.1 87 = some (87, .return_, 88, []) := rfl
theorem k308_88 : mm_lk mm_m308.1 88 = some (88, .aload_n 0, 89, []) := rfl
theorem k308_89 : mm_lk mm_m308.1 89 = some (89, .ldc_w 452, 92, [1, 48, 2468]) := rfl
theorem k308_92 : mm_lk mm_m308.1 92 = some (92, .iconst (-1), 93, []) := rfl
theorem k308_93 : mm_lk mm_m308.1 93 = some (93, .iload_n 3, 94, []) := rfl
theorem k308_94 : mm_lk mm_m308.1 94 = some (94, .invokevirtual 454, 97, [0, 307, 4, 14, 2469, 2471, 129, 151]) := rfl
theorem k308_97 : mm_lk mm_m308.1 97 = some (97, .return_, 98, []) := rfl
theorem k308_98 : mm_lk mm_m308.1 98 = some (98, .aload_n 0, 99, []) := rfl
theorem k308_99 : mm_lk mm_m308.1 99 = some (99, .iload_n 3, 100, []) := rfl
theorem k308_100 : mm_lk mm_m308.1 100 = some (100, .iload 4, 102, []) := rfl
theorem k308_102 : mm_lk mm_m308.1 102 = some (102, .ldc_w 458, 105, [1, 30, 2473]) := rfl
theorem k308_105 : mm_lk mm_m308.1 105 = some (105, .invokevirtual 460, 108, [0, 306, 4, 14, 2474, 2476, 130, 151]) := rfl
theorem k308_108 : mm_lk mm_m308.1 108 = some (108, .return_, 109, []) := rfl
theorem k308_109 : mm_lk mm_m308.1 109 = some (109, .aload_n 0, 110, []) := rfl
theorem k308_110 : mm_lk mm_m308.1 110 = some (110, .iload_n 3, 111, []) := rfl
theorem k308_111 : mm_lk mm_m308.1 111 = some (111, .iload 4, 113, []) := rfl
theorem k308_113 : mm_lk mm_m308.1 113 = some (113, .ldc_w 464, 116, [1, 32, 2478]) := rfl
theorem k308_116 : mm_lk mm_m308.1 116 = some (116, .invokevirtual 460, 119, [0, 306, 4, 14, 2474, 2476, 130, 151]) := rfl
theorem k308_119 : mm_lk mm_m308.1 119 = some (119, .return_, 120, []) := rfl
theorem k308_120 : mm_lk mm_m308.1 120 = some (120, .aload_n 0, 121, []) := rfl
theorem k308_121 : mm_lk mm_m308.1 121 = some (121, .ldc_w 466, 124, [1, 50, 2479]) := rfl
theorem k308_124 : mm_lk mm_m308.1 124 = some (124, .iload 4, 126, []) := rfl
theorem k308_126 : mm_lk mm_m308.1 126 = some (126, .iload_n 3, 127, []) := rfl
theorem k308_127 : mm_lk mm_m308.1 127 = some (127, .invokevirtual 454, 130, [0, 307, 4, 14, 2469, 2471, 129, 151]) := rfl
theorem k308_130 : mm_lk mm_m308.1 130 = some (130, .return_, 131, []) := rfl
theorem k308_131 : mm_lk mm_m308.1 131 = some (131, .aload_n 0, 132, []) := rfl
theorem k308_132 : mm_lk mm_m308.1 132 = some (132, .ldc_w 468, 135, [1, 52, 2480]) := rfl
theorem k308_135 : mm_lk mm_m308.1 135 = some (135, .iload 4, 137, []) := rfl
theorem k308_137 : mm_lk mm_m308.1 137 = some (137, .iload_n 3, 138, []) := rfl
theorem k308_138 : mm_lk mm_m308.1 138 = some (138, .invokevirtual 454, 141, [0, 307, 4, 14, 2469, 2471, 129, 151]) := rfl
theorem k308_141 : mm_lk mm_m308.1 141 = some (141, .return_, 142, []) := rfl
theorem k308_142 : mm_lk mm_m308.1 142 = some (142, .aload_n 0, 143, []) := rfl
theorem k308_143 : mm_lk mm_m308.1 143 = some (143, .ldc_w 470, 146, [1, 54, 2481]) := rfl
theorem k308_146 : mm_lk mm_m308.1 146 = some (146, .iconst (-1), 147, []) := rfl
theorem k308_147 : mm_lk mm_m308.1 147 = some (147, .iload_n 3, 148, []) := rfl
theorem k308_148 : mm_lk mm_m308.1 148 = some (148, .invokevirtual 454, 151, [0, 307, 4, 14, 2469, 2471, 129, 151]) := rfl
theorem k308_151 : mm_lk mm_m308.1 151 = some (151, .return_, 152, []) := rfl
theorem k308_152 : mm_lk mm_m308.1 152 = some (152, .aload_n 0, 153, []) := rfl
theorem k308_153 : mm_lk mm_m308.1 153 = some (153, .ldc_w 472, 156, [1, 56, 2482]) := rfl
theorem k308_156 : mm_lk mm_m308.1 156 = some (156, .iconst (-1), 157, []) := rfl
theorem k308_157 : mm_lk mm_m308.1 157 = some (157, .iload_n 3, 158, []) := rfl
theorem k308_158 : mm_lk mm_m308.1 158 = some (158, .invokevirtual 454, 161, [0, 307, 4, 14, 2469, 2471, 129, 151]) := rfl
theorem k308_161 : mm_lk mm_m308.1 161 = some (161, .return_, 162, []) := rfl
