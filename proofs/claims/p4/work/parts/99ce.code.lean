/-! ===== code, row by row (by program) ===== -/
/-- WhoKnowsModel.writes(I)V -/
def mm_m299 : mm_M := (mm_c299, 2, 0, [])
set_option maxRecDepth 20000 in
theorem P299 : mm_P 299 = some mm_m299 := rfl
/-- WhoKnowsModel.writesText(Ljava/lang/String;)V -/
def mm_m300 : mm_M := (mm_c300, 3, 0, [])
set_option maxRecDepth 20000 in
theorem P300 : mm_P 300 = some mm_m300 := rfl
/-- WhoKnowsModel.writesName(I)V -/
def mm_m301 : mm_M := (mm_c301, 3, 0, [])
set_option maxRecDepth 20000 in
theorem P301 : mm_P 301 = some mm_m301 := rfl
/-- WhoKnowsModel.writesNumber(I)V -/
def mm_m302 : mm_M := (mm_c302, 2, 0, [])
set_option maxRecDepth 20000 in
theorem P302 : mm_P 302 = some mm_m302 := rfl
/-- WhoKnowsModel.writeWorld(I)I -/
def mm_m303 : mm_M := (mm_c303, 4, 1, [])
set_option maxRecDepth 20000 in
theorem P303 : mm_P 303 = some mm_m303 := rfl
theorem k299_0 : mm_lk mm_m299.1 0 = some (0, .aload_n 0, 1, []) := rfl
theorem k299_1 : mm_lk mm_m299.1 1 = some (1, .getfield 41, 4, [0, 14, 25, 1853]) := rfl
theorem k299_4 : mm_lk mm_m299.1 4 = some (4, .aload_n 0, 5, []) := rfl
theorem k299_5 : mm_lk mm_m299.1 5 = some (5, .getfield 428, 8, [0, 14, 26, 1854]) := rfl
theorem k299_8 : mm_lk mm_m299.1 8 = some (8, .iload_n 1, 9, []) := rfl
theorem k299_9 : mm_lk mm_m299.1 9 = some (9, .iastore, 10, []) := rfl
theorem k299_10 : mm_lk mm_m299.1 10 = some (10, .aload_n 0, 11, []) := rfl
theorem k299_11 : mm_lk mm_m299.1 11 = some (11, .dup, 12, []) := rfl
theorem k299_12 : mm_lk mm_m299.1 12 = some (12, .getfield 428, 15, [0, 14, 26, 1854]) := rfl
theorem k299_15 : mm_lk mm_m299.1 15 = some (15, .iconst 1, 16, []) := rfl
theorem k299_16 : mm_lk mm_m299.1 16 = some (16, .iadd, 17, []) := rfl
theorem k299_17 : mm_lk mm_m299.1 17 = some (17, .putfield 428, 20, [0, 14, 26, 1854]) := rfl
theorem k299_20 : mm_lk mm_m299.1 20 = some (20, .return_, 21, []) := rfl
theorem k300_0 : mm_lk mm_m300.1 0 = some (0, .iconst 0, 1, []) := rfl
theorem k300_1 : mm_lk mm_m300.1 1 = some (1, .istore_n 2, 2, []) := rfl
theorem k300_2 : mm_lk mm_m300.1 2 = some (2, .iload_n 2, 3, []) := rfl
theorem k300_3 : mm_lk mm_m300.1 3 = some (3, .aload_n 1, 4, []) := rfl
theorem k300_4 : mm_lk mm_m300.1 4 = some (4, .invokevirtual 154, 7, [0, 362, 1, 0, 1975, 399, 400, 142]) := rfl
theorem k300_7 : mm_lk mm_m300.1 7 = some (7, .if_icmp .ge 18, 10, [25]) := rfl
theorem k300_10 : mm_lk mm_m300.1 10 = some (10, .aload_n 0, 11, []) := rfl
theorem k300_11 : mm_lk mm_m300.1 11 = some (11, .aload_n 1, 12, []) := rfl
theorem k300_12 : mm_lk mm_m300.1 12 = some (12, .iload_n 2, 13, []) := rfl
theorem k300_13 : mm_lk mm_m300.1 13 = some (13, .invokevirtual 158, 16, [0, 363, 2, 0, 1976, 411, 412, 142]) := rfl
theorem k300_16 : mm_lk mm_m300.1 16 = some (16, .invokevirtual 431, 19, [0, 299, 2, 14, 2440, 2442, 124, 151]) := rfl
theorem k300_19 : mm_lk mm_m300.1 19 = some (19, .iinc 2 1, 22, []) := rfl
theorem k300_22 : mm_lk mm_m300.1 22 = some (22, .goto (-20), 25, [2]) := rfl
theorem k300_25 : mm_lk mm_m300.1 25 = some (25, .return_, 26, []) := rfl
theorem k301_0 : mm_lk mm_m301.1 0 = some (0, .iconst 0, 1, []) := rfl
theorem k301_1 : mm_lk mm_m301.1 1 = some (1, .istore_n 2, 2, []) := rfl
theorem k301_2 : mm_lk mm_m301.1 2 = some (2, .iload_n 2, 3, []) := rfl
theorem k301_3 : mm_lk mm_m301.1 3 = some (3, .aload_n 0, 4, []) := rfl
theorem k301_4 : mm_lk mm_m301.1 4 = some (4, .getfield 7, 7, [0, 14, 0, 1828]) := rfl
theorem k301_7 : mm_lk mm_m301.1 7 = some (7, .iload_n 1, 8, []) := rfl
theorem k301_8 : mm_lk mm_m301.1 8 = some (8, .iaload, 9, []) := rfl
theorem k301_9 : mm_lk mm_m301.1 9 = some (9, .if_icmp .ge 23, 12, [32]) := rfl
theorem k301_12 : mm_lk mm_m301.1 12 = some (12, .aload_n 0, 13, []) := rfl
theorem k301_13 : mm_lk mm_m301.1 13 = some (13, .aload_n 0, 14, []) := rfl
theorem k301_14 : mm_lk mm_m301.1 14 = some (14, .getfield 7, 17, [0, 14, 0, 1828]) := rfl
theorem k301_17 : mm_lk mm_m301.1 17 = some (17, .iload_n 1, 18, []) := rfl
theorem k301_18 : mm_lk mm_m301.1 18 = some (18, .iconst 1, 19, []) := rfl
theorem k301_19 : mm_lk mm_m301.1 19 = some (19, .iadd, 20, []) := rfl
theorem k301_20 : mm_lk mm_m301.1 20 = some (20, .iload_n 2, 21, []) := rfl
theorem k301_21 : mm_lk mm_m301.1 21 = some (21, .iadd, 22, []) := rfl
theorem k301_22 : mm_lk mm_m301.1 22 = some (22, .iaload, 23, []) := rfl
theorem k301_23 : mm_lk mm_m301.1 23 = some (23, .invokevirtual 431, 26, [0, 299, 2, 14, 2440, 2442, 124, 151]) := rfl
theorem k301_26 : mm_lk mm_m301.1 26 = some (26, .iinc 2 1, 29, []) := rfl
theorem k301_29 : mm_lk mm_m301.1 29 = some (29, .goto (-27), 32, [2]) := rfl
theorem k301_32 : mm_lk mm_m301.1 32 = some (32, .return_, 33, []) := rfl
theorem k302_0 : mm_lk mm_m302.1 0 = some (0, .iload_n 1, 1, []) := rfl
theorem k302_1 : mm_lk mm_m302.1 1 = some (1, .bipush 9, 3, []) := rfl
theorem k302_3 : mm_lk mm_m302.1 3 = some (3, .if_icmp .le 14, 6, [17]) := rfl
theorem k302_6 : mm_lk mm_m302.1 6 = some (6, .aload_n 0, 7, []) := rfl
theorem k302_7 : mm_lk mm_m302.1 7 = some (7, .bipush 48, 9, []) := rfl
theorem k302_9 : mm_lk mm_m302.1 9 = some (9, .iload_n 1, 10, []) := rfl
theorem k302_10 : mm_lk mm_m302.1 10 = some (10, .bipush 10, 12, []) := rfl
theorem k302_12 : mm_lk mm_m302.1 12 = some (12, .idiv, 13, []) := rfl
theorem k302_13 : mm_lk mm_m302.1 13 = some (13, .iadd, 14, []) := rfl
theorem k302_14 : mm_lk mm_m302.1 14 = some (14, .invokevirtual 431, 17, [0, 299, 2, 14, 2440, 2442, 124, 151]) := rfl
theorem k302_17 : mm_lk mm_m302.1 17 = some (17, .aload_n 0, 18, []) := rfl
theorem k302_18 : mm_lk mm_m302.1 18 = some (18, .bipush 48, 20, []) := rfl
theorem k302_20 : mm_lk mm_m302.1 20 = some (20, .iload_n 1, 21, []) := rfl
theorem k302_21 : mm_lk mm_m302.1 21 = some (21, .bipush 10, 23, []) := rfl
theorem k302_23 : mm_lk mm_m302.1 23 = some (23, .irem, 24, []) := rfl
theorem k302_24 : mm_lk mm_m302.1 24 = some (24, .iadd, 25, []) := rfl
theorem k302_25 : mm_lk mm_m302.1 25 = some (25, .invokevirtual 431, 28, [0, 299, 2, 14, 2440, 2442, 124, 151]) := rfl
theorem k302_28 : mm_lk mm_m302.1 28 = some (28, .return_, 29, []) := rfl
theorem k303_0 : mm_lk mm_m303.1 0 = some (0, .aload_n 0, 1, []) := rfl
theorem k303_1 : mm_lk mm_m303.1 1 = some (1, .aload_n 0, 2, []) := rfl
theorem k303_2 : mm_lk mm_m303.1 2 = some (2, .iload_n 1, 3, []) := rfl
theorem k303_3 : mm_lk mm_m303.1 3 = some (3, .invokevirtual 390, 6, [0, 182, 2, 14, 2266, 2268, 111, 151]) := rfl
theorem k303_6 : mm_lk mm_m303.1 6 = some (6, .invokevirtual 119, 9, [0, 176, 2, 14, 1918, 1920, 45, 151]) := rfl
theorem k303_9 : mm_lk mm_m303.1 9 = some (9, .ifCond .ne 5, 12, [14]) := rfl
theorem k303_12 : mm_lk mm_m303.1 12 = some (12, .iconst 0, 13, []) := rfl
theorem k303_13 : mm_lk mm_m303.1 13 = some (13, .ireturn, 14, []) := rfl
theorem k303_14 : mm_lk mm_m303.1 14 = some (14, .aload_n 0, 15, []) := rfl
theorem k303_15 : mm_lk mm_m303.1 15 = some (15, .iconst 0, 16, []) := rfl
theorem k303_16 : mm_lk mm_m303.1 16 = some (16, .putfield 428, 19, [0, 14, 26, 1854]) := rfl
theorem k303_19 : mm_lk mm_m303.1 19 = some (19, .aload_n 0, 20, []) := rfl
theorem k303_20 : mm_lk mm_m303.1 20 = some (20, .iload_n 1, 21, []) := rfl
theorem k303_21 : mm_lk mm_m303.1 21 = some (21, .invokevirtual 70, 24, [0, 185, 2, 14, 2101, 2103, 80, 151]) := rfl
theorem k303_24 : mm_lk mm_m303.1 24 = some (24, .ifCond .ne 10, 27, [34]) := rfl
theorem k303_27 : mm_lk mm_m303.1 27 = some (27, .aload_n 0, 28, []) := rfl
theorem k303_28 : mm_lk mm_m303.1 28 = some (28, .ldc_w 434, 31, [1, 46, 2435]) := rfl
theorem k303_31 : mm_lk mm_m303.1 31 = some (31, .invokevirtual 436, 34, [0, 300, 2, 14, 2436, 2438, 123, 151]) := rfl
theorem k303_34 : mm_lk mm_m303.1 34 = some (34, .iload_n 1, 35, []) := rfl
theorem k303_35 : mm_lk mm_m303.1 35 = some (35, .aload_n 0, 36, []) := rfl
theorem k303_36 : mm_lk mm_m303.1 36 = some (36, .getfield 7, 39, [0, 14, 0, 1828]) := rfl
theorem k303_39 : mm_lk mm_m303.1 39 = some (39, .iconst 4, 40, []) := rfl
theorem k303_40 : mm_lk mm_m303.1 40 = some (40, .iaload, 41, []) := rfl
theorem k303_41 : mm_lk mm_m303.1 41 = some (41, .if_icmp .ne 9, 44, [50]) := rfl
theorem k303_44 : mm_lk mm_m303.1 44 = some (44, .aload_n 0, 45, []) := rfl
theorem k303_45 : mm_lk mm_m303.1 45 = some (45, .bipush 33, 47, []) := rfl
theorem k303_47 : mm_lk mm_m303.1 47 = some (47, .invokevirtual 431, 50, [0, 299, 2, 14, 2440, 2442, 124, 151]) := rfl
theorem k303_50 : mm_lk mm_m303.1 50 = some (50, .iconst 1, 51, []) := rfl
theorem k303_51 : mm_lk mm_m303.1 51 = some (51, .istore_n 2, 52, []) := rfl
theorem k303_52 : mm_lk mm_m303.1 52 = some (52, .iconst 0, 53, []) := rfl
theorem k303_53 : mm_lk mm_m303.1 53 = some (53, .istore_n 3, 54, []) := rfl
theorem k303_54 : mm_lk mm_m303.1 54 = some (54, .iload_n 3, 55, []) := rfl
theorem k303_55 : mm_lk mm_m303.1 55 = some (55, .aload_n 0, 56, []) := rfl
theorem k303_56 : mm_lk mm_m303.1 56 = some (56, .invokevirtual 55, 59, [0, 178, 1, 14, 2002, 2004, 57, 151]) := rfl
theorem k303_59 : mm_lk mm_m303.1 59 = some (59, .if_icmp .ge 43, 62, [102]) := rfl
theorem k303_62 : mm_lk mm_m303.1 62 = some (62, .iload_n 1, 63, []) := rfl
theorem k303_63 : mm_lk mm_m303.1 63 = some (63, .iload_n 3, 64, []) := rfl
theorem k303_64 : mm_lk mm_m303.1 64 = some (64, .invokestatic 51, 67, [1, 173, 2, 2094, 2095, 151]) := rfl
theorem k303_67 : mm_lk mm_m303.1 67 = some (67, .ifCond .ne 6, 70, [73]) := rfl
theorem k303_70 : mm_lk mm_m303.1 70 = some (70, .goto 26, 73, [96]) := rfl
theorem k303_73 : mm_lk mm_m303.1 73 = some (73, .iload_n 2, 74, []) := rfl
theorem k303_74 : mm_lk mm_m303.1 74 = some (74, .ifCond .ne 9, 77, [83]) := rfl
theorem k303_77 : mm_lk mm_m303.1 77 = some (77, .aload_n 0, 78, []) := rfl
theorem k303_78 : mm_lk mm_m303.1 78 = some (78, .bipush 43, 80, []) := rfl
theorem k303_80 : mm_lk mm_m303.1 80 = some (80, .invokevirtual 431, 83, [0, 299, 2, 14, 2440, 2442, 124, 151]) := rfl
theorem k303_83 : mm_lk mm_m303.1 83 = some (83, .aload_n 0, 84, []) := rfl
theorem k303_84 : mm_lk mm_m303.1 84 = some (84, .bipush 80, 86, []) := rfl
theorem k303_86 : mm_lk mm_m303.1 86 = some (86, .bipush 7, 88, []) := rfl
theorem k303_88 : mm_lk mm_m303.1 88 = some (88, .iload_n 3, 89, []) := rfl
theorem k303_89 : mm_lk mm_m303.1 89 = some (89, .imul, 90, []) := rfl
theorem k303_90 : mm_lk mm_m303.1 90 = some (90, .iadd, 91, []) := rfl
theorem k303_91 : mm_lk mm_m303.1 91 = some (91, .invokevirtual 440, 94, [0, 301, 2, 14, 2444, 2446, 125, 151]) := rfl
theorem k303_94 : mm_lk mm_m303.1 94 = some (94, .iconst 0, 95, []) := rfl
theorem k303_95 : mm_lk mm_m303.1 95 = some (95, .istore_n 2, 96, []) := rfl
theorem k303_96 : mm_lk mm_m303.1 96 = some (96, .iinc 3 1, 99, []) := rfl
theorem k303_99 : mm_lk mm_m303.1 99 = some (99, .goto (-45), 102, [54]) := rfl
theorem k303_102 : mm_lk mm_m303.1 102 = some (102, .iload_n 2, 103, []) := rfl
theorem k303_103 : mm_lk mm_m303.1 103 = some (103, .ifCond .eq 9, 106, [112]) := rfl
theorem k303_106 : mm_lk mm_m303.1 106 = some (106, .aload_n 0, 107, []) := rfl
theorem k303_107 : mm_lk mm_m303.1 107 = some (107, .bipush 45, 109, []) := rfl
theorem k303_109 : mm_lk mm_m303.1 109 = some (109, .invokevirtual 431, 112, [0, 299, 2, 14, 2440, 2442, 124, 151]) := rfl
theorem k303_112 : mm_lk mm_m303.1 112 = some (112, .aload_n 0, 113, []) := rfl
theorem k303_113 : mm_lk mm_m303.1 113 = some (113, .getfield 428, 116, [0, 14, 26, 1854]) := rfl
theorem k303_116 : mm_lk mm_m303.1 116 = some (116, .ireturn, 117, []) := rfl
