/-! ===== code, row by row (by program) ===== -/
/-- WhoKnowsModel.factsLine()V -/
def mm_m229 : mm_M := (mm_c229, 1, 0, [])
set_option maxRecDepth 20000 in
theorem P229 : mm_P 229 = some mm_m229 := rfl
theorem k229_0 : mm_lk mm_m229.1 0 = some (0, .aload_n 0, 1, []) := rfl
theorem k229_1 : mm_lk mm_m229.1 1 = some (1, .aload_n 0, 2, []) := rfl
theorem k229_2 : mm_lk mm_m229.1 2 = some (2, .ldc 251, 4, [1, 22, 1956]) := rfl
theorem k229_4 : mm_lk mm_m229.1 4 = some (4, .invokevirtual 252, 7, [0, 206, 2, 14, 1957, 1959, 49, 151]) := rfl
theorem k229_7 : mm_lk mm_m229.1 7 = some (7, .iconst 1, 8, []) := rfl
theorem k229_8 : mm_lk mm_m229.1 8 = some (8, .invokevirtual 166, 11, [0, 204, 3, 14, 1977, 1979, 53, 151]) := rfl
theorem k229_11 : mm_lk mm_m229.1 11 = some (11, .aload_n 0, 12, []) := rfl
theorem k229_12 : mm_lk mm_m229.1 12 = some (12, .aload_n 0, 13, []) := rfl
theorem k229_13 : mm_lk mm_m229.1 13 = some (13, .iconst 0, 14, []) := rfl
theorem k229_14 : mm_lk mm_m229.1 14 = some (14, .invokevirtual 195, 17, [0, 211, 2, 14, 1985, 1987, 55, 151]) := rfl
theorem k229_17 : mm_lk mm_m229.1 17 = some (17, .iconst (-1), 18, []) := rfl
theorem k229_18 : mm_lk mm_m229.1 18 = some (18, .if_icmp .ne 7, 21, [25]) := rfl
theorem k229_21 : mm_lk mm_m229.1 21 = some (21, .iconst 1, 22, []) := rfl
theorem k229_22 : mm_lk mm_m229.1 22 = some (22, .goto 4, 25, [26]) := rfl
theorem k229_25 : mm_lk mm_m229.1 25 = some (25, .iconst 0, 26, []) := rfl
theorem k229_26 : mm_lk mm_m229.1 26 = some (26, .iconst 2, 27, []) := rfl
theorem k229_27 : mm_lk mm_m229.1 27 = some (27, .invokevirtual 166, 30, [0, 204, 3, 14, 1977, 1979, 53, 151]) := rfl
theorem k229_30 : mm_lk mm_m229.1 30 = some (30, .aload_n 0, 31, []) := rfl
theorem k229_31 : mm_lk mm_m229.1 31 = some (31, .aload_n 0, 32, []) := rfl
theorem k229_32 : mm_lk mm_m229.1 32 = some (32, .invokevirtual 55, 35, [0, 178, 1, 14, 2002, 2004, 57, 151]) := rfl
theorem k229_35 : mm_lk mm_m229.1 35 = some (35, .iconst 5, 36, []) := rfl
theorem k229_36 : mm_lk mm_m229.1 36 = some (36, .if_icmp .ge 7, 39, [43]) := rfl
theorem k229_39 : mm_lk mm_m229.1 39 = some (39, .iconst 1, 40, []) := rfl
theorem k229_40 : mm_lk mm_m229.1 40 = some (40, .goto 4, 43, [44]) := rfl
theorem k229_43 : mm_lk mm_m229.1 43 = some (43, .iconst 0, 44, []) := rfl
theorem k229_44 : mm_lk mm_m229.1 44 = some (44, .iconst 3, 45, []) := rfl
theorem k229_45 : mm_lk mm_m229.1 45 = some (45, .invokevirtual 166, 48, [0, 204, 3, 14, 1977, 1979, 53, 151]) := rfl
theorem k229_48 : mm_lk mm_m229.1 48 = some (48, .aload_n 0, 49, []) := rfl
theorem k229_49 : mm_lk mm_m229.1 49 = some (49, .getfield 142, 52, [0, 14, 14, 1842]) := rfl
theorem k229_52 : mm_lk mm_m229.1 52 = some (52, .ifCond .eq 4, 55, [56]) := rfl
theorem k229_55 : mm_lk mm_m229.1 55 = some (55, .return_, 56, []) := rfl
theorem k229_56 : mm_lk mm_m229.1 56 = some (56, .aload_n 0, 57, []) := rfl
theorem k229_57 : mm_lk mm_m229.1 57 = some (57, .bipush 80, 59, []) := rfl
theorem k229_59 : mm_lk mm_m229.1 59 = some (59, .bipush 7, 61, []) := rfl
theorem k229_61 : mm_lk mm_m229.1 61 = some (61, .aload_n 0, 62, []) := rfl
theorem k229_62 : mm_lk mm_m229.1 62 = some (62, .invokevirtual 55, 65, [0, 178, 1, 14, 2002, 2004, 57, 151]) := rfl
theorem k229_65 : mm_lk mm_m229.1 65 = some (65, .imul, 66, []) := rfl
theorem k229_66 : mm_lk mm_m229.1 66 = some (66, .iadd, 67, []) := rfl
theorem k229_67 : mm_lk mm_m229.1 67 = some (67, .invokevirtual 255, 70, [0, 213, 2, 14, 2010, 2012, 59, 151]) := rfl
theorem k229_70 : mm_lk mm_m229.1 70 = some (70, .aload_n 0, 71, []) := rfl
theorem k229_71 : mm_lk mm_m229.1 71 = some (71, .getfield 7, 74, [0, 14, 0, 1828]) := rfl
theorem k229_74 : mm_lk mm_m229.1 74 = some (74, .iconst 0, 75, []) := rfl
theorem k229_75 : mm_lk mm_m229.1 75 = some (75, .dup2, 76, []) := rfl
theorem k229_76 : mm_lk mm_m229.1 76 = some (76, .iaload, 77, []) := rfl
theorem k229_77 : mm_lk mm_m229.1 77 = some (77, .iconst 1, 78, []) := rfl
theorem k229_78 : mm_lk mm_m229.1 78 = some (78, .iadd, 79, []) := rfl
theorem k229_79 : mm_lk mm_m229.1 79 = some (79, .iastore, 80, []) := rfl
theorem k229_80 : mm_lk mm_m229.1 80 = some (80, .aload_n 0, 81, []) := rfl
theorem k229_81 : mm_lk mm_m229.1 81 = some (81, .invokevirtual 258, 84, [0, 209, 1, 14, 2014, 2016, 60, 151]) := rfl
theorem k229_84 : mm_lk mm_m229.1 84 = some (84, .ifCond .ne (-73), 87, [11]) := rfl
theorem k229_87 : mm_lk mm_m229.1 87 = some (87, .aload_n 0, 88, []) := rfl
theorem k229_88 : mm_lk mm_m229.1 88 = some (88, .getfield 7, 91, [0, 14, 0, 1828]) := rfl
theorem k229_91 : mm_lk mm_m229.1 91 = some (91, .iconst 2, 92, []) := rfl
theorem k229_92 : mm_lk mm_m229.1 92 = some (92, .aload_n 0, 93, []) := rfl
theorem k229_93 : mm_lk mm_m229.1 93 = some (93, .invokevirtual 55, 96, [0, 178, 1, 14, 2002, 2004, 57, 151]) := rfl
theorem k229_96 : mm_lk mm_m229.1 96 = some (96, .iconst 5, 97, []) := rfl
theorem k229_97 : mm_lk mm_m229.1 97 = some (97, .if_icmp .ne 7, 100, [104]) := rfl
theorem k229_100 : mm_lk mm_m229.1 100 = some (100, .iconst (-1), 101, []) := rfl
theorem k229_101 : mm_lk mm_m229.1 101 = some (101, .goto 13, 104, [114]) := rfl
theorem k229_104 : mm_lk mm_m229.1 104 = some (104, .iconst 1, 105, []) := rfl
theorem k229_105 : mm_lk mm_m229.1 105 = some (105, .iconst 1, 106, []) := rfl
theorem k229_106 : mm_lk mm_m229.1 106 = some (106, .aload_n 0, 107, []) := rfl
theorem k229_107 : mm_lk mm_m229.1 107 = some (107, .invokevirtual 55, 110, [0, 178, 1, 14, 2002, 2004, 57, 151]) := rfl
theorem k229_110 : mm_lk mm_m229.1 110 = some (110, .ishl, 111, []) := rfl
theorem k229_111 : mm_lk mm_m229.1 111 = some (111, .ishl, 112, []) := rfl
theorem k229_112 : mm_lk mm_m229.1 112 = some (112, .iconst 1, 113, []) := rfl
theorem k229_113 : mm_lk mm_m229.1 113 = some (113, .isub, 114, []) := rfl
theorem k229_114 : mm_lk mm_m229.1 114 = some (114, .iastore, 115, []) := rfl
theorem k229_115 : mm_lk mm_m229.1 115 = some (115, .return_, 116, []) := rfl
