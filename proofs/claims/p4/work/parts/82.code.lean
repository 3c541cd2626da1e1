/-! ===== code, row by row (by program) ===== -/
/-- WhoKnowsModel.readText()I -/
def mm_m236 : mm_M := (mm_c236, 2, 1, [])
set_option maxRecDepth 20000 in
theorem P236 : mm_P 236 = some mm_m236 := rfl
theorem k236_0 : mm_lk mm_m236.1 0 = some (0, .aload_n 0, 1, []) := rfl
theorem k236_1 : mm_lk mm_m236.1 1 = some (1, .getfield 7, 4, [0, 14, 0, 1828]) := rfl
theorem k236_4 : mm_lk mm_m236.1 4 = some (4, .iconst 0, 5, []) := rfl
theorem k236_5 : mm_lk mm_m236.1 5 = some (5, .aload_n 0, 6, []) := rfl
theorem k236_6 : mm_lk mm_m236.1 6 = some (6, .getfield 16, 9, [0, 14, 2, 1830]) := rfl
theorem k236_9 : mm_lk mm_m236.1 9 = some (9, .iconst 0, 10, []) := rfl
theorem k236_10 : mm_lk mm_m236.1 10 = some (10, .invokestatic 286, 13, [1, 177, 4, 1945, 1946, 151]) := rfl
theorem k236_13 : mm_lk mm_m236.1 13 = some (13, .iconst 0, 14, []) := rfl
theorem k236_14 : mm_lk mm_m236.1 14 = some (14, .istore_n 1, 15, []) := rfl
theorem k236_15 : mm_lk mm_m236.1 15 = some (15, .iload_n 1, 16, []) := rfl
theorem k236_16 : mm_lk mm_m236.1 16 = some (16, .sipush 564, 19, []) := rfl
theorem k236_19 : mm_lk mm_m236.1 19 = some (19, .if_icmp .ge 16, 22, [35]) := rfl
theorem k236_22 : mm_lk mm_m236.1 22 = some (22, .aload_n 0, 23, []) := rfl
theorem k236_23 : mm_lk mm_m236.1 23 = some (23, .getfield 7, 26, [0, 14, 0, 1828]) := rfl
theorem k236_26 : mm_lk mm_m236.1 26 = some (26, .iload_n 1, 27, []) := rfl
theorem k236_27 : mm_lk mm_m236.1 27 = some (27, .iconst 0, 28, []) := rfl
theorem k236_28 : mm_lk mm_m236.1 28 = some (28, .iastore, 29, []) := rfl
theorem k236_29 : mm_lk mm_m236.1 29 = some (29, .iinc 1 1, 32, []) := rfl
theorem k236_32 : mm_lk mm_m236.1 32 = some (32, .goto (-17), 35, [15]) := rfl
theorem k236_35 : mm_lk mm_m236.1 35 = some (35, .aload_n 0, 36, []) := rfl
theorem k236_36 : mm_lk mm_m236.1 36 = some (36, .invokevirtual 290, 39, [0, 214, 1, 14, 1948, 1950, 47, 151]) := rfl
theorem k236_39 : mm_lk mm_m236.1 39 = some (39, .aload_n 0, 40, []) := rfl
theorem k236_40 : mm_lk mm_m236.1 40 = some (40, .invokevirtual 293, 43, [0, 229, 1, 14, 1952, 1954, 48, 151]) := rfl
theorem k236_43 : mm_lk mm_m236.1 43 = some (43, .aload_n 0, 44, []) := rfl
theorem k236_44 : mm_lk mm_m236.1 44 = some (44, .getfield 7, 47, [0, 14, 0, 1828]) := rfl
theorem k236_47 : mm_lk mm_m236.1 47 = some (47, .iconst 4, 48, []) := rfl
theorem k236_48 : mm_lk mm_m236.1 48 = some (48, .iconst (-1), 49, []) := rfl
theorem k236_49 : mm_lk mm_m236.1 49 = some (49, .iastore, 50, []) := rfl
theorem k236_50 : mm_lk mm_m236.1 50 = some (50, .aload_n 0, 51, []) := rfl
theorem k236_51 : mm_lk mm_m236.1 51 = some (51, .getfield 142, 54, [0, 14, 14, 1842]) := rfl
theorem k236_54 : mm_lk mm_m236.1 54 = some (54, .ifCond .ne 7, 57, [61]) := rfl
theorem k236_57 : mm_lk mm_m236.1 57 = some (57, .aload_n 0, 58, []) := rfl
theorem k236_58 : mm_lk mm_m236.1 58 = some (58, .invokevirtual 296, 61, [0, 234, 1, 14, 2018, 2020, 61, 151]) := rfl
theorem k236_61 : mm_lk mm_m236.1 61 = some (61, .aload_n 0, 62, []) := rfl
theorem k236_62 : mm_lk mm_m236.1 62 = some (62, .aload_n 0, 63, []) := rfl
theorem k236_63 : mm_lk mm_m236.1 63 = some (63, .invokevirtual 299, 66, [0, 215, 1, 14, 2143, 2145, 90, 151]) := rfl
theorem k236_66 : mm_lk mm_m236.1 66 = some (66, .invokevirtual 119, 69, [0, 176, 2, 14, 1918, 1920, 45, 151]) := rfl
theorem k236_69 : mm_lk mm_m236.1 69 = some (69, .ifCond .ne 18, 72, [87]) := rfl
theorem k236_72 : mm_lk mm_m236.1 72 = some (72, .aload_n 0, 73, []) := rfl
theorem k236_73 : mm_lk mm_m236.1 73 = some (73, .getfield 16, 76, [0, 14, 2, 1830]) := rfl
theorem k236_76 : mm_lk mm_m236.1 76 = some (76, .iconst 0, 77, []) := rfl
theorem k236_77 : mm_lk mm_m236.1 77 = some (77, .aload_n 0, 78, []) := rfl
theorem k236_78 : mm_lk mm_m236.1 78 = some (78, .getfield 7, 81, [0, 14, 0, 1828]) := rfl
theorem k236_81 : mm_lk mm_m236.1 81 = some (81, .iconst 0, 82, []) := rfl
theorem k236_82 : mm_lk mm_m236.1 82 = some (82, .invokestatic 286, 85, [1, 177, 4, 1945, 1946, 151]) := rfl
theorem k236_85 : mm_lk mm_m236.1 85 = some (85, .iconst 0, 86, []) := rfl
theorem k236_86 : mm_lk mm_m236.1 86 = some (86, .ireturn, 87, []) := rfl
theorem k236_87 : mm_lk mm_m236.1 87 = some (87, .aload_n 0, 88, []) := rfl
theorem k236_88 : mm_lk mm_m236.1 88 = some (88, .getfield 7, 91, [0, 14, 0, 1828]) := rfl
theorem k236_91 : mm_lk mm_m236.1 91 = some (91, .iconst 4, 92, []) := rfl
theorem k236_92 : mm_lk mm_m236.1 92 = some (92, .iaload, 93, []) := rfl
theorem k236_93 : mm_lk mm_m236.1 93 = some (93, .istore_n 1, 94, []) := rfl
theorem k236_94 : mm_lk mm_m236.1 94 = some (94, .aload_n 0, 95, []) := rfl
theorem k236_95 : mm_lk mm_m236.1 95 = some (95, .aload_n 0, 96, []) := rfl
theorem k236_96 : mm_lk mm_m236.1 96 = some (96, .getfield 7, 99, [0, 14, 0, 1828]) := rfl
theorem k236_99 : mm_lk mm_m236.1 99 = some (99, .iconst 2, 100, []) := rfl
theorem k236_100 : mm_lk mm_m236.1 100 = some (100, .iaload, 101, []) := rfl
theorem k236_101 : mm_lk mm_m236.1 101 = some (101, .invokevirtual 44, 104, [0, 187, 2, 14, 1814, 1816, 43, 151]) := rfl
theorem k236_104 : mm_lk mm_m236.1 104 = some (104, .aload_n 0, 105, []) := rfl
theorem k236_105 : mm_lk mm_m236.1 105 = some (105, .getfield 7, 108, [0, 14, 0, 1828]) := rfl
theorem k236_108 : mm_lk mm_m236.1 108 = some (108, .iconst 4, 109, []) := rfl
theorem k236_109 : mm_lk mm_m236.1 109 = some (109, .iload_n 1, 110, []) := rfl
theorem k236_110 : mm_lk mm_m236.1 110 = some (110, .iconst (-1), 111, []) := rfl
theorem k236_111 : mm_lk mm_m236.1 111 = some (111, .if_icmp .ne 15, 114, [126]) := rfl
theorem k236_114 : mm_lk mm_m236.1 114 = some (114, .aload_n 0, 115, []) := rfl
theorem k236_115 : mm_lk mm_m236.1 115 = some (115, .getfield 7, 118, [0, 14, 0, 1828]) := rfl
theorem k236_118 : mm_lk mm_m236.1 118 = some (118, .iconst 2, 119, []) := rfl
theorem k236_119 : mm_lk mm_m236.1 119 = some (119, .iaload, 120, []) := rfl
theorem k236_120 : mm_lk mm_m236.1 120 = some (120, .invokestatic 302, 123, [1, 175, 1, 2147, 2148, 151]) := rfl
theorem k236_123 : mm_lk mm_m236.1 123 = some (123, .goto 4, 126, [127]) := rfl
theorem k236_126 : mm_lk mm_m236.1 126 = some (126, .iload_n 1, 127, []) := rfl
theorem k236_127 : mm_lk mm_m236.1 127 = some (127, .iastore, 128, []) := rfl
theorem k236_128 : mm_lk mm_m236.1 128 = some (128, .aload_n 0, 129, []) := rfl
theorem k236_129 : mm_lk mm_m236.1 129 = some (129, .iconst 0, 130, []) := rfl
theorem k236_130 : mm_lk mm_m236.1 130 = some (130, .putfield 305, 133, [0, 14, 5, 1833]) := rfl
theorem k236_133 : mm_lk mm_m236.1 133 = some (133, .aload_n 0, 134, []) := rfl
theorem k236_134 : mm_lk mm_m236.1 134 = some (134, .getfield 7, 137, [0, 14, 0, 1828]) := rfl
theorem k236_137 : mm_lk mm_m236.1 137 = some (137, .iconst 3, 138, []) := rfl
theorem k236_138 : mm_lk mm_m236.1 138 = some (138, .iaload, 139, []) := rfl
theorem k236_139 : mm_lk mm_m236.1 139 = some (139, .ireturn, 140, []) := rfl
