/-! ===== code, row by row (by program) ===== -/
/-- WhoKnowsModel.doesOrder(I)I -/
def mm_m252 : mm_M := (mm_c252, 3, 1, [])
set_option maxRecDepth 20000 in
theorem P252 : mm_P 252 = some mm_m252 := rfl
theorem k252_0 : mm_lk mm_m252.1 0 = some (0, .aload_n 0, 1, []) := rfl
theorem k252_1 : mm_lk mm_m252.1 1 = some (1, .getfield 38, 4, [0, 14, 23, 1851]) := rfl
theorem k252_4 : mm_lk mm_m252.1 4 = some (4, .iconst 3, 5, []) := rfl
theorem k252_5 : mm_lk mm_m252.1 5 = some (5, .iload_n 1, 6, []) := rfl
theorem k252_6 : mm_lk mm_m252.1 6 = some (6, .imul, 7, []) := rfl
theorem k252_7 : mm_lk mm_m252.1 7 = some (7, .iconst 1, 8, []) := rfl
theorem k252_8 : mm_lk mm_m252.1 8 = some (8, .iadd, 9, []) := rfl
theorem k252_9 : mm_lk mm_m252.1 9 = some (9, .iaload, 10, []) := rfl
theorem k252_10 : mm_lk mm_m252.1 10 = some (10, .istore_n 2, 11, []) := rfl
theorem k252_11 : mm_lk mm_m252.1 11 = some (11, .aload_n 0, 12, []) := rfl
theorem k252_12 : mm_lk mm_m252.1 12 = some (12, .getfield 38, 15, [0, 14, 23, 1851]) := rfl
theorem k252_15 : mm_lk mm_m252.1 15 = some (15, .iconst 3, 16, []) := rfl
theorem k252_16 : mm_lk mm_m252.1 16 = some (16, .iload_n 1, 17, []) := rfl
theorem k252_17 : mm_lk mm_m252.1 17 = some (17, .imul, 18, []) := rfl
theorem k252_18 : mm_lk mm_m252.1 18 = some (18, .iaload, 19, []) := rfl
theorem k252_19 : mm_lk mm_m252.1 19 = some (19, .tableswitch 89 0 3 #[29, 43, 58, 73], 48, [108, 48, 62, 77, 92]) := rfl
theorem k252_48 : mm_lk mm_m252.1 48 = some (48, .aload_n 0, 49, []) := rfl
theorem k252_49 : mm_lk mm_m252.1 49 = some (49, .aload_n 0, 50, []) := rfl
theorem k252_50 : mm_lk mm_m252.1 50 = some (50, .getfield 35, 53, [0, 14, 18, 1846]) := rfl
theorem k252_53 : mm_lk mm_m252.1 53 = some (53, .sipush 241, 56, []) := rfl
theorem k252_56 : mm_lk mm_m252.1 56 = some (56, .iload_n 1, 57, []) := rfl
theorem k252_57 : mm_lk mm_m252.1 57 = some (57, .imul, 58, []) := rfl
theorem k252_58 : mm_lk mm_m252.1 58 = some (58, .invokevirtual 353, 61, [0, 240, 3, 14, 2183, 2185, 97, 151]) := rfl
theorem k252_61 : mm_lk mm_m252.1 61 = some (61, .ireturn, 62, []) := rfl
theorem k252_62 : mm_lk mm_m252.1 62 = some (62, .aload_n 0, 63, []) := rfl
theorem k252_63 : mm_lk mm_m252.1 63 = some (63, .iload_n 2, 64, []) := rfl
theorem k252_64 : mm_lk mm_m252.1 64 = some (64, .aload_n 0, 65, []) := rfl
theorem k252_65 : mm_lk mm_m252.1 65 = some (65, .getfield 35, 68, [0, 14, 18, 1846]) := rfl
theorem k252_68 : mm_lk mm_m252.1 68 = some (68, .sipush 241, 71, []) := rfl
theorem k252_71 : mm_lk mm_m252.1 71 = some (71, .iload_n 1, 72, []) := rfl
theorem k252_72 : mm_lk mm_m252.1 72 = some (72, .imul, 73, []) := rfl
theorem k252_73 : mm_lk mm_m252.1 73 = some (73, .invokevirtual 356, 76, [0, 241, 4, 14, 2200, 2202, 101, 151]) := rfl
theorem k252_76 : mm_lk mm_m252.1 76 = some (76, .ireturn, 77, []) := rfl
theorem k252_77 : mm_lk mm_m252.1 77 = some (77, .aload_n 0, 78, []) := rfl
theorem k252_78 : mm_lk mm_m252.1 78 = some (78, .iload_n 2, 79, []) := rfl
theorem k252_79 : mm_lk mm_m252.1 79 = some (79, .aload_n 0, 80, []) := rfl
theorem k252_80 : mm_lk mm_m252.1 80 = some (80, .getfield 35, 83, [0, 14, 18, 1846]) := rfl
theorem k252_83 : mm_lk mm_m252.1 83 = some (83, .sipush 241, 86, []) := rfl
theorem k252_86 : mm_lk mm_m252.1 86 = some (86, .iload_n 1, 87, []) := rfl
theorem k252_87 : mm_lk mm_m252.1 87 = some (87, .imul, 88, []) := rfl
theorem k252_88 : mm_lk mm_m252.1 88 = some (88, .invokevirtual 360, 91, [0, 244, 4, 14, 2204, 2206, 102, 151]) := rfl
theorem k252_91 : mm_lk mm_m252.1 91 = some (91, .ireturn, 92, []) := rfl
theorem k252_92 : mm_lk mm_m252.1 92 = some (92, .aload_n 0, 93, []) := rfl
theorem k252_93 : mm_lk mm_m252.1 93 = some (93, .iload_n 2, 94, []) := rfl
theorem k252_94 : mm_lk mm_m252.1 94 = some (94, .aload_n 0, 95, []) := rfl
theorem k252_95 : mm_lk mm_m252.1 95 = some (95, .getfield 38, 98, [0, 14, 23, 1851]) := rfl
theorem k252_98 : mm_lk mm_m252.1 98 = some (98, .iconst 3, 99, []) := rfl
theorem k252_99 : mm_lk mm_m252.1 99 = some (99, .iload_n 1, 100, []) := rfl
theorem k252_100 : mm_lk mm_m252.1 100 = some (100, .imul, 101, []) := rfl
theorem k252_101 : mm_lk mm_m252.1 101 = some (101, .iconst 2, 102, []) := rfl
theorem k252_102 : mm_lk mm_m252.1 102 = some (102, .iadd, 103, []) := rfl
theorem k252_103 : mm_lk mm_m252.1 103 = some (103, .iaload, 104, []) := rfl
theorem k252_104 : mm_lk mm_m252.1 104 = some (104, .invokevirtual 363, 107, [0, 245, 3, 14, 2216, 2218, 105, 151]) := rfl
theorem k252_107 : mm_lk mm_m252.1 107 = some (107, .ireturn, 108, []) := rfl
theorem k252_108 : mm_lk mm_m252.1 108 = some (108, .aload_n 0, 109, []) := rfl
theorem k252_109 : mm_lk mm_m252.1 109 = some (109, .aload_n 0, 110, []) := rfl
theorem k252_110 : mm_lk mm_m252.1 110 = some (110, .getfield 38, 113, [0, 14, 23, 1851]) := rfl
theorem k252_113 : mm_lk mm_m252.1 113 = some (113, .iconst 3, 114, []) := rfl
theorem k252_114 : mm_lk mm_m252.1 114 = some (114, .iload_n 1, 115, []) := rfl
theorem k252_115 : mm_lk mm_m252.1 115 = some (115, .imul, 116, []) := rfl
theorem k252_116 : mm_lk mm_m252.1 116 = some (116, .iconst 2, 117, []) := rfl
theorem k252_117 : mm_lk mm_m252.1 117 = some (117, .iadd, 118, []) := rfl
theorem k252_118 : mm_lk mm_m252.1 118 = some (118, .iaload, 119, []) := rfl
theorem k252_119 : mm_lk mm_m252.1 119 = some (119, .invokevirtual 366, 122, [0, 247, 2, 14, 2220, 2222, 106, 151]) := rfl
theorem k252_122 : mm_lk mm_m252.1 122 = some (122, .ireturn, 123, []) := rfl
