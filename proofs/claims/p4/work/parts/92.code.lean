/-! ===== code, row by row (by program) ===== -/
/-- WhoKnowsModel.whisperNow(I[II)I -/
def mm_m244 : mm_M := (mm_c244, 7, 1, [])
set_option maxRecDepth 20000 in
theorem P244 : mm_P 244 = some mm_m244 := rfl
/-- WhoKnowsModel.roundNow(I)I -/
def mm_m247 : mm_M := (mm_c247, 6, 1, [])
set_option maxRecDepth 20000 in
theorem P247 : mm_P 247 = some mm_m247 := rfl
theorem k244_0 : mm_lk mm_m244.1 0 = some (0, .aload_n 0, 1, []) := rfl
theorem k244_1 : mm_lk mm_m244.1 1 = some (1, .aload_n 2, 2, []) := rfl
theorem k244_2 : mm_lk mm_m244.1 2 = some (2, .iload_n 3, 3, []) := rfl
theorem k244_3 : mm_lk mm_m244.1 3 = some (3, .invokevirtual 107, 6, [0, 195, 3, 14, 2083, 2085, 77, 151]) := rfl
theorem k244_6 : mm_lk mm_m244.1 6 = some (6, .istore 4, 8, []) := rfl
theorem k244_8 : mm_lk mm_m244.1 8 = some (8, .iconst 0, 9, []) := rfl
theorem k244_9 : mm_lk mm_m244.1 9 = some (9, .istore 5, 11, []) := rfl
theorem k244_11 : mm_lk mm_m244.1 11 = some (11, .iconst 0, 12, []) := rfl
theorem k244_12 : mm_lk mm_m244.1 12 = some (12, .istore 6, 14, []) := rfl
theorem k244_14 : mm_lk mm_m244.1 14 = some (14, .iload 6, 16, []) := rfl
theorem k244_16 : mm_lk mm_m244.1 16 = some (16, .aload_n 0, 17, []) := rfl
theorem k244_17 : mm_lk mm_m244.1 17 = some (17, .invokevirtual 63, 20, [0, 179, 1, 14, 1821, 1823, 44, 151]) := rfl
theorem k244_20 : mm_lk mm_m244.1 20 = some (20, .if_icmp .ge 35, 23, [55]) := rfl
theorem k244_23 : mm_lk mm_m244.1 23 = some (23, .iload 5, 25, []) := rfl
theorem k244_25 : mm_lk mm_m244.1 25 = some (25, .iload_n 1, 26, []) := rfl
theorem k244_26 : mm_lk mm_m244.1 26 = some (26, .iload 6, 28, []) := rfl
theorem k244_28 : mm_lk mm_m244.1 28 = some (28, .invokestatic 51, 31, [1, 173, 2, 2094, 2095, 151]) := rfl
theorem k244_31 : mm_lk mm_m244.1 31 = some (31, .ifCond .eq 14, 34, [45]) := rfl
theorem k244_34 : mm_lk mm_m244.1 34 = some (34, .aload_n 0, 35, []) := rfl
theorem k244_35 : mm_lk mm_m244.1 35 = some (35, .iload 6, 37, []) := rfl
theorem k244_37 : mm_lk mm_m244.1 37 = some (37, .iload 4, 39, []) := rfl
theorem k244_39 : mm_lk mm_m244.1 39 = some (39, .invokevirtual 325, 42, [0, 243, 3, 14, 2208, 2210, 103, 151]) := rfl
theorem k244_42 : mm_lk mm_m244.1 42 = some (42, .goto 4, 45, [46]) := rfl
theorem k244_45 : mm_lk mm_m244.1 45 = some (45, .iconst 0, 46, []) := rfl
theorem k244_46 : mm_lk mm_m244.1 46 = some (46, .iadd, 47, []) := rfl
theorem k244_47 : mm_lk mm_m244.1 47 = some (47, .istore 5, 49, []) := rfl
theorem k244_49 : mm_lk mm_m244.1 49 = some (49, .iinc 6 1, 52, []) := rfl
theorem k244_52 : mm_lk mm_m244.1 52 = some (52, .goto (-38), 55, [14]) := rfl
theorem k244_55 : mm_lk mm_m244.1 55 = some (55, .aload_n 0, 56, []) := rfl
theorem k244_56 : mm_lk mm_m244.1 56 = some (56, .iconst 2, 57, []) := rfl
theorem k244_57 : mm_lk mm_m244.1 57 = some (57, .iconst 1, 58, []) := rfl
theorem k244_58 : mm_lk mm_m244.1 58 = some (58, .invokevirtual 311, 61, [0, 237, 3, 14, 2191, 2193, 99, 151]) := rfl
theorem k244_61 : mm_lk mm_m244.1 61 = some (61, .aload_n 0, 62, []) := rfl
theorem k244_62 : mm_lk mm_m244.1 62 = some (62, .iconst 2, 63, []) := rfl
theorem k244_63 : mm_lk mm_m244.1 63 = some (63, .iload_n 1, 64, []) := rfl
theorem k244_64 : mm_lk mm_m244.1 64 = some (64, .iconst 0, 65, []) := rfl
theorem k244_65 : mm_lk mm_m244.1 65 = some (65, .invokevirtual 318, 68, [0, 238, 4, 14, 2195, 2197, 100, 151]) := rfl
theorem k244_68 : mm_lk mm_m244.1 68 = some (68, .iload 5, 70, []) := rfl
theorem k244_70 : mm_lk mm_m244.1 70 = some (70, .ireturn, 71, []) := rfl
theorem k247_0 : mm_lk mm_m247.1 0 = some (0, .iload_n 1, 1, []) := rfl
theorem k247_1 : mm_lk mm_m247.1 1 = some (1, .invokestatic 91, 4, [1, 184, 1, 2091, 2092, 151]) := rfl
theorem k247_4 : mm_lk mm_m247.1 4 = some (4, .istore_n 2, 5, []) := rfl
theorem k247_5 : mm_lk mm_m247.1 5 = some (5, .aload_n 0, 6, []) := rfl
theorem k247_6 : mm_lk mm_m247.1 6 = some (6, .aload_n 0, 7, []) := rfl
theorem k247_7 : mm_lk mm_m247.1 7 = some (7, .getfield 7, 10, [0, 14, 0, 1828]) := rfl
theorem k247_10 : mm_lk mm_m247.1 10 = some (10, .iconst 4, 11, []) := rfl
theorem k247_11 : mm_lk mm_m247.1 11 = some (11, .iaload, 12, []) := rfl
theorem k247_12 : mm_lk mm_m247.1 12 = some (12, .iload_n 2, 13, []) := rfl
theorem k247_13 : mm_lk mm_m247.1 13 = some (13, .invokevirtual 328, 16, [0, 246, 3, 14, 2224, 2226, 107, 151]) := rfl
theorem k247_16 : mm_lk mm_m247.1 16 = some (16, .istore_n 3, 17, []) := rfl
theorem k247_17 : mm_lk mm_m247.1 17 = some (17, .iconst 0, 18, []) := rfl
theorem k247_18 : mm_lk mm_m247.1 18 = some (18, .istore 4, 20, []) := rfl
theorem k247_20 : mm_lk mm_m247.1 20 = some (20, .iconst 0, 21, []) := rfl
theorem k247_21 : mm_lk mm_m247.1 21 = some (21, .istore 5, 23, []) := rfl
theorem k247_23 : mm_lk mm_m247.1 23 = some (23, .iload 5, 25, []) := rfl
theorem k247_25 : mm_lk mm_m247.1 25 = some (25, .bipush 32, 27, []) := rfl
theorem k247_27 : mm_lk mm_m247.1 27 = some (27, .if_icmp .ge 45, 30, [72]) := rfl
theorem k247_30 : mm_lk mm_m247.1 30 = some (30, .iload 4, 32, []) := rfl
theorem k247_32 : mm_lk mm_m247.1 32 = some (32, .aload_n 0, 33, []) := rfl
theorem k247_33 : mm_lk mm_m247.1 33 = some (33, .iload 5, 35, []) := rfl
theorem k247_35 : mm_lk mm_m247.1 35 = some (35, .invokevirtual 70, 38, [0, 185, 2, 14, 2101, 2103, 80, 151]) := rfl
theorem k247_38 : mm_lk mm_m247.1 38 = some (38, .ifCond .eq 18, 41, [56]) := rfl
theorem k247_41 : mm_lk mm_m247.1 41 = some (41, .aload_n 0, 42, []) := rfl
theorem k247_42 : mm_lk mm_m247.1 42 = some (42, .iload 5, 44, []) := rfl
theorem k247_44 : mm_lk mm_m247.1 44 = some (44, .iload_n 2, 45, []) := rfl
theorem k247_45 : mm_lk mm_m247.1 45 = some (45, .invokevirtual 328, 48, [0, 246, 3, 14, 2224, 2226, 107, 151]) := rfl
theorem k247_48 : mm_lk mm_m247.1 48 = some (48, .iload_n 3, 49, []) := rfl
theorem k247_49 : mm_lk mm_m247.1 49 = some (49, .if_icmp .ne 7, 52, [56]) := rfl
theorem k247_52 : mm_lk mm_m247.1 52 = some (52, .iconst 1, 53, []) := rfl
theorem k247_53 : mm_lk mm_m247.1 53 = some (53, .goto 4, 56, [57]) := rfl
theorem k247_56 : mm_lk mm_m247.1 56 = some (56, .iconst 0, 57, []) := rfl
theorem k247_57 : mm_lk mm_m247.1 57 = some (57, .invokestatic 66, 60, [1, 172, 1, 1825, 1826, 151]) := rfl
theorem k247_60 : mm_lk mm_m247.1 60 = some (60, .iload 5, 62, []) := rfl
theorem k247_62 : mm_lk mm_m247.1 62 = some (62, .ishl, 63, []) := rfl
theorem k247_63 : mm_lk mm_m247.1 63 = some (63, .ior, 64, []) := rfl
theorem k247_64 : mm_lk mm_m247.1 64 = some (64, .istore 4, 66, []) := rfl
theorem k247_66 : mm_lk mm_m247.1 66 = some (66, .iinc 5 1, 69, []) := rfl
theorem k247_69 : mm_lk mm_m247.1 69 = some (69, .goto (-46), 72, [23]) := rfl
theorem k247_72 : mm_lk mm_m247.1 72 = some (72, .aload_n 0, 73, []) := rfl
theorem k247_73 : mm_lk mm_m247.1 73 = some (73, .iload 4, 75, []) := rfl
theorem k247_75 : mm_lk mm_m247.1 75 = some (75, .invokevirtual 315, 78, [0, 239, 2, 14, 2187, 2189, 98, 151]) := rfl
theorem k247_78 : mm_lk mm_m247.1 78 = some (78, .istore 5, 80, []) := rfl
theorem k247_80 : mm_lk mm_m247.1 80 = some (80, .aload_n 0, 81, []) := rfl
theorem k247_81 : mm_lk mm_m247.1 81 = some (81, .iconst 4, 82, []) := rfl
theorem k247_82 : mm_lk mm_m247.1 82 = some (82, .iconst 1, 83, []) := rfl
theorem k247_83 : mm_lk mm_m247.1 83 = some (83, .invokevirtual 311, 86, [0, 237, 3, 14, 2191, 2193, 99, 151]) := rfl
theorem k247_86 : mm_lk mm_m247.1 86 = some (86, .aload_n 0, 87, []) := rfl
theorem k247_87 : mm_lk mm_m247.1 87 = some (87, .iconst 4, 88, []) := rfl
theorem k247_88 : mm_lk mm_m247.1 88 = some (88, .iconst 0, 89, []) := rfl
theorem k247_89 : mm_lk mm_m247.1 89 = some (89, .iload 5, 91, []) := rfl
theorem k247_91 : mm_lk mm_m247.1 91 = some (91, .invokevirtual 318, 94, [0, 238, 4, 14, 2195, 2197, 100, 151]) := rfl
theorem k247_94 : mm_lk mm_m247.1 94 = some (94, .iload_n 3, 95, []) := rfl
theorem k247_95 : mm_lk mm_m247.1 95 = some (95, .ireturn, 96, []) := rfl
