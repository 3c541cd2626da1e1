/-! ===== code, row by row (by program) ===== -/
/-- WhoKnowsModel.ask()I -/
def mm_m255 : mm_M := (mm_c255, 2, 1, [])
set_option maxRecDepth 20000 in
theorem P255 : mm_P 255 = some mm_m255 := rfl
theorem k255_0 : mm_lk mm_m255.1 0 = some (0, .aload_n 0, 1, []) := rfl
theorem k255_1 : mm_lk mm_m255.1 1 = some (1, .invokevirtual 290, 4, [0, 214, 1, 14, 1948, 1950, 47, 151]) := rfl
theorem k255_4 : mm_lk mm_m255.1 4 = some (4, .aload_n 0, 5, []) := rfl
theorem k255_5 : mm_lk mm_m255.1 5 = some (5, .bipush 20, 7, []) := rfl
theorem k255_7 : mm_lk mm_m255.1 7 = some (7, .iconst 0, 8, []) := rfl
theorem k255_8 : mm_lk mm_m255.1 8 = some (8, .invokevirtual 261, 11, [0, 228, 3, 14, 2035, 2037, 65, 151]) := rfl
theorem k255_11 : mm_lk mm_m255.1 11 = some (11, .aload_n 0, 12, []) := rfl
theorem k255_12 : mm_lk mm_m255.1 12 = some (12, .getfield 142, 15, [0, 14, 14, 1842]) := rfl
theorem k255_15 : mm_lk mm_m255.1 15 = some (15, .ifCond .ne 21, 18, [36]) := rfl
theorem k255_18 : mm_lk mm_m255.1 18 = some (18, .aload_n 0, 19, []) := rfl
theorem k255_19 : mm_lk mm_m255.1 19 = some (19, .aload_n 0, 20, []) := rfl
theorem k255_20 : mm_lk mm_m255.1 20 = some (20, .invokevirtual 151, 23, [0, 202, 1, 14, 1965, 1967, 51, 151]) := rfl
theorem k255_23 : mm_lk mm_m255.1 23 = some (23, .iconst (-1), 24, []) := rfl
theorem k255_24 : mm_lk mm_m255.1 24 = some (24, .if_icmp .ne 7, 27, [31]) := rfl
theorem k255_27 : mm_lk mm_m255.1 27 = some (27, .iconst 1, 28, []) := rfl
theorem k255_28 : mm_lk mm_m255.1 28 = some (28, .goto 4, 31, [32]) := rfl
theorem k255_31 : mm_lk mm_m255.1 31 = some (31, .iconst 0, 32, []) := rfl
theorem k255_32 : mm_lk mm_m255.1 32 = some (32, .iconst 1, 33, []) := rfl
theorem k255_33 : mm_lk mm_m255.1 33 = some (33, .invokevirtual 166, 36, [0, 204, 3, 14, 1977, 1979, 53, 151]) := rfl
theorem k255_36 : mm_lk mm_m255.1 36 = some (36, .aload_n 0, 37, []) := rfl
theorem k255_37 : mm_lk mm_m255.1 37 = some (37, .aload_n 0, 38, []) := rfl
theorem k255_38 : mm_lk mm_m255.1 38 = some (38, .invokevirtual 299, 41, [0, 215, 1, 14, 2143, 2145, 90, 151]) := rfl
theorem k255_41 : mm_lk mm_m255.1 41 = some (41, .invokevirtual 119, 44, [0, 176, 2, 14, 1918, 1920, 45, 151]) := rfl
theorem k255_44 : mm_lk mm_m255.1 44 = some (44, .ifCond .ne 5, 47, [49]) := rfl
theorem k255_47 : mm_lk mm_m255.1 47 = some (47, .iconst 0, 48, []) := rfl
theorem k255_48 : mm_lk mm_m255.1 48 = some (48, .ireturn, 49, []) := rfl
theorem k255_49 : mm_lk mm_m255.1 49 = some (49, .aload_n 0, 50, []) := rfl
theorem k255_50 : mm_lk mm_m255.1 50 = some (50, .aload_n 0, 51, []) := rfl
theorem k255_51 : mm_lk mm_m255.1 51 = some (51, .getfield 7, 54, [0, 14, 0, 1828]) := rfl
theorem k255_54 : mm_lk mm_m255.1 54 = some (54, .invokevirtual 372, 57, [0, 253, 2, 14, 2175, 2177, 95, 151]) := rfl
theorem k255_57 : mm_lk mm_m255.1 57 = some (57, .iconst 0, 58, []) := rfl
theorem k255_58 : mm_lk mm_m255.1 58 = some (58, .istore_n 1, 59, []) := rfl
theorem k255_59 : mm_lk mm_m255.1 59 = some (59, .iload_n 1, 60, []) := rfl
theorem k255_60 : mm_lk mm_m255.1 60 = some (60, .sipush 241, 63, []) := rfl
theorem k255_63 : mm_lk mm_m255.1 63 = some (63, .if_icmp .ge 29, 66, [92]) := rfl
theorem k255_66 : mm_lk mm_m255.1 66 = some (66, .aload_n 0, 67, []) := rfl
theorem k255_67 : mm_lk mm_m255.1 67 = some (67, .getfield 7, 70, [0, 14, 0, 1828]) := rfl
theorem k255_70 : mm_lk mm_m255.1 70 = some (70, .sipush 320, 73, []) := rfl
theorem k255_73 : mm_lk mm_m255.1 73 = some (73, .iload_n 1, 74, []) := rfl
theorem k255_74 : mm_lk mm_m255.1 74 = some (74, .iadd, 75, []) := rfl
theorem k255_75 : mm_lk mm_m255.1 75 = some (75, .aload_n 0, 76, []) := rfl
theorem k255_76 : mm_lk mm_m255.1 76 = some (76, .getfield 35, 79, [0, 14, 18, 1846]) := rfl
theorem k255_79 : mm_lk mm_m255.1 79 = some (79, .sipush 4820, 82, []) := rfl
theorem k255_82 : mm_lk mm_m255.1 82 = some (82, .iload_n 1, 83, []) := rfl
theorem k255_83 : mm_lk mm_m255.1 83 = some (83, .iadd, 84, []) := rfl
theorem k255_84 : mm_lk mm_m255.1 84 = some (84, .iaload, 85, []) := rfl
theorem k255_85 : mm_lk mm_m255.1 85 = some (85, .iastore, 86, []) := rfl
theorem k255_86 : mm_lk mm_m255.1 86 = some (86, .iinc 1 1, 89, []) := rfl
theorem k255_89 : mm_lk mm_m255.1 89 = some (89, .goto (-30), 92, [59]) := rfl
theorem k255_92 : mm_lk mm_m255.1 92 = some (92, .aload_n 0, 93, []) := rfl
theorem k255_93 : mm_lk mm_m255.1 93 = some (93, .getfield 7, 96, [0, 14, 0, 1828]) := rfl
theorem k255_96 : mm_lk mm_m255.1 96 = some (96, .sipush 320, 99, []) := rfl
theorem k255_99 : mm_lk mm_m255.1 99 = some (99, .iaload, 100, []) := rfl
theorem k255_100 : mm_lk mm_m255.1 100 = some (100, .ireturn, 101, []) := rfl
