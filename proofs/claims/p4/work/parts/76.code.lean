/-! ===== code, row by row (by program) ===== -/
/-- WhoKnowsModel.lawLine(I)V -/
def mm_m230 : mm_M := (mm_c230, 2, 0, [])
set_option maxRecDepth 20000 in
theorem P230 : mm_P 230 = some mm_m230 := rfl
theorem k230_0 : mm_lk mm_m230.1 0 = some (0, .aload_n 0, 1, []) := rfl
theorem k230_1 : mm_lk mm_m230.1 1 = some (1, .aload_n 0, 2, []) := rfl
theorem k230_2 : mm_lk mm_m230.1 2 = some (2, .getfield 7, 5, [0, 14, 0, 1828]) := rfl
theorem k230_5 : mm_lk mm_m230.1 5 = some (5, .iconst 5, 6, []) := rfl
theorem k230_6 : mm_lk mm_m230.1 6 = some (6, .iaload, 7, []) := rfl
theorem k230_7 : mm_lk mm_m230.1 7 = some (7, .bipush 6, 9, []) := rfl
theorem k230_9 : mm_lk mm_m230.1 9 = some (9, .if_icmp .ge 7, 12, [16]) := rfl
theorem k230_12 : mm_lk mm_m230.1 12 = some (12, .iconst 1, 13, []) := rfl
theorem k230_13 : mm_lk mm_m230.1 13 = some (13, .goto 4, 16, [17]) := rfl
theorem k230_16 : mm_lk mm_m230.1 16 = some (16, .iconst 0, 17, []) := rfl
theorem k230_17 : mm_lk mm_m230.1 17 = some (17, .iconst 3, 18, []) := rfl
theorem k230_18 : mm_lk mm_m230.1 18 = some (18, .invokevirtual 166, 21, [0, 204, 3, 14, 1977, 1979, 53, 151]) := rfl
theorem k230_21 : mm_lk mm_m230.1 21 = some (21, .aload_n 0, 22, []) := rfl
theorem k230_22 : mm_lk mm_m230.1 22 = some (22, .getfield 142, 25, [0, 14, 14, 1842]) := rfl
theorem k230_25 : mm_lk mm_m230.1 25 = some (25, .ifCond .eq 4, 28, [29]) := rfl
theorem k230_28 : mm_lk mm_m230.1 28 = some (28, .return_, 29, []) := rfl
theorem k230_29 : mm_lk mm_m230.1 29 = some (29, .aload_n 0, 30, []) := rfl
theorem k230_30 : mm_lk mm_m230.1 30 = some (30, .aload_n 0, 31, []) := rfl
theorem k230_31 : mm_lk mm_m230.1 31 = some (31, .getfield 132, 34, [0, 14, 12, 1840]) := rfl
theorem k230_34 : mm_lk mm_m230.1 34 = some (34, .aload_n 0, 35, []) := rfl
theorem k230_35 : mm_lk mm_m230.1 35 = some (35, .getfield 135, 38, [0, 14, 13, 1841]) := rfl
theorem k230_38 : mm_lk mm_m230.1 38 = some (38, .iadd, 39, []) := rfl
theorem k230_39 : mm_lk mm_m230.1 39 = some (39, .putfield 126, 42, [0, 14, 11, 1839]) := rfl
theorem k230_42 : mm_lk mm_m230.1 42 = some (42, .aload_n 0, 43, []) := rfl
theorem k230_43 : mm_lk mm_m230.1 43 = some (43, .bipush 20, 45, []) := rfl
theorem k230_45 : mm_lk mm_m230.1 45 = some (45, .iconst 1, 46, []) := rfl
theorem k230_46 : mm_lk mm_m230.1 46 = some (46, .invokevirtual 261, 49, [0, 228, 3, 14, 2035, 2037, 65, 151]) := rfl
theorem k230_49 : mm_lk mm_m230.1 49 = some (49, .aload_n 0, 50, []) := rfl
theorem k230_50 : mm_lk mm_m230.1 50 = some (50, .getfield 142, 53, [0, 14, 14, 1842]) := rfl
theorem k230_53 : mm_lk mm_m230.1 53 = some (53, .ifCond .eq 4, 56, [57]) := rfl
theorem k230_56 : mm_lk mm_m230.1 56 = some (56, .return_, 57, []) := rfl
theorem k230_57 : mm_lk mm_m230.1 57 = some (57, .aload_n 0, 58, []) := rfl
theorem k230_58 : mm_lk mm_m230.1 58 = some (58, .getfield 7, 61, [0, 14, 0, 1828]) := rfl
theorem k230_61 : mm_lk mm_m230.1 61 = some (61, .iconst 2, 62, []) := rfl
theorem k230_62 : mm_lk mm_m230.1 62 = some (62, .aload_n 0, 63, []) := rfl
theorem k230_63 : mm_lk mm_m230.1 63 = some (63, .aload_n 0, 64, []) := rfl
theorem k230_64 : mm_lk mm_m230.1 64 = some (64, .getfield 35, 67, [0, 14, 18, 1846]) := rfl
theorem k230_67 : mm_lk mm_m230.1 67 = some (67, .sipush 4820, 70, []) := rfl
theorem k230_70 : mm_lk mm_m230.1 70 = some (70, .invokevirtual 107, 73, [0, 195, 3, 14, 2083, 2085, 77, 151]) := rfl
theorem k230_73 : mm_lk mm_m230.1 73 = some (73, .iastore, 74, []) := rfl
theorem k230_74 : mm_lk mm_m230.1 74 = some (74, .aload_n 0, 75, []) := rfl
theorem k230_75 : mm_lk mm_m230.1 75 = some (75, .getfield 7, 78, [0, 14, 0, 1828]) := rfl
theorem k230_78 : mm_lk mm_m230.1 78 = some (78, .iconst 5, 79, []) := rfl
theorem k230_79 : mm_lk mm_m230.1 79 = some (79, .dup2, 80, []) := rfl
theorem k230_80 : mm_lk mm_m230.1 80 = some (80, .iaload, 81, []) := rfl
theorem k230_81 : mm_lk mm_m230.1 81 = some (81, .iconst 1, 82, []) := rfl
theorem k230_82 : mm_lk mm_m230.1 82 = some (82, .iadd, 83, []) := rfl
theorem k230_83 : mm_lk mm_m230.1 83 = some (83, .iastore, 84, []) := rfl
theorem k230_84 : mm_lk mm_m230.1 84 = some (84, .aload_n 0, 85, []) := rfl
theorem k230_85 : mm_lk mm_m230.1 85 = some (85, .iload_n 1, 86, []) := rfl
theorem k230_86 : mm_lk mm_m230.1 86 = some (86, .putfield 132, 89, [0, 14, 12, 1840]) := rfl
theorem k230_89 : mm_lk mm_m230.1 89 = some (89, .aload_n 0, 90, []) := rfl
theorem k230_90 : mm_lk mm_m230.1 90 = some (90, .aload_n 0, 91, []) := rfl
theorem k230_91 : mm_lk mm_m230.1 91 = some (91, .getfield 7, 94, [0, 14, 0, 1828]) := rfl
theorem k230_94 : mm_lk mm_m230.1 94 = some (94, .iconst 2, 95, []) := rfl
theorem k230_95 : mm_lk mm_m230.1 95 = some (95, .iaload, 96, []) := rfl
theorem k230_96 : mm_lk mm_m230.1 96 = some (96, .ifCond .eq 7, 99, [103]) := rfl
theorem k230_99 : mm_lk mm_m230.1 99 = some (99, .iconst 1, 100, []) := rfl
theorem k230_100 : mm_lk mm_m230.1 100 = some (100, .goto 4, 103, [104]) := rfl
theorem k230_103 : mm_lk mm_m230.1 103 = some (103, .iconst 0, 104, []) := rfl
theorem k230_104 : mm_lk mm_m230.1 104 = some (104, .iconst 4, 105, []) := rfl
theorem k230_105 : mm_lk mm_m230.1 105 = some (105, .invokevirtual 166, 108, [0, 204, 3, 14, 1977, 1979, 53, 151]) := rfl
theorem k230_108 : mm_lk mm_m230.1 108 = some (108, .return_, 109, []) := rfl
