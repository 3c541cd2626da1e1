/-! ===== code, row by row (by program) ===== -/
/-- WhoKnowsModel.isNamed(I)Z -/
def mm_m210 : mm_M := (mm_c210, 3, 2, [])
set_option maxRecDepth 20000 in
theorem P210 : mm_P 210 = some mm_m210 := rfl
/-- WhoKnowsModel.readsName(Z)I -/
def mm_m211 : mm_M := (mm_c211, 5, 1, [])
set_option maxRecDepth 20000 in
theorem P211 : mm_P 211 = some mm_m211 := rfl
theorem k210_0 : mm_lk mm_m210.1 0 = some (0, .aload_n 0, 1, []) := rfl
theorem k210_1 : mm_lk mm_m210.1 1 = some (1, .getfield 7, 4, [0, 14, 0, 1828]) := rfl
theorem k210_4 : mm_lk mm_m210.1 4 = some (4, .iload_n 1, 5, []) := rfl
theorem k210_5 : mm_lk mm_m210.1 5 = some (5, .iaload, 6, []) := rfl
theorem k210_6 : mm_lk mm_m210.1 6 = some (6, .aload_n 0, 7, []) := rfl
theorem k210_7 : mm_lk mm_m210.1 7 = some (7, .getfield 135, 10, [0, 14, 13, 1841]) := rfl
theorem k210_10 : mm_lk mm_m210.1 10 = some (10, .if_icmp .eq 5, 13, [15]) := rfl
theorem k210_13 : mm_lk mm_m210.1 13 = some (13, .iconst 0, 14, []) := rfl
theorem k210_14 : mm_lk mm_m210.1 14 = some (14, .ireturn, 15, []) := rfl
theorem k210_15 : mm_lk mm_m210.1 15 = some (15, .iconst 0, 16, []) := rfl
theorem k210_16 : mm_lk mm_m210.1 16 = some (16, .istore_n 2, 17, []) := rfl
theorem k210_17 : mm_lk mm_m210.1 17 = some (17, .iload_n 2, 18, []) := rfl
theorem k210_18 : mm_lk mm_m210.1 18 = some (18, .aload_n 0, 19, []) := rfl
theorem k210_19 : mm_lk mm_m210.1 19 = some (19, .getfield 135, 22, [0, 14, 13, 1841]) := rfl
theorem k210_22 : mm_lk mm_m210.1 22 = some (22, .if_icmp .ge 34, 25, [56]) := rfl
theorem k210_25 : mm_lk mm_m210.1 25 = some (25, .aload_n 0, 26, []) := rfl
theorem k210_26 : mm_lk mm_m210.1 26 = some (26, .getfield 7, 29, [0, 14, 0, 1828]) := rfl
theorem k210_29 : mm_lk mm_m210.1 29 = some (29, .iload_n 1, 30, []) := rfl
theorem k210_30 : mm_lk mm_m210.1 30 = some (30, .iconst 1, 31, []) := rfl
theorem k210_31 : mm_lk mm_m210.1 31 = some (31, .iadd, 32, []) := rfl
theorem k210_32 : mm_lk mm_m210.1 32 = some (32, .iload_n 2, 33, []) := rfl
theorem k210_33 : mm_lk mm_m210.1 33 = some (33, .iadd, 34, []) := rfl
theorem k210_34 : mm_lk mm_m210.1 34 = some (34, .iaload, 35, []) := rfl
theorem k210_35 : mm_lk mm_m210.1 35 = some (35, .aload_n 0, 36, []) := rfl
theorem k210_36 : mm_lk mm_m210.1 36 = some (36, .aload_n 0, 37, []) := rfl
theorem k210_37 : mm_lk mm_m210.1 37 = some (37, .getfield 132, 40, [0, 14, 12, 1840]) := rfl
theorem k210_40 : mm_lk mm_m210.1 40 = some (40, .iload_n 2, 41, []) := rfl
theorem k210_41 : mm_lk mm_m210.1 41 = some (41, .iadd, 42, []) := rfl
theorem k210_42 : mm_lk mm_m210.1 42 = some (42, .invokevirtual 129, 45, [0, 201, 2, 14, 1969, 1971, 52, 151]) := rfl
theorem k210_45 : mm_lk mm_m210.1 45 = some (45, .if_icmp .eq 5, 48, [50]) := rfl
theorem k210_48 : mm_lk mm_m210.1 48 = some (48, .iconst 0, 49, []) := rfl
theorem k210_49 : mm_lk mm_m210.1 49 = some (49, .ireturn, 50, []) := rfl
theorem k210_50 : mm_lk mm_m210.1 50 = some (50, .iinc 2 1, 53, []) := rfl
theorem k210_53 : mm_lk mm_m210.1 53 = some (53, .goto (-36), 56, [17]) := rfl
theorem k210_56 : mm_lk mm_m210.1 56 = some (56, .iconst 1, 57, []) := rfl
theorem k210_57 : mm_lk mm_m210.1 57 = some (57, .ireturn, 58, []) := rfl
theorem k211_0 : mm_lk mm_m211.1 0 = some (0, .aload_n 0, 1, []) := rfl
theorem k211_1 : mm_lk mm_m211.1 1 = some (1, .getfield 142, 4, [0, 14, 14, 1842]) := rfl
theorem k211_4 : mm_lk mm_m211.1 4 = some (4, .ifCond .eq 5, 7, [9]) := rfl
theorem k211_7 : mm_lk mm_m211.1 7 = some (7, .iconst (-1), 8, []) := rfl
theorem k211_8 : mm_lk mm_m211.1 8 = some (8, .ireturn, 9, []) := rfl
theorem k211_9 : mm_lk mm_m211.1 9 = some (9, .aload_n 0, 10, []) := rfl
theorem k211_10 : mm_lk mm_m211.1 10 = some (10, .invokevirtual 151, 13, [0, 202, 1, 14, 1965, 1967, 51, 151]) := rfl
theorem k211_13 : mm_lk mm_m211.1 13 = some (13, .istore_n 2, 14, []) := rfl
theorem k211_14 : mm_lk mm_m211.1 14 = some (14, .aload_n 0, 15, []) := rfl
theorem k211_15 : mm_lk mm_m211.1 15 = some (15, .aload_n 0, 16, []) := rfl
theorem k211_16 : mm_lk mm_m211.1 16 = some (16, .getfield 135, 19, [0, 14, 13, 1841]) := rfl
theorem k211_19 : mm_lk mm_m211.1 19 = some (19, .i2l, 20, []) := rfl
theorem k211_20 : mm_lk mm_m211.1 20 = some (20, .lconst 1, 21, []) := rfl
theorem k211_21 : mm_lk mm_m211.1 21 = some (21, .ldc2_w 186, 24, [6, 1989]) := rfl
theorem k211_24 : mm_lk mm_m211.1 24 = some (24, .invokestatic 59, 27, [1, 171, 3, 1930, 1931, 151]) := rfl
theorem k211_27 : mm_lk mm_m211.1 27 = some (27, .ifCond .eq 14, 30, [41]) := rfl
theorem k211_30 : mm_lk mm_m211.1 30 = some (30, .aload_n 0, 31, []) := rfl
theorem k211_31 : mm_lk mm_m211.1 31 = some (31, .invokevirtual 188, 34, [0, 208, 1, 14, 1990, 1992, 56, 151]) := rfl
theorem k211_34 : mm_lk mm_m211.1 34 = some (34, .ifCond .ne 7, 37, [41]) := rfl
theorem k211_37 : mm_lk mm_m211.1 37 = some (37, .iconst 1, 38, []) := rfl
theorem k211_38 : mm_lk mm_m211.1 38 = some (38, .goto 4, 41, [42]) := rfl
theorem k211_41 : mm_lk mm_m211.1 41 = some (41, .iconst 0, 42, []) := rfl
theorem k211_42 : mm_lk mm_m211.1 42 = some (42, .iconst 1, 43, []) := rfl
theorem k211_43 : mm_lk mm_m211.1 43 = some (43, .invokevirtual 166, 46, [0, 204, 3, 14, 1977, 1979, 53, 151]) := rfl
theorem k211_46 : mm_lk mm_m211.1 46 = some (46, .aload_n 0, 47, []) := rfl
theorem k211_47 : mm_lk mm_m211.1 47 = some (47, .getfield 142, 50, [0, 14, 14, 1842]) := rfl
theorem k211_50 : mm_lk mm_m211.1 50 = some (50, .ifCond .eq 5, 53, [55]) := rfl
theorem k211_53 : mm_lk mm_m211.1 53 = some (53, .iconst (-1), 54, []) := rfl
theorem k211_54 : mm_lk mm_m211.1 54 = some (54, .ireturn, 55, []) := rfl
theorem k211_55 : mm_lk mm_m211.1 55 = some (55, .aload_n 0, 56, []) := rfl
theorem k211_56 : mm_lk mm_m211.1 56 = some (56, .aload_n 0, 57, []) := rfl
theorem k211_57 : mm_lk mm_m211.1 57 = some (57, .getfield 132, 60, [0, 14, 12, 1840]) := rfl
theorem k211_60 : mm_lk mm_m211.1 60 = some (60, .aload_n 0, 61, []) := rfl
theorem k211_61 : mm_lk mm_m211.1 61 = some (61, .getfield 135, 64, [0, 14, 13, 1841]) := rfl
theorem k211_64 : mm_lk mm_m211.1 64 = some (64, .iadd, 65, []) := rfl
theorem k211_65 : mm_lk mm_m211.1 65 = some (65, .putfield 126, 68, [0, 14, 11, 1839]) := rfl
theorem k211_68 : mm_lk mm_m211.1 68 = some (68, .iload_n 1, 69, []) := rfl
theorem k211_69 : mm_lk mm_m211.1 69 = some (69, .ifCond .eq 10, 72, [79]) := rfl
theorem k211_72 : mm_lk mm_m211.1 72 = some (72, .aload_n 0, 73, []) := rfl
theorem k211_73 : mm_lk mm_m211.1 73 = some (73, .invokevirtual 63, 76, [0, 179, 1, 14, 1821, 1823, 44, 151]) := rfl
theorem k211_76 : mm_lk mm_m211.1 76 = some (76, .goto 7, 79, [83]) := rfl
theorem k211_79 : mm_lk mm_m211.1 79 = some (79, .aload_n 0, 80, []) := rfl
theorem k211_80 : mm_lk mm_m211.1 80 = some (80, .invokevirtual 55, 83, [0, 178, 1, 14, 2002, 2004, 57, 151]) := rfl
theorem k211_83 : mm_lk mm_m211.1 83 = some (83, .istore_n 3, 84, []) := rfl
theorem k211_84 : mm_lk mm_m211.1 84 = some (84, .iconst 0, 85, []) := rfl
theorem k211_85 : mm_lk mm_m211.1 85 = some (85, .istore 4, 87, []) := rfl
theorem k211_87 : mm_lk mm_m211.1 87 = some (87, .iload 4, 89, []) := rfl
theorem k211_89 : mm_lk mm_m211.1 89 = some (89, .iload_n 3, 90, []) := rfl
theorem k211_90 : mm_lk mm_m211.1 90 = some (90, .if_icmp .ge 36, 93, [126]) := rfl
theorem k211_93 : mm_lk mm_m211.1 93 = some (93, .aload_n 0, 94, []) := rfl
theorem k211_94 : mm_lk mm_m211.1 94 = some (94, .iload_n 1, 95, []) := rfl
theorem k211_95 : mm_lk mm_m211.1 95 = some (95, .ifCond .eq 8, 98, [103]) := rfl
theorem k211_98 : mm_lk mm_m211.1 98 = some (98, .bipush 115, 100, []) := rfl
theorem k211_100 : mm_lk mm_m211.1 100 = some (100, .goto 5, 103, [105]) := rfl
theorem k211_103 : mm_lk mm_m211.1 103 = some (103, .bipush 80, 105, []) := rfl
theorem k211_105 : mm_lk mm_m211.1 105 = some (105, .bipush 7, 107, []) := rfl
theorem k211_107 : mm_lk mm_m211.1 107 = some (107, .iload 4, 109, []) := rfl
theorem k211_109 : mm_lk mm_m211.1 109 = some (109, .imul, 110, []) := rfl
theorem k211_110 : mm_lk mm_m211.1 110 = some (110, .iadd, 111, []) := rfl
theorem k211_111 : mm_lk mm_m211.1 111 = some (111, .invokevirtual 192, 114, [0, 210, 2, 14, 2006, 2008, 58, 151]) := rfl
theorem k211_114 : mm_lk mm_m211.1 114 = some (114, .ifCond .eq 6, 117, [120]) := rfl
theorem k211_117 : mm_lk mm_m211.1 117 = some (117, .iload 4, 119, []) := rfl
theorem k211_119 : mm_lk mm_m211.1 119 = some (119, .ireturn, 120, []) := rfl
theorem k211_120 : mm_lk mm_m211.1 120 = some (120, .iinc 4 1, 123, []) := rfl
theorem k211_123 : mm_lk mm_m211.1 123 = some (123, .goto (-36), 126, [87]) := rfl
theorem k211_126 : mm_lk mm_m211.1 126 = some (126, .iconst (-1), 127, []) := rfl
theorem k211_127 : mm_lk mm_m211.1 127 = some (127, .ireturn, 128, []) := rfl
