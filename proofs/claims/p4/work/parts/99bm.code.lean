/-! ===== code, row by row (by program) ===== -/
/-- WhoKnowsModel.steps(II)I -/
def mm_m265 : mm_M := (mm_c265, 6, 1, [])
set_option maxRecDepth 20000 in
theorem P265 : mm_P 265 = some mm_m265 := rfl
/-- WhoKnowsModel.level()I -/
def mm_m271 : mm_M := (mm_c271, 4, 1, [])
set_option maxRecDepth 20000 in
theorem P271 : mm_P 271 = some mm_m271 := rfl
/-- WhoKnowsModel.unlike()I -/
def mm_m272 : mm_M := (mm_c272, 4, 1, [])
set_option maxRecDepth 20000 in
theorem P272 : mm_P 272 = some mm_m272 := rfl
/-- WhoKnowsModel.knowsFact(II)I -/
def mm_m273 : mm_M := (mm_c273, 5, 1, [])
set_option maxRecDepth 20000 in
theorem P273 : mm_P 273 = some mm_m273 := rfl
/-- WhoKnowsModel.knowersNow()I -/
def mm_m274 : mm_M := (mm_c274, 3, 1, [])
set_option maxRecDepth 20000 in
theorem P274 : mm_P 274 = some mm_m274 := rfl
/-- WhoKnowsModel.knowers()I -/
def mm_m275 : mm_M := (mm_c275, 1, 1, [])
set_option maxRecDepth 20000 in
theorem P275 : mm_P 275 = some mm_m275 := rfl
theorem k265_0 : mm_lk mm_m265.1 0 = some (0, .aload_n 0, 1, []) := rfl
theorem k265_1 : mm_lk mm_m265.1 1 = some (1, .aload_n 0, 2, []) := rfl
theorem k265_2 : mm_lk mm_m265.1 2 = some (2, .iload_n 1, 3, []) := rfl
theorem k265_3 : mm_lk mm_m265.1 3 = some (3, .invokevirtual 390, 6, [0, 182, 2, 14, 2266, 2268, 111, 151]) := rfl
theorem k265_6 : mm_lk mm_m265.1 6 = some (6, .ifCond .eq 15, 9, [21]) := rfl
theorem k265_9 : mm_lk mm_m265.1 9 = some (9, .aload_n 0, 10, []) := rfl
theorem k265_10 : mm_lk mm_m265.1 10 = some (10, .iload_n 2, 11, []) := rfl
theorem k265_11 : mm_lk mm_m265.1 11 = some (11, .invokevirtual 390, 14, [0, 182, 2, 14, 2266, 2268, 111, 151]) := rfl
theorem k265_14 : mm_lk mm_m265.1 14 = some (14, .ifCond .eq 7, 17, [21]) := rfl
theorem k265_17 : mm_lk mm_m265.1 17 = some (17, .iconst 1, 18, []) := rfl
theorem k265_18 : mm_lk mm_m265.1 18 = some (18, .goto 4, 21, [22]) := rfl
theorem k265_21 : mm_lk mm_m265.1 21 = some (21, .iconst 0, 22, []) := rfl
theorem k265_22 : mm_lk mm_m265.1 22 = some (22, .invokevirtual 119, 25, [0, 176, 2, 14, 1918, 1920, 45, 151]) := rfl
theorem k265_25 : mm_lk mm_m265.1 25 = some (25, .ifCond .ne 5, 28, [30]) := rfl
theorem k265_28 : mm_lk mm_m265.1 28 = some (28, .iconst 0, 29, []) := rfl
theorem k265_29 : mm_lk mm_m265.1 29 = some (29, .ireturn, 30, []) := rfl
theorem k265_30 : mm_lk mm_m265.1 30 = some (30, .aload_n 0, 31, []) := rfl
theorem k265_31 : mm_lk mm_m265.1 31 = some (31, .getfield 7, 34, [0, 14, 0, 1828]) := rfl
theorem k265_34 : mm_lk mm_m265.1 34 = some (34, .iconst 2, 35, []) := rfl
theorem k265_35 : mm_lk mm_m265.1 35 = some (35, .iaload, 36, []) := rfl
theorem k265_36 : mm_lk mm_m265.1 36 = some (36, .iconst 1, 37, []) := rfl
theorem k265_37 : mm_lk mm_m265.1 37 = some (37, .iload_n 1, 38, []) := rfl
theorem k265_38 : mm_lk mm_m265.1 38 = some (38, .ishl, 39, []) := rfl
theorem k265_39 : mm_lk mm_m265.1 39 = some (39, .iand, 40, []) := rfl
theorem k265_40 : mm_lk mm_m265.1 40 = some (40, .istore_n 3, 41, []) := rfl
theorem k265_41 : mm_lk mm_m265.1 41 = some (41, .iconst 0, 42, []) := rfl
theorem k265_42 : mm_lk mm_m265.1 42 = some (42, .istore 4, 44, []) := rfl
theorem k265_44 : mm_lk mm_m265.1 44 = some (44, .iconst 0, 45, []) := rfl
theorem k265_45 : mm_lk mm_m265.1 45 = some (45, .istore 5, 47, []) := rfl
theorem k265_47 : mm_lk mm_m265.1 47 = some (47, .iload_n 3, 48, []) := rfl
theorem k265_48 : mm_lk mm_m265.1 48 = some (48, .iload 4, 50, []) := rfl
theorem k265_50 : mm_lk mm_m265.1 50 = some (50, .if_icmp .eq 29, 53, [79]) := rfl
theorem k265_53 : mm_lk mm_m265.1 53 = some (53, .iload_n 3, 54, []) := rfl
theorem k265_54 : mm_lk mm_m265.1 54 = some (54, .iload_n 2, 55, []) := rfl
theorem k265_55 : mm_lk mm_m265.1 55 = some (55, .invokestatic 51, 58, [1, 173, 2, 2094, 2095, 151]) := rfl
theorem k265_58 : mm_lk mm_m265.1 58 = some (58, .ifCond .eq 6, 61, [64]) := rfl
theorem k265_61 : mm_lk mm_m265.1 61 = some (61, .iload 5, 63, []) := rfl
theorem k265_63 : mm_lk mm_m265.1 63 = some (63, .ireturn, 64, []) := rfl
theorem k265_64 : mm_lk mm_m265.1 64 = some (64, .iload_n 3, 65, []) := rfl
theorem k265_65 : mm_lk mm_m265.1 65 = some (65, .istore 4, 67, []) := rfl
theorem k265_67 : mm_lk mm_m265.1 67 = some (67, .aload_n 0, 68, []) := rfl
theorem k265_68 : mm_lk mm_m265.1 68 = some (68, .iload_n 3, 69, []) := rfl
theorem k265_69 : mm_lk mm_m265.1 69 = some (69, .invokevirtual 85, 72, [0, 191, 2, 14, 2125, 2127, 86, 151]) := rfl
theorem k265_72 : mm_lk mm_m265.1 72 = some (72, .istore_n 3, 73, []) := rfl
theorem k265_73 : mm_lk mm_m265.1 73 = some (73, .iinc 5 1, 76, []) := rfl
theorem k265_76 : mm_lk mm_m265.1 76 = some (76, .goto (-29), 79, [47]) := rfl
theorem k265_79 : mm_lk mm_m265.1 79 = some (79, .iconst (-1), 80, []) := rfl
theorem k265_80 : mm_lk mm_m265.1 80 = some (80, .ireturn, 81, []) := rfl
theorem k271_0 : mm_lk mm_m271.1 0 = some (0, .aload_n 0, 1, []) := rfl
theorem k271_1 : mm_lk mm_m271.1 1 = some (1, .iconst 0, 2, []) := rfl
theorem k271_2 : mm_lk mm_m271.1 2 = some (2, .putfield 48, 5, [0, 14, 6, 1834]) := rfl
theorem k271_5 : mm_lk mm_m271.1 5 = some (5, .aload_n 0, 6, []) := rfl
theorem k271_6 : mm_lk mm_m271.1 6 = some (6, .invokevirtual 396, 9, [0, 196, 1, 14, 2294, 2296, 113, 151]) := rfl
theorem k271_9 : mm_lk mm_m271.1 9 = some (9, .istore_n 1, 10, []) := rfl
theorem k271_10 : mm_lk mm_m271.1 10 = some (10, .iload_n 1, 11, []) := rfl
theorem k271_11 : mm_lk mm_m271.1 11 = some (11, .aload_n 0, 12, []) := rfl
theorem k271_12 : mm_lk mm_m271.1 12 = some (12, .getfield 7, 15, [0, 14, 0, 1828]) := rfl
theorem k271_15 : mm_lk mm_m271.1 15 = some (15, .iconst 4, 16, []) := rfl
theorem k271_16 : mm_lk mm_m271.1 16 = some (16, .iaload, 17, []) := rfl
theorem k271_17 : mm_lk mm_m271.1 17 = some (17, .invokestatic 51, 20, [1, 173, 2, 2094, 2095, 151]) := rfl
theorem k271_20 : mm_lk mm_m271.1 20 = some (20, .ifCond .ne 5, 23, [25]) := rfl
theorem k271_23 : mm_lk mm_m271.1 23 = some (23, .iconst (-1), 24, []) := rfl
theorem k271_24 : mm_lk mm_m271.1 24 = some (24, .ireturn, 25, []) := rfl
theorem k271_25 : mm_lk mm_m271.1 25 = some (25, .iconst 0, 26, []) := rfl
theorem k271_26 : mm_lk mm_m271.1 26 = some (26, .istore_n 2, 27, []) := rfl
theorem k271_27 : mm_lk mm_m271.1 27 = some (27, .aload_n 0, 28, []) := rfl
theorem k271_28 : mm_lk mm_m271.1 28 = some (28, .iload_n 1, 29, []) := rfl
theorem k271_29 : mm_lk mm_m271.1 29 = some (29, .invokevirtual 97, 32, [0, 190, 2, 14, 2113, 2115, 83, 151]) := rfl
theorem k271_32 : mm_lk mm_m271.1 32 = some (32, .istore_n 3, 33, []) := rfl
theorem k271_33 : mm_lk mm_m271.1 33 = some (33, .iload_n 3, 34, []) := rfl
theorem k271_34 : mm_lk mm_m271.1 34 = some (34, .iload_n 1, 35, []) := rfl
theorem k271_35 : mm_lk mm_m271.1 35 = some (35, .if_icmp .eq 32, 38, [67]) := rfl
theorem k271_38 : mm_lk mm_m271.1 38 = some (38, .iload_n 3, 39, []) := rfl
theorem k271_39 : mm_lk mm_m271.1 39 = some (39, .aload_n 0, 40, []) := rfl
theorem k271_40 : mm_lk mm_m271.1 40 = some (40, .getfield 7, 43, [0, 14, 0, 1828]) := rfl
theorem k271_43 : mm_lk mm_m271.1 43 = some (43, .iconst 4, 44, []) := rfl
theorem k271_44 : mm_lk mm_m271.1 44 = some (44, .iaload, 45, []) := rfl
theorem k271_45 : mm_lk mm_m271.1 45 = some (45, .invokestatic 51, 48, [1, 173, 2, 2094, 2095, 151]) := rfl
theorem k271_48 : mm_lk mm_m271.1 48 = some (48, .ifCond .ne 5, 51, [53]) := rfl
theorem k271_51 : mm_lk mm_m271.1 51 = some (51, .iload_n 2, 52, []) := rfl
theorem k271_52 : mm_lk mm_m271.1 52 = some (52, .ireturn, 53, []) := rfl
theorem k271_53 : mm_lk mm_m271.1 53 = some (53, .iinc 2 1, 56, []) := rfl
theorem k271_56 : mm_lk mm_m271.1 56 = some (56, .iload_n 3, 57, []) := rfl
theorem k271_57 : mm_lk mm_m271.1 57 = some (57, .istore_n 1, 58, []) := rfl
theorem k271_58 : mm_lk mm_m271.1 58 = some (58, .aload_n 0, 59, []) := rfl
theorem k271_59 : mm_lk mm_m271.1 59 = some (59, .iload_n 1, 60, []) := rfl
theorem k271_60 : mm_lk mm_m271.1 60 = some (60, .invokevirtual 97, 63, [0, 190, 2, 14, 2113, 2115, 83, 151]) := rfl
theorem k271_63 : mm_lk mm_m271.1 63 = some (63, .istore_n 3, 64, []) := rfl
theorem k271_64 : mm_lk mm_m271.1 64 = some (64, .goto (-31), 67, [33]) := rfl
theorem k271_67 : mm_lk mm_m271.1 67 = some (67, .bipush 99, 69, []) := rfl
theorem k271_69 : mm_lk mm_m271.1 69 = some (69, .ireturn, 70, []) := rfl
theorem k272_0 : mm_lk mm_m272.1 0 = some (0, .aload_n 0, 1, []) := rfl
theorem k272_1 : mm_lk mm_m272.1 1 = some (1, .iconst 0, 2, []) := rfl
theorem k272_2 : mm_lk mm_m272.1 2 = some (2, .putfield 48, 5, [0, 14, 6, 1834]) := rfl
theorem k272_5 : mm_lk mm_m272.1 5 = some (5, .aload_n 0, 6, []) := rfl
theorem k272_6 : mm_lk mm_m272.1 6 = some (6, .invokevirtual 396, 9, [0, 196, 1, 14, 2294, 2296, 113, 151]) := rfl
theorem k272_9 : mm_lk mm_m272.1 9 = some (9, .istore_n 1, 10, []) := rfl
theorem k272_10 : mm_lk mm_m272.1 10 = some (10, .iload_n 1, 11, []) := rfl
theorem k272_11 : mm_lk mm_m272.1 11 = some (11, .istore_n 2, 12, []) := rfl
theorem k272_12 : mm_lk mm_m272.1 12 = some (12, .aload_n 0, 13, []) := rfl
theorem k272_13 : mm_lk mm_m272.1 13 = some (13, .iload_n 2, 14, []) := rfl
theorem k272_14 : mm_lk mm_m272.1 14 = some (14, .invokevirtual 97, 17, [0, 190, 2, 14, 2113, 2115, 83, 151]) := rfl
theorem k272_17 : mm_lk mm_m272.1 17 = some (17, .istore_n 3, 18, []) := rfl
theorem k272_18 : mm_lk mm_m272.1 18 = some (18, .iload_n 3, 19, []) := rfl
theorem k272_19 : mm_lk mm_m272.1 19 = some (19, .iload_n 2, 20, []) := rfl
theorem k272_20 : mm_lk mm_m272.1 20 = some (20, .if_icmp .eq 14, 23, [34]) := rfl
theorem k272_23 : mm_lk mm_m272.1 23 = some (23, .iload_n 3, 24, []) := rfl
theorem k272_24 : mm_lk mm_m272.1 24 = some (24, .istore_n 2, 25, []) := rfl
theorem k272_25 : mm_lk mm_m272.1 25 = some (25, .aload_n 0, 26, []) := rfl
theorem k272_26 : mm_lk mm_m272.1 26 = some (26, .iload_n 2, 27, []) := rfl
theorem k272_27 : mm_lk mm_m272.1 27 = some (27, .invokevirtual 97, 30, [0, 190, 2, 14, 2113, 2115, 83, 151]) := rfl
theorem k272_30 : mm_lk mm_m272.1 30 = some (30, .istore_n 3, 31, []) := rfl
theorem k272_31 : mm_lk mm_m272.1 31 = some (31, .goto (-13), 34, [18]) := rfl
theorem k272_34 : mm_lk mm_m272.1 34 = some (34, .iload_n 2, 35, []) := rfl
theorem k272_35 : mm_lk mm_m272.1 35 = some (35, .aload_n 0, 36, []) := rfl
theorem k272_36 : mm_lk mm_m272.1 36 = some (36, .iload_n 1, 37, []) := rfl
theorem k272_37 : mm_lk mm_m272.1 37 = some (37, .invokevirtual 100, 40, [0, 193, 2, 14, 2117, 2119, 84, 151]) := rfl
theorem k272_40 : mm_lk mm_m272.1 40 = some (40, .ixor, 41, []) := rfl
theorem k272_41 : mm_lk mm_m272.1 41 = some (41, .invokestatic 74, 44, [1, 174, 1, 1818, 1819, 151]) := rfl
theorem k272_44 : mm_lk mm_m272.1 44 = some (44, .ireturn, 45, []) := rfl
theorem k273_0 : mm_lk mm_m273.1 0 = some (0, .aload_n 0, 1, []) := rfl
theorem k273_1 : mm_lk mm_m273.1 1 = some (1, .aload_n 0, 2, []) := rfl
theorem k273_2 : mm_lk mm_m273.1 2 = some (2, .iload_n 1, 3, []) := rfl
theorem k273_3 : mm_lk mm_m273.1 3 = some (3, .invokevirtual 384, 6, [0, 181, 2, 14, 2246, 2248, 109, 151]) := rfl
theorem k273_6 : mm_lk mm_m273.1 6 = some (6, .ifCond .eq 15, 9, [21]) := rfl
theorem k273_9 : mm_lk mm_m273.1 9 = some (9, .aload_n 0, 10, []) := rfl
theorem k273_10 : mm_lk mm_m273.1 10 = some (10, .iload_n 2, 11, []) := rfl
theorem k273_11 : mm_lk mm_m273.1 11 = some (11, .invokevirtual 387, 14, [0, 180, 2, 14, 2250, 2252, 110, 151]) := rfl
theorem k273_14 : mm_lk mm_m273.1 14 = some (14, .ifCond .eq 7, 17, [21]) := rfl
theorem k273_17 : mm_lk mm_m273.1 17 = some (17, .iconst 1, 18, []) := rfl
theorem k273_18 : mm_lk mm_m273.1 18 = some (18, .goto 4, 21, [22]) := rfl
theorem k273_21 : mm_lk mm_m273.1 21 = some (21, .iconst 0, 22, []) := rfl
theorem k273_22 : mm_lk mm_m273.1 22 = some (22, .invokevirtual 119, 25, [0, 176, 2, 14, 1918, 1920, 45, 151]) := rfl
theorem k273_25 : mm_lk mm_m273.1 25 = some (25, .ifCond .ne 5, 28, [30]) := rfl
theorem k273_28 : mm_lk mm_m273.1 28 = some (28, .iconst 0, 29, []) := rfl
theorem k273_29 : mm_lk mm_m273.1 29 = some (29, .ireturn, 30, []) := rfl
theorem k273_30 : mm_lk mm_m273.1 30 = some (30, .aload_n 0, 31, []) := rfl
theorem k273_31 : mm_lk mm_m273.1 31 = some (31, .iload_n 1, 32, []) := rfl
theorem k273_32 : mm_lk mm_m273.1 32 = some (32, .aload_n 0, 33, []) := rfl
theorem k273_33 : mm_lk mm_m273.1 33 = some (33, .getfield 7, 36, [0, 14, 0, 1828]) := rfl
theorem k273_36 : mm_lk mm_m273.1 36 = some (36, .iconst 4, 37, []) := rfl
theorem k273_37 : mm_lk mm_m273.1 37 = some (37, .iaload, 38, []) := rfl
theorem k273_38 : mm_lk mm_m273.1 38 = some (38, .invokevirtual 78, 41, [0, 186, 3, 14, 2105, 2107, 81, 151]) := rfl
theorem k273_41 : mm_lk mm_m273.1 41 = some (41, .istore_n 3, 42, []) := rfl
theorem k273_42 : mm_lk mm_m273.1 42 = some (42, .iload_n 2, 43, []) := rfl
theorem k273_43 : mm_lk mm_m273.1 43 = some (43, .invokestatic 91, 46, [1, 184, 1, 2091, 2092, 151]) := rfl
theorem k273_46 : mm_lk mm_m273.1 46 = some (46, .istore 4, 48, []) := rfl
theorem k273_48 : mm_lk mm_m273.1 48 = some (48, .iload_n 3, 49, []) := rfl
theorem k273_49 : mm_lk mm_m273.1 49 = some (49, .iload 4, 51, []) := rfl
theorem k273_51 : mm_lk mm_m273.1 51 = some (51, .iconst (-1), 52, []) := rfl
theorem k273_52 : mm_lk mm_m273.1 52 = some (52, .ixor, 53, []) := rfl
theorem k273_53 : mm_lk mm_m273.1 53 = some (53, .iand, 54, []) := rfl
theorem k273_54 : mm_lk mm_m273.1 54 = some (54, .ifCond .ne 7, 57, [61]) := rfl
theorem k273_57 : mm_lk mm_m273.1 57 = some (57, .iconst 1, 58, []) := rfl
theorem k273_58 : mm_lk mm_m273.1 58 = some (58, .goto 15, 61, [73]) := rfl
theorem k273_61 : mm_lk mm_m273.1 61 = some (61, .iload_n 3, 62, []) := rfl
theorem k273_62 : mm_lk mm_m273.1 62 = some (62, .iload 4, 64, []) := rfl
theorem k273_64 : mm_lk mm_m273.1 64 = some (64, .iand, 65, []) := rfl
theorem k273_65 : mm_lk mm_m273.1 65 = some (65, .ifCond .ne 7, 68, [72]) := rfl
theorem k273_68 : mm_lk mm_m273.1 68 = some (68, .iconst 0, 69, []) := rfl
theorem k273_69 : mm_lk mm_m273.1 69 = some (69, .goto 4, 72, [73]) := rfl
theorem k273_72 : mm_lk mm_m273.1 72 = some (72, .iconst (-1), 73, []) := rfl
theorem k273_73 : mm_lk mm_m273.1 73 = some (73, .ireturn, 74, []) := rfl
theorem k274_0 : mm_lk mm_m274.1 0 = some (0, .iconst 0, 1, []) := rfl
theorem k274_1 : mm_lk mm_m274.1 1 = some (1, .istore_n 1, 2, []) := rfl
theorem k274_2 : mm_lk mm_m274.1 2 = some (2, .iconst 0, 3, []) := rfl
theorem k274_3 : mm_lk mm_m274.1 3 = some (3, .istore_n 2, 4, []) := rfl
theorem k274_4 : mm_lk mm_m274.1 4 = some (4, .iload_n 2, 5, []) := rfl
theorem k274_5 : mm_lk mm_m274.1 5 = some (5, .aload_n 0, 6, []) := rfl
theorem k274_6 : mm_lk mm_m274.1 6 = some (6, .invokevirtual 63, 9, [0, 179, 1, 14, 1821, 1823, 44, 151]) := rfl
theorem k274_9 : mm_lk mm_m274.1 9 = some (9, .if_icmp .ge 44, 12, [53]) := rfl
theorem k274_12 : mm_lk mm_m274.1 12 = some (12, .iload_n 1, 13, []) := rfl
theorem k274_13 : mm_lk mm_m274.1 13 = some (13, .aload_n 0, 14, []) := rfl
theorem k274_14 : mm_lk mm_m274.1 14 = some (14, .iload_n 2, 15, []) := rfl
theorem k274_15 : mm_lk mm_m274.1 15 = some (15, .aload_n 0, 16, []) := rfl
theorem k274_16 : mm_lk mm_m274.1 16 = some (16, .getfield 7, 19, [0, 14, 0, 1828]) := rfl
theorem k274_19 : mm_lk mm_m274.1 19 = some (19, .iconst 4, 20, []) := rfl
theorem k274_20 : mm_lk mm_m274.1 20 = some (20, .iaload, 21, []) := rfl
theorem k274_21 : mm_lk mm_m274.1 21 = some (21, .invokevirtual 78, 24, [0, 186, 3, 14, 2105, 2107, 81, 151]) := rfl
theorem k274_24 : mm_lk mm_m274.1 24 = some (24, .iconst 1, 25, []) := rfl
theorem k274_25 : mm_lk mm_m274.1 25 = some (25, .aload_n 0, 26, []) := rfl
theorem k274_26 : mm_lk mm_m274.1 26 = some (26, .getfield 7, 29, [0, 14, 0, 1828]) := rfl
theorem k274_29 : mm_lk mm_m274.1 29 = some (29, .iconst 4, 30, []) := rfl
theorem k274_30 : mm_lk mm_m274.1 30 = some (30, .iaload, 31, []) := rfl
theorem k274_31 : mm_lk mm_m274.1 31 = some (31, .ishl, 32, []) := rfl
theorem k274_32 : mm_lk mm_m274.1 32 = some (32, .if_icmp .ne 7, 35, [39]) := rfl
theorem k274_35 : mm_lk mm_m274.1 35 = some (35, .iconst 1, 36, []) := rfl
theorem k274_36 : mm_lk mm_m274.1 36 = some (36, .goto 4, 39, [40]) := rfl
theorem k274_39 : mm_lk mm_m274.1 39 = some (39, .iconst 0, 40, []) := rfl
theorem k274_40 : mm_lk mm_m274.1 40 = some (40, .invokestatic 66, 43, [1, 172, 1, 1825, 1826, 151]) := rfl
theorem k274_43 : mm_lk mm_m274.1 43 = some (43, .iload_n 2, 44, []) := rfl
theorem k274_44 : mm_lk mm_m274.1 44 = some (44, .ishl, 45, []) := rfl
theorem k274_45 : mm_lk mm_m274.1 45 = some (45, .ior, 46, []) := rfl
theorem k274_46 : mm_lk mm_m274.1 46 = some (46, .istore_n 1, 47, []) := rfl
theorem k274_47 : mm_lk mm_m274.1 47 = some (47, .iinc 2 1, 50, []) := rfl
theorem k274_50 : mm_lk mm_m274.1 50 = some (50, .goto (-46), 53, [4]) := rfl
theorem k274_53 : mm_lk mm_m274.1 53 = some (53, .iload_n 1, 54, []) := rfl
theorem k274_54 : mm_lk mm_m274.1 54 = some (54, .ireturn, 55, []) := rfl
theorem k275_0 : mm_lk mm_m275.1 0 = some (0, .aload_n 0, 1, []) := rfl
theorem k275_1 : mm_lk mm_m275.1 1 = some (1, .iconst 0, 2, []) := rfl
theorem k275_2 : mm_lk mm_m275.1 2 = some (2, .putfield 48, 5, [0, 14, 6, 1834]) := rfl
theorem k275_5 : mm_lk mm_m275.1 5 = some (5, .aload_n 0, 6, []) := rfl
theorem k275_6 : mm_lk mm_m275.1 6 = some (6, .invokevirtual 399, 9, [0, 274, 1, 14, 2330, 2332, 114, 151]) := rfl
theorem k275_9 : mm_lk mm_m275.1 9 = some (9, .ireturn, 10, []) := rfl
