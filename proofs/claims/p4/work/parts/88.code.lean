/-! ===== code, row by row (by program) ===== -/
/-- WhoKnowsModel.announceNow([II)I -/
def mm_m240 : mm_M := (mm_c240, 5, 1, [])
set_option maxRecDepth 20000 in
theorem P240 : mm_P 240 = some mm_m240 := rfl
/-- WhoKnowsModel.sayNow(I[II)I -/
def mm_m241 : mm_M := (mm_c241, 7, 1, [])
set_option maxRecDepth 20000 in
theorem P241 : mm_P 241 = some mm_m241 := rfl
/-- WhoKnowsModel.showNow(II)I -/
def mm_m245 : mm_M := (mm_c245, 4, 1, [])
set_option maxRecDepth 20000 in
theorem P245 : mm_P 245 = some mm_m245 := rfl
theorem k240_0 : mm_lk mm_m240.1 0 = some (0, .aload_n 0, 1, []) := rfl
theorem k240_1 : mm_lk mm_m240.1 1 = some (1, .aload_n 1, 2, []) := rfl
theorem k240_2 : mm_lk mm_m240.1 2 = some (2, .iload_n 2, 3, []) := rfl
theorem k240_3 : mm_lk mm_m240.1 3 = some (3, .invokevirtual 107, 6, [0, 195, 3, 14, 2083, 2085, 77, 151]) := rfl
theorem k240_6 : mm_lk mm_m240.1 6 = some (6, .istore_n 3, 7, []) := rfl
theorem k240_7 : mm_lk mm_m240.1 7 = some (7, .iload_n 3, 8, []) := rfl
theorem k240_8 : mm_lk mm_m240.1 8 = some (8, .aload_n 0, 9, []) := rfl
theorem k240_9 : mm_lk mm_m240.1 9 = some (9, .getfield 7, 12, [0, 14, 0, 1828]) := rfl
theorem k240_12 : mm_lk mm_m240.1 12 = some (12, .iconst 4, 13, []) := rfl
theorem k240_13 : mm_lk mm_m240.1 13 = some (13, .iaload, 14, []) := rfl
theorem k240_14 : mm_lk mm_m240.1 14 = some (14, .invokestatic 51, 17, [1, 173, 2, 2094, 2095, 151]) := rfl
theorem k240_17 : mm_lk mm_m240.1 17 = some (17, .ifCond .ne 5, 20, [22]) := rfl
theorem k240_20 : mm_lk mm_m240.1 20 = some (20, .iconst (-1), 21, []) := rfl
theorem k240_21 : mm_lk mm_m240.1 21 = some (21, .ireturn, 22, []) := rfl
theorem k240_22 : mm_lk mm_m240.1 22 = some (22, .aload_n 0, 23, []) := rfl
theorem k240_23 : mm_lk mm_m240.1 23 = some (23, .iload_n 3, 24, []) := rfl
theorem k240_24 : mm_lk mm_m240.1 24 = some (24, .invokevirtual 315, 27, [0, 239, 2, 14, 2187, 2189, 98, 151]) := rfl
theorem k240_27 : mm_lk mm_m240.1 27 = some (27, .istore 4, 29, []) := rfl
theorem k240_29 : mm_lk mm_m240.1 29 = some (29, .aload_n 0, 30, []) := rfl
theorem k240_30 : mm_lk mm_m240.1 30 = some (30, .iconst 0, 31, []) := rfl
theorem k240_31 : mm_lk mm_m240.1 31 = some (31, .iconst 1, 32, []) := rfl
theorem k240_32 : mm_lk mm_m240.1 32 = some (32, .invokevirtual 311, 35, [0, 237, 3, 14, 2191, 2193, 99, 151]) := rfl
theorem k240_35 : mm_lk mm_m240.1 35 = some (35, .aload_n 0, 36, []) := rfl
theorem k240_36 : mm_lk mm_m240.1 36 = some (36, .iconst 0, 37, []) := rfl
theorem k240_37 : mm_lk mm_m240.1 37 = some (37, .iconst 0, 38, []) := rfl
theorem k240_38 : mm_lk mm_m240.1 38 = some (38, .iload 4, 40, []) := rfl
theorem k240_40 : mm_lk mm_m240.1 40 = some (40, .invokevirtual 318, 43, [0, 238, 4, 14, 2195, 2197, 100, 151]) := rfl
theorem k240_43 : mm_lk mm_m240.1 43 = some (43, .aload_n 0, 44, []) := rfl
theorem k240_44 : mm_lk mm_m240.1 44 = some (44, .getfield 7, 47, [0, 14, 0, 1828]) := rfl
theorem k240_47 : mm_lk mm_m240.1 47 = some (47, .iconst 2, 48, []) := rfl
theorem k240_48 : mm_lk mm_m240.1 48 = some (48, .iaload, 49, []) := rfl
theorem k240_49 : mm_lk mm_m240.1 49 = some (49, .invokestatic 74, 52, [1, 174, 1, 1818, 1819, 151]) := rfl
theorem k240_52 : mm_lk mm_m240.1 52 = some (52, .ireturn, 53, []) := rfl
theorem k241_0 : mm_lk mm_m241.1 0 = some (0, .aload_n 0, 1, []) := rfl
theorem k241_1 : mm_lk mm_m241.1 1 = some (1, .aload_n 2, 2, []) := rfl
theorem k241_2 : mm_lk mm_m241.1 2 = some (2, .iload_n 3, 3, []) := rfl
theorem k241_3 : mm_lk mm_m241.1 3 = some (3, .invokevirtual 107, 6, [0, 195, 3, 14, 2083, 2085, 77, 151]) := rfl
theorem k241_6 : mm_lk mm_m241.1 6 = some (6, .istore 4, 8, []) := rfl
theorem k241_8 : mm_lk mm_m241.1 8 = some (8, .iload 4, 10, []) := rfl
theorem k241_10 : mm_lk mm_m241.1 10 = some (10, .aload_n 0, 11, []) := rfl
theorem k241_11 : mm_lk mm_m241.1 11 = some (11, .getfield 7, 14, [0, 14, 0, 1828]) := rfl
theorem k241_14 : mm_lk mm_m241.1 14 = some (14, .iconst 4, 15, []) := rfl
theorem k241_15 : mm_lk mm_m241.1 15 = some (15, .iaload, 16, []) := rfl
theorem k241_16 : mm_lk mm_m241.1 16 = some (16, .invokestatic 51, 19, [1, 173, 2, 2094, 2095, 151]) := rfl
theorem k241_19 : mm_lk mm_m241.1 19 = some (19, .ifCond .ne 5, 22, [24]) := rfl
theorem k241_22 : mm_lk mm_m241.1 22 = some (22, .iconst (-1), 23, []) := rfl
theorem k241_23 : mm_lk mm_m241.1 23 = some (23, .ireturn, 24, []) := rfl
theorem k241_24 : mm_lk mm_m241.1 24 = some (24, .aload_n 0, 25, []) := rfl
theorem k241_25 : mm_lk mm_m241.1 25 = some (25, .iload_n 1, 26, []) := rfl
theorem k241_26 : mm_lk mm_m241.1 26 = some (26, .iload 4, 28, []) := rfl
theorem k241_28 : mm_lk mm_m241.1 28 = some (28, .invokevirtual 82, 31, [0, 188, 3, 14, 2097, 2099, 79, 151]) := rfl
theorem k241_31 : mm_lk mm_m241.1 31 = some (31, .istore 5, 33, []) := rfl
theorem k241_33 : mm_lk mm_m241.1 33 = some (33, .iload 5, 35, []) := rfl
theorem k241_35 : mm_lk mm_m241.1 35 = some (35, .aload_n 0, 36, []) := rfl
theorem k241_36 : mm_lk mm_m241.1 36 = some (36, .getfield 7, 39, [0, 14, 0, 1828]) := rfl
theorem k241_39 : mm_lk mm_m241.1 39 = some (39, .iconst 4, 40, []) := rfl
theorem k241_40 : mm_lk mm_m241.1 40 = some (40, .iaload, 41, []) := rfl
theorem k241_41 : mm_lk mm_m241.1 41 = some (41, .invokestatic 51, 44, [1, 173, 2, 2094, 2095, 151]) := rfl
theorem k241_44 : mm_lk mm_m241.1 44 = some (44, .ifCond .ne 6, 47, [50]) := rfl
theorem k241_47 : mm_lk mm_m241.1 47 = some (47, .bipush (-2), 49, []) := rfl
theorem k241_49 : mm_lk mm_m241.1 49 = some (49, .ireturn, 50, []) := rfl
theorem k241_50 : mm_lk mm_m241.1 50 = some (50, .aload_n 0, 51, []) := rfl
theorem k241_51 : mm_lk mm_m241.1 51 = some (51, .iload 5, 53, []) := rfl
theorem k241_53 : mm_lk mm_m241.1 53 = some (53, .invokevirtual 315, 56, [0, 239, 2, 14, 2187, 2189, 98, 151]) := rfl
theorem k241_56 : mm_lk mm_m241.1 56 = some (56, .istore 6, 58, []) := rfl
theorem k241_58 : mm_lk mm_m241.1 58 = some (58, .aload_n 0, 59, []) := rfl
theorem k241_59 : mm_lk mm_m241.1 59 = some (59, .iconst 1, 60, []) := rfl
theorem k241_60 : mm_lk mm_m241.1 60 = some (60, .iconst 1, 61, []) := rfl
theorem k241_61 : mm_lk mm_m241.1 61 = some (61, .invokevirtual 311, 64, [0, 237, 3, 14, 2191, 2193, 99, 151]) := rfl
theorem k241_64 : mm_lk mm_m241.1 64 = some (64, .aload_n 0, 65, []) := rfl
theorem k241_65 : mm_lk mm_m241.1 65 = some (65, .iconst 1, 66, []) := rfl
theorem k241_66 : mm_lk mm_m241.1 66 = some (66, .iconst 1, 67, []) := rfl
theorem k241_67 : mm_lk mm_m241.1 67 = some (67, .iload_n 1, 68, []) := rfl
theorem k241_68 : mm_lk mm_m241.1 68 = some (68, .ishl, 69, []) := rfl
theorem k241_69 : mm_lk mm_m241.1 69 = some (69, .iload 6, 71, []) := rfl
theorem k241_71 : mm_lk mm_m241.1 71 = some (71, .invokevirtual 318, 74, [0, 238, 4, 14, 2195, 2197, 100, 151]) := rfl
theorem k241_74 : mm_lk mm_m241.1 74 = some (74, .aload_n 0, 75, []) := rfl
theorem k241_75 : mm_lk mm_m241.1 75 = some (75, .getfield 7, 78, [0, 14, 0, 1828]) := rfl
theorem k241_78 : mm_lk mm_m241.1 78 = some (78, .iconst 2, 79, []) := rfl
theorem k241_79 : mm_lk mm_m241.1 79 = some (79, .iaload, 80, []) := rfl
theorem k241_80 : mm_lk mm_m241.1 80 = some (80, .invokestatic 74, 83, [1, 174, 1, 1818, 1819, 151]) := rfl
theorem k241_83 : mm_lk mm_m241.1 83 = some (83, .ireturn, 84, []) := rfl
theorem k245_0 : mm_lk mm_m245.1 0 = some (0, .aload_n 0, 1, []) := rfl
theorem k245_1 : mm_lk mm_m245.1 1 = some (1, .iload_n 1, 2, []) := rfl
theorem k245_2 : mm_lk mm_m245.1 2 = some (2, .iload_n 2, 3, []) := rfl
theorem k245_3 : mm_lk mm_m245.1 3 = some (3, .invokestatic 91, 6, [1, 184, 1, 2091, 2092, 151]) := rfl
theorem k245_6 : mm_lk mm_m245.1 6 = some (6, .aload_n 0, 7, []) := rfl
theorem k245_7 : mm_lk mm_m245.1 7 = some (7, .getfield 7, 10, [0, 14, 0, 1828]) := rfl
theorem k245_10 : mm_lk mm_m245.1 10 = some (10, .iconst 2, 11, []) := rfl
theorem k245_11 : mm_lk mm_m245.1 11 = some (11, .iaload, 12, []) := rfl
theorem k245_12 : mm_lk mm_m245.1 12 = some (12, .iand, 13, []) := rfl
theorem k245_13 : mm_lk mm_m245.1 13 = some (13, .invokevirtual 325, 16, [0, 243, 3, 14, 2208, 2210, 103, 151]) := rfl
theorem k245_16 : mm_lk mm_m245.1 16 = some (16, .istore_n 3, 17, []) := rfl
theorem k245_17 : mm_lk mm_m245.1 17 = some (17, .aload_n 0, 18, []) := rfl
theorem k245_18 : mm_lk mm_m245.1 18 = some (18, .iconst 3, 19, []) := rfl
theorem k245_19 : mm_lk mm_m245.1 19 = some (19, .iconst 1, 20, []) := rfl
theorem k245_20 : mm_lk mm_m245.1 20 = some (20, .invokevirtual 311, 23, [0, 237, 3, 14, 2191, 2193, 99, 151]) := rfl
theorem k245_23 : mm_lk mm_m245.1 23 = some (23, .aload_n 0, 24, []) := rfl
theorem k245_24 : mm_lk mm_m245.1 24 = some (24, .iconst 3, 25, []) := rfl
theorem k245_25 : mm_lk mm_m245.1 25 = some (25, .iconst 1, 26, []) := rfl
theorem k245_26 : mm_lk mm_m245.1 26 = some (26, .iload_n 1, 27, []) := rfl
theorem k245_27 : mm_lk mm_m245.1 27 = some (27, .ishl, 28, []) := rfl
theorem k245_28 : mm_lk mm_m245.1 28 = some (28, .iconst 0, 29, []) := rfl
theorem k245_29 : mm_lk mm_m245.1 29 = some (29, .invokevirtual 318, 32, [0, 238, 4, 14, 2195, 2197, 100, 151]) := rfl
theorem k245_32 : mm_lk mm_m245.1 32 = some (32, .iload_n 3, 33, []) := rfl
theorem k245_33 : mm_lk mm_m245.1 33 = some (33, .ireturn, 34, []) := rfl
