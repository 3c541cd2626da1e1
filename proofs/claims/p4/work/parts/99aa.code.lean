/-! ===== code, row by row (by program) ===== -/
/-- WhoKnowsModel.readsTold()I -/
def mm_m249 : mm_M := (mm_c249, 3, 1, [])
set_option maxRecDepth 20000 in
theorem P249 : mm_P 249 = some mm_m249 := rfl
theorem k249_0 : mm_lk mm_m249.1 0 = some (0, .iconst 0, 1, []) := rfl
theorem k249_1 : mm_lk mm_m249.1 1 = some (1, .istore_n 1, 2, []) := rfl
theorem k249_2 : mm_lk mm_m249.1 2 = some (2, .aload_n 0, 3, []) := rfl
theorem k249_3 : mm_lk mm_m249.1 3 = some (3, .iconst 1, 4, []) := rfl
theorem k249_4 : mm_lk mm_m249.1 4 = some (4, .invokevirtual 214, 7, [0, 212, 2, 14, 2075, 2077, 75, 151]) := rfl
theorem k249_7 : mm_lk mm_m249.1 7 = some (7, .istore_n 2, 8, []) := rfl
theorem k249_8 : mm_lk mm_m249.1 8 = some (8, .aload_n 0, 9, []) := rfl
theorem k249_9 : mm_lk mm_m249.1 9 = some (9, .aload_n 0, 10, []) := rfl
theorem k249_10 : mm_lk mm_m249.1 10 = some (10, .getfield 142, 13, [0, 14, 14, 1842]) := rfl
theorem k249_13 : mm_lk mm_m249.1 13 = some (13, .ifCond .ne 11, 16, [24]) := rfl
theorem k249_16 : mm_lk mm_m249.1 16 = some (16, .iload_n 1, 17, []) := rfl
theorem k249_17 : mm_lk mm_m249.1 17 = some (17, .iload_n 2, 18, []) := rfl
theorem k249_18 : mm_lk mm_m249.1 18 = some (18, .invokestatic 51, 21, [1, 173, 2, 2094, 2095, 151]) := rfl
theorem k249_21 : mm_lk mm_m249.1 21 = some (21, .ifCond .ne 7, 24, [28]) := rfl
theorem k249_24 : mm_lk mm_m249.1 24 = some (24, .iconst 1, 25, []) := rfl
theorem k249_25 : mm_lk mm_m249.1 25 = some (25, .goto 4, 28, [29]) := rfl
theorem k249_28 : mm_lk mm_m249.1 28 = some (28, .iconst 0, 29, []) := rfl
theorem k249_29 : mm_lk mm_m249.1 29 = some (29, .iconst 2, 30, []) := rfl
theorem k249_30 : mm_lk mm_m249.1 30 = some (30, .invokevirtual 166, 33, [0, 204, 3, 14, 1977, 1979, 53, 151]) := rfl
theorem k249_33 : mm_lk mm_m249.1 33 = some (33, .iload_n 1, 34, []) := rfl
theorem k249_34 : mm_lk mm_m249.1 34 = some (34, .aload_n 0, 35, []) := rfl
theorem k249_35 : mm_lk mm_m249.1 35 = some (35, .getfield 142, 38, [0, 14, 14, 1842]) := rfl
theorem k249_38 : mm_lk mm_m249.1 38 = some (38, .ifCond .ne 9, 41, [47]) := rfl
theorem k249_41 : mm_lk mm_m249.1 41 = some (41, .iconst 1, 42, []) := rfl
theorem k249_42 : mm_lk mm_m249.1 42 = some (42, .iload_n 2, 43, []) := rfl
theorem k249_43 : mm_lk mm_m249.1 43 = some (43, .ishl, 44, []) := rfl
theorem k249_44 : mm_lk mm_m249.1 44 = some (44, .goto 4, 47, [48]) := rfl
theorem k249_47 : mm_lk mm_m249.1 47 = some (47, .iconst 0, 48, []) := rfl
theorem k249_48 : mm_lk mm_m249.1 48 = some (48, .ior, 49, []) := rfl
theorem k249_49 : mm_lk mm_m249.1 49 = some (49, .istore_n 1, 50, []) := rfl
theorem k249_50 : mm_lk mm_m249.1 50 = some (50, .aload_n 0, 51, []) := rfl
theorem k249_51 : mm_lk mm_m249.1 51 = some (51, .invokevirtual 258, 54, [0, 209, 1, 14, 2014, 2016, 60, 151]) := rfl
theorem k249_54 : mm_lk mm_m249.1 54 = some (54, .ifCond .eq 12, 57, [66]) := rfl
theorem k249_57 : mm_lk mm_m249.1 57 = some (57, .aload_n 0, 58, []) := rfl
theorem k249_58 : mm_lk mm_m249.1 58 = some (58, .ldc 184, 60, [1, 20, 2001]) := rfl
theorem k249_60 : mm_lk mm_m249.1 60 = some (60, .invokevirtual 162, 63, [0, 205, 2, 14, 1961, 1963, 50, 151]) := rfl
theorem k249_63 : mm_lk mm_m249.1 63 = some (63, .ifCond .eq (-61), 66, [2]) := rfl
theorem k249_66 : mm_lk mm_m249.1 66 = some (66, .aload_n 0, 67, []) := rfl
theorem k249_67 : mm_lk mm_m249.1 67 = some (67, .aload_n 0, 68, []) := rfl
theorem k249_68 : mm_lk mm_m249.1 68 = some (68, .ldc 184, 70, [1, 20, 2001]) := rfl
theorem k249_70 : mm_lk mm_m249.1 70 = some (70, .invokevirtual 252, 73, [0, 206, 2, 14, 1957, 1959, 49, 151]) := rfl
theorem k249_73 : mm_lk mm_m249.1 73 = some (73, .iconst 1, 74, []) := rfl
theorem k249_74 : mm_lk mm_m249.1 74 = some (74, .invokevirtual 166, 77, [0, 204, 3, 14, 1977, 1979, 53, 151]) := rfl
theorem k249_77 : mm_lk mm_m249.1 77 = some (77, .iload_n 1, 78, []) := rfl
theorem k249_78 : mm_lk mm_m249.1 78 = some (78, .ireturn, 79, []) := rfl
