/-! ===== code, row by row (by program) ===== -/
/-- WhoKnowsModel.readsItem()I -/
def mm_m225 : mm_M := (mm_c225, 2, 1, [])
set_option maxRecDepth 20000 in
theorem P225 : mm_P 225 = some mm_m225 := rfl
/-- WhoKnowsModel.readsPart()I -/
def mm_m226 : mm_M := (mm_c226, 2, 1, [])
set_option maxRecDepth 20000 in
theorem P226 : mm_P 226 = some mm_m226 := rfl
/-- WhoKnowsModel.readsAll()I -/
def mm_m227 : mm_M := (mm_c227, 2, 1, [])
set_option maxRecDepth 20000 in
theorem P227 : mm_P 227 = some mm_m227 := rfl
theorem k225_0 : mm_lk mm_m225.1 0 = some (0, .aload_n 0, 1, []) := rfl
theorem k225_1 : mm_lk mm_m225.1 1 = some (1, .getfield 142, 4, [0, 14, 14, 1842]) := rfl
theorem k225_4 : mm_lk mm_m225.1 4 = some (4, .ifCond .eq 5, 7, [9]) := rfl
theorem k225_7 : mm_lk mm_m225.1 7 = some (7, .iconst 0, 8, []) := rfl
theorem k225_8 : mm_lk mm_m225.1 8 = some (8, .ireturn, 9, []) := rfl
theorem k225_9 : mm_lk mm_m225.1 9 = some (9, .aload_n 0, 10, []) := rfl
theorem k225_10 : mm_lk mm_m225.1 10 = some (10, .invokevirtual 151, 13, [0, 202, 1, 14, 1965, 1967, 51, 151]) := rfl
theorem k225_13 : mm_lk mm_m225.1 13 = some (13, .bipush 40, 15, []) := rfl
theorem k225_15 : mm_lk mm_m225.1 15 = some (15, .if_icmp .ne 8, 18, [23]) := rfl
theorem k225_18 : mm_lk mm_m225.1 18 = some (18, .aload_n 0, 19, []) := rfl
theorem k225_19 : mm_lk mm_m225.1 19 = some (19, .invokevirtual 233, 22, [0, 223, 1, 14, 2051, 2053, 69, 151]) := rfl
theorem k225_22 : mm_lk mm_m225.1 22 = some (22, .ireturn, 23, []) := rfl
theorem k225_23 : mm_lk mm_m225.1 23 = some (23, .aload_n 0, 24, []) := rfl
theorem k225_24 : mm_lk mm_m225.1 24 = some (24, .ldc 170, 26, [1, 6, 1994]) := rfl
theorem k225_26 : mm_lk mm_m225.1 26 = some (26, .invokevirtual 162, 29, [0, 205, 2, 14, 1961, 1963, 50, 151]) := rfl
theorem k225_29 : mm_lk mm_m225.1 29 = some (29, .ifCond .eq 8, 32, [37]) := rfl
theorem k225_32 : mm_lk mm_m225.1 32 = some (32, .aload_n 0, 33, []) := rfl
theorem k225_33 : mm_lk mm_m225.1 33 = some (33, .invokevirtual 236, 36, [0, 222, 1, 14, 2055, 2057, 70, 151]) := rfl
theorem k225_36 : mm_lk mm_m225.1 36 = some (36, .ireturn, 37, []) := rfl
theorem k225_37 : mm_lk mm_m225.1 37 = some (37, .aload_n 0, 38, []) := rfl
theorem k225_38 : mm_lk mm_m225.1 38 = some (38, .invokevirtual 239, 41, [0, 220, 1, 14, 2067, 2069, 73, 151]) := rfl
theorem k225_41 : mm_lk mm_m225.1 41 = some (41, .istore_n 1, 42, []) := rfl
theorem k225_42 : mm_lk mm_m225.1 42 = some (42, .iload_n 1, 43, []) := rfl
theorem k225_43 : mm_lk mm_m225.1 43 = some (43, .iconst (-1), 44, []) := rfl
theorem k225_44 : mm_lk mm_m225.1 44 = some (44, .if_icmp .eq 11, 47, [55]) := rfl
theorem k225_47 : mm_lk mm_m225.1 47 = some (47, .aload_n 0, 48, []) := rfl
theorem k225_48 : mm_lk mm_m225.1 48 = some (48, .iload_n 1, 49, []) := rfl
theorem k225_49 : mm_lk mm_m225.1 49 = some (49, .invokevirtual 242, 52, [0, 221, 2, 14, 2071, 2073, 74, 151]) := rfl
theorem k225_52 : mm_lk mm_m225.1 52 = some (52, .goto 7, 55, [59]) := rfl
theorem k225_55 : mm_lk mm_m225.1 55 = some (55, .aload_n 0, 56, []) := rfl
theorem k225_56 : mm_lk mm_m225.1 56 = some (56, .invokevirtual 245, 59, [0, 224, 1, 14, 2079, 2081, 76, 151]) := rfl
theorem k225_59 : mm_lk mm_m225.1 59 = some (59, .ireturn, 60, []) := rfl
theorem k226_0 : mm_lk mm_m226.1 0 = some (0, .aload_n 0, 1, []) := rfl
theorem k226_1 : mm_lk mm_m226.1 1 = some (1, .invokevirtual 217, 4, [0, 225, 1, 14, 2047, 2049, 68, 151]) := rfl
theorem k226_4 : mm_lk mm_m226.1 4 = some (4, .istore_n 1, 5, []) := rfl
theorem k226_5 : mm_lk mm_m226.1 5 = some (5, .aload_n 0, 6, []) := rfl
theorem k226_6 : mm_lk mm_m226.1 6 = some (6, .ldc 172, 8, [1, 16, 1995]) := rfl
theorem k226_8 : mm_lk mm_m226.1 8 = some (8, .invokevirtual 162, 11, [0, 205, 2, 14, 1961, 1963, 50, 151]) := rfl
theorem k226_11 : mm_lk mm_m226.1 11 = some (11, .ifCond .eq 43, 14, [54]) := rfl
theorem k226_14 : mm_lk mm_m226.1 14 = some (14, .aload_n 0, 15, []) := rfl
theorem k226_15 : mm_lk mm_m226.1 15 = some (15, .invokevirtual 211, 18, [0, 218, 1, 14, 2059, 2061, 71, 151]) := rfl
theorem k226_18 : mm_lk mm_m226.1 18 = some (18, .aload_n 0, 19, []) := rfl
theorem k226_19 : mm_lk mm_m226.1 19 = some (19, .getfield 142, 22, [0, 14, 14, 1842]) := rfl
theorem k226_22 : mm_lk mm_m226.1 22 = some (22, .ifCond .eq 5, 25, [27]) := rfl
theorem k226_25 : mm_lk mm_m226.1 25 = some (25, .iconst 0, 26, []) := rfl
theorem k226_26 : mm_lk mm_m226.1 26 = some (26, .ireturn, 27, []) := rfl
theorem k226_27 : mm_lk mm_m226.1 27 = some (27, .aload_n 0, 28, []) := rfl
theorem k226_28 : mm_lk mm_m226.1 28 = some (28, .aload_n 0, 29, []) := rfl
theorem k226_29 : mm_lk mm_m226.1 29 = some (29, .getfield 132, 32, [0, 14, 12, 1840]) := rfl
theorem k226_32 : mm_lk mm_m226.1 32 = some (32, .aload_n 0, 33, []) := rfl
theorem k226_33 : mm_lk mm_m226.1 33 = some (33, .getfield 135, 36, [0, 14, 13, 1841]) := rfl
theorem k226_36 : mm_lk mm_m226.1 36 = some (36, .iadd, 37, []) := rfl
theorem k226_37 : mm_lk mm_m226.1 37 = some (37, .putfield 126, 40, [0, 14, 11, 1839]) := rfl
theorem k226_40 : mm_lk mm_m226.1 40 = some (40, .aload_n 0, 41, []) := rfl
theorem k226_41 : mm_lk mm_m226.1 41 = some (41, .iconst 2, 42, []) := rfl
theorem k226_42 : mm_lk mm_m226.1 42 = some (42, .iload_n 1, 43, []) := rfl
theorem k226_43 : mm_lk mm_m226.1 43 = some (43, .aload_n 0, 44, []) := rfl
theorem k226_44 : mm_lk mm_m226.1 44 = some (44, .invokevirtual 217, 47, [0, 225, 1, 14, 2047, 2049, 68, 151]) := rfl
theorem k226_47 : mm_lk mm_m226.1 47 = some (47, .invokevirtual 220, 50, [0, 219, 4, 14, 2063, 2065, 72, 151]) := rfl
theorem k226_50 : mm_lk mm_m226.1 50 = some (50, .istore_n 1, 51, []) := rfl
theorem k226_51 : mm_lk mm_m226.1 51 = some (51, .goto (-46), 54, [5]) := rfl
theorem k226_54 : mm_lk mm_m226.1 54 = some (54, .iload_n 1, 55, []) := rfl
theorem k226_55 : mm_lk mm_m226.1 55 = some (55, .ireturn, 56, []) := rfl
theorem k227_0 : mm_lk mm_m227.1 0 = some (0, .aload_n 0, 1, []) := rfl
theorem k227_1 : mm_lk mm_m227.1 1 = some (1, .invokevirtual 248, 4, [0, 226, 1, 14, 2043, 2045, 67, 151]) := rfl
theorem k227_4 : mm_lk mm_m227.1 4 = some (4, .istore_n 1, 5, []) := rfl
theorem k227_5 : mm_lk mm_m227.1 5 = some (5, .aload_n 0, 6, []) := rfl
theorem k227_6 : mm_lk mm_m227.1 6 = some (6, .ldc 174, 8, [1, 18, 1996]) := rfl
theorem k227_8 : mm_lk mm_m227.1 8 = some (8, .invokevirtual 162, 11, [0, 205, 2, 14, 1961, 1963, 50, 151]) := rfl
theorem k227_11 : mm_lk mm_m227.1 11 = some (11, .ifCond .eq 43, 14, [54]) := rfl
theorem k227_14 : mm_lk mm_m227.1 14 = some (14, .aload_n 0, 15, []) := rfl
theorem k227_15 : mm_lk mm_m227.1 15 = some (15, .invokevirtual 211, 18, [0, 218, 1, 14, 2059, 2061, 71, 151]) := rfl
theorem k227_18 : mm_lk mm_m227.1 18 = some (18, .aload_n 0, 19, []) := rfl
theorem k227_19 : mm_lk mm_m227.1 19 = some (19, .getfield 142, 22, [0, 14, 14, 1842]) := rfl
theorem k227_22 : mm_lk mm_m227.1 22 = some (22, .ifCond .eq 5, 25, [27]) := rfl
theorem k227_25 : mm_lk mm_m227.1 25 = some (25, .iconst 0, 26, []) := rfl
theorem k227_26 : mm_lk mm_m227.1 26 = some (26, .ireturn, 27, []) := rfl
theorem k227_27 : mm_lk mm_m227.1 27 = some (27, .aload_n 0, 28, []) := rfl
theorem k227_28 : mm_lk mm_m227.1 28 = some (28, .aload_n 0, 29, []) := rfl
theorem k227_29 : mm_lk mm_m227.1 29 = some (29, .getfield 132, 32, [0, 14, 12, 1840]) := rfl
theorem k227_32 : mm_lk mm_m227.1 32 = some (32, .aload_n 0, 33, []) := rfl
theorem k227_33 : mm_lk mm_m227.1 33 = some (33, .getfield 135, 36, [0, 14, 13, 1841]) := rfl
theorem k227_36 : mm_lk mm_m227.1 36 = some (36, .iadd, 37, []) := rfl
theorem k227_37 : mm_lk mm_m227.1 37 = some (37, .putfield 126, 40, [0, 14, 11, 1839]) := rfl
theorem k227_40 : mm_lk mm_m227.1 40 = some (40, .aload_n 0, 41, []) := rfl
theorem k227_41 : mm_lk mm_m227.1 41 = some (41, .iconst 3, 42, []) := rfl
theorem k227_42 : mm_lk mm_m227.1 42 = some (42, .iload_n 1, 43, []) := rfl
theorem k227_43 : mm_lk mm_m227.1 43 = some (43, .aload_n 0, 44, []) := rfl
theorem k227_44 : mm_lk mm_m227.1 44 = some (44, .invokevirtual 248, 47, [0, 226, 1, 14, 2043, 2045, 67, 151]) := rfl
theorem k227_47 : mm_lk mm_m227.1 47 = some (47, .invokevirtual 220, 50, [0, 219, 4, 14, 2063, 2065, 72, 151]) := rfl
theorem k227_50 : mm_lk mm_m227.1 50 = some (50, .istore_n 1, 51, []) := rfl
theorem k227_51 : mm_lk mm_m227.1 51 = some (51, .goto (-46), 54, [5]) := rfl
theorem k227_54 : mm_lk mm_m227.1 54 = some (54, .iload_n 1, 55, []) := rfl
theorem k227_55 : mm_lk mm_m227.1 55 = some (55, .ireturn, 56, []) := rfl
