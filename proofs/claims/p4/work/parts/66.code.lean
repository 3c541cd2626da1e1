/-! ===== code, row by row (by program) ===== -/
/-- WhoKnowsModel.readsFormula(IZ)V -/
def mm_m228 : mm_M := (mm_c228, 4, 0, [])
set_option maxRecDepth 20000 in
theorem P228 : mm_P 228 = some mm_m228 := rfl
/-- WhoKnowsModel.readsFacts()I -/
def mm_m231 : mm_M := (mm_c231, 3, 1, [])
set_option maxRecDepth 20000 in
theorem P231 : mm_P 231 = some mm_m231 := rfl
theorem k228_0 : mm_lk mm_m228.1 0 = some (0, .aload_n 0, 1, []) := rfl
theorem k228_1 : mm_lk mm_m228.1 1 = some (1, .sipush 241, 4, []) := rfl
theorem k228_4 : mm_lk mm_m228.1 4 = some (4, .iload_n 1, 5, []) := rfl
theorem k228_5 : mm_lk mm_m228.1 5 = some (5, .imul, 6, []) := rfl
theorem k228_6 : mm_lk mm_m228.1 6 = some (6, .putfield 204, 9, [0, 14, 19, 1847]) := rfl
theorem k228_9 : mm_lk mm_m228.1 9 = some (9, .aload_n 0, 10, []) := rfl
theorem k228_10 : mm_lk mm_m228.1 10 = some (10, .getfield 35, 13, [0, 14, 18, 1846]) := rfl
theorem k228_13 : mm_lk mm_m228.1 13 = some (13, .aload_n 0, 14, []) := rfl
theorem k228_14 : mm_lk mm_m228.1 14 = some (14, .getfield 204, 17, [0, 14, 19, 1847]) := rfl
theorem k228_17 : mm_lk mm_m228.1 17 = some (17, .iconst 0, 18, []) := rfl
theorem k228_18 : mm_lk mm_m228.1 18 = some (18, .iastore, 19, []) := rfl
theorem k228_19 : mm_lk mm_m228.1 19 = some (19, .aload_n 0, 20, []) := rfl
theorem k228_20 : mm_lk mm_m228.1 20 = some (20, .iconst 0, 21, []) := rfl
theorem k228_21 : mm_lk mm_m228.1 21 = some (21, .putfield 201, 24, [0, 14, 20, 1848]) := rfl
theorem k228_24 : mm_lk mm_m228.1 24 = some (24, .aload_n 0, 25, []) := rfl
theorem k228_25 : mm_lk mm_m228.1 25 = some (25, .iconst 0, 26, []) := rfl
theorem k228_26 : mm_lk mm_m228.1 26 = some (26, .putfield 223, 29, [0, 14, 21, 1849]) := rfl
theorem k228_29 : mm_lk mm_m228.1 29 = some (29, .aload_n 0, 30, []) := rfl
theorem k228_30 : mm_lk mm_m228.1 30 = some (30, .iload_n 2, 31, []) := rfl
theorem k228_31 : mm_lk mm_m228.1 31 = some (31, .putfield 207, 34, [0, 14, 22, 1850]) := rfl
theorem k228_34 : mm_lk mm_m228.1 34 = some (34, .aload_n 0, 35, []) := rfl
theorem k228_35 : mm_lk mm_m228.1 35 = some (35, .invokevirtual 226, 38, [0, 227, 1, 14, 2039, 2041, 66, 151]) := rfl
theorem k228_38 : mm_lk mm_m228.1 38 = some (38, .istore_n 3, 39, []) := rfl
theorem k228_39 : mm_lk mm_m228.1 39 = some (39, .return_, 40, []) := rfl
theorem k231_2 : mm_lk mm_m231.1 2 = some (2, .aload_n 0, 3, []) := rfl
theorem k231_3 : mm_lk mm_m231.1 3 = some (3, .invokevirtual 258, 6, [0, 209, 1, 14, 2014, 2016, 60, 151]) := rfl
theorem k231_6 : mm_lk mm_m231.1 6 = some (6, .ifCond .eq 54, 9, [60]) := rfl
theorem k231_9 : mm_lk mm_m231.1 9 = some (9, .aload_n 0, 10, []) := rfl
theorem k231_10 : mm_lk mm_m231.1 10 = some (10, .iconst 0, 11, []) := rfl
theorem k231_11 : mm_lk mm_m231.1 11 = some (11, .invokevirtual 214, 14, [0, 212, 2, 14, 2075, 2077, 75, 151]) := rfl
theorem k231_14 : mm_lk mm_m231.1 14 = some (14, .istore_n 2, 15, []) := rfl
theorem k231_15 : mm_lk mm_m231.1 15 = some (15, .aload_n 0, 16, []) := rfl
theorem k231_16 : mm_lk mm_m231.1 16 = some (16, .aload_n 0, 17, []) := rfl
theorem k231_17 : mm_lk mm_m231.1 17 = some (17, .getfield 142, 20, [0, 14, 14, 1842]) := rfl
theorem k231_20 : mm_lk mm_m231.1 20 = some (20, .ifCond .ne 11, 23, [31]) := rfl
theorem k231_23 : mm_lk mm_m231.1 23 = some (23, .iload_n 1, 24, []) := rfl
theorem k231_24 : mm_lk mm_m231.1 24 = some (24, .iload_n 2, 25, []) := rfl
theorem k231_25 : mm_lk mm_m231.1 25 = some (25, .invokestatic 51, 28, [1, 173, 2, 2094, 2095, 151]) := rfl
theorem k231_28 : mm_lk mm_m231.1 28 = some (28, .ifCond .ne 7, 31, [35]) := rfl
theorem k231_31 : mm_lk mm_m231.1 31 = some (31, .iconst 1, 32, []) := rfl
theorem k231_32 : mm_lk mm_m231.1 32 = some (32, .goto 4, 35, [36]) := rfl
theorem k231_35 : mm_lk mm_m231.1 35 = some (35, .iconst 0, 36, []) := rfl
theorem k231_36 : mm_lk mm_m231.1 36 = some (36, .iconst 2, 37, []) := rfl
theorem k231_37 : mm_lk mm_m231.1 37 = some (37, .invokevirtual 166, 40, [0, 204, 3, 14, 1977, 1979, 53, 151]) := rfl
theorem k231_40 : mm_lk mm_m231.1 40 = some (40, .iload_n 1, 41, []) := rfl
theorem k231_41 : mm_lk mm_m231.1 41 = some (41, .aload_n 0, 42, []) := rfl
theorem k231_42 : mm_lk mm_m231.1 42 = some (42, .getfield 142, 45, [0, 14, 14, 1842]) := rfl
theorem k231_45 : mm_lk mm_m231.1 45 = some (45, .ifCond .ne 9, 48, [54]) := rfl
theorem k231_48 : mm_lk mm_m231.1 48 = some (48, .iconst 1, 49, []) := rfl
theorem k231_49 : mm_lk mm_m231.1 49 = some (49, .iload_n 2, 50, []) := rfl
theorem k231_50 : mm_lk mm_m231.1 50 = some (50, .ishl, 51, []) := rfl
theorem k231_51 : mm_lk mm_m231.1 51 = some (51, .goto 4, 54, [55]) := rfl
theorem k231_54 : mm_lk mm_m231.1 54 = some (54, .iconst 0, 55, []) := rfl
theorem k231_55 : mm_lk mm_m231.1 55 = some (55, .ior, 56, []) := rfl
theorem k231_56 : mm_lk mm_m231.1 56 = some (56, .istore_n 1, 57, []) := rfl
theorem k231_57 : mm_lk mm_m231.1 57 = some (57, .goto (-55), 60, [2]) := rfl
theorem k231_60 : mm_lk mm_m231.1 60 = some (60, .iload_n 1, 61, []) := rfl
theorem k231_61 : mm_lk mm_m231.1 61 = some (61, .ireturn, 62, []) := rfl
