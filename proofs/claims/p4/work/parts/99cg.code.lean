/-! ===== code, row by row (by program) ===== -/
/-- WhoKnowsModel.writesKind(II)V -/
def mm_m304 : mm_M := (mm_c304, 5, 0, [])
set_option maxRecDepth 20000 in
theorem P304 : mm_P 304 = some mm_m304 := rfl
/-- WhoKnowsModel.writeKinds(I)I -/
def mm_m305 : mm_M := (mm_c305, 3, 1, [])
set_option maxRecDepth 20000 in
theorem P305 : mm_P 305 = some mm_m305 := rfl
theorem k304_0 : mm_lk mm_m304.1 0 = some (0, .aload_n 0, 1, []) := rfl
theorem k304_1 : mm_lk mm_m304.1 1 = some (1, .iload_n 1, 2, []) := rfl
theorem k304_2 : mm_lk mm_m304.1 2 = some (2, .iload_n 2, 3, []) := rfl
theorem k304_3 : mm_lk mm_m304.1 3 = some (3, .invokevirtual 78, 6, [0, 186, 3, 14, 2105, 2107, 81, 151]) := rfl
theorem k304_6 : mm_lk mm_m304.1 6 = some (6, .istore_n 3, 7, []) := rfl
theorem k304_7 : mm_lk mm_m304.1 7 = some (7, .iload_n 2, 8, []) := rfl
theorem k304_8 : mm_lk mm_m304.1 8 = some (8, .istore 4, 10, []) := rfl
theorem k304_10 : mm_lk mm_m304.1 10 = some (10, .iload 4, 12, []) := rfl
theorem k304_12 : mm_lk mm_m304.1 12 = some (12, .bipush 32, 14, []) := rfl
theorem k304_14 : mm_lk mm_m304.1 14 = some (14, .if_icmp .ge 39, 17, [53]) := rfl
theorem k304_17 : mm_lk mm_m304.1 17 = some (17, .iload_n 3, 18, []) := rfl
theorem k304_18 : mm_lk mm_m304.1 18 = some (18, .iload 4, 20, []) := rfl
theorem k304_20 : mm_lk mm_m304.1 20 = some (20, .invokestatic 51, 23, [1, 173, 2, 2094, 2095, 151]) := rfl
theorem k304_23 : mm_lk mm_m304.1 23 = some (23, .ifCond .ne 6, 26, [29]) := rfl
theorem k304_26 : mm_lk mm_m304.1 26 = some (26, .goto 21, 29, [47]) := rfl
theorem k304_29 : mm_lk mm_m304.1 29 = some (29, .iload 4, 31, []) := rfl
theorem k304_31 : mm_lk mm_m304.1 31 = some (31, .iload_n 2, 32, []) := rfl
theorem k304_32 : mm_lk mm_m304.1 32 = some (32, .if_icmp .le 9, 35, [41]) := rfl
theorem k304_35 : mm_lk mm_m304.1 35 = some (35, .aload_n 0, 36, []) := rfl
theorem k304_36 : mm_lk mm_m304.1 36 = some (36, .bipush 32, 38, []) := rfl
theorem k304_38 : mm_lk mm_m304.1 38 = some (38, .invokevirtual 431, 41, [0, 299, 2, 14, 2440, 2442, 124, 151]) := rfl
theorem k304_41 : mm_lk mm_m304.1 41 = some (41, .aload_n 0, 42, []) := rfl
theorem k304_42 : mm_lk mm_m304.1 42 = some (42, .iload 4, 44, []) := rfl
theorem k304_44 : mm_lk mm_m304.1 44 = some (44, .invokevirtual 443, 47, [0, 302, 2, 14, 2456, 2458, 127, 151]) := rfl
theorem k304_47 : mm_lk mm_m304.1 47 = some (47, .iinc 4 1, 50, []) := rfl
theorem k304_50 : mm_lk mm_m304.1 50 = some (50, .goto (-40), 53, [10]) := rfl
theorem k304_53 : mm_lk mm_m304.1 53 = some (53, .return_, 54, []) := rfl
theorem k305_0 : mm_lk mm_m305.1 0 = some (0, .aload_n 0, 1, []) := rfl
theorem k305_1 : mm_lk mm_m305.1 1 = some (1, .aload_n 0, 2, []) := rfl
theorem k305_2 : mm_lk mm_m305.1 2 = some (2, .iload_n 1, 3, []) := rfl
theorem k305_3 : mm_lk mm_m305.1 3 = some (3, .invokevirtual 384, 6, [0, 181, 2, 14, 2246, 2248, 109, 151]) := rfl
theorem k305_6 : mm_lk mm_m305.1 6 = some (6, .invokevirtual 119, 9, [0, 176, 2, 14, 1918, 1920, 45, 151]) := rfl
theorem k305_9 : mm_lk mm_m305.1 9 = some (9, .ifCond .ne 5, 12, [14]) := rfl
theorem k305_12 : mm_lk mm_m305.1 12 = some (12, .iconst 0, 13, []) := rfl
theorem k305_13 : mm_lk mm_m305.1 13 = some (13, .ireturn, 14, []) := rfl
theorem k305_14 : mm_lk mm_m305.1 14 = some (14, .aload_n 0, 15, []) := rfl
theorem k305_15 : mm_lk mm_m305.1 15 = some (15, .iconst 0, 16, []) := rfl
theorem k305_16 : mm_lk mm_m305.1 16 = some (16, .putfield 428, 19, [0, 14, 26, 1854]) := rfl
theorem k305_19 : mm_lk mm_m305.1 19 = some (19, .iconst 0, 20, []) := rfl
theorem k305_20 : mm_lk mm_m305.1 20 = some (20, .istore_n 2, 21, []) := rfl
theorem k305_21 : mm_lk mm_m305.1 21 = some (21, .iload_n 2, 22, []) := rfl
theorem k305_22 : mm_lk mm_m305.1 22 = some (22, .bipush 32, 24, []) := rfl
theorem k305_24 : mm_lk mm_m305.1 24 = some (24, .if_icmp .ge 40, 27, [64]) := rfl
theorem k305_27 : mm_lk mm_m305.1 27 = some (27, .aload_n 0, 28, []) := rfl
theorem k305_28 : mm_lk mm_m305.1 28 = some (28, .iload_n 1, 29, []) := rfl
theorem k305_29 : mm_lk mm_m305.1 29 = some (29, .iload_n 2, 30, []) := rfl
theorem k305_30 : mm_lk mm_m305.1 30 = some (30, .invokevirtual 393, 33, [0, 261, 3, 14, 2274, 2276, 112, 151]) := rfl
theorem k305_33 : mm_lk mm_m305.1 33 = some (33, .ifCond .ne 6, 36, [39]) := rfl
theorem k305_36 : mm_lk mm_m305.1 36 = some (36, .goto 22, 39, [58]) := rfl
theorem k305_39 : mm_lk mm_m305.1 39 = some (39, .aload_n 0, 40, []) := rfl
theorem k305_40 : mm_lk mm_m305.1 40 = some (40, .getfield 428, 43, [0, 14, 26, 1854]) := rfl
theorem k305_43 : mm_lk mm_m305.1 43 = some (43, .ifCond .le 9, 46, [52]) := rfl
theorem k305_46 : mm_lk mm_m305.1 46 = some (46, .aload_n 0, 47, []) := rfl
theorem k305_47 : mm_lk mm_m305.1 47 = some (47, .bipush 124, 49, []) := rfl
theorem k305_49 : mm_lk mm_m305.1 49 = some (49, .invokevirtual 431, 52, [0, 299, 2, 14, 2440, 2442, 124, 151]) := rfl
theorem k305_52 : mm_lk mm_m305.1 52 = some (52, .aload_n 0, 53, []) := rfl
theorem k305_53 : mm_lk mm_m305.1 53 = some (53, .iload_n 1, 54, []) := rfl
theorem k305_54 : mm_lk mm_m305.1 54 = some (54, .iload_n 2, 55, []) := rfl
theorem k305_55 : mm_lk mm_m305.1 55 = some (55, .invokevirtual 446, 58, [0, 304, 3, 14, 2452, 2454, 126, 151]) := rfl
theorem k305_58 : mm_lk mm_m305.1 58 = some (58, .iinc 2 1, 61, []) := rfl
theorem k305_61 : mm_lk mm_m305.1 61 = some (61, .goto (-40), 64, [21]) := rfl
theorem k305_64 : mm_lk mm_m305.1 64 = some (64, .aload_n 0, 65, []) := rfl
theorem k305_65 : mm_lk mm_m305.1 65 = some (65, .getfield 428, 68, [0, 14, 26, 1854]) := rfl
theorem k305_68 : mm_lk mm_m305.1 68 = some (68, .ireturn, 69, []) := rfl
