/-! ===== code, row by row (by program) ===== -/
/-- WhoKnowsModel.readsModal(I)I -/
def mm_m221 : mm_M := (mm_c221, 3, 1, [])
set_option maxRecDepth 20000 in
theorem P221 : mm_P 221 = some mm_m221 := rfl
/-- WhoKnowsModel.readsFact()I -/
def mm_m224 : mm_M := (mm_c224, 2, 1, [])
set_option maxRecDepth 20000 in
theorem P224 : mm_P 224 = some mm_m224 := rfl
theorem k221_0 : mm_lk mm_m221.1 0 = some (0, .aload_n 0, 1, []) := rfl
theorem k221_1 : mm_lk mm_m221.1 1 = some (1, .aload_n 0, 2, []) := rfl
theorem k221_2 : mm_lk mm_m221.1 2 = some (2, .getfield 207, 5, [0, 14, 22, 1850]) := rfl
theorem k221_5 : mm_lk mm_m221.1 5 = some (5, .ifCond .ne 7, 8, [12]) := rfl
theorem k221_8 : mm_lk mm_m221.1 8 = some (8, .iconst 1, 9, []) := rfl
theorem k221_9 : mm_lk mm_m221.1 9 = some (9, .goto 4, 12, [13]) := rfl
theorem k221_12 : mm_lk mm_m221.1 12 = some (12, .iconst 0, 13, []) := rfl
theorem k221_13 : mm_lk mm_m221.1 13 = some (13, .iconst 1, 14, []) := rfl
theorem k221_14 : mm_lk mm_m221.1 14 = some (14, .invokevirtual 166, 17, [0, 204, 3, 14, 1977, 1979, 53, 151]) := rfl
theorem k221_17 : mm_lk mm_m221.1 17 = some (17, .aload_n 0, 18, []) := rfl
theorem k221_18 : mm_lk mm_m221.1 18 = some (18, .invokevirtual 211, 21, [0, 218, 1, 14, 2059, 2061, 71, 151]) := rfl
theorem k221_21 : mm_lk mm_m221.1 21 = some (21, .aload_n 0, 22, []) := rfl
theorem k221_22 : mm_lk mm_m221.1 22 = some (22, .getfield 142, 25, [0, 14, 14, 1842]) := rfl
theorem k221_25 : mm_lk mm_m221.1 25 = some (25, .ifCond .eq 5, 28, [30]) := rfl
theorem k221_28 : mm_lk mm_m221.1 28 = some (28, .iconst 0, 29, []) := rfl
theorem k221_29 : mm_lk mm_m221.1 29 = some (29, .ireturn, 30, []) := rfl
theorem k221_30 : mm_lk mm_m221.1 30 = some (30, .aload_n 0, 31, []) := rfl
theorem k221_31 : mm_lk mm_m221.1 31 = some (31, .aload_n 0, 32, []) := rfl
theorem k221_32 : mm_lk mm_m221.1 32 = some (32, .getfield 132, 35, [0, 14, 12, 1840]) := rfl
theorem k221_35 : mm_lk mm_m221.1 35 = some (35, .aload_n 0, 36, []) := rfl
theorem k221_36 : mm_lk mm_m221.1 36 = some (36, .getfield 135, 39, [0, 14, 13, 1841]) := rfl
theorem k221_39 : mm_lk mm_m221.1 39 = some (39, .iadd, 40, []) := rfl
theorem k221_40 : mm_lk mm_m221.1 40 = some (40, .putfield 126, 43, [0, 14, 11, 1839]) := rfl
theorem k221_43 : mm_lk mm_m221.1 43 = some (43, .iload_n 1, 44, []) := rfl
theorem k221_44 : mm_lk mm_m221.1 44 = some (44, .iconst 4, 45, []) := rfl
theorem k221_45 : mm_lk mm_m221.1 45 = some (45, .if_icmp .eq 8, 48, [53]) := rfl
theorem k221_48 : mm_lk mm_m221.1 48 = some (48, .iload_n 1, 49, []) := rfl
theorem k221_49 : mm_lk mm_m221.1 49 = some (49, .iconst 5, 50, []) := rfl
theorem k221_50 : mm_lk mm_m221.1 50 = some (50, .if_icmp .ne 11, 53, [61]) := rfl
theorem k221_53 : mm_lk mm_m221.1 53 = some (53, .aload_n 0, 54, []) := rfl
theorem k221_54 : mm_lk mm_m221.1 54 = some (54, .iconst 1, 55, []) := rfl
theorem k221_55 : mm_lk mm_m221.1 55 = some (55, .invokevirtual 214, 58, [0, 212, 2, 14, 2075, 2077, 75, 151]) := rfl
theorem k221_58 : mm_lk mm_m221.1 58 = some (58, .goto 4, 61, [62]) := rfl
theorem k221_61 : mm_lk mm_m221.1 61 = some (61, .iconst 0, 62, []) := rfl
theorem k221_62 : mm_lk mm_m221.1 62 = some (62, .istore_n 2, 63, []) := rfl
theorem k221_63 : mm_lk mm_m221.1 63 = some (63, .aload_n 0, 64, []) := rfl
theorem k221_64 : mm_lk mm_m221.1 64 = some (64, .iload_n 1, 65, []) := rfl
theorem k221_65 : mm_lk mm_m221.1 65 = some (65, .aload_n 0, 66, []) := rfl
theorem k221_66 : mm_lk mm_m221.1 66 = some (66, .invokevirtual 217, 69, [0, 225, 1, 14, 2047, 2049, 68, 151]) := rfl
theorem k221_69 : mm_lk mm_m221.1 69 = some (69, .iload_n 2, 70, []) := rfl
theorem k221_70 : mm_lk mm_m221.1 70 = some (70, .invokevirtual 220, 73, [0, 219, 4, 14, 2063, 2065, 72, 151]) := rfl
theorem k221_73 : mm_lk mm_m221.1 73 = some (73, .ireturn, 74, []) := rfl
theorem k224_0 : mm_lk mm_m224.1 0 = some (0, .aload_n 0, 1, []) := rfl
theorem k224_1 : mm_lk mm_m224.1 1 = some (1, .iconst 0, 2, []) := rfl
theorem k224_2 : mm_lk mm_m224.1 2 = some (2, .invokevirtual 214, 5, [0, 212, 2, 14, 2075, 2077, 75, 151]) := rfl
theorem k224_5 : mm_lk mm_m224.1 5 = some (5, .istore_n 1, 6, []) := rfl
theorem k224_6 : mm_lk mm_m224.1 6 = some (6, .aload_n 0, 7, []) := rfl
theorem k224_7 : mm_lk mm_m224.1 7 = some (7, .invokevirtual 211, 10, [0, 218, 1, 14, 2059, 2061, 71, 151]) := rfl
theorem k224_10 : mm_lk mm_m224.1 10 = some (10, .aload_n 0, 11, []) := rfl
theorem k224_11 : mm_lk mm_m224.1 11 = some (11, .iconst 0, 12, []) := rfl
theorem k224_12 : mm_lk mm_m224.1 12 = some (12, .iload_n 1, 13, []) := rfl
theorem k224_13 : mm_lk mm_m224.1 13 = some (13, .iconst 0, 14, []) := rfl
theorem k224_14 : mm_lk mm_m224.1 14 = some (14, .invokevirtual 220, 17, [0, 219, 4, 14, 2063, 2065, 72, 151]) := rfl
theorem k224_17 : mm_lk mm_m224.1 17 = some (17, .ireturn, 18, []) := rfl
