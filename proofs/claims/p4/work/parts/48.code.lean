/-! ===== code, row by row (by program) ===== -/
/-- WhoKnowsModel.sees(Ljava/lang/String;)Z -/
def mm_m205 : mm_M := (mm_c205, 4, 2, [])
set_option maxRecDepth 20000 in
theorem P205 : mm_P 205 = some mm_m205 := rfl
theorem k205_0 : mm_lk mm_m205.1 0 = some (0, .aload_n 0, 1, []) := rfl
theorem k205_1 : mm_lk mm_m205.1 1 = some (1, .invokevirtual 151, 4, [0, 202, 1, 14, 1965, 1967, 51, 151]) := rfl
theorem k205_4 : mm_lk mm_m205.1 4 = some (4, .istore_n 2, 5, []) := rfl
theorem k205_5 : mm_lk mm_m205.1 5 = some (5, .aload_n 0, 6, []) := rfl
theorem k205_6 : mm_lk mm_m205.1 6 = some (6, .getfield 142, 9, [0, 14, 14, 1842]) := rfl
theorem k205_9 : mm_lk mm_m205.1 9 = some (9, .ifCond .ne 14, 12, [23]) := rfl
theorem k205_12 : mm_lk mm_m205.1 12 = some (12, .aload_n 0, 13, []) := rfl
theorem k205_13 : mm_lk mm_m205.1 13 = some (13, .getfield 135, 16, [0, 14, 13, 1841]) := rfl
theorem k205_16 : mm_lk mm_m205.1 16 = some (16, .aload_n 1, 17, []) := rfl
theorem k205_17 : mm_lk mm_m205.1 17 = some (17, .invokevirtual 154, 20, [0, 362, 1, 0, 1975, 399, 400, 142]) := rfl
theorem k205_20 : mm_lk mm_m205.1 20 = some (20, .if_icmp .eq 5, 23, [25]) := rfl
theorem k205_23 : mm_lk mm_m205.1 23 = some (23, .iconst 0, 24, []) := rfl
theorem k205_24 : mm_lk mm_m205.1 24 = some (24, .ireturn, 25, []) := rfl
theorem k205_25 : mm_lk mm_m205.1 25 = some (25, .iconst 0, 26, []) := rfl
theorem k205_26 : mm_lk mm_m205.1 26 = some (26, .istore_n 3, 27, []) := rfl
theorem k205_27 : mm_lk mm_m205.1 27 = some (27, .iload_n 3, 28, []) := rfl
theorem k205_28 : mm_lk mm_m205.1 28 = some (28, .aload_n 0, 29, []) := rfl
theorem k205_29 : mm_lk mm_m205.1 29 = some (29, .getfield 135, 32, [0, 14, 13, 1841]) := rfl
theorem k205_32 : mm_lk mm_m205.1 32 = some (32, .if_icmp .ge 29, 35, [61]) := rfl
theorem k205_35 : mm_lk mm_m205.1 35 = some (35, .aload_n 0, 36, []) := rfl
theorem k205_36 : mm_lk mm_m205.1 36 = some (36, .aload_n 0, 37, []) := rfl
theorem k205_37 : mm_lk mm_m205.1 37 = some (37, .getfield 132, 40, [0, 14, 12, 1840]) := rfl
theorem k205_40 : mm_lk mm_m205.1 40 = some (40, .iload_n 3, 41, []) := rfl
theorem k205_41 : mm_lk mm_m205.1 41 = some (41, .iadd, 42, []) := rfl
theorem k205_42 : mm_lk mm_m205.1 42 = some (42, .invokevirtual 129, 45, [0, 201, 2, 14, 1969, 1971, 52, 151]) := rfl
theorem k205_45 : mm_lk mm_m205.1 45 = some (45, .aload_n 1, 46, []) := rfl
theorem k205_46 : mm_lk mm_m205.1 46 = some (46, .iload_n 3, 47, []) := rfl
theorem k205_47 : mm_lk mm_m205.1 47 = some (47, .invokevirtual 158, 50, [0, 363, 2, 0, 1976, 411, 412, 142]) := rfl
theorem k205_50 : mm_lk mm_m205.1 50 = some (50, .if_icmp .eq 5, 53, [55]) := rfl
theorem k205_53 : mm_lk mm_m205.1 53 = some (53, .iconst 0, 54, []) := rfl
theorem k205_54 : mm_lk mm_m205.1 54 = some (54, .ireturn, 55, []) := rfl
theorem k205_55 : mm_lk mm_m205.1 55 = some (55, .iinc 3 1, 58, []) := rfl
theorem k205_58 : mm_lk mm_m205.1 58 = some (58, .goto (-31), 61, [27]) := rfl
theorem k205_61 : mm_lk mm_m205.1 61 = some (61, .iconst 1, 62, []) := rfl
theorem k205_62 : mm_lk mm_m205.1 62 = some (62, .ireturn, 63, []) := rfl
