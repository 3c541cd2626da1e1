/-! ===== code, row by row (by program) ===== -/
/-- WhoKnows.share()F -/
def mm_m132 : mm_M := (mm_c132, 2, 6, [])
set_option maxRecDepth 20000 in
theorem P132 : mm_P 132 = some mm_m132 := rfl
/-- WhoKnows.meanAlike()D -/
def mm_m133 : mm_M := (mm_c133, 3, 7, [])
set_option maxRecDepth 20000 in
theorem P133 : mm_P 133 = some mm_m133 := rfl
/-- WhoKnowsModel.share()F -/
def mm_m290 : mm_M := (mm_c290, 1, 6, [])
set_option maxRecDepth 20000 in
theorem P290 : mm_P 290 = some mm_m290 := rfl
theorem k132_0 : mm_lk mm_m132.1 0 = some (0, .aload_n 0, 1, []) := rfl
theorem k132_1 : mm_lk mm_m132.1 1 = some (1, .getfield 87, 4, [0, 13, 8, 849]) := rfl
theorem k132_4 : mm_lk mm_m132.1 4 = some (4, .getfield 125, 7, [1, 12, 3, 809, 0]) := rfl
theorem k132_7 : mm_lk mm_m132.1 7 = some (7, .getfield 179, 10, [1, 10, 4, 502, 0]) := rfl
theorem k132_10 : mm_lk mm_m132.1 10 = some (10, .invokestatic 182, 13, [1, 360, 1, 961, 962, 157]) := rfl
theorem k132_13 : mm_lk mm_m132.1 13 = some (13, .istore_n 1, 14, []) := rfl
theorem k132_14 : mm_lk mm_m132.1 14 = some (14, .iload_n 1, 15, []) := rfl
theorem k132_15 : mm_lk mm_m132.1 15 = some (15, .ifCond .ne 7, 18, [22]) := rfl
theorem k132_18 : mm_lk mm_m132.1 18 = some (18, .fconst 0, 19, []) := rfl
theorem k132_19 : mm_lk mm_m132.1 19 = some (19, .goto 17, 22, [36]) := rfl
theorem k132_22 : mm_lk mm_m132.1 22 = some (22, .aload_n 0, 23, []) := rfl
theorem k132_23 : mm_lk mm_m132.1 23 = some (23, .getfield 87, 26, [0, 13, 8, 849]) := rfl
theorem k132_26 : mm_lk mm_m132.1 26 = some (26, .getfield 118, 29, [1, 12, 0, 803, 0]) := rfl
theorem k132_29 : mm_lk mm_m132.1 29 = some (29, .invokevirtual 121, 32, [0, 28, 1, 5, 977, 978, 979, 134]) := rfl
theorem k132_32 : mm_lk mm_m132.1 32 = some (32, .i2f, 33, []) := rfl
theorem k132_33 : mm_lk mm_m132.1 33 = some (33, .iload_n 1, 34, []) := rfl
theorem k132_34 : mm_lk mm_m132.1 34 = some (34, .i2f, 35, []) := rfl
theorem k132_35 : mm_lk mm_m132.1 35 = some (35, .fdiv, 36, []) := rfl
theorem k132_36 : mm_lk mm_m132.1 36 = some (36, .freturn, 37, []) := rfl
theorem k133_0 : mm_lk mm_m133.1 0 = some (0, .iconst 0, 1, []) := rfl
theorem k133_1 : mm_lk mm_m133.1 1 = some (1, .istore_n 1, 2, []) := rfl
theorem k133_2 : mm_lk mm_m133.1 2 = some (2, .iconst 0, 3, []) := rfl
theorem k133_3 : mm_lk mm_m133.1 3 = some (3, .istore_n 2, 4, []) := rfl
theorem k133_4 : mm_lk mm_m133.1 4 = some (4, .iload_n 2, 5, []) := rfl
theorem k133_5 : mm_lk mm_m133.1 5 = some (5, .aload_n 0, 6, []) := rfl
theorem k133_6 : mm_lk mm_m133.1 6 = some (6, .getfield 87, 9, [0, 13, 8, 849]) := rfl
theorem k133_9 : mm_lk mm_m133.1 9 = some (9, .getfield 125, 12, [1, 12, 3, 809, 0]) := rfl
theorem k133_12 : mm_lk mm_m133.1 12 = some (12, .getfield 176, 15, [1, 10, 1, 493, 0]) := rfl
theorem k133_15 : mm_lk mm_m133.1 15 = some (15, .getfield 173, 18, [1, 7, 1, 474, 0]) := rfl
theorem k133_18 : mm_lk mm_m133.1 18 = some (18, .if_icmp .ge 23, 21, [41]) := rfl
theorem k133_21 : mm_lk mm_m133.1 21 = some (21, .iload_n 1, 22, []) := rfl
theorem k133_22 : mm_lk mm_m133.1 22 = some (22, .aload_n 0, 23, []) := rfl
theorem k133_23 : mm_lk mm_m133.1 23 = some (23, .getfield 87, 26, [0, 13, 8, 849]) := rfl
theorem k133_26 : mm_lk mm_m133.1 26 = some (26, .getfield 118, 29, [1, 12, 0, 803, 0]) := rfl
theorem k133_29 : mm_lk mm_m133.1 29 = some (29, .iload_n 2, 30, []) := rfl
theorem k133_30 : mm_lk mm_m133.1 30 = some (30, .invokevirtual 237, 33, [0, 31, 2, 5, 990, 991, 992, 134]) := rfl
theorem k133_33 : mm_lk mm_m133.1 33 = some (33, .iadd, 34, []) := rfl
theorem k133_34 : mm_lk mm_m133.1 34 = some (34, .istore_n 1, 35, []) := rfl
theorem k133_35 : mm_lk mm_m133.1 35 = some (35, .iinc 2 1, 38, []) := rfl
theorem k133_38 : mm_lk mm_m133.1 38 = some (38, .goto (-34), 41, [4]) := rfl
theorem k133_41 : mm_lk mm_m133.1 41 = some (41, .aload_n 0, 42, []) := rfl
theorem k133_42 : mm_lk mm_m133.1 42 = some (42, .getfield 87, 45, [0, 13, 8, 849]) := rfl
theorem k133_45 : mm_lk mm_m133.1 45 = some (45, .getfield 118, 48, [1, 12, 0, 803, 0]) := rfl
theorem k133_48 : mm_lk mm_m133.1 48 = some (48, .invokevirtual 121, 51, [0, 28, 1, 5, 977, 978, 979, 134]) := rfl
theorem k133_51 : mm_lk mm_m133.1 51 = some (51, .aload_n 0, 52, []) := rfl
theorem k133_52 : mm_lk mm_m133.1 52 = some (52, .getfield 87, 55, [0, 13, 8, 849]) := rfl
theorem k133_55 : mm_lk mm_m133.1 55 = some (55, .getfield 125, 58, [1, 12, 3, 809, 0]) := rfl
theorem k133_58 : mm_lk mm_m133.1 58 = some (58, .getfield 176, 61, [1, 10, 1, 493, 0]) := rfl
theorem k133_61 : mm_lk mm_m133.1 61 = some (61, .getfield 173, 64, [1, 7, 1, 474, 0]) := rfl
theorem k133_64 : mm_lk mm_m133.1 64 = some (64, .imul, 65, []) := rfl
theorem k133_65 : mm_lk mm_m133.1 65 = some (65, .istore_n 2, 66, []) := rfl
theorem k133_66 : mm_lk mm_m133.1 66 = some (66, .iload_n 2, 67, []) := rfl
theorem k133_67 : mm_lk mm_m133.1 67 = some (67, .ifCond .ne 7, 70, [74]) := rfl
theorem k133_70 : mm_lk mm_m133.1 70 = some (70, .dconst 0, 71, []) := rfl
theorem k133_71 : mm_lk mm_m133.1 71 = some (71, .goto 8, 74, [79]) := rfl
theorem k133_74 : mm_lk mm_m133.1 74 = some (74, .iload_n 1, 75, []) := rfl
theorem k133_75 : mm_lk mm_m133.1 75 = some (75, .i2d, 76, []) := rfl
theorem k133_76 : mm_lk mm_m133.1 76 = some (76, .iload_n 2, 77, []) := rfl
theorem k133_77 : mm_lk mm_m133.1 77 = some (77, .i2d, 78, []) := rfl
theorem k133_78 : mm_lk mm_m133.1 78 = some (78, .ddiv, 79, []) := rfl
theorem k133_79 : mm_lk mm_m133.1 79 = some (79, .dreturn, 80, []) := rfl
theorem k290_0 : mm_lk mm_m290.1 0 = some (0, .aload_n 0, 1, []) := rfl
theorem k290_1 : mm_lk mm_m290.1 1 = some (1, .iconst 0, 2, []) := rfl
theorem k290_2 : mm_lk mm_m290.1 2 = some (2, .putfield 48, 5, [0, 14, 6, 1834]) := rfl
theorem k290_5 : mm_lk mm_m290.1 5 = some (5, .aload_n 0, 6, []) := rfl
theorem k290_6 : mm_lk mm_m290.1 6 = some (6, .getfield 7, 9, [0, 14, 0, 1828]) := rfl
theorem k290_9 : mm_lk mm_m290.1 9 = some (9, .iconst 2, 10, []) := rfl
theorem k290_10 : mm_lk mm_m290.1 10 = some (10, .iaload, 11, []) := rfl
theorem k290_11 : mm_lk mm_m290.1 11 = some (11, .invokestatic 74, 14, [1, 174, 1, 1818, 1819, 151]) := rfl
theorem k290_14 : mm_lk mm_m290.1 14 = some (14, .i2f, 15, []) := rfl
theorem k290_15 : mm_lk mm_m290.1 15 = some (15, .aload_n 0, 16, []) := rfl
theorem k290_16 : mm_lk mm_m290.1 16 = some (16, .getfield 7, 19, [0, 14, 0, 1828]) := rfl
theorem k290_19 : mm_lk mm_m290.1 19 = some (19, .iconst 3, 20, []) := rfl
theorem k290_20 : mm_lk mm_m290.1 20 = some (20, .iaload, 21, []) := rfl
theorem k290_21 : mm_lk mm_m290.1 21 = some (21, .i2f, 22, []) := rfl
theorem k290_22 : mm_lk mm_m290.1 22 = some (22, .fdiv, 23, []) := rfl
theorem k290_23 : mm_lk mm_m290.1 23 = some (23, .freturn, 24, []) := rfl
