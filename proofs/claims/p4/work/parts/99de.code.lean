/-! ===== code, row by row (by program) ===== -/
/-- WhoKnows.writeKinds(I)I -/
def mm_m140 : mm_M := (mm_c140, 3, 1, [])
set_option maxRecDepth 20000 in
theorem P140 : mm_P 140 = some mm_m140 := rfl
theorem k140_0 : mm_lk mm_m140.1 0 = some (0, .aload_n 0, 1, []) := rfl
theorem k140_1 : mm_lk mm_m140.1 1 = some (1, .iload_n 1, 2, []) := rfl
theorem k140_2 : mm_lk mm_m140.1 2 = some (2, .invokevirtual 214, 5, [0, 146, 2, 13, 1623, 1625, 38, 132]) := rfl
theorem k140_5 : mm_lk mm_m140.1 5 = some (5, .aload_n 0, 6, []) := rfl
theorem k140_6 : mm_lk mm_m140.1 6 = some (6, .getfield 64, 9, [0, 13, 7, 848]) := rfl
theorem k140_9 : mm_lk mm_m140.1 9 = some (9, .iconst 0, 10, []) := rfl
theorem k140_10 : mm_lk mm_m140.1 10 = some (10, .invokevirtual 309, 13, [0, 377, 2, 1, 1058, 1059, 1060, 141]) := rfl
theorem k140_13 : mm_lk mm_m140.1 13 = some (13, .iconst 0, 14, []) := rfl
theorem k140_14 : mm_lk mm_m140.1 14 = some (14, .istore_n 2, 15, []) := rfl
theorem k140_15 : mm_lk mm_m140.1 15 = some (15, .iload_n 2, 16, []) := rfl
theorem k140_16 : mm_lk mm_m140.1 16 = some (16, .bipush 32, 18, []) := rfl
theorem k140_18 : mm_lk mm_m140.1 18 = some (18, .if_icmp .ge 61, 21, [79]) := rfl
theorem k140_21 : mm_lk mm_m140.1 21 = some (21, .aload_n 0, 22, []) := rfl
theorem k140_22 : mm_lk mm_m140.1 22 = some (22, .getfield 87, 25, [0, 13, 8, 849]) := rfl
theorem k140_25 : mm_lk mm_m140.1 25 = some (25, .getfield 118, 28, [1, 12, 0, 803, 0]) := rfl
theorem k140_28 : mm_lk mm_m140.1 28 = some (28, .iload_n 1, 29, []) := rfl
theorem k140_29 : mm_lk mm_m140.1 29 = some (29, .iload_n 2, 30, []) := rfl
theorem k140_30 : mm_lk mm_m140.1 30 = some (30, .invokevirtual 233, 33, [0, 30, 3, 5, 1646, 1647, 1648, 134]) := rfl
theorem k140_33 : mm_lk mm_m140.1 33 = some (33, .ifCond .eq 40, 36, [73]) := rfl
theorem k140_36 : mm_lk mm_m140.1 36 = some (36, .aload_n 0, 37, []) := rfl
theorem k140_37 : mm_lk mm_m140.1 37 = some (37, .getfield 64, 40, [0, 13, 7, 848]) := rfl
theorem k140_40 : mm_lk mm_m140.1 40 = some (40, .invokevirtual 325, 43, [0, 378, 1, 1, 1416, 1215, 2511, 141]) := rfl
theorem k140_43 : mm_lk mm_m140.1 43 = some (43, .ifCond .le 13, 46, [56]) := rfl
theorem k140_46 : mm_lk mm_m140.1 46 = some (46, .aload_n 0, 47, []) := rfl
theorem k140_47 : mm_lk mm_m140.1 47 = some (47, .getfield 64, 50, [0, 13, 7, 848]) := rfl
theorem k140_50 : mm_lk mm_m140.1 50 = some (50, .bipush 124, 52, []) := rfl
theorem k140_52 : mm_lk mm_m140.1 52 = some (52, .invokevirtual 318, 55, [0, 373, 2, 1, 1787, 1397, 1398, 141]) := rfl
theorem k140_55 : mm_lk mm_m140.1 55 = some (55, .pop, 56, []) := rfl
theorem k140_56 : mm_lk mm_m140.1 56 = some (56, .aload_n 0, 57, []) := rfl
theorem k140_57 : mm_lk mm_m140.1 57 = some (57, .aload_n 0, 58, []) := rfl
theorem k140_58 : mm_lk mm_m140.1 58 = some (58, .getfield 87, 61, [0, 13, 8, 849]) := rfl
theorem k140_61 : mm_lk mm_m140.1 61 = some (61, .getfield 118, 64, [1, 12, 0, 803, 0]) := rfl
theorem k140_64 : mm_lk mm_m140.1 64 = some (64, .iload_n 1, 65, []) := rfl
theorem k140_65 : mm_lk mm_m140.1 65 = some (65, .iload_n 2, 66, []) := rfl
theorem k140_66 : mm_lk mm_m140.1 66 = some (66, .invokevirtual 230, 69, [0, 29, 3, 5, 1638, 718, 719, 134]) := rfl
theorem k140_69 : mm_lk mm_m140.1 69 = some (69, .iload_n 2, 70, []) := rfl
theorem k140_70 : mm_lk mm_m140.1 70 = some (70, .invokevirtual 327, 73, [0, 155, 3, 13, 1796, 1798, 42, 132]) := rfl
theorem k140_73 : mm_lk mm_m140.1 73 = some (73, .iinc 2 1, 76, []) := rfl
theorem k140_76 : mm_lk mm_m140.1 76 = some (76, .goto (-61), 79, [15]) := rfl
theorem k140_79 : mm_lk mm_m140.1 79 = some (79, .aload_n 0, 80, []) := rfl
theorem k140_80 : mm_lk mm_m140.1 80 = some (80, .getfield 64, 83, [0, 13, 7, 848]) := rfl
theorem k140_83 : mm_lk mm_m140.1 83 = some (83, .invokevirtual 325, 86, [0, 378, 1, 1, 1416, 1215, 2511, 141]) := rfl
theorem k140_86 : mm_lk mm_m140.1 86 = some (86, .ireturn, 87, []) := rfl
