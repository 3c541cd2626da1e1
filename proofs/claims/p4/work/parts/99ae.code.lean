/-! ===== code, row by row (by program) ===== -/
/-- WhoKnowsModel.readsOrder()V -/
def mm_m251 : mm_M := (mm_c251, 2, 0, [])
set_option maxRecDepth 20000 in
theorem P251 : mm_P 251 = some mm_m251 := rfl
theorem k251_0 : mm_lk mm_m251.1 0 = some (0, .aload_n 0, 1, []) := rfl
theorem k251_1 : mm_lk mm_m251.1 1 = some (1, .invokevirtual 347, 4, [0, 248, 1, 14, 2158, 2160, 92, 151]) := rfl
theorem k251_4 : mm_lk mm_m251.1 4 = some (4, .istore_n 1, 5, []) := rfl
theorem k251_5 : mm_lk mm_m251.1 5 = some (5, .aload_n 0, 6, []) := rfl
theorem k251_6 : mm_lk mm_m251.1 6 = some (6, .iload_n 1, 7, []) := rfl
theorem k251_7 : mm_lk mm_m251.1 7 = some (7, .iconst (-1), 8, []) := rfl
theorem k251_8 : mm_lk mm_m251.1 8 = some (8, .if_icmp .eq 7, 11, [15]) := rfl
theorem k251_11 : mm_lk mm_m251.1 11 = some (11, .iconst 1, 12, []) := rfl
theorem k251_12 : mm_lk mm_m251.1 12 = some (12, .goto 4, 15, [16]) := rfl
theorem k251_15 : mm_lk mm_m251.1 15 = some (15, .iconst 0, 16, []) := rfl
theorem k251_16 : mm_lk mm_m251.1 16 = some (16, .iconst 1, 17, []) := rfl
theorem k251_17 : mm_lk mm_m251.1 17 = some (17, .invokevirtual 166, 20, [0, 204, 3, 14, 1977, 1979, 53, 151]) := rfl
theorem k251_20 : mm_lk mm_m251.1 20 = some (20, .aload_n 0, 21, []) := rfl
theorem k251_21 : mm_lk mm_m251.1 21 = some (21, .aload_n 0, 22, []) := rfl
theorem k251_22 : mm_lk mm_m251.1 22 = some (22, .getfield 344, 25, [0, 14, 24, 1852]) := rfl
theorem k251_25 : mm_lk mm_m251.1 25 = some (25, .bipush 20, 27, []) := rfl
theorem k251_27 : mm_lk mm_m251.1 27 = some (27, .if_icmp .ge 7, 30, [34]) := rfl
theorem k251_30 : mm_lk mm_m251.1 30 = some (30, .iconst 1, 31, []) := rfl
theorem k251_31 : mm_lk mm_m251.1 31 = some (31, .goto 4, 34, [35]) := rfl
theorem k251_34 : mm_lk mm_m251.1 34 = some (34, .iconst 0, 35, []) := rfl
theorem k251_35 : mm_lk mm_m251.1 35 = some (35, .iconst 3, 36, []) := rfl
theorem k251_36 : mm_lk mm_m251.1 36 = some (36, .invokevirtual 166, 39, [0, 204, 3, 14, 1977, 1979, 53, 151]) := rfl
theorem k251_39 : mm_lk mm_m251.1 39 = some (39, .aload_n 0, 40, []) := rfl
theorem k251_40 : mm_lk mm_m251.1 40 = some (40, .getfield 142, 43, [0, 14, 14, 1842]) := rfl
theorem k251_43 : mm_lk mm_m251.1 43 = some (43, .ifCond .eq 4, 46, [47]) := rfl
theorem k251_46 : mm_lk mm_m251.1 46 = some (46, .return_, 47, []) := rfl
theorem k251_47 : mm_lk mm_m251.1 47 = some (47, .aload_n 0, 48, []) := rfl
theorem k251_48 : mm_lk mm_m251.1 48 = some (48, .aload_n 0, 49, []) := rfl
theorem k251_49 : mm_lk mm_m251.1 49 = some (49, .getfield 132, 52, [0, 14, 12, 1840]) := rfl
theorem k251_52 : mm_lk mm_m251.1 52 = some (52, .aload_n 0, 53, []) := rfl
theorem k251_53 : mm_lk mm_m251.1 53 = some (53, .getfield 135, 56, [0, 14, 13, 1841]) := rfl
theorem k251_56 : mm_lk mm_m251.1 56 = some (56, .iadd, 57, []) := rfl
theorem k251_57 : mm_lk mm_m251.1 57 = some (57, .putfield 126, 60, [0, 14, 11, 1839]) := rfl
theorem k251_60 : mm_lk mm_m251.1 60 = some (60, .aload_n 0, 61, []) := rfl
theorem k251_61 : mm_lk mm_m251.1 61 = some (61, .getfield 38, 64, [0, 14, 23, 1851]) := rfl
theorem k251_64 : mm_lk mm_m251.1 64 = some (64, .iconst 3, 65, []) := rfl
theorem k251_65 : mm_lk mm_m251.1 65 = some (65, .aload_n 0, 66, []) := rfl
theorem k251_66 : mm_lk mm_m251.1 66 = some (66, .getfield 344, 69, [0, 14, 24, 1852]) := rfl
theorem k251_69 : mm_lk mm_m251.1 69 = some (69, .imul, 70, []) := rfl
theorem k251_70 : mm_lk mm_m251.1 70 = some (70, .iload_n 1, 71, []) := rfl
theorem k251_71 : mm_lk mm_m251.1 71 = some (71, .iastore, 72, []) := rfl
theorem k251_72 : mm_lk mm_m251.1 72 = some (72, .aload_n 0, 73, []) := rfl
theorem k251_73 : mm_lk mm_m251.1 73 = some (73, .iload_n 1, 74, []) := rfl
theorem k251_74 : mm_lk mm_m251.1 74 = some (74, .invokevirtual 350, 77, [0, 250, 2, 14, 2167, 2169, 93, 151]) := rfl
theorem k251_77 : mm_lk mm_m251.1 77 = some (77, .aload_n 0, 78, []) := rfl
theorem k251_78 : mm_lk mm_m251.1 78 = some (78, .dup, 79, []) := rfl
theorem k251_79 : mm_lk mm_m251.1 79 = some (79, .getfield 344, 82, [0, 14, 24, 1852]) := rfl
theorem k251_82 : mm_lk mm_m251.1 82 = some (82, .iconst 1, 83, []) := rfl
theorem k251_83 : mm_lk mm_m251.1 83 = some (83, .iadd, 84, []) := rfl
theorem k251_84 : mm_lk mm_m251.1 84 = some (84, .putfield 344, 87, [0, 14, 24, 1852]) := rfl
theorem k251_87 : mm_lk mm_m251.1 87 = some (87, .aload_n 0, 88, []) := rfl
theorem k251_88 : mm_lk mm_m251.1 88 = some (88, .bipush 59, 90, []) := rfl
theorem k251_90 : mm_lk mm_m251.1 90 = some (90, .invokevirtual 229, 93, [0, 207, 2, 14, 2027, 2029, 63, 151]) := rfl
theorem k251_93 : mm_lk mm_m251.1 93 = some (93, .return_, 94, []) := rfl
