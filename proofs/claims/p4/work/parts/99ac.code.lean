/-! ===== code, row by row (by program) ===== -/
/-- WhoKnowsModel.readsParts(I)V -/
def mm_m250 : mm_M := (mm_c250, 4, 0, [])
set_option maxRecDepth 20000 in
theorem P250 : mm_P 250 = some mm_m250 := rfl
theorem k250_0 : mm_lk mm_m250.1 0 = some (0, .iconst 0, 1, []) := rfl
theorem k250_1 : mm_lk mm_m250.1 1 = some (1, .istore_n 2, 2, []) := rfl
theorem k250_2 : mm_lk mm_m250.1 2 = some (2, .iconst 0, 3, []) := rfl
theorem k250_3 : mm_lk mm_m250.1 3 = some (3, .istore_n 3, 4, []) := rfl
theorem k250_4 : mm_lk mm_m250.1 4 = some (4, .iload_n 1, 5, []) := rfl
theorem k250_5 : mm_lk mm_m250.1 5 = some (5, .iconst 1, 6, []) := rfl
theorem k250_6 : mm_lk mm_m250.1 6 = some (6, .if_icmp .eq 8, 9, [14]) := rfl
theorem k250_9 : mm_lk mm_m250.1 9 = some (9, .iload_n 1, 10, []) := rfl
theorem k250_10 : mm_lk mm_m250.1 10 = some (10, .iconst 3, 11, []) := rfl
theorem k250_11 : mm_lk mm_m250.1 11 = some (11, .if_icmp .ne 9, 14, [20]) := rfl
theorem k250_14 : mm_lk mm_m250.1 14 = some (14, .aload_n 0, 15, []) := rfl
theorem k250_15 : mm_lk mm_m250.1 15 = some (15, .iconst 1, 16, []) := rfl
theorem k250_16 : mm_lk mm_m250.1 16 = some (16, .invokevirtual 214, 19, [0, 212, 2, 14, 2075, 2077, 75, 151]) := rfl
theorem k250_19 : mm_lk mm_m250.1 19 = some (19, .istore_n 2, 20, []) := rfl
theorem k250_20 : mm_lk mm_m250.1 20 = some (20, .iload_n 1, 21, []) := rfl
theorem k250_21 : mm_lk mm_m250.1 21 = some (21, .iconst 2, 22, []) := rfl
theorem k250_22 : mm_lk mm_m250.1 22 = some (22, .if_icmp .ne 8, 25, [30]) := rfl
theorem k250_25 : mm_lk mm_m250.1 25 = some (25, .aload_n 0, 26, []) := rfl
theorem k250_26 : mm_lk mm_m250.1 26 = some (26, .invokevirtual 341, 29, [0, 249, 1, 14, 2171, 2173, 94, 151]) := rfl
theorem k250_29 : mm_lk mm_m250.1 29 = some (29, .istore_n 2, 30, []) := rfl
theorem k250_30 : mm_lk mm_m250.1 30 = some (30, .iload_n 1, 31, []) := rfl
theorem k250_31 : mm_lk mm_m250.1 31 = some (31, .iconst 3, 32, []) := rfl
theorem k250_32 : mm_lk mm_m250.1 32 = some (32, .if_icmp .eq 8, 35, [40]) := rfl
theorem k250_35 : mm_lk mm_m250.1 35 = some (35, .iload_n 1, 36, []) := rfl
theorem k250_36 : mm_lk mm_m250.1 36 = some (36, .iconst 4, 37, []) := rfl
theorem k250_37 : mm_lk mm_m250.1 37 = some (37, .if_icmp .ne 9, 40, [46]) := rfl
theorem k250_40 : mm_lk mm_m250.1 40 = some (40, .aload_n 0, 41, []) := rfl
theorem k250_41 : mm_lk mm_m250.1 41 = some (41, .iconst 0, 42, []) := rfl
theorem k250_42 : mm_lk mm_m250.1 42 = some (42, .invokevirtual 214, 45, [0, 212, 2, 14, 2075, 2077, 75, 151]) := rfl
theorem k250_45 : mm_lk mm_m250.1 45 = some (45, .istore_n 3, 46, []) := rfl
theorem k250_46 : mm_lk mm_m250.1 46 = some (46, .iload_n 1, 47, []) := rfl
theorem k250_47 : mm_lk mm_m250.1 47 = some (47, .iconst 3, 48, []) := rfl
theorem k250_48 : mm_lk mm_m250.1 48 = some (48, .if_icmp .ge 12, 51, [60]) := rfl
theorem k250_51 : mm_lk mm_m250.1 51 = some (51, .aload_n 0, 52, []) := rfl
theorem k250_52 : mm_lk mm_m250.1 52 = some (52, .aload_n 0, 53, []) := rfl
theorem k250_53 : mm_lk mm_m250.1 53 = some (53, .getfield 344, 56, [0, 14, 24, 1852]) := rfl
theorem k250_56 : mm_lk mm_m250.1 56 = some (56, .iconst 0, 57, []) := rfl
theorem k250_57 : mm_lk mm_m250.1 57 = some (57, .invokevirtual 261, 60, [0, 228, 3, 14, 2035, 2037, 65, 151]) := rfl
theorem k250_60 : mm_lk mm_m250.1 60 = some (60, .aload_n 0, 61, []) := rfl
theorem k250_61 : mm_lk mm_m250.1 61 = some (61, .getfield 38, 64, [0, 14, 23, 1851]) := rfl
theorem k250_64 : mm_lk mm_m250.1 64 = some (64, .iconst 3, 65, []) := rfl
theorem k250_65 : mm_lk mm_m250.1 65 = some (65, .aload_n 0, 66, []) := rfl
theorem k250_66 : mm_lk mm_m250.1 66 = some (66, .getfield 344, 69, [0, 14, 24, 1852]) := rfl
theorem k250_69 : mm_lk mm_m250.1 69 = some (69, .imul, 70, []) := rfl
theorem k250_70 : mm_lk mm_m250.1 70 = some (70, .iconst 1, 71, []) := rfl
theorem k250_71 : mm_lk mm_m250.1 71 = some (71, .iadd, 72, []) := rfl
theorem k250_72 : mm_lk mm_m250.1 72 = some (72, .iload_n 2, 73, []) := rfl
theorem k250_73 : mm_lk mm_m250.1 73 = some (73, .iastore, 74, []) := rfl
theorem k250_74 : mm_lk mm_m250.1 74 = some (74, .aload_n 0, 75, []) := rfl
theorem k250_75 : mm_lk mm_m250.1 75 = some (75, .getfield 38, 78, [0, 14, 23, 1851]) := rfl
theorem k250_78 : mm_lk mm_m250.1 78 = some (78, .iconst 3, 79, []) := rfl
theorem k250_79 : mm_lk mm_m250.1 79 = some (79, .aload_n 0, 80, []) := rfl
theorem k250_80 : mm_lk mm_m250.1 80 = some (80, .getfield 344, 83, [0, 14, 24, 1852]) := rfl
theorem k250_83 : mm_lk mm_m250.1 83 = some (83, .imul, 84, []) := rfl
theorem k250_84 : mm_lk mm_m250.1 84 = some (84, .iconst 2, 85, []) := rfl
theorem k250_85 : mm_lk mm_m250.1 85 = some (85, .iadd, 86, []) := rfl
theorem k250_86 : mm_lk mm_m250.1 86 = some (86, .iload_n 3, 87, []) := rfl
theorem k250_87 : mm_lk mm_m250.1 87 = some (87, .iastore, 88, []) := rfl
theorem k250_88 : mm_lk mm_m250.1 88 = some (88, .return_, 89, []) := rfl
