/-! ===== code, row by row (by program) ===== -/
/-- WhoKnowsModel.partedBy(II)I -/
def mm_m242 : mm_M := (mm_c242, 5, 1, [])
set_option maxRecDepth 20000 in
theorem P242 : mm_P 242 = some mm_m242 := rfl
/-- WhoKnowsModel.parts(II)I -/
def mm_m243 : mm_M := (mm_c243, 5, 1, [])
set_option maxRecDepth 20000 in
theorem P243 : mm_P 243 = some mm_m243 := rfl
theorem k238_0 : mm_lk mm_m238.1 0 = some (0, .bipush 59, 2, []) := rfl
theorem k238_2 : mm_lk mm_m238.1 2 = some (2, .istore 4, 4, []) := rfl
theorem k238_38 : mm_lk mm_m238.1 38 = some (38, .aload_n 0, 39, []) := rfl
theorem k238_39 : mm_lk mm_m238.1 39 = some (39, .getfield 7, 42, [0, 14, 0, 1828]) := rfl
theorem k238_42 : mm_lk mm_m238.1 42 = some (42, .bipush 16, 44, []) := rfl
theorem k238_44 : mm_lk mm_m238.1 44 = some (44, .iload_n 1, 45, []) := rfl
theorem k238_45 : mm_lk mm_m238.1 45 = some (45, .iastore, 46, []) := rfl
theorem k238_46 : mm_lk mm_m238.1 46 = some (46, .aload_n 0, 47, []) := rfl
theorem k238_47 : mm_lk mm_m238.1 47 = some (47, .getfield 7, 50, [0, 14, 0, 1828]) := rfl
theorem k238_50 : mm_lk mm_m238.1 50 = some (50, .bipush 17, 52, []) := rfl
theorem k238_52 : mm_lk mm_m238.1 52 = some (52, .iload_n 2, 53, []) := rfl
theorem k238_53 : mm_lk mm_m238.1 53 = some (53, .iastore, 54, []) := rfl
theorem k238_54 : mm_lk mm_m238.1 54 = some (54, .aload_n 0, 55, []) := rfl
theorem k238_55 : mm_lk mm_m238.1 55 = some (55, .getfield 7, 58, [0, 14, 0, 1828]) := rfl
theorem k238_58 : mm_lk mm_m238.1 58 = some (58, .bipush 18, 60, []) := rfl
theorem k238_60 : mm_lk mm_m238.1 60 = some (60, .iload_n 3, 61, []) := rfl
theorem k238_61 : mm_lk mm_m238.1 61 = some (61, .iastore, 62, []) := rfl
theorem k238_62 : mm_lk mm_m238.1 62 = some (62, .aload_n 0, 63, []) := rfl
theorem k238_63 : mm_lk mm_m238.1 63 = some (63, .getfield 7, 66, [0, 14, 0, 1828]) := rfl
theorem k238_66 : mm_lk mm_m238.1 66 = some (66, .bipush 6, 68, []) := rfl
theorem k238_68 : mm_lk mm_m238.1 68 = some (68, .bipush 20, 70, []) := rfl
theorem k238_70 : mm_lk mm_m238.1 70 = some (70, .aload_n 0, 71, []) := rfl
theorem k238_71 : mm_lk mm_m238.1 71 = some (71, .getfield 7, 74, [0, 14, 0, 1828]) := rfl
theorem k238_74 : mm_lk mm_m238.1 74 = some (74, .bipush 6, 76, []) := rfl
theorem k238_76 : mm_lk mm_m238.1 76 = some (76, .iaload, 77, []) := rfl
theorem k238_77 : mm_lk mm_m238.1 77 = some (77, .iconst 1, 78, []) := rfl
theorem k238_78 : mm_lk mm_m238.1 78 = some (78, .iadd, 79, []) := rfl
theorem k238_79 : mm_lk mm_m238.1 79 = some (79, .invokestatic 308, 82, [12, 2199]) := rfl
theorem k238_82 : mm_lk mm_m238.1 82 = some (82, .iastore, 83, []) := rfl
theorem k238_83 : mm_lk mm_m238.1 83 = some (83, .return_, 84, []) := rfl
theorem k242_0 : mm_lk mm_m242.1 0 = some (0, .iconst 0, 1, []) := rfl
theorem k242_1 : mm_lk mm_m242.1 1 = some (1, .istore_n 3, 2, []) := rfl
theorem k242_2 : mm_lk mm_m242.1 2 = some (2, .iconst 0, 3, []) := rfl
theorem k242_3 : mm_lk mm_m242.1 3 = some (3, .istore 4, 5, []) := rfl
theorem k242_5 : mm_lk mm_m242.1 5 = some (5, .iload 4, 7, []) := rfl
theorem k242_7 : mm_lk mm_m242.1 7 = some (7, .bipush 32, 9, []) := rfl
theorem k242_9 : mm_lk mm_m242.1 9 = some (9, .if_icmp .ge 39, 12, [48]) := rfl
theorem k242_12 : mm_lk mm_m242.1 12 = some (12, .iload_n 3, 13, []) := rfl
theorem k242_13 : mm_lk mm_m242.1 13 = some (13, .iload_n 2, 14, []) := rfl
theorem k242_14 : mm_lk mm_m242.1 14 = some (14, .iload 4, 16, []) := rfl
theorem k242_16 : mm_lk mm_m242.1 16 = some (16, .invokestatic 51, 19, [1, 173, 2, 2094, 2095, 151]) := rfl
theorem k242_19 : mm_lk mm_m242.1 19 = some (19, .ifCond .eq 20, 22, [39]) := rfl
theorem k242_22 : mm_lk mm_m242.1 22 = some (22, .aload_n 0, 23, []) := rfl
theorem k242_23 : mm_lk mm_m242.1 23 = some (23, .iload_n 1, 24, []) := rfl
theorem k242_24 : mm_lk mm_m242.1 24 = some (24, .iload 4, 26, []) := rfl
theorem k242_26 : mm_lk mm_m242.1 26 = some (26, .invokevirtual 78, 29, [0, 186, 3, 14, 2105, 2107, 81, 151]) := rfl
theorem k242_29 : mm_lk mm_m242.1 29 = some (29, .iload_n 2, 30, []) := rfl
theorem k242_30 : mm_lk mm_m242.1 30 = some (30, .iconst (-1), 31, []) := rfl
theorem k242_31 : mm_lk mm_m242.1 31 = some (31, .ixor, 32, []) := rfl
theorem k242_32 : mm_lk mm_m242.1 32 = some (32, .iand, 33, []) := rfl
theorem k242_33 : mm_lk mm_m242.1 33 = some (33, .invokestatic 74, 36, [1, 174, 1, 1818, 1819, 151]) := rfl
theorem k242_36 : mm_lk mm_m242.1 36 = some (36, .goto 4, 39, [40]) := rfl
theorem k242_39 : mm_lk mm_m242.1 39 = some (39, .iconst 0, 40, []) := rfl
theorem k242_40 : mm_lk mm_m242.1 40 = some (40, .iadd, 41, []) := rfl
theorem k242_41 : mm_lk mm_m242.1 41 = some (41, .istore_n 3, 42, []) := rfl
theorem k242_42 : mm_lk mm_m242.1 42 = some (42, .iinc 4 1, 45, []) := rfl
theorem k242_45 : mm_lk mm_m242.1 45 = some (45, .goto (-40), 48, [5]) := rfl
theorem k242_48 : mm_lk mm_m242.1 48 = some (48, .iload_n 3, 49, []) := rfl
theorem k242_49 : mm_lk mm_m242.1 49 = some (49, .ireturn, 50, []) := rfl
theorem k243_0 : mm_lk mm_m243.1 0 = some (0, .aload_n 0, 1, []) := rfl
theorem k243_1 : mm_lk mm_m243.1 1 = some (1, .iload_n 1, 2, []) := rfl
theorem k243_2 : mm_lk mm_m243.1 2 = some (2, .iload_n 2, 3, []) := rfl
theorem k243_3 : mm_lk mm_m243.1 3 = some (3, .invokevirtual 322, 6, [0, 242, 3, 14, 2212, 2214, 104, 151]) := rfl
theorem k243_6 : mm_lk mm_m243.1 6 = some (6, .istore_n 3, 7, []) := rfl
theorem k243_7 : mm_lk mm_m243.1 7 = some (7, .iconst 0, 8, []) := rfl
theorem k243_8 : mm_lk mm_m243.1 8 = some (8, .istore 4, 10, []) := rfl
theorem k243_10 : mm_lk mm_m243.1 10 = some (10, .iload 4, 12, []) := rfl
theorem k243_12 : mm_lk mm_m243.1 12 = some (12, .bipush 32, 14, []) := rfl
theorem k243_14 : mm_lk mm_m243.1 14 = some (14, .if_icmp .ge 44, 17, [58]) := rfl
theorem k243_17 : mm_lk mm_m243.1 17 = some (17, .aload_n 0, 18, []) := rfl
theorem k243_18 : mm_lk mm_m243.1 18 = some (18, .getfield 7, 21, [0, 14, 0, 1828]) := rfl
theorem k243_21 : mm_lk mm_m243.1 21 = some (21, .sipush 160, 24, []) := rfl
theorem k243_24 : mm_lk mm_m243.1 24 = some (24, .bipush 32, 26, []) := rfl
theorem k243_26 : mm_lk mm_m243.1 26 = some (26, .iload_n 1, 27, []) := rfl
theorem k243_27 : mm_lk mm_m243.1 27 = some (27, .imul, 28, []) := rfl
theorem k243_28 : mm_lk mm_m243.1 28 = some (28, .iadd, 29, []) := rfl
theorem k243_29 : mm_lk mm_m243.1 29 = some (29, .iload 4, 31, []) := rfl
theorem k243_31 : mm_lk mm_m243.1 31 = some (31, .iadd, 32, []) := rfl
theorem k243_32 : mm_lk mm_m243.1 32 = some (32, .dup2, 33, []) := rfl
theorem k243_33 : mm_lk mm_m243.1 33 = some (33, .iaload, 34, []) := rfl
theorem k243_34 : mm_lk mm_m243.1 34 = some (34, .iload_n 2, 35, []) := rfl
theorem k243_35 : mm_lk mm_m243.1 35 = some (35, .iload 4, 37, []) := rfl
theorem k243_37 : mm_lk mm_m243.1 37 = some (37, .invokestatic 51, 40, [1, 173, 2, 2094, 2095, 151]) := rfl
theorem k243_40 : mm_lk mm_m243.1 40 = some (40, .ifCond .eq 7, 43, [47]) := rfl
theorem k243_43 : mm_lk mm_m243.1 43 = some (43, .iload_n 2, 44, []) := rfl
theorem k243_44 : mm_lk mm_m243.1 44 = some (44, .goto 6, 47, [50]) := rfl
theorem k243_47 : mm_lk mm_m243.1 47 = some (47, .iload_n 2, 48, []) := rfl
theorem k243_48 : mm_lk mm_m243.1 48 = some (48, .iconst (-1), 49, []) := rfl
theorem k243_49 : mm_lk mm_m243.1 49 = some (49, .ixor, 50, []) := rfl
theorem k243_50 : mm_lk mm_m243.1 50 = some (50, .iand, 51, []) := rfl
theorem k243_51 : mm_lk mm_m243.1 51 = some (51, .iastore, 52, []) := rfl
theorem k243_52 : mm_lk mm_m243.1 52 = some (52, .iinc 4 1, 55, []) := rfl
theorem k243_55 : mm_lk mm_m243.1 55 = some (55, .goto (-45), 58, [10]) := rfl
theorem k243_58 : mm_lk mm_m243.1 58 = some (58, .aload_n 0, 59, []) := rfl
theorem k243_59 : mm_lk mm_m243.1 59 = some (59, .bipush 6, 61, []) := rfl
theorem k243_61 : mm_lk mm_m243.1 61 = some (61, .iload_n 3, 62, []) := rfl
theorem k243_62 : mm_lk mm_m243.1 62 = some (62, .invokevirtual 311, 65, [0, 237, 3, 14, 2191, 2193, 99, 151]) := rfl
theorem k243_65 : mm_lk mm_m243.1 65 = some (65, .iload_n 3, 66, []) := rfl
theorem k243_66 : mm_lk mm_m243.1 66 = some (66, .ireturn, 67, []) := rfl
