/-! ===== code, row by row (by program) ===== -/
/-- WhoKnowsModel.made(III)I -/
def mm_m219 : mm_M := (mm_c219, 6, 1, [])
set_option maxRecDepth 20000 in
theorem P219 : mm_P 219 = some mm_m219 := rfl
/-- WhoKnowsModel.modal()I -/
def mm_m220 : mm_M := (mm_c220, 1, 1, [])
set_option maxRecDepth 20000 in
theorem P220 : mm_P 220 = some mm_m220 := rfl
theorem k219_0 : mm_lk mm_m219.1 0 = some (0, .aload_n 0, 1, []) := rfl
theorem k219_1 : mm_lk mm_m219.1 1 = some (1, .getfield 35, 4, [0, 14, 18, 1846]) := rfl
theorem k219_4 : mm_lk mm_m219.1 4 = some (4, .aload_n 0, 5, []) := rfl
theorem k219_5 : mm_lk mm_m219.1 5 = some (5, .getfield 204, 8, [0, 14, 19, 1847]) := rfl
theorem k219_8 : mm_lk mm_m219.1 8 = some (8, .iaload, 9, []) := rfl
theorem k219_9 : mm_lk mm_m219.1 9 = some (9, .istore 4, 11, []) := rfl
theorem k219_11 : mm_lk mm_m219.1 11 = some (11, .aload_n 0, 12, []) := rfl
theorem k219_12 : mm_lk mm_m219.1 12 = some (12, .getfield 142, 15, [0, 14, 14, 1842]) := rfl
theorem k219_15 : mm_lk mm_m219.1 15 = some (15, .ifCond .ne 10, 18, [25]) := rfl
theorem k219_18 : mm_lk mm_m219.1 18 = some (18, .iload 4, 20, []) := rfl
theorem k219_20 : mm_lk mm_m219.1 20 = some (20, .bipush 60, 22, []) := rfl
theorem k219_22 : mm_lk mm_m219.1 22 = some (22, .if_icmp .lt 5, 25, [27]) := rfl
theorem k219_25 : mm_lk mm_m219.1 25 = some (25, .iconst 0, 26, []) := rfl
theorem k219_26 : mm_lk mm_m219.1 26 = some (26, .ireturn, 27, []) := rfl
theorem k219_27 : mm_lk mm_m219.1 27 = some (27, .aload_n 0, 28, []) := rfl
theorem k219_28 : mm_lk mm_m219.1 28 = some (28, .getfield 204, 31, [0, 14, 19, 1847]) := rfl
theorem k219_31 : mm_lk mm_m219.1 31 = some (31, .iconst 1, 32, []) := rfl
theorem k219_32 : mm_lk mm_m219.1 32 = some (32, .iadd, 33, []) := rfl
theorem k219_33 : mm_lk mm_m219.1 33 = some (33, .iconst 4, 34, []) := rfl
theorem k219_34 : mm_lk mm_m219.1 34 = some (34, .iload 4, 36, []) := rfl
theorem k219_36 : mm_lk mm_m219.1 36 = some (36, .imul, 37, []) := rfl
theorem k219_37 : mm_lk mm_m219.1 37 = some (37, .iadd, 38, []) := rfl
theorem k219_38 : mm_lk mm_m219.1 38 = some (38, .istore 5, 40, []) := rfl
theorem k219_40 : mm_lk mm_m219.1 40 = some (40, .aload_n 0, 41, []) := rfl
theorem k219_41 : mm_lk mm_m219.1 41 = some (41, .getfield 35, 44, [0, 14, 18, 1846]) := rfl
theorem k219_44 : mm_lk mm_m219.1 44 = some (44, .iload 5, 46, []) := rfl
theorem k219_46 : mm_lk mm_m219.1 46 = some (46, .iload_n 1, 47, []) := rfl
theorem k219_47 : mm_lk mm_m219.1 47 = some (47, .iastore, 48, []) := rfl
theorem k219_48 : mm_lk mm_m219.1 48 = some (48, .aload_n 0, 49, []) := rfl
theorem k219_49 : mm_lk mm_m219.1 49 = some (49, .getfield 35, 52, [0, 14, 18, 1846]) := rfl
theorem k219_52 : mm_lk mm_m219.1 52 = some (52, .iload 5, 54, []) := rfl
theorem k219_54 : mm_lk mm_m219.1 54 = some (54, .iconst 1, 55, []) := rfl
theorem k219_55 : mm_lk mm_m219.1 55 = some (55, .iadd, 56, []) := rfl
theorem k219_56 : mm_lk mm_m219.1 56 = some (56, .iload_n 2, 57, []) := rfl
theorem k219_57 : mm_lk mm_m219.1 57 = some (57, .iastore, 58, []) := rfl
theorem k219_58 : mm_lk mm_m219.1 58 = some (58, .aload_n 0, 59, []) := rfl
theorem k219_59 : mm_lk mm_m219.1 59 = some (59, .getfield 35, 62, [0, 14, 18, 1846]) := rfl
theorem k219_62 : mm_lk mm_m219.1 62 = some (62, .iload 5, 64, []) := rfl
theorem k219_64 : mm_lk mm_m219.1 64 = some (64, .iconst 2, 65, []) := rfl
theorem k219_65 : mm_lk mm_m219.1 65 = some (65, .iadd, 66, []) := rfl
theorem k219_66 : mm_lk mm_m219.1 66 = some (66, .iload_n 3, 67, []) := rfl
theorem k219_67 : mm_lk mm_m219.1 67 = some (67, .iastore, 68, []) := rfl
theorem k219_68 : mm_lk mm_m219.1 68 = some (68, .aload_n 0, 69, []) := rfl
theorem k219_69 : mm_lk mm_m219.1 69 = some (69, .getfield 35, 72, [0, 14, 18, 1846]) := rfl
theorem k219_72 : mm_lk mm_m219.1 72 = some (72, .aload_n 0, 73, []) := rfl
theorem k219_73 : mm_lk mm_m219.1 73 = some (73, .getfield 204, 76, [0, 14, 19, 1847]) := rfl
theorem k219_76 : mm_lk mm_m219.1 76 = some (76, .dup2, 77, []) := rfl
theorem k219_77 : mm_lk mm_m219.1 77 = some (77, .iaload, 78, []) := rfl
theorem k219_78 : mm_lk mm_m219.1 78 = some (78, .iconst 1, 79, []) := rfl
theorem k219_79 : mm_lk mm_m219.1 79 = some (79, .iadd, 80, []) := rfl
theorem k219_80 : mm_lk mm_m219.1 80 = some (80, .iastore, 81, []) := rfl
theorem k219_81 : mm_lk mm_m219.1 81 = some (81, .iload 4, 83, []) := rfl
theorem k219_83 : mm_lk mm_m219.1 83 = some (83, .ireturn, 84, []) := rfl
theorem k220_0 : mm_lk mm_m220.1 0 = some (0, .aload_n 0, 1, []) := rfl
theorem k220_1 : mm_lk mm_m220.1 1 = some (1, .ldc 176, 3, [1, 8, 1997]) := rfl
theorem k220_3 : mm_lk mm_m220.1 3 = some (3, .invokevirtual 162, 6, [0, 205, 2, 14, 1961, 1963, 50, 151]) := rfl
theorem k220_6 : mm_lk mm_m220.1 6 = some (6, .ifCond .eq 5, 9, [11]) := rfl
theorem k220_9 : mm_lk mm_m220.1 9 = some (9, .iconst 4, 10, []) := rfl
theorem k220_10 : mm_lk mm_m220.1 10 = some (10, .ireturn, 11, []) := rfl
theorem k220_11 : mm_lk mm_m220.1 11 = some (11, .aload_n 0, 12, []) := rfl
theorem k220_12 : mm_lk mm_m220.1 12 = some (12, .ldc 178, 14, [1, 10, 1998]) := rfl
theorem k220_14 : mm_lk mm_m220.1 14 = some (14, .invokevirtual 162, 17, [0, 205, 2, 14, 1961, 1963, 50, 151]) := rfl
theorem k220_17 : mm_lk mm_m220.1 17 = some (17, .ifCond .eq 5, 20, [22]) := rfl
theorem k220_20 : mm_lk mm_m220.1 20 = some (20, .iconst 5, 21, []) := rfl
theorem k220_21 : mm_lk mm_m220.1 21 = some (21, .ireturn, 22, []) := rfl
theorem k220_22 : mm_lk mm_m220.1 22 = some (22, .aload_n 0, 23, []) := rfl
theorem k220_23 : mm_lk mm_m220.1 23 = some (23, .ldc 180, 25, [1, 12, 1999]) := rfl
theorem k220_25 : mm_lk mm_m220.1 25 = some (25, .invokevirtual 162, 28, [0, 205, 2, 14, 1961, 1963, 50, 151]) := rfl
theorem k220_28 : mm_lk mm_m220.1 28 = some (28, .ifCond .eq 6, 31, [34]) := rfl
theorem k220_31 : mm_lk mm_m220.1 31 = some (31, .bipush 6, 33, []) := rfl
theorem k220_33 : mm_lk mm_m220.1 33 = some (33, .ireturn, 34, []) := rfl
theorem k220_34 : mm_lk mm_m220.1 34 = some (34, .aload_n 0, 35, []) := rfl
theorem k220_35 : mm_lk mm_m220.1 35 = some (35, .ldc 182, 37, [1, 14, 2000]) := rfl
theorem k220_37 : mm_lk mm_m220.1 37 = some (37, .invokevirtual 162, 40, [0, 205, 2, 14, 1961, 1963, 50, 151]) := rfl
theorem k220_40 : mm_lk mm_m220.1 40 = some (40, .ifCond .eq 8, 43, [48]) := rfl
theorem k220_43 : mm_lk mm_m220.1 43 = some (43, .bipush 7, 45, []) := rfl
theorem k220_45 : mm_lk mm_m220.1 45 = some (45, .goto 4, 48, [49]) := rfl
theorem k220_48 : mm_lk mm_m220.1 48 = some (48, .iconst (-1), 49, []) := rfl
theorem k220_49 : mm_lk mm_m220.1 49 = some (49, .ireturn, 50, []) := rfl
