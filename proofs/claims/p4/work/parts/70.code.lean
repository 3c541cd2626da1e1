/-! ===== code, row by row (by program) ===== -/
/-- WhoKnowsModel.personLine()V -/
def mm_m232 : mm_M := (mm_c232, 1, 0, [])
set_option maxRecDepth 20000 in
theorem P232 : mm_P 232 = some mm_m232 := rfl
/-- WhoKnowsModel.realLine(I)V -/
def mm_m233 : mm_M := (mm_c233, 3, 0, [])
set_option maxRecDepth 20000 in
theorem P233 : mm_P 233 = some mm_m233 := rfl
/-- WhoKnowsModel.nextLine(Ljava/lang/String;)Z -/
def mm_m235 : mm_M := (mm_c235, 2, 2, [])
set_option maxRecDepth 20000 in
theorem P235 : mm_P 235 = some mm_m235 := rfl
theorem k231_0 : mm_lk mm_m231.1 0 = some (0, .iconst 0, 1, []) := rfl
theorem k231_1 : mm_lk mm_m231.1 1 = some (1, .istore_n 1, 2, []) := rfl
theorem k232_0 : mm_lk mm_m232.1 0 = some (0, .aload_n 0, 1, []) := rfl
theorem k232_1 : mm_lk mm_m232.1 1 = some (1, .aload_n 0, 2, []) := rfl
theorem k232_2 : mm_lk mm_m232.1 2 = some (2, .invokevirtual 63, 5, [0, 179, 1, 14, 1821, 1823, 44, 151]) := rfl
theorem k232_5 : mm_lk mm_m232.1 5 = some (5, .iconst 5, 6, []) := rfl
theorem k232_6 : mm_lk mm_m232.1 6 = some (6, .if_icmp .ge 7, 9, [13]) := rfl
theorem k232_9 : mm_lk mm_m232.1 9 = some (9, .iconst 1, 10, []) := rfl
theorem k232_10 : mm_lk mm_m232.1 10 = some (10, .goto 4, 13, [14]) := rfl
theorem k232_13 : mm_lk mm_m232.1 13 = some (13, .iconst 0, 14, []) := rfl
theorem k232_14 : mm_lk mm_m232.1 14 = some (14, .iconst 3, 15, []) := rfl
theorem k232_15 : mm_lk mm_m232.1 15 = some (15, .invokevirtual 166, 18, [0, 204, 3, 14, 1977, 1979, 53, 151]) := rfl
theorem k232_18 : mm_lk mm_m232.1 18 = some (18, .aload_n 0, 19, []) := rfl
theorem k232_19 : mm_lk mm_m232.1 19 = some (19, .getfield 142, 22, [0, 14, 14, 1842]) := rfl
theorem k232_22 : mm_lk mm_m232.1 22 = some (22, .ifCond .eq 4, 25, [26]) := rfl
theorem k232_25 : mm_lk mm_m232.1 25 = some (25, .return_, 26, []) := rfl
theorem k232_26 : mm_lk mm_m232.1 26 = some (26, .aload_n 0, 27, []) := rfl
theorem k232_27 : mm_lk mm_m232.1 27 = some (27, .aload_n 0, 28, []) := rfl
theorem k232_28 : mm_lk mm_m232.1 28 = some (28, .getfield 132, 31, [0, 14, 12, 1840]) := rfl
theorem k232_31 : mm_lk mm_m232.1 31 = some (31, .aload_n 0, 32, []) := rfl
theorem k232_32 : mm_lk mm_m232.1 32 = some (32, .getfield 135, 35, [0, 14, 13, 1841]) := rfl
theorem k232_35 : mm_lk mm_m232.1 35 = some (35, .iadd, 36, []) := rfl
theorem k232_36 : mm_lk mm_m232.1 36 = some (36, .putfield 126, 39, [0, 14, 11, 1839]) := rfl
theorem k232_39 : mm_lk mm_m232.1 39 = some (39, .aload_n 0, 40, []) := rfl
theorem k232_40 : mm_lk mm_m232.1 40 = some (40, .aload_n 0, 41, []) := rfl
theorem k232_41 : mm_lk mm_m232.1 41 = some (41, .iconst 1, 42, []) := rfl
theorem k232_42 : mm_lk mm_m232.1 42 = some (42, .invokevirtual 195, 45, [0, 211, 2, 14, 1985, 1987, 55, 151]) := rfl
theorem k232_45 : mm_lk mm_m232.1 45 = some (45, .iconst (-1), 46, []) := rfl
theorem k232_46 : mm_lk mm_m232.1 46 = some (46, .if_icmp .ne 7, 49, [53]) := rfl
theorem k232_49 : mm_lk mm_m232.1 49 = some (49, .iconst 1, 50, []) := rfl
theorem k232_50 : mm_lk mm_m232.1 50 = some (50, .goto 4, 53, [54]) := rfl
theorem k232_53 : mm_lk mm_m232.1 53 = some (53, .iconst 0, 54, []) := rfl
theorem k232_54 : mm_lk mm_m232.1 54 = some (54, .iconst 2, 55, []) := rfl
theorem k232_55 : mm_lk mm_m232.1 55 = some (55, .invokevirtual 166, 58, [0, 204, 3, 14, 1977, 1979, 53, 151]) := rfl
theorem k232_58 : mm_lk mm_m232.1 58 = some (58, .aload_n 0, 59, []) := rfl
theorem k232_59 : mm_lk mm_m232.1 59 = some (59, .getfield 142, 62, [0, 14, 14, 1842]) := rfl
theorem k232_62 : mm_lk mm_m232.1 62 = some (62, .ifCond .eq 4, 65, [66]) := rfl
theorem k232_65 : mm_lk mm_m232.1 65 = some (65, .return_, 66, []) := rfl
theorem k232_66 : mm_lk mm_m232.1 66 = some (66, .aload_n 0, 67, []) := rfl
theorem k232_67 : mm_lk mm_m232.1 67 = some (67, .bipush 115, 69, []) := rfl
theorem k232_69 : mm_lk mm_m232.1 69 = some (69, .bipush 7, 71, []) := rfl
theorem k232_71 : mm_lk mm_m232.1 71 = some (71, .aload_n 0, 72, []) := rfl
theorem k232_72 : mm_lk mm_m232.1 72 = some (72, .invokevirtual 63, 75, [0, 179, 1, 14, 1821, 1823, 44, 151]) := rfl
theorem k232_75 : mm_lk mm_m232.1 75 = some (75, .imul, 76, []) := rfl
theorem k232_76 : mm_lk mm_m232.1 76 = some (76, .iadd, 77, []) := rfl
theorem k232_77 : mm_lk mm_m232.1 77 = some (77, .invokevirtual 255, 80, [0, 213, 2, 14, 2010, 2012, 59, 151]) := rfl
theorem k232_80 : mm_lk mm_m232.1 80 = some (80, .aload_n 0, 81, []) := rfl
theorem k232_81 : mm_lk mm_m232.1 81 = some (81, .getfield 7, 84, [0, 14, 0, 1828]) := rfl
theorem k232_84 : mm_lk mm_m232.1 84 = some (84, .sipush 150, 87, []) := rfl
theorem k232_87 : mm_lk mm_m232.1 87 = some (87, .aload_n 0, 88, []) := rfl
theorem k232_88 : mm_lk mm_m232.1 88 = some (88, .invokevirtual 63, 91, [0, 179, 1, 14, 1821, 1823, 44, 151]) := rfl
theorem k232_91 : mm_lk mm_m232.1 91 = some (91, .iadd, 92, []) := rfl
theorem k232_92 : mm_lk mm_m232.1 92 = some (92, .aload_n 0, 93, []) := rfl
theorem k232_93 : mm_lk mm_m232.1 93 = some (93, .invokevirtual 265, 96, [0, 231, 1, 14, 2134, 2136, 88, 151]) := rfl
theorem k232_96 : mm_lk mm_m232.1 96 = some (96, .iastore, 97, []) := rfl
theorem k232_97 : mm_lk mm_m232.1 97 = some (97, .aload_n 0, 98, []) := rfl
theorem k232_98 : mm_lk mm_m232.1 98 = some (98, .getfield 7, 101, [0, 14, 0, 1828]) := rfl
theorem k232_101 : mm_lk mm_m232.1 101 = some (101, .iconst 1, 102, []) := rfl
theorem k232_102 : mm_lk mm_m232.1 102 = some (102, .dup2, 103, []) := rfl
theorem k232_103 : mm_lk mm_m232.1 103 = some (103, .iaload, 104, []) := rfl
theorem k232_104 : mm_lk mm_m232.1 104 = some (104, .iconst 1, 105, []) := rfl
theorem k232_105 : mm_lk mm_m232.1 105 = some (105, .iadd, 106, []) := rfl
theorem k232_106 : mm_lk mm_m232.1 106 = some (106, .iastore, 107, []) := rfl
theorem k232_107 : mm_lk mm_m232.1 107 = some (107, .return_, 108, []) := rfl
theorem k233_0 : mm_lk mm_m233.1 0 = some (0, .aload_n 0, 1, []) := rfl
theorem k233_1 : mm_lk mm_m233.1 1 = some (1, .aload_n 0, 2, []) := rfl
theorem k233_2 : mm_lk mm_m233.1 2 = some (2, .getfield 132, 5, [0, 14, 12, 1840]) := rfl
theorem k233_5 : mm_lk mm_m233.1 5 = some (5, .aload_n 0, 6, []) := rfl
theorem k233_6 : mm_lk mm_m233.1 6 = some (6, .getfield 135, 9, [0, 14, 13, 1841]) := rfl
theorem k233_9 : mm_lk mm_m233.1 9 = some (9, .iadd, 10, []) := rfl
theorem k233_10 : mm_lk mm_m233.1 10 = some (10, .putfield 126, 13, [0, 14, 11, 1839]) := rfl
theorem k233_13 : mm_lk mm_m233.1 13 = some (13, .aload_n 0, 14, []) := rfl
theorem k233_14 : mm_lk mm_m233.1 14 = some (14, .invokevirtual 265, 17, [0, 231, 1, 14, 2134, 2136, 88, 151]) := rfl
theorem k233_17 : mm_lk mm_m233.1 17 = some (17, .istore_n 2, 18, []) := rfl
theorem k233_18 : mm_lk mm_m233.1 18 = some (18, .aload_n 0, 19, []) := rfl
theorem k233_19 : mm_lk mm_m233.1 19 = some (19, .getfield 142, 22, [0, 14, 14, 1842]) := rfl
theorem k233_22 : mm_lk mm_m233.1 22 = some (22, .ifCond .eq 4, 25, [26]) := rfl
theorem k233_25 : mm_lk mm_m233.1 25 = some (25, .return_, 26, []) := rfl
theorem k233_26 : mm_lk mm_m233.1 26 = some (26, .aload_n 0, 27, []) := rfl
theorem k233_27 : mm_lk mm_m233.1 27 = some (27, .iload_n 1, 28, []) := rfl
theorem k233_28 : mm_lk mm_m233.1 28 = some (28, .putfield 132, 31, [0, 14, 12, 1840]) := rfl
theorem k233_31 : mm_lk mm_m233.1 31 = some (31, .aload_n 0, 32, []) := rfl
theorem k233_32 : mm_lk mm_m233.1 32 = some (32, .aload_n 0, 33, []) := rfl
theorem k233_33 : mm_lk mm_m233.1 33 = some (33, .iload_n 2, 34, []) := rfl
theorem k233_34 : mm_lk mm_m233.1 34 = some (34, .invokevirtual 70, 37, [0, 185, 2, 14, 2101, 2103, 80, 151]) := rfl
theorem k233_37 : mm_lk mm_m233.1 37 = some (37, .iconst 4, 38, []) := rfl
theorem k233_38 : mm_lk mm_m233.1 38 = some (38, .invokevirtual 166, 41, [0, 204, 3, 14, 1977, 1979, 53, 151]) := rfl
theorem k233_41 : mm_lk mm_m233.1 41 = some (41, .aload_n 0, 42, []) := rfl
theorem k233_42 : mm_lk mm_m233.1 42 = some (42, .getfield 7, 45, [0, 14, 0, 1828]) := rfl
theorem k233_45 : mm_lk mm_m233.1 45 = some (45, .iconst 4, 46, []) := rfl
theorem k233_46 : mm_lk mm_m233.1 46 = some (46, .iload_n 2, 47, []) := rfl
theorem k233_47 : mm_lk mm_m233.1 47 = some (47, .iastore, 48, []) := rfl
theorem k233_48 : mm_lk mm_m233.1 48 = some (48, .return_, 49, []) := rfl
theorem k235_0 : mm_lk mm_m235.1 0 = some (0, .aload_n 0, 1, []) := rfl
theorem k235_1 : mm_lk mm_m235.1 1 = some (1, .bipush 59, 3, []) := rfl
theorem k235_3 : mm_lk mm_m235.1 3 = some (3, .invokevirtual 229, 6, [0, 207, 2, 14, 2027, 2029, 63, 151]) := rfl
theorem k235_6 : mm_lk mm_m235.1 6 = some (6, .aload_n 0, 7, []) := rfl
theorem k235_7 : mm_lk mm_m235.1 7 = some (7, .getfield 142, 10, [0, 14, 14, 1842]) := rfl
theorem k235_10 : mm_lk mm_m235.1 10 = some (10, .ifCond .ne 15, 13, [25]) := rfl
theorem k235_13 : mm_lk mm_m235.1 13 = some (13, .aload_n 0, 14, []) := rfl
theorem k235_14 : mm_lk mm_m235.1 14 = some (14, .aload_n 1, 15, []) := rfl
theorem k235_15 : mm_lk mm_m235.1 15 = some (15, .invokevirtual 162, 18, [0, 205, 2, 14, 1961, 1963, 50, 151]) := rfl
theorem k235_18 : mm_lk mm_m235.1 18 = some (18, .ifCond .eq 7, 21, [25]) := rfl
theorem k235_21 : mm_lk mm_m235.1 21 = some (21, .iconst 1, 22, []) := rfl
theorem k235_22 : mm_lk mm_m235.1 22 = some (22, .goto 4, 25, [26]) := rfl
theorem k235_25 : mm_lk mm_m235.1 25 = some (25, .iconst 0, 26, []) := rfl
theorem k235_26 : mm_lk mm_m235.1 26 = some (26, .ireturn, 27, []) := rfl
