/-! ===== code, row by row (by program) ===== -/
/-- WhoKnowsModel.byteAt(I)I -/
def mm_m201 : mm_M := (mm_c201, 2, 1, [])
set_option maxRecDepth 20000 in
theorem P201 : mm_P 201 = some mm_m201 := rfl
/-- WhoKnowsModel.next()I -/
def mm_m202 : mm_M := (mm_c202, 1, 1, [])
set_option maxRecDepth 20000 in
theorem P202 : mm_P 202 = some mm_m202 := rfl
/-- WhoKnowsModel.wrong(I)V -/
def mm_m203 : mm_M := (mm_c203, 2, 0, [])
set_option maxRecDepth 20000 in
theorem P203 : mm_P 203 = some mm_m203 := rfl
/-- WhoKnowsModel.must(ZI)V -/
def mm_m204 : mm_M := (mm_c204, 3, 0, [])
set_option maxRecDepth 20000 in
theorem P204 : mm_P 204 = some mm_m204 := rfl
/-- java/lang/String.length()I -/
def mm_m362 : mm_M := (mm_c362, 1, 1, [])
set_option maxRecDepth 20000 in
theorem P362 : mm_P 362 = some mm_m362 := rfl
/-- java/lang/String.charAt(I)C -/
def mm_m363 : mm_M := (mm_c363, 2, 3, [])
set_option maxRecDepth 20000 in
theorem P363 : mm_P 363 = some mm_m363 := rfl
/-- java/lang/String.coder()B -/
def mm_m366 : mm_M := (mm_c366, 1, 4, [])
set_option maxRecDepth 20000 in
theorem P366 : mm_P 366 = some mm_m366 := rfl
/-- java/lang/String.isLatin1()Z -/
def mm_m367 : mm_M := (mm_c367, 1, 2, [])
set_option maxRecDepth 20000 in
theorem P367 : mm_P 367 = some mm_m367 := rfl
/-- java/lang/String.checkIndex(II)V -/
def mm_m368 : mm_M := (mm_c368, 2, 0, [])
set_option maxRecDepth 20000 in
theorem P368 : mm_P 368 = some mm_m368 := rfl
/-- java/lang/StringLatin1.charAt([BI)C -/
def mm_m380 : mm_M := (mm_c380, 2, 3, [])
set_option maxRecDepth 20000 in
theorem P380 : mm_P 380 = some mm_m380 := rfl
/-- jdk/internal/util/Preconditions.checkIndex(IILjava/util/function/BiFunction;)I -/
def mm_m410 : mm_M := (mm_c410, 3, 1, [])
set_option maxRecDepth 20000 in
theorem P410 : mm_P 410 = some mm_m410 := rfl
theorem k201_0 : mm_lk mm_m201.1 0 = some (0, .iload_n 1, 1, []) := rfl
theorem k201_1 : mm_lk mm_m201.1 1 = some (1, .aload_n 0, 2, []) := rfl
theorem k201_2 : mm_lk mm_m201.1 2 = some (2, .getfield 116, 5, [0, 14, 10, 1838]) := rfl
theorem k201_5 : mm_lk mm_m201.1 5 = some (5, .if_icmp .ge 12, 8, [17]) := rfl
theorem k201_8 : mm_lk mm_m201.1 8 = some (8, .aload_n 0, 9, []) := rfl
theorem k201_9 : mm_lk mm_m201.1 9 = some (9, .getfield 28, 12, [0, 14, 9, 1837]) := rfl
theorem k201_12 : mm_lk mm_m201.1 12 = some (12, .iload_n 1, 13, []) := rfl
theorem k201_13 : mm_lk mm_m201.1 13 = some (13, .iaload, 14, []) := rfl
theorem k201_14 : mm_lk mm_m201.1 14 = some (14, .goto 4, 17, [18]) := rfl
theorem k201_17 : mm_lk mm_m201.1 17 = some (17, .iconst (-1), 18, []) := rfl
theorem k201_18 : mm_lk mm_m201.1 18 = some (18, .ireturn, 19, []) := rfl
theorem k202_0 : mm_lk mm_m202.1 0 = some (0, .aload_n 0, 1, []) := rfl
theorem k202_1 : mm_lk mm_m202.1 1 = some (1, .aload_n 0, 2, []) := rfl
theorem k202_2 : mm_lk mm_m202.1 2 = some (2, .getfield 126, 5, [0, 14, 11, 1839]) := rfl
theorem k202_5 : mm_lk mm_m202.1 5 = some (5, .invokevirtual 129, 8, [0, 201, 2, 14, 1969, 1971, 52, 151]) := rfl
theorem k202_8 : mm_lk mm_m202.1 8 = some (8, .bipush 32, 10, []) := rfl
theorem k202_10 : mm_lk mm_m202.1 10 = some (10, .if_icmp .ne 16, 13, [26]) := rfl
theorem k202_13 : mm_lk mm_m202.1 13 = some (13, .aload_n 0, 14, []) := rfl
theorem k202_14 : mm_lk mm_m202.1 14 = some (14, .dup, 15, []) := rfl
theorem k202_15 : mm_lk mm_m202.1 15 = some (15, .getfield 126, 18, [0, 14, 11, 1839]) := rfl
theorem k202_18 : mm_lk mm_m202.1 18 = some (18, .iconst 1, 19, []) := rfl
theorem k202_19 : mm_lk mm_m202.1 19 = some (19, .iadd, 20, []) := rfl
theorem k202_20 : mm_lk mm_m202.1 20 = some (20, .putfield 126, 23, [0, 14, 11, 1839]) := rfl
theorem k202_23 : mm_lk mm_m202.1 23 = some (23, .goto (-23), 26, [0]) := rfl
theorem k202_26 : mm_lk mm_m202.1 26 = some (26, .aload_n 0, 27, []) := rfl
theorem k202_27 : mm_lk mm_m202.1 27 = some (27, .aload_n 0, 28, []) := rfl
theorem k202_28 : mm_lk mm_m202.1 28 = some (28, .getfield 126, 31, [0, 14, 11, 1839]) := rfl
theorem k202_31 : mm_lk mm_m202.1 31 = some (31, .putfield 132, 34, [0, 14, 12, 1840]) := rfl
theorem k202_34 : mm_lk mm_m202.1 34 = some (34, .aload_n 0, 35, []) := rfl
theorem k202_35 : mm_lk mm_m202.1 35 = some (35, .iconst 0, 36, []) := rfl
theorem k202_36 : mm_lk mm_m202.1 36 = some (36, .putfield 135, 39, [0, 14, 13, 1841]) := rfl
theorem k202_39 : mm_lk mm_m202.1 39 = some (39, .aload_n 0, 40, []) := rfl
theorem k202_40 : mm_lk mm_m202.1 40 = some (40, .aload_n 0, 41, []) := rfl
theorem k202_41 : mm_lk mm_m202.1 41 = some (41, .getfield 132, 44, [0, 14, 12, 1840]) := rfl
theorem k202_44 : mm_lk mm_m202.1 44 = some (44, .aload_n 0, 45, []) := rfl
theorem k202_45 : mm_lk mm_m202.1 45 = some (45, .getfield 135, 48, [0, 14, 13, 1841]) := rfl
theorem k202_48 : mm_lk mm_m202.1 48 = some (48, .iadd, 49, []) := rfl
theorem k202_49 : mm_lk mm_m202.1 49 = some (49, .invokevirtual 129, 52, [0, 201, 2, 14, 1969, 1971, 52, 151]) := rfl
theorem k202_52 : mm_lk mm_m202.1 52 = some (52, .i2l, 53, []) := rfl
theorem k202_53 : mm_lk mm_m202.1 53 = some (53, .ldc2_w 138, 56, [97, 1973]) := rfl
theorem k202_56 : mm_lk mm_m202.1 56 = some (56, .ldc2_w 140, 59, [122, 1974]) := rfl
theorem k202_59 : mm_lk mm_m202.1 59 = some (59, .invokestatic 59, 62, [1, 171, 3, 1930, 1931, 151]) := rfl
theorem k202_62 : mm_lk mm_m202.1 62 = some (62, .ifCond .eq 16, 65, [78]) := rfl
theorem k202_65 : mm_lk mm_m202.1 65 = some (65, .aload_n 0, 66, []) := rfl
theorem k202_66 : mm_lk mm_m202.1 66 = some (66, .dup, 67, []) := rfl
theorem k202_67 : mm_lk mm_m202.1 67 = some (67, .getfield 135, 70, [0, 14, 13, 1841]) := rfl
theorem k202_70 : mm_lk mm_m202.1 70 = some (70, .iconst 1, 71, []) := rfl
theorem k202_71 : mm_lk mm_m202.1 71 = some (71, .iadd, 72, []) := rfl
theorem k202_72 : mm_lk mm_m202.1 72 = some (72, .putfield 135, 75, [0, 14, 13, 1841]) := rfl
theorem k202_75 : mm_lk mm_m202.1 75 = some (75, .goto (-36), 78, [39]) := rfl
theorem k202_78 : mm_lk mm_m202.1 78 = some (78, .aload_n 0, 79, []) := rfl
theorem k202_79 : mm_lk mm_m202.1 79 = some (79, .aload_n 0, 80, []) := rfl
theorem k202_80 : mm_lk mm_m202.1 80 = some (80, .getfield 126, 83, [0, 14, 11, 1839]) := rfl
theorem k202_83 : mm_lk mm_m202.1 83 = some (83, .invokevirtual 129, 86, [0, 201, 2, 14, 1969, 1971, 52, 151]) := rfl
theorem k202_86 : mm_lk mm_m202.1 86 = some (86, .ireturn, 87, []) := rfl
theorem k203_0 : mm_lk mm_m203.1 0 = some (0, .aload_n 0, 1, []) := rfl
theorem k203_1 : mm_lk mm_m203.1 1 = some (1, .getfield 142, 4, [0, 14, 14, 1842]) := rfl
theorem k203_4 : mm_lk mm_m203.1 4 = some (4, .ifCond .eq 4, 7, [8]) := rfl
theorem k203_7 : mm_lk mm_m203.1 7 = some (7, .return_, 8, []) := rfl
theorem k203_8 : mm_lk mm_m203.1 8 = some (8, .aload_n 0, 9, []) := rfl
theorem k203_9 : mm_lk mm_m203.1 9 = some (9, .iload_n 1, 10, []) := rfl
theorem k203_10 : mm_lk mm_m203.1 10 = some (10, .putfield 142, 13, [0, 14, 14, 1842]) := rfl
theorem k203_13 : mm_lk mm_m203.1 13 = some (13, .aload_n 0, 14, []) := rfl
theorem k203_14 : mm_lk mm_m203.1 14 = some (14, .aload_n 0, 15, []) := rfl
theorem k203_15 : mm_lk mm_m203.1 15 = some (15, .getfield 132, 18, [0, 14, 12, 1840]) := rfl
theorem k203_18 : mm_lk mm_m203.1 18 = some (18, .putfield 145, 21, [0, 14, 15, 1843]) := rfl
theorem k203_21 : mm_lk mm_m203.1 21 = some (21, .return_, 22, []) := rfl
theorem k204_0 : mm_lk mm_m204.1 0 = some (0, .iload_n 1, 1, []) := rfl
theorem k204_1 : mm_lk mm_m204.1 1 = some (1, .ifCond .ne 8, 4, [9]) := rfl
theorem k204_4 : mm_lk mm_m204.1 4 = some (4, .aload_n 0, 5, []) := rfl
theorem k204_5 : mm_lk mm_m204.1 5 = some (5, .iload_n 2, 6, []) := rfl
theorem k204_6 : mm_lk mm_m204.1 6 = some (6, .invokevirtual 148, 9, [0, 203, 2, 14, 1981, 1983, 54, 151]) := rfl
theorem k204_9 : mm_lk mm_m204.1 9 = some (9, .return_, 10, []) := rfl
theorem k362_0 : mm_lk mm_m362.1 0 = some (0, .aload_n 0, 1, []) := rfl
theorem k362_1 : mm_lk mm_m362.1 1 = some (1, .getfield 9, 4, [0, 0, 0, 1313]) := rfl
theorem k362_4 : mm_lk mm_m362.1 4 = some (4, .arraylength, 5, []) := rfl
theorem k362_5 : mm_lk mm_m362.1 5 = some (5, .aload_n 0, 6, []) := rfl
theorem k362_6 : mm_lk mm_m362.1 6 = some (6, .invokevirtual 335, 9, [0, 366, 1, 0, 402, 403, 404, 142]) := rfl
theorem k362_9 : mm_lk mm_m362.1 9 = some (9, .ishr, 10, []) := rfl
theorem k362_10 : mm_lk mm_m362.1 10 = some (10, .ireturn, 11, []) := rfl
theorem k363_0 : mm_lk mm_m363.1 0 = some (0, .aload_n 0, 1, []) := rfl
theorem k363_1 : mm_lk mm_m363.1 1 = some (1, .invokevirtual 492, 4, [0, 367, 1, 0, 414, 415, 416, 142]) := rfl
theorem k363_4 : mm_lk mm_m363.1 4 = some (4, .ifCond .eq 12, 7, [16]) := rfl
theorem k363_7 : mm_lk mm_m363.1 7 = some (7, .aload_n 0, 8, []) := rfl
theorem k363_8 : mm_lk mm_m363.1 8 = some (8, .getfield 9, 11, [0, 0, 0, 1313]) := rfl
theorem k363_11 : mm_lk mm_m363.1 11 = some (11, .iload_n 1, 12, []) := rfl
theorem k363_12 : mm_lk mm_m363.1 12 = some (12, .invokestatic 495, 15, [1, 380, 2, 418, 419, 145]) := rfl
theorem k363_15 : mm_lk mm_m363.1 15 = some (15, .ireturn, 16, []) := rfl
theorem k366_0 : mm_lk mm_m366.1 0 = some (0, .getstatic 38, 3, [0, 0, 406]) := rfl
theorem k366_3 : mm_lk mm_m366.1 3 = some (3, .ifCond .eq 10, 6, [13]) := rfl
theorem k366_6 : mm_lk mm_m366.1 6 = some (6, .aload_n 0, 7, []) := rfl
theorem k366_7 : mm_lk mm_m366.1 7 = some (7, .getfield 15, 10, [0, 0, 1, 1314]) := rfl
theorem k366_10 : mm_lk mm_m366.1 10 = some (10, .goto 4, 13, [14]) := rfl
theorem k366_14 : mm_lk mm_m366.1 14 = some (14, .ireturn, 15, []) := rfl
theorem k367_0 : mm_lk mm_m367.1 0 = some (0, .getstatic 38, 3, [0, 0, 406]) := rfl
theorem k367_3 : mm_lk mm_m367.1 3 = some (3, .ifCond .eq 14, 6, [17]) := rfl
theorem k367_6 : mm_lk mm_m367.1 6 = some (6, .aload_n 0, 7, []) := rfl
theorem k367_7 : mm_lk mm_m367.1 7 = some (7, .getfield 15, 10, [0, 0, 1, 1314]) := rfl
theorem k367_10 : mm_lk mm_m367.1 10 = some (10, .ifCond .ne 7, 13, [17]) := rfl
theorem k367_13 : mm_lk mm_m367.1 13 = some (13, .iconst 1, 14, []) := rfl
theorem k367_14 : mm_lk mm_m367.1 14 = some (14, .goto 4, 17, [18]) := rfl
theorem k367_18 : mm_lk mm_m367.1 18 = some (18, .ireturn, 19, []) := rfl
theorem k368_0 : mm_lk mm_m368.1 0 = some (0, .iload_n 0, 1, []) := rfl
theorem k368_1 : mm_lk mm_m368.1 1 = some (1, .iload_n 1, 2, []) := rfl
theorem k368_2 : mm_lk mm_m368.1 2 = some (2, .getstatic 1053, 5, [0, 7, 424]) := rfl
theorem k368_5 : mm_lk mm_m368.1 5 = some (5, .invokestatic 1059, 8, [1, 410, 3, 426, 427, 146]) := rfl
theorem k368_8 : mm_lk mm_m368.1 8 = some (8, .pop, 9, []) := rfl
theorem k368_9 : mm_lk mm_m368.1 9 = some (9, .return_, 10, []) := rfl
theorem k380_0 : mm_lk mm_m380.1 0 = some (0, .iload_n 1, 1, []) := rfl
theorem k380_1 : mm_lk mm_m380.1 1 = some (1, .aload_n 0, 2, []) := rfl
theorem k380_2 : mm_lk mm_m380.1 2 = some (2, .arraylength, 3, []) := rfl
theorem k380_3 : mm_lk mm_m380.1 3 = some (3, .invokestatic 9, 6, [1, 368, 2, 421, 422, 142]) := rfl
theorem k380_6 : mm_lk mm_m380.1 6 = some (6, .aload_n 0, 7, []) := rfl
theorem k380_7 : mm_lk mm_m380.1 7 = some (7, .iload_n 1, 8, []) := rfl
theorem k380_8 : mm_lk mm_m380.1 8 = some (8, .baload, 9, []) := rfl
theorem k380_9 : mm_lk mm_m380.1 9 = some (9, .sipush 255, 12, []) := rfl
theorem k380_12 : mm_lk mm_m380.1 12 = some (12, .iand, 13, []) := rfl
theorem k380_13 : mm_lk mm_m380.1 13 = some (13, .i2c, 14, []) := rfl
theorem k380_14 : mm_lk mm_m380.1 14 = some (14, .ireturn, 15, []) := rfl
theorem k410_0 : mm_lk mm_m410.1 0 = some (0, .iload_n 0, 1, []) := rfl
theorem k410_1 : mm_lk mm_m410.1 1 = some (1, .ifCond .lt 8, 4, [9]) := rfl
theorem k410_4 : mm_lk mm_m410.1 4 = some (4, .iload_n 0, 5, []) := rfl
theorem k410_5 : mm_lk mm_m410.1 5 = some (5, .iload_n 1, 6, []) := rfl
theorem k410_6 : mm_lk mm_m410.1 6 = some (6, .if_icmp .lt 10, 9, [16]) := rfl
theorem k410_16 : mm_lk mm_m410.1 16 = some (16, .iload_n 0, 17, []) := rfl
theorem k410_17 : mm_lk mm_m410.1 17 = some (17, .ireturn, 18, []) := rfl
