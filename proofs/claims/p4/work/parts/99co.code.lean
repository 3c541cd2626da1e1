/-! ===== code, row by row (by program) ===== -/
/-- java/lang/AbstractStringBuilder.newCapacity(I)I -/
def mm_m345 : mm_M := (mm_c345, 6, 1, [])
set_option maxRecDepth 20000 in
theorem P345 : mm_P 345 = some mm_m345 := rfl
/-- java/lang/AbstractStringBuilder.isLatin1()Z -/
def mm_m354 : mm_M := (mm_c354, 1, 2, [])
set_option maxRecDepth 20000 in
theorem P354 : mm_P 354 = some mm_m354 := rfl
/-- java/util/Arrays.copyOf([BI)[B -/
def mm_m404 : mm_M := (mm_c404, 3, 5, [])
set_option maxRecDepth 20000 in
theorem P404 : mm_P 404 = some mm_m404 := rfl
/-- jdk/internal/util/ArraysSupport.newLength(III)I -/
def mm_m408 : mm_M := (mm_c408, 4, 1, [])
set_option maxRecDepth 20000 in
theorem P408 : mm_P 408 = some mm_m408 := rfl
theorem k345_0 : mm_lk mm_m345.1 0 = some (0, .aload_n 0, 1, []) := rfl
theorem k345_1 : mm_lk mm_m345.1 1 = some (1, .getfield 15, 4, [0, 1, 0, 378]) := rfl
theorem k345_4 : mm_lk mm_m345.1 4 = some (4, .arraylength, 5, []) := rfl
theorem k345_5 : mm_lk mm_m345.1 5 = some (5, .istore_n 2, 6, []) := rfl
theorem k345_6 : mm_lk mm_m345.1 6 = some (6, .iload_n 1, 7, []) := rfl
theorem k345_7 : mm_lk mm_m345.1 7 = some (7, .aload_n 0, 8, []) := rfl
theorem k345_8 : mm_lk mm_m345.1 8 = some (8, .getfield 22, 11, [0, 1, 1, 379]) := rfl
theorem k345_11 : mm_lk mm_m345.1 11 = some (11, .ishl, 12, []) := rfl
theorem k345_12 : mm_lk mm_m345.1 12 = some (12, .istore_n 3, 13, []) := rfl
theorem k345_13 : mm_lk mm_m345.1 13 = some (13, .iload_n 3, 14, []) := rfl
theorem k345_14 : mm_lk mm_m345.1 14 = some (14, .iload_n 2, 15, []) := rfl
theorem k345_15 : mm_lk mm_m345.1 15 = some (15, .isub, 16, []) := rfl
theorem k345_16 : mm_lk mm_m345.1 16 = some (16, .istore 4, 18, []) := rfl
theorem k345_18 : mm_lk mm_m345.1 18 = some (18, .iload_n 2, 19, []) := rfl
theorem k345_19 : mm_lk mm_m345.1 19 = some (19, .iload 4, 21, []) := rfl
theorem k345_21 : mm_lk mm_m345.1 21 = some (21, .iload_n 2, 22, []) := rfl
theorem k345_22 : mm_lk mm_m345.1 22 = some (22, .iconst 2, 23, []) := rfl
theorem k345_23 : mm_lk mm_m345.1 23 = some (23, .aload_n 0, 24, []) := rfl
theorem k345_24 : mm_lk mm_m345.1 24 = some (24, .getfield 22, 27, [0, 1, 1, 379]) := rfl
theorem k345_27 : mm_lk mm_m345.1 27 = some (27, .ishl, 28, []) := rfl
theorem k345_28 : mm_lk mm_m345.1 28 = some (28, .iadd, 29, []) := rfl
theorem k345_29 : mm_lk mm_m345.1 29 = some (29, .invokestatic 114, 32, [1, 408, 3, 1092, 1093, 161]) := rfl
theorem k345_32 : mm_lk mm_m345.1 32 = some (32, .istore 5, 34, []) := rfl
theorem k345_34 : mm_lk mm_m345.1 34 = some (34, .iload 5, 36, []) := rfl
theorem k345_36 : mm_lk mm_m345.1 36 = some (36, .ldc 39, 38, [0, 2147483647, 1100]) := rfl
theorem k345_38 : mm_lk mm_m345.1 38 = some (38, .if_icmp .ne 13, 41, [51]) := rfl
theorem k345_51 : mm_lk mm_m345.1 51 = some (51, .iload 5, 53, []) := rfl
theorem k345_53 : mm_lk mm_m345.1 53 = some (53, .aload_n 0, 54, []) := rfl
theorem k345_54 : mm_lk mm_m345.1 54 = some (54, .getfield 22, 57, [0, 1, 1, 379]) := rfl
theorem k345_57 : mm_lk mm_m345.1 57 = some (57, .ishr, 58, []) := rfl
theorem k345_58 : mm_lk mm_m345.1 58 = some (58, .ireturn, 59, []) := rfl
theorem k354_0 : mm_lk mm_m354.1 0 = some (0, .getstatic 18, 3, [0, 0, 369]) := rfl
theorem k354_3 : mm_lk mm_m354.1 3 = some (3, .ifCond .eq 14, 6, [17]) := rfl
theorem k354_6 : mm_lk mm_m354.1 6 = some (6, .aload_n 0, 7, []) := rfl
theorem k354_7 : mm_lk mm_m354.1 7 = some (7, .getfield 22, 10, [0, 1, 1, 379]) := rfl
theorem k354_10 : mm_lk mm_m354.1 10 = some (10, .ifCond .ne 7, 13, [17]) := rfl
theorem k354_13 : mm_lk mm_m354.1 13 = some (13, .iconst 1, 14, []) := rfl
theorem k354_14 : mm_lk mm_m354.1 14 = some (14, .goto 4, 17, [18]) := rfl
theorem k354_18 : mm_lk mm_m354.1 18 = some (18, .ireturn, 19, []) := rfl
theorem k404_0 : mm_lk mm_m404.1 0 = some (0, .iload_n 1, 1, []) := rfl
theorem k404_1 : mm_lk mm_m404.1 1 = some (1, .aload_n 0, 2, []) := rfl
theorem k404_2 : mm_lk mm_m404.1 2 = some (2, .arraylength, 3, []) := rfl
theorem k404_3 : mm_lk mm_m404.1 3 = some (3, .if_icmp .ne 11, 6, [14]) := rfl
theorem k404_14 : mm_lk mm_m404.1 14 = some (14, .iload_n 1, 15, []) := rfl
theorem k404_15 : mm_lk mm_m404.1 15 = some (15, .newarray .byte, 17, [2]) := rfl
theorem k404_17 : mm_lk mm_m404.1 17 = some (17, .astore_n 2, 18, []) := rfl
theorem k404_18 : mm_lk mm_m404.1 18 = some (18, .aload_n 0, 19, []) := rfl
theorem k404_19 : mm_lk mm_m404.1 19 = some (19, .iconst 0, 20, []) := rfl
theorem k404_20 : mm_lk mm_m404.1 20 = some (20, .aload_n 2, 21, []) := rfl
theorem k404_21 : mm_lk mm_m404.1 21 = some (21, .iconst 0, 22, []) := rfl
theorem k404_22 : mm_lk mm_m404.1 22 = some (22, .aload_n 0, 23, []) := rfl
theorem k404_23 : mm_lk mm_m404.1 23 = some (23, .arraylength, 24, []) := rfl
theorem k404_24 : mm_lk mm_m404.1 24 = some (24, .iload_n 1, 25, []) := rfl
theorem k404_25 : mm_lk mm_m404.1 25 = some (25, .invokestatic 304, 28, [12, 1111]) := rfl
theorem k404_28 : mm_lk mm_m404.1 28 = some (28, .invokestatic 150, 31, [10, 1112]) := rfl
theorem k404_31 : mm_lk mm_m404.1 31 = some (31, .aload_n 2, 32, []) := rfl
theorem k404_32 : mm_lk mm_m404.1 32 = some (32, .areturn, 33, []) := rfl
theorem k408_0 : mm_lk mm_m408.1 0 = some (0, .iload_n 0, 1, []) := rfl
theorem k408_1 : mm_lk mm_m408.1 1 = some (1, .iload_n 1, 2, []) := rfl
theorem k408_2 : mm_lk mm_m408.1 2 = some (2, .iload_n 2, 3, []) := rfl
theorem k408_3 : mm_lk mm_m408.1 3 = some (3, .invokestatic 194, 6, [11, 1095]) := rfl
theorem k408_6 : mm_lk mm_m408.1 6 = some (6, .iadd, 7, []) := rfl
theorem k408_7 : mm_lk mm_m408.1 7 = some (7, .istore_n 3, 8, []) := rfl
theorem k408_8 : mm_lk mm_m408.1 8 = some (8, .iconst 0, 9, []) := rfl
theorem k408_9 : mm_lk mm_m408.1 9 = some (9, .iload_n 3, 10, []) := rfl
theorem k408_10 : mm_lk mm_m408.1 10 = some (10, .if_icmp .ge 11, 13, [21]) := rfl
theorem k408_13 : mm_lk mm_m408.1 13 = some (13, .iload_n 3, 14, []) := rfl
theorem k408_14 : mm_lk mm_m408.1 14 = some (14, .ldc 200, 16, [0, 2147483639, 1096]) := rfl
theorem k408_16 : mm_lk mm_m408.1 16 = some (16, .if_icmp .gt 5, 19, [21]) := rfl
theorem k408_19 : mm_lk mm_m408.1 19 = some (19, .iload_n 3, 20, []) := rfl
theorem k408_20 : mm_lk mm_m408.1 20 = some (20, .ireturn, 21, []) := rfl
