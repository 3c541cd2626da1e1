/-! ===== code, row by row (by program) ===== -/
/-- java/lang/AbstractStringBuilder.append(Ljava/lang/String;)Ljava/lang/AbstractStringBuilder; -/
def mm_m349 : mm_M := (mm_c349, 3, 5, [])
set_option maxRecDepth 20000 in
theorem P349 : mm_P 349 = some mm_m349 := rfl
/-- java/lang/AbstractStringBuilder.inflateIfNeededFor(Ljava/lang/String;)V -/
def mm_m355 : mm_M := (mm_c355, 2, 0, [])
set_option maxRecDepth 20000 in
theorem P355 : mm_P 355 = some mm_m355 := rfl
/-- java/lang/AbstractStringBuilder.putStringAt(ILjava/lang/String;)V -/
def mm_m356 : mm_M := (mm_c356, 3, 0, [])
set_option maxRecDepth 20000 in
theorem P356 : mm_P 356 = some mm_m356 := rfl
/-- java/lang/String.getBytes([BIB)V -/
def mm_m364 : mm_M := (mm_c364, 4, 0, [])
set_option maxRecDepth 20000 in
theorem P364 : mm_P 364 = some mm_m364 := rfl
/-- java/lang/StringBuilder.append(Ljava/lang/String;)Ljava/lang/StringBuilder; -/
def mm_m372 : mm_M := (mm_c372, 2, 5, [])
set_option maxRecDepth 20000 in
theorem P372 : mm_P 372 = some mm_m372 := rfl
theorem k349_0 : mm_lk mm_m349.1 0 = some (0, .aload_n 1, 1, []) := rfl
theorem k349_1 : mm_lk mm_m349.1 1 = some (1, .ifnonnull 8, 4, [9]) := rfl
theorem k349_9 : mm_lk mm_m349.1 9 = some (9, .aload_n 1, 10, []) := rfl
theorem k349_10 : mm_lk mm_m349.1 10 = some (10, .invokevirtual 32, 13, [0, 362, 1, 0, 1133, 399, 400, 142]) := rfl
theorem k349_13 : mm_lk mm_m349.1 13 = some (13, .istore_n 2, 14, []) := rfl
theorem k349_14 : mm_lk mm_m349.1 14 = some (14, .aload_n 0, 15, []) := rfl
theorem k349_15 : mm_lk mm_m349.1 15 = some (15, .aload_n 0, 16, []) := rfl
theorem k349_16 : mm_lk mm_m349.1 16 = some (16, .getfield 79, 19, [0, 1, 3, 382]) := rfl
theorem k349_19 : mm_lk mm_m349.1 19 = some (19, .iload_n 2, 20, []) := rfl
theorem k349_20 : mm_lk mm_m349.1 20 = some (20, .iadd, 21, []) := rfl
theorem k349_21 : mm_lk mm_m349.1 21 = some (21, .invokevirtual 100, 24, [3, 344, 2, 1, 1084, 2503, 1, 1086, 140, 1, 2]) := rfl
theorem k349_24 : mm_lk mm_m349.1 24 = some (24, .aload_n 0, 25, []) := rfl
theorem k349_25 : mm_lk mm_m349.1 25 = some (25, .aload_n 0, 26, []) := rfl
theorem k349_26 : mm_lk mm_m349.1 26 = some (26, .getfield 79, 29, [0, 1, 3, 382]) := rfl
theorem k349_29 : mm_lk mm_m349.1 29 = some (29, .aload_n 1, 30, []) := rfl
theorem k349_30 : mm_lk mm_m349.1 30 = some (30, .invokevirtual 208, 33, [3, 356, 3, 1, 1134, 2505, 3, 1136, 140, 1, 2]) := rfl
theorem k349_33 : mm_lk mm_m349.1 33 = some (33, .aload_n 0, 34, []) := rfl
theorem k349_34 : mm_lk mm_m349.1 34 = some (34, .dup, 35, []) := rfl
theorem k349_35 : mm_lk mm_m349.1 35 = some (35, .getfield 79, 38, [0, 1, 3, 382]) := rfl
theorem k349_38 : mm_lk mm_m349.1 38 = some (38, .iload_n 2, 39, []) := rfl
theorem k349_39 : mm_lk mm_m349.1 39 = some (39, .iadd, 40, []) := rfl
theorem k349_40 : mm_lk mm_m349.1 40 = some (40, .putfield 79, 43, [0, 1, 3, 382]) := rfl
theorem k349_43 : mm_lk mm_m349.1 43 = some (43, .aload_n 0, 44, []) := rfl
theorem k349_44 : mm_lk mm_m349.1 44 = some (44, .areturn, 45, []) := rfl
theorem k355_0 : mm_lk mm_m355.1 0 = some (0, .getstatic 18, 3, [0, 0, 369]) := rfl
theorem k355_3 : mm_lk mm_m355.1 3 = some (3, .ifCond .eq 18, 6, [21]) := rfl
theorem k355_6 : mm_lk mm_m355.1 6 = some (6, .aload_n 0, 7, []) := rfl
theorem k355_7 : mm_lk mm_m355.1 7 = some (7, .getfield 22, 10, [0, 1, 1, 379]) := rfl
theorem k355_10 : mm_lk mm_m355.1 10 = some (10, .aload_n 1, 11, []) := rfl
theorem k355_11 : mm_lk mm_m355.1 11 = some (11, .invokevirtual 40, 14, [0, 366, 1, 0, 1142, 403, 404, 142]) := rfl
theorem k355_14 : mm_lk mm_m355.1 14 = some (14, .if_icmp .eq 7, 17, [21]) := rfl
theorem k355_21 : mm_lk mm_m355.1 21 = some (21, .return_, 22, []) := rfl
theorem k356_0 : mm_lk mm_m356.1 0 = some (0, .aload_n 0, 1, []) := rfl
theorem k356_1 : mm_lk mm_m356.1 1 = some (1, .aload_n 2, 2, []) := rfl
theorem k356_2 : mm_lk mm_m356.1 2 = some (2, .invokevirtual 397, 5, [3, 355, 2, 1, 1138, 2506, 4, 1140, 140, 1, 2]) := rfl
theorem k356_5 : mm_lk mm_m356.1 5 = some (5, .aload_n 2, 6, []) := rfl
theorem k356_6 : mm_lk mm_m356.1 6 = some (6, .aload_n 0, 7, []) := rfl
theorem k356_7 : mm_lk mm_m356.1 7 = some (7, .getfield 15, 10, [0, 1, 0, 378]) := rfl
theorem k356_10 : mm_lk mm_m356.1 10 = some (10, .iload_n 1, 11, []) := rfl
theorem k356_11 : mm_lk mm_m356.1 11 = some (11, .aload_n 0, 12, []) := rfl
theorem k356_12 : mm_lk mm_m356.1 12 = some (12, .getfield 22, 15, [0, 1, 1, 379]) := rfl
theorem k356_15 : mm_lk mm_m356.1 15 = some (15, .invokevirtual 399, 18, [0, 364, 4, 0, 1162, 1163, 1164, 142]) := rfl
theorem k356_18 : mm_lk mm_m356.1 18 = some (18, .return_, 19, []) := rfl
theorem k364_0 : mm_lk mm_m364.1 0 = some (0, .aload_n 0, 1, []) := rfl
theorem k364_1 : mm_lk mm_m364.1 1 = some (1, .invokevirtual 335, 4, [0, 366, 1, 0, 402, 403, 404, 142]) := rfl
theorem k364_4 : mm_lk mm_m364.1 4 = some (4, .iload_n 3, 5, []) := rfl
theorem k364_5 : mm_lk mm_m364.1 5 = some (5, .if_icmp .ne 23, 8, [28]) := rfl
theorem k364_8 : mm_lk mm_m364.1 8 = some (8, .aload_n 0, 9, []) := rfl
theorem k364_9 : mm_lk mm_m364.1 9 = some (9, .getfield 9, 12, [0, 0, 0, 1313]) := rfl
theorem k364_12 : mm_lk mm_m364.1 12 = some (12, .iconst 0, 13, []) := rfl
theorem k364_13 : mm_lk mm_m364.1 13 = some (13, .aload_n 1, 14, []) := rfl
theorem k364_14 : mm_lk mm_m364.1 14 = some (14, .iload_n 2, 15, []) := rfl
theorem k364_15 : mm_lk mm_m364.1 15 = some (15, .iload_n 3, 16, []) := rfl
theorem k364_16 : mm_lk mm_m364.1 16 = some (16, .ishl, 17, []) := rfl
theorem k364_17 : mm_lk mm_m364.1 17 = some (17, .aload_n 0, 18, []) := rfl
theorem k364_18 : mm_lk mm_m364.1 18 = some (18, .getfield 9, 21, [0, 0, 0, 1313]) := rfl
theorem k364_21 : mm_lk mm_m364.1 21 = some (21, .arraylength, 22, []) := rfl
theorem k364_22 : mm_lk mm_m364.1 22 = some (22, .invokestatic 212, 25, [10, 1166]) := rfl
theorem k364_25 : mm_lk mm_m364.1 25 = some (25, .goto 18, 28, [43]) := rfl
theorem k364_43 : mm_lk mm_m364.1 43 = some (43, .return_, 44, []) := rfl
theorem k372_0 : mm_lk mm_m372.1 0 = some (0, .aload_n 0, 1, []) := rfl
theorem k372_1 : mm_lk mm_m372.1 1 = some (1, .aload_n 1, 2, []) := rfl
theorem k372_2 : mm_lk mm_m372.1 2 = some (2, .invokespecial 29, 5, [4, 349, 2, 1, 1077, 2501, 391, 1078, 140]) := rfl
theorem k372_5 : mm_lk mm_m372.1 5 = some (5, .pop, 6, []) := rfl
theorem k372_6 : mm_lk mm_m372.1 6 = some (6, .aload_n 0, 7, []) := rfl
theorem k372_7 : mm_lk mm_m372.1 7 = some (7, .areturn, 8, []) := rfl
