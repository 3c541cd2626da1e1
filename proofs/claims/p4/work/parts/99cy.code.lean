/-! ===== code, row by row (by program) ===== -/
/-- java/lang/AbstractStringBuilder.append(I)Ljava/lang/AbstractStringBuilder; -/
def mm_m352 : mm_M := (mm_c352, 4, 5, [])
set_option maxRecDepth 20000 in
theorem P352 : mm_P 352 = some mm_m352 := rfl
/-- java/lang/Integer.getChars(II[B)I -/
def mm_m358 : mm_M := (mm_c358, 7, 1, [])
set_option maxRecDepth 20000 in
theorem P358 : mm_P 358 = some mm_m358 := rfl
/-- java/lang/Integer.stringSize(I)I -/
def mm_m359 : mm_M := (mm_c359, 4, 1, [])
set_option maxRecDepth 20000 in
theorem P359 : mm_P 359 = some mm_m359 := rfl
/-- java/lang/StringBuilder.append(I)Ljava/lang/StringBuilder; -/
def mm_m374 : mm_M := (mm_c374, 2, 5, [])
set_option maxRecDepth 20000 in
theorem P374 : mm_P 374 = some mm_m374 := rfl
theorem k352_0 : mm_lk mm_m352.1 0 = some (0, .aload_n 0, 1, []) := rfl
theorem k352_1 : mm_lk mm_m352.1 1 = some (1, .getfield 79, 4, [0, 1, 3, 382]) := rfl
theorem k352_4 : mm_lk mm_m352.1 4 = some (4, .istore_n 2, 5, []) := rfl
theorem k352_5 : mm_lk mm_m352.1 5 = some (5, .iload_n 2, 6, []) := rfl
theorem k352_6 : mm_lk mm_m352.1 6 = some (6, .iload_n 1, 7, []) := rfl
theorem k352_7 : mm_lk mm_m352.1 7 = some (7, .invokestatic 245, 10, [1, 359, 1, 1175, 1176, 157]) := rfl
theorem k352_10 : mm_lk mm_m352.1 10 = some (10, .iadd, 11, []) := rfl
theorem k352_11 : mm_lk mm_m352.1 11 = some (11, .istore_n 3, 12, []) := rfl
theorem k352_12 : mm_lk mm_m352.1 12 = some (12, .aload_n 0, 13, []) := rfl
theorem k352_13 : mm_lk mm_m352.1 13 = some (13, .iload_n 3, 14, []) := rfl
theorem k352_14 : mm_lk mm_m352.1 14 = some (14, .invokevirtual 100, 17, [3, 344, 2, 1, 1084, 2503, 1, 1086, 140, 1, 2]) := rfl
theorem k352_17 : mm_lk mm_m352.1 17 = some (17, .aload_n 0, 18, []) := rfl
theorem k352_18 : mm_lk mm_m352.1 18 = some (18, .invokevirtual 83, 21, [3, 354, 1, 1, 1113, 1115, 1116, 1114, 140, 1, 2]) := rfl
theorem k352_21 : mm_lk mm_m352.1 21 = some (21, .ifCond .eq 16, 24, [37]) := rfl
theorem k352_24 : mm_lk mm_m352.1 24 = some (24, .iload_n 1, 25, []) := rfl
theorem k352_25 : mm_lk mm_m352.1 25 = some (25, .iload_n 3, 26, []) := rfl
theorem k352_26 : mm_lk mm_m352.1 26 = some (26, .aload_n 0, 27, []) := rfl
theorem k352_27 : mm_lk mm_m352.1 27 = some (27, .getfield 15, 30, [0, 1, 0, 378]) := rfl
theorem k352_30 : mm_lk mm_m352.1 30 = some (30, .invokestatic 248, 33, [1, 358, 3, 1178, 1179, 157]) := rfl
theorem k352_33 : mm_lk mm_m352.1 33 = some (33, .pop, 34, []) := rfl
theorem k352_34 : mm_lk mm_m352.1 34 = some (34, .goto 14, 37, [48]) := rfl
theorem k352_48 : mm_lk mm_m352.1 48 = some (48, .aload_n 0, 49, []) := rfl
theorem k352_49 : mm_lk mm_m352.1 49 = some (49, .iload_n 3, 50, []) := rfl
theorem k352_50 : mm_lk mm_m352.1 50 = some (50, .putfield 79, 53, [0, 1, 3, 382]) := rfl
theorem k352_53 : mm_lk mm_m352.1 53 = some (53, .aload_n 0, 54, []) := rfl
theorem k352_54 : mm_lk mm_m352.1 54 = some (54, .areturn, 55, []) := rfl
theorem k358_0 : mm_lk mm_m358.1 0 = some (0, .iload_n 1, 1, []) := rfl
theorem k358_1 : mm_lk mm_m358.1 1 = some (1, .istore 5, 3, []) := rfl
theorem k358_3 : mm_lk mm_m358.1 3 = some (3, .iload_n 0, 4, []) := rfl
theorem k358_4 : mm_lk mm_m358.1 4 = some (4, .ifCond .ge 7, 7, [11]) := rfl
theorem k358_11 : mm_lk mm_m358.1 11 = some (11, .iconst 0, 12, []) := rfl
theorem k358_12 : mm_lk mm_m358.1 12 = some (12, .istore 6, 14, []) := rfl
theorem k358_14 : mm_lk mm_m358.1 14 = some (14, .iload 6, 16, []) := rfl
theorem k358_16 : mm_lk mm_m358.1 16 = some (16, .ifCond .ne 6, 19, [22]) := rfl
theorem k358_19 : mm_lk mm_m358.1 19 = some (19, .iload_n 0, 20, []) := rfl
theorem k358_20 : mm_lk mm_m358.1 20 = some (20, .ineg, 21, []) := rfl
theorem k358_21 : mm_lk mm_m358.1 21 = some (21, .istore_n 0, 22, []) := rfl
theorem k358_22 : mm_lk mm_m358.1 22 = some (22, .iload_n 0, 23, []) := rfl
theorem k358_23 : mm_lk mm_m358.1 23 = some (23, .bipush (-100), 25, []) := rfl
theorem k358_25 : mm_lk mm_m358.1 25 = some (25, .if_icmp .gt 47, 28, [72]) := rfl
theorem k358_72 : mm_lk mm_m358.1 72 = some (72, .aload_n 2, 73, []) := rfl
theorem k358_73 : mm_lk mm_m358.1 73 = some (73, .iinc 5 (-1), 76, []) := rfl
theorem k358_76 : mm_lk mm_m358.1 76 = some (76, .iload 5, 78, []) := rfl
theorem k358_78 : mm_lk mm_m358.1 78 = some (78, .getstatic 83, 81, [0, 6, 1181]) := rfl
theorem k358_81 : mm_lk mm_m358.1 81 = some (81, .iload_n 0, 82, []) := rfl
theorem k358_82 : mm_lk mm_m358.1 82 = some (82, .ineg, 83, []) := rfl
theorem k358_83 : mm_lk mm_m358.1 83 = some (83, .baload, 84, []) := rfl
theorem k358_84 : mm_lk mm_m358.1 84 = some (84, .bastore, 85, []) := rfl
theorem k358_85 : mm_lk mm_m358.1 85 = some (85, .iload_n 0, 86, []) := rfl
theorem k358_86 : mm_lk mm_m358.1 86 = some (86, .bipush (-9), 88, []) := rfl
theorem k358_88 : mm_lk mm_m358.1 88 = some (88, .if_icmp .ge 16, 91, [104]) := rfl
theorem k358_91 : mm_lk mm_m358.1 91 = some (91, .aload_n 2, 92, []) := rfl
theorem k358_92 : mm_lk mm_m358.1 92 = some (92, .iinc 5 (-1), 95, []) := rfl
theorem k358_95 : mm_lk mm_m358.1 95 = some (95, .iload 5, 97, []) := rfl
theorem k358_97 : mm_lk mm_m358.1 97 = some (97, .getstatic 87, 100, [0, 5, 1183]) := rfl
theorem k358_100 : mm_lk mm_m358.1 100 = some (100, .iload_n 0, 101, []) := rfl
theorem k358_101 : mm_lk mm_m358.1 101 = some (101, .ineg, 102, []) := rfl
theorem k358_102 : mm_lk mm_m358.1 102 = some (102, .baload, 103, []) := rfl
theorem k358_103 : mm_lk mm_m358.1 103 = some (103, .bastore, 104, []) := rfl
theorem k358_104 : mm_lk mm_m358.1 104 = some (104, .iload 6, 106, []) := rfl
theorem k358_106 : mm_lk mm_m358.1 106 = some (106, .ifCond .eq 12, 109, [118]) := rfl
theorem k358_118 : mm_lk mm_m358.1 118 = some (118, .iload 5, 120, []) := rfl
theorem k358_120 : mm_lk mm_m358.1 120 = some (120, .ireturn, 121, []) := rfl
theorem k359_0 : mm_lk mm_m359.1 0 = some (0, .iconst 1, 1, []) := rfl
theorem k359_1 : mm_lk mm_m359.1 1 = some (1, .istore_n 1, 2, []) := rfl
theorem k359_2 : mm_lk mm_m359.1 2 = some (2, .iload_n 0, 3, []) := rfl
theorem k359_3 : mm_lk mm_m359.1 3 = some (3, .ifCond .lt 8, 6, [11]) := rfl
theorem k359_6 : mm_lk mm_m359.1 6 = some (6, .iconst 0, 7, []) := rfl
theorem k359_7 : mm_lk mm_m359.1 7 = some (7, .istore_n 1, 8, []) := rfl
theorem k359_8 : mm_lk mm_m359.1 8 = some (8, .iload_n 0, 9, []) := rfl
theorem k359_9 : mm_lk mm_m359.1 9 = some (9, .ineg, 10, []) := rfl
theorem k359_10 : mm_lk mm_m359.1 10 = some (10, .istore_n 0, 11, []) := rfl
theorem k359_11 : mm_lk mm_m359.1 11 = some (11, .bipush (-10), 13, []) := rfl
theorem k359_13 : mm_lk mm_m359.1 13 = some (13, .istore_n 2, 14, []) := rfl
theorem k359_14 : mm_lk mm_m359.1 14 = some (14, .iconst 1, 15, []) := rfl
theorem k359_15 : mm_lk mm_m359.1 15 = some (15, .istore_n 3, 16, []) := rfl
theorem k359_16 : mm_lk mm_m359.1 16 = some (16, .iload_n 3, 17, []) := rfl
theorem k359_17 : mm_lk mm_m359.1 17 = some (17, .bipush 10, 19, []) := rfl
theorem k359_19 : mm_lk mm_m359.1 19 = some (19, .if_icmp .ge 23, 22, [42]) := rfl
theorem k359_22 : mm_lk mm_m359.1 22 = some (22, .iload_n 0, 23, []) := rfl
theorem k359_23 : mm_lk mm_m359.1 23 = some (23, .iload_n 2, 24, []) := rfl
theorem k359_24 : mm_lk mm_m359.1 24 = some (24, .if_icmp .le 7, 27, [31]) := rfl
theorem k359_27 : mm_lk mm_m359.1 27 = some (27, .iload_n 3, 28, []) := rfl
theorem k359_28 : mm_lk mm_m359.1 28 = some (28, .iload_n 1, 29, []) := rfl
theorem k359_29 : mm_lk mm_m359.1 29 = some (29, .iadd, 30, []) := rfl
theorem k359_30 : mm_lk mm_m359.1 30 = some (30, .ireturn, 31, []) := rfl
theorem k359_31 : mm_lk mm_m359.1 31 = some (31, .bipush 10, 33, []) := rfl
theorem k359_33 : mm_lk mm_m359.1 33 = some (33, .iload_n 2, 34, []) := rfl
theorem k359_34 : mm_lk mm_m359.1 34 = some (34, .imul, 35, []) := rfl
theorem k359_35 : mm_lk mm_m359.1 35 = some (35, .istore_n 2, 36, []) := rfl
theorem k359_36 : mm_lk mm_m359.1 36 = some (36, .iinc 3 1, 39, []) := rfl
theorem k359_39 : mm_lk mm_m359.1 39 = some (39, .goto (-23), 42, [16]) := rfl
theorem k374_0 : mm_lk mm_m374.1 0 = some (0, .aload_n 0, 1, []) := rfl
theorem k374_1 : mm_lk mm_m374.1 1 = some (1, .iload_n 1, 2, []) := rfl
theorem k374_2 : mm_lk mm_m374.1 2 = some (2, .invokespecial 53, 5, [4, 352, 2, 1, 1172, 2508, 391, 1173, 140]) := rfl
theorem k374_5 : mm_lk mm_m374.1 5 = some (5, .pop, 6, []) := rfl
theorem k374_6 : mm_lk mm_m374.1 6 = some (6, .aload_n 0, 7, []) := rfl
theorem k374_7 : mm_lk mm_m374.1 7 = some (7, .areturn, 8, []) := rfl
