/-! ===== code, row by row (by program) ===== -/
/-- java/lang/AbstractStringBuilder.length()I -/
def mm_m343 : mm_M := (mm_c343, 1, 1, [])
set_option maxRecDepth 20000 in
theorem P343 : mm_P 343 = some mm_m343 := rfl
/-- java/lang/AbstractStringBuilder.append(C)Ljava/lang/AbstractStringBuilder; -/
def mm_m351 : mm_M := (mm_c351, 2, 5, [])
set_option maxRecDepth 20000 in
theorem P351 : mm_P 351 = some mm_m351 := rfl
/-- java/lang/StringBuilder.append(C)Ljava/lang/StringBuilder; -/
def mm_m373 : mm_M := (mm_c373, 2, 5, [])
set_option maxRecDepth 20000 in
theorem P373 : mm_P 373 = some mm_m373 := rfl
/-- java/lang/StringBuilder.length()I -/
def mm_m378 : mm_M := (mm_c378, 1, 1, [])
set_option maxRecDepth 20000 in
theorem P378 : mm_P 378 = some mm_m378 := rfl
/-- java/lang/StringLatin1.canEncode(C)Z -/
def mm_m381 : mm_M := (mm_c381, 1, 2, [])
set_option maxRecDepth 20000 in
theorem P381 : mm_P 381 = some mm_m381 := rfl
theorem k343_0 : mm_lk mm_m343.1 0 = some (0, .aload_n 0, 1, []) := rfl
theorem k343_1 : mm_lk mm_m343.1 1 = some (1, .getfield 79, 4, [0, 1, 3, 382]) := rfl
theorem k343_4 : mm_lk mm_m343.1 4 = some (4, .ireturn, 5, []) := rfl
theorem k351_0 : mm_lk mm_m351.1 0 = some (0, .aload_n 0, 1, []) := rfl
theorem k351_1 : mm_lk mm_m351.1 1 = some (1, .aload_n 0, 2, []) := rfl
theorem k351_2 : mm_lk mm_m351.1 2 = some (2, .getfield 79, 5, [0, 1, 3, 382]) := rfl
theorem k351_5 : mm_lk mm_m351.1 5 = some (5, .iconst 1, 6, []) := rfl
theorem k351_6 : mm_lk mm_m351.1 6 = some (6, .iadd, 7, []) := rfl
theorem k351_7 : mm_lk mm_m351.1 7 = some (7, .invokevirtual 100, 10, [3, 344, 2, 1, 1084, 2503, 1, 1086, 140, 1, 2]) := rfl
theorem k351_10 : mm_lk mm_m351.1 10 = some (10, .aload_n 0, 11, []) := rfl
theorem k351_11 : mm_lk mm_m351.1 11 = some (11, .invokevirtual 83, 14, [3, 354, 1, 1, 1113, 1115, 1116, 1114, 140, 1, 2]) := rfl
theorem k351_14 : mm_lk mm_m351.1 14 = some (14, .ifCond .eq 31, 17, [45]) := rfl
theorem k351_17 : mm_lk mm_m351.1 17 = some (17, .iload_n 1, 18, []) := rfl
theorem k351_18 : mm_lk mm_m351.1 18 = some (18, .invokestatic 191, 21, [1, 381, 1, 1403, 1404, 145]) := rfl
theorem k351_21 : mm_lk mm_m351.1 21 = some (21, .ifCond .eq 24, 24, [45]) := rfl
theorem k351_24 : mm_lk mm_m351.1 24 = some (24, .aload_n 0, 25, []) := rfl
theorem k351_25 : mm_lk mm_m351.1 25 = some (25, .getfield 15, 28, [0, 1, 0, 378]) := rfl
theorem k351_28 : mm_lk mm_m351.1 28 = some (28, .aload_n 0, 29, []) := rfl
theorem k351_29 : mm_lk mm_m351.1 29 = some (29, .dup, 30, []) := rfl
theorem k351_30 : mm_lk mm_m351.1 30 = some (30, .getfield 79, 33, [0, 1, 3, 382]) := rfl
theorem k351_33 : mm_lk mm_m351.1 33 = some (33, .dup_x1, 34, []) := rfl
theorem k351_34 : mm_lk mm_m351.1 34 = some (34, .iconst 1, 35, []) := rfl
theorem k351_35 : mm_lk mm_m351.1 35 = some (35, .iadd, 36, []) := rfl
theorem k351_36 : mm_lk mm_m351.1 36 = some (36, .putfield 79, 39, [0, 1, 3, 382]) := rfl
theorem k351_39 : mm_lk mm_m351.1 39 = some (39, .iload_n 1, 40, []) := rfl
theorem k351_40 : mm_lk mm_m351.1 40 = some (40, .i2b, 41, []) := rfl
theorem k351_41 : mm_lk mm_m351.1 41 = some (41, .bastore, 42, []) := rfl
theorem k351_42 : mm_lk mm_m351.1 42 = some (42, .goto 33, 45, [75]) := rfl
theorem k351_75 : mm_lk mm_m351.1 75 = some (75, .aload_n 0, 76, []) := rfl
theorem k351_76 : mm_lk mm_m351.1 76 = some (76, .areturn, 77, []) := rfl
theorem k373_0 : mm_lk mm_m373.1 0 = some (0, .aload_n 0, 1, []) := rfl
theorem k373_1 : mm_lk mm_m373.1 1 = some (1, .iload_n 1, 2, []) := rfl
theorem k373_2 : mm_lk mm_m373.1 2 = some (2, .invokespecial 50, 5, [4, 351, 2, 1, 1400, 2510, 391, 1401, 140]) := rfl
theorem k373_5 : mm_lk mm_m373.1 5 = some (5, .pop, 6, []) := rfl
theorem k373_6 : mm_lk mm_m373.1 6 = some (6, .aload_n 0, 7, []) := rfl
theorem k373_7 : mm_lk mm_m373.1 7 = some (7, .areturn, 8, []) := rfl
theorem k378_0 : mm_lk mm_m378.1 0 = some (0, .aload_n 0, 1, []) := rfl
theorem k378_1 : mm_lk mm_m378.1 1 = some (1, .invokespecial 343, 4, [4, 343, 1, 1, 1217, 1213, 391, 1212, 140]) := rfl
theorem k378_4 : mm_lk mm_m378.1 4 = some (4, .ireturn, 5, []) := rfl
theorem k381_0 : mm_lk mm_m381.1 0 = some (0, .iload_n 0, 1, []) := rfl
theorem k381_1 : mm_lk mm_m381.1 1 = some (1, .sipush 255, 4, []) := rfl
theorem k381_4 : mm_lk mm_m381.1 4 = some (4, .if_icmp .gt 7, 7, [11]) := rfl
theorem k381_7 : mm_lk mm_m381.1 7 = some (7, .iconst 1, 8, []) := rfl
theorem k381_8 : mm_lk mm_m381.1 8 = some (8, .goto 4, 11, [12]) := rfl
theorem k381_12 : mm_lk mm_m381.1 12 = some (12, .ireturn, 13, []) := rfl
