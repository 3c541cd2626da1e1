/-! ===== code, row by row (by program) ===== -/
/-- java/lang/AbstractStringBuilder.setLength(I)V -/
def mm_m347 : mm_M := (mm_c347, 2, 0, [])
set_option maxRecDepth 20000 in
theorem P347 : mm_P 347 = some mm_m347 := rfl
/-- java/lang/StringBuilder.setLength(I)V -/
def mm_m377 : mm_M := (mm_c377, 2, 0, [])
set_option maxRecDepth 20000 in
theorem P377 : mm_P 377 = some mm_m377 := rfl
theorem k347_0 : mm_lk mm_m347.1 0 = some (0, .iload_n 1, 1, []) := rfl
theorem k347_1 : mm_lk mm_m347.1 1 = some (1, .ifCond .ge 12, 4, [13]) := rfl
theorem k347_13 : mm_lk mm_m347.1 13 = some (13, .aload_n 0, 14, []) := rfl
theorem k347_14 : mm_lk mm_m347.1 14 = some (14, .iload_n 1, 15, []) := rfl
theorem k347_15 : mm_lk mm_m347.1 15 = some (15, .invokevirtual 100, 18, [3, 344, 2, 1, 1084, 2503, 1, 1086, 140, 1, 2]) := rfl
theorem k347_18 : mm_lk mm_m347.1 18 = some (18, .aload_n 0, 19, []) := rfl
theorem k347_19 : mm_lk mm_m347.1 19 = some (19, .getfield 79, 22, [0, 1, 3, 382]) := rfl
theorem k347_22 : mm_lk mm_m347.1 22 = some (22, .iload_n 1, 23, []) := rfl
theorem k347_23 : mm_lk mm_m347.1 23 = some (23, .if_icmp .ge 40, 26, [63]) := rfl
theorem k347_63 : mm_lk mm_m347.1 63 = some (63, .aload_n 0, 64, []) := rfl
theorem k347_64 : mm_lk mm_m347.1 64 = some (64, .getfield 79, 67, [0, 1, 3, 382]) := rfl
theorem k347_67 : mm_lk mm_m347.1 67 = some (67, .iload_n 1, 68, []) := rfl
theorem k347_68 : mm_lk mm_m347.1 68 = some (68, .if_icmp .le 8, 71, [76]) := rfl
theorem k347_71 : mm_lk mm_m347.1 71 = some (71, .aload_n 0, 72, []) := rfl
theorem k347_72 : mm_lk mm_m347.1 72 = some (72, .iconst 1, 73, []) := rfl
theorem k347_73 : mm_lk mm_m347.1 73 = some (73, .putfield 73, 76, [0, 1, 2, 380]) := rfl
theorem k347_76 : mm_lk mm_m347.1 76 = some (76, .aload_n 0, 77, []) := rfl
theorem k347_77 : mm_lk mm_m347.1 77 = some (77, .iload_n 1, 78, []) := rfl
theorem k347_78 : mm_lk mm_m347.1 78 = some (78, .putfield 79, 81, [0, 1, 3, 382]) := rfl
theorem k347_81 : mm_lk mm_m347.1 81 = some (81, .return_, 82, []) := rfl
theorem k377_0 : mm_lk mm_m377.1 0 = some (0, .aload_n 0, 1, []) := rfl
theorem k377_1 : mm_lk mm_m377.1 1 = some (1, .iload_n 1, 2, []) := rfl
theorem k377_2 : mm_lk mm_m377.1 2 = some (2, .invokespecial 333, 5, [4, 347, 2, 1, 1062, 2500, 391, 1063, 140]) := rfl
theorem k377_5 : mm_lk mm_m377.1 5 = some (5, .return_, 6, []) := rfl
