/-! ===== code, row by row (by program) ===== -/
/-- java/lang/AbstractStringBuilder.ensureCapacityInternal(I)V -/
def mm_m344 : mm_M := (mm_c344, 3, 0, [])
set_option maxRecDepth 20000 in
theorem P344 : mm_P 344 = some mm_m344 := rfl
theorem k344_0 : mm_lk mm_m344.1 0 = some (0, .aload_n 0, 1, []) := rfl
theorem k344_1 : mm_lk mm_m344.1 1 = some (1, .getfield 15, 4, [0, 1, 0, 378]) := rfl
theorem k344_4 : mm_lk mm_m344.1 4 = some (4, .arraylength, 5, []) := rfl
theorem k344_5 : mm_lk mm_m344.1 5 = some (5, .aload_n 0, 6, []) := rfl
theorem k344_6 : mm_lk mm_m344.1 6 = some (6, .getfield 22, 9, [0, 1, 1, 379]) := rfl
theorem k344_9 : mm_lk mm_m344.1 9 = some (9, .ishr, 10, []) := rfl
theorem k344_10 : mm_lk mm_m344.1 10 = some (10, .istore_n 2, 11, []) := rfl
theorem k344_11 : mm_lk mm_m344.1 11 = some (11, .iload_n 1, 12, []) := rfl
theorem k344_12 : mm_lk mm_m344.1 12 = some (12, .iload_n 2, 13, []) := rfl
theorem k344_13 : mm_lk mm_m344.1 13 = some (13, .isub, 14, []) := rfl
theorem k344_14 : mm_lk mm_m344.1 14 = some (14, .ifCond .le 24, 17, [38]) := rfl
theorem k344_17 : mm_lk mm_m344.1 17 = some (17, .aload_n 0, 18, []) := rfl
theorem k344_18 : mm_lk mm_m344.1 18 = some (18, .aload_n 0, 19, []) := rfl
theorem k344_19 : mm_lk mm_m344.1 19 = some (19, .getfield 15, 22, [0, 1, 0, 378]) := rfl
theorem k344_22 : mm_lk mm_m344.1 22 = some (22, .aload_n 0, 23, []) := rfl
theorem k344_23 : mm_lk mm_m344.1 23 = some (23, .iload_n 1, 24, []) := rfl
theorem k344_24 : mm_lk mm_m344.1 24 = some (24, .invokevirtual 104, 27, [3, 345, 2, 1, 1088, 2504, 2, 1090, 140, 1, 2]) := rfl
theorem k344_27 : mm_lk mm_m344.1 27 = some (27, .aload_n 0, 28, []) := rfl
theorem k344_28 : mm_lk mm_m344.1 28 = some (28, .getfield 22, 31, [0, 1, 1, 379]) := rfl
theorem k344_31 : mm_lk mm_m344.1 31 = some (31, .ishl, 32, []) := rfl
theorem k344_32 : mm_lk mm_m344.1 32 = some (32, .invokestatic 108, 35, [1, 404, 2, 1101, 1102, 162]) := rfl
theorem k344_35 : mm_lk mm_m344.1 35 = some (35, .putfield 15, 38, [0, 1, 0, 378]) := rfl
theorem k344_38 : mm_lk mm_m344.1 38 = some (38, .return_, 39, []) := rfl
