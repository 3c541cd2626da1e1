/-! ===== code, row by row (by program) ===== -/
/-- WhoKnows$Names.<init>(I)V -/
def mm_m48 : mm_M := (mm_c48, 2, 0, [])
set_option maxRecDepth 20000 in
theorem P48 : mm_P 48 = some mm_m48 := rfl
/-- WhoKnows$Scene.<init>()V -/
def mm_m61 : mm_M := (mm_c61, 1, 0, [])
set_option maxRecDepth 20000 in
theorem P61 : mm_P 61 = some mm_m61 := rfl
theorem k48_0 : mm_lk mm_m48.1 0 = some (0, .aload_n 0, 1, []) := rfl
theorem k48_1 : mm_lk mm_m48.1 1 = some (1, .invokespecial 3, 4, [9, 466]) := rfl
theorem k48_4 : mm_lk mm_m48.1 4 = some (4, .aload_n 0, 5, []) := rfl
theorem k48_5 : mm_lk mm_m48.1 5 = some (5, .iload_n 1, 6, []) := rfl
theorem k48_6 : mm_lk mm_m48.1 6 = some (6, .iconst 0, 7, []) := rfl
theorem k48_7 : mm_lk mm_m48.1 7 = some (7, .invokestatic 9, 10, [11, 467]) := rfl
theorem k48_10 : mm_lk mm_m48.1 10 = some (10, .newarray .int, 12, [0]) := rfl
theorem k48_12 : mm_lk mm_m48.1 12 = some (12, .putfield 15, 15, [0, 7, 0, 470]) := rfl
theorem k48_15 : mm_lk mm_m48.1 15 = some (15, .return_, 16, []) := rfl
theorem k61_0 : mm_lk mm_m61.1 0 = some (0, .aload_n 0, 1, []) := rfl
theorem k61_1 : mm_lk mm_m61.1 1 = some (1, .invokespecial 3, 4, [9, 460]) := rfl
theorem k61_4 : mm_lk mm_m61.1 4 = some (4, .aload_n 0, 5, []) := rfl
theorem k61_5 : mm_lk mm_m61.1 5 = some (5, .new 9, 8, [0, 7, 461, 462, 148]) := rfl
theorem k61_8 : mm_lk mm_m61.1 8 = some (8, .dup, 9, []) := rfl
theorem k61_9 : mm_lk mm_m61.1 9 = some (9, .iconst 5, 10, []) := rfl
theorem k61_10 : mm_lk mm_m61.1 10 = some (10, .invokespecial 11, 13, [2, 48, 2, 463, 464, 148]) := rfl
theorem k61_13 : mm_lk mm_m61.1 13 = some (13, .putfield 14, 16, [0, 10, 0, 481]) := rfl
theorem k61_16 : mm_lk mm_m61.1 16 = some (16, .aload_n 0, 17, []) := rfl
theorem k61_17 : mm_lk mm_m61.1 17 = some (17, .new 9, 20, [0, 7, 461, 462, 148]) := rfl
theorem k61_20 : mm_lk mm_m61.1 20 = some (20, .dup, 21, []) := rfl
theorem k61_21 : mm_lk mm_m61.1 21 = some (21, .iconst 5, 22, []) := rfl
theorem k61_22 : mm_lk mm_m61.1 22 = some (22, .invokespecial 11, 25, [2, 48, 2, 463, 464, 148]) := rfl
theorem k61_25 : mm_lk mm_m61.1 25 = some (25, .putfield 20, 28, [0, 10, 1, 487]) := rfl
theorem k61_28 : mm_lk mm_m61.1 28 = some (28, .aload_n 0, 29, []) := rfl
theorem k61_29 : mm_lk mm_m61.1 29 = some (29, .iconst 5, 30, []) := rfl
theorem k61_30 : mm_lk mm_m61.1 30 = some (30, .newarray .int, 32, [0]) := rfl
theorem k61_32 : mm_lk mm_m61.1 32 = some (32, .putfield 23, 35, [0, 10, 2, 494]) := rfl
theorem k61_35 : mm_lk mm_m61.1 35 = some (35, .aload_n 0, 36, []) := rfl
theorem k61_36 : mm_lk mm_m61.1 36 = some (36, .iconst (-1), 37, []) := rfl
theorem k61_37 : mm_lk mm_m61.1 37 = some (37, .putfield 27, 40, [0, 10, 5, 503]) := rfl
theorem k61_40 : mm_lk mm_m61.1 40 = some (40, .return_, 41, []) := rfl
