/-! ===== code, row by row (by program) ===== -/
/-- WhoKnowsModel.worlds()I -/
def mm_m259 : mm_M := (mm_c259, 1, 1, [])
set_option maxRecDepth 20000 in
theorem P259 : mm_P 259 = some mm_m259 := rfl
/-- WhoKnowsModel.tries()V -/
def mm_m276 : mm_M := (mm_c276, 1, 0, [])
set_option maxRecDepth 20000 in
theorem P276 : mm_P 276 = some mm_m276 := rfl
/-- WhoKnowsModel.back(I)I -/
def mm_m277 : mm_M := (mm_c277, 2, 1, [])
set_option maxRecDepth 20000 in
theorem P277 : mm_P 277 = some mm_m277 := rfl
theorem k259_0 : mm_lk mm_m259.1 0 = some (0, .aload_n 0, 1, []) := rfl
theorem k259_1 : mm_lk mm_m259.1 1 = some (1, .iconst 0, 2, []) := rfl
theorem k259_2 : mm_lk mm_m259.1 2 = some (2, .putfield 48, 5, [0, 14, 6, 1834]) := rfl
theorem k259_5 : mm_lk mm_m259.1 5 = some (5, .aload_n 0, 6, []) := rfl
theorem k259_6 : mm_lk mm_m259.1 6 = some (6, .getfield 7, 9, [0, 14, 0, 1828]) := rfl
theorem k259_9 : mm_lk mm_m259.1 9 = some (9, .iconst 2, 10, []) := rfl
theorem k259_10 : mm_lk mm_m259.1 10 = some (10, .iaload, 11, []) := rfl
theorem k259_11 : mm_lk mm_m259.1 11 = some (11, .ireturn, 12, []) := rfl
theorem k276_0 : mm_lk mm_m276.1 0 = some (0, .aload_n 0, 1, []) := rfl
theorem k276_1 : mm_lk mm_m276.1 1 = some (1, .getfield 7, 4, [0, 14, 0, 1828]) := rfl
theorem k276_4 : mm_lk mm_m276.1 4 = some (4, .iconst 0, 5, []) := rfl
theorem k276_5 : mm_lk mm_m276.1 5 = some (5, .aload_n 0, 6, []) := rfl
theorem k276_6 : mm_lk mm_m276.1 6 = some (6, .getfield 19, 9, [0, 14, 3, 1831]) := rfl
theorem k276_9 : mm_lk mm_m276.1 9 = some (9, .iconst 0, 10, []) := rfl
theorem k276_10 : mm_lk mm_m276.1 10 = some (10, .invokestatic 286, 13, [1, 177, 4, 1945, 1946, 151]) := rfl
theorem k276_13 : mm_lk mm_m276.1 13 = some (13, .return_, 14, []) := rfl
theorem k277_0 : mm_lk mm_m277.1 0 = some (0, .aload_n 0, 1, []) := rfl
theorem k277_1 : mm_lk mm_m277.1 1 = some (1, .getfield 19, 4, [0, 14, 3, 1831]) := rfl
theorem k277_4 : mm_lk mm_m277.1 4 = some (4, .iconst 0, 5, []) := rfl
theorem k277_5 : mm_lk mm_m277.1 5 = some (5, .aload_n 0, 6, []) := rfl
theorem k277_6 : mm_lk mm_m277.1 6 = some (6, .getfield 7, 9, [0, 14, 0, 1828]) := rfl
theorem k277_9 : mm_lk mm_m277.1 9 = some (9, .iconst 0, 10, []) := rfl
theorem k277_10 : mm_lk mm_m277.1 10 = some (10, .invokestatic 286, 13, [1, 177, 4, 1945, 1946, 151]) := rfl
theorem k277_13 : mm_lk mm_m277.1 13 = some (13, .iload_n 1, 14, []) := rfl
theorem k277_14 : mm_lk mm_m277.1 14 = some (14, .ireturn, 15, []) := rfl
