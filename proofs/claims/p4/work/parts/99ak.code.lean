/-! ===== code, row by row (by program) ===== -/
/-- WhoKnowsModel.sees(I)I -/
def mm_m258 : mm_M := (mm_c258, 2, 1, [])
set_option maxRecDepth 20000 in
theorem P258 : mm_P 258 = some mm_m258 := rfl
theorem k258_0 : mm_lk mm_m258.1 0 = some (0, .aload_n 0, 1, []) := rfl
theorem k258_1 : mm_lk mm_m258.1 1 = some (1, .aload_n 0, 2, []) := rfl
theorem k258_2 : mm_lk mm_m258.1 2 = some (2, .iload_n 1, 3, []) := rfl
theorem k258_3 : mm_lk mm_m258.1 3 = some (3, .invokevirtual 384, 6, [0, 181, 2, 14, 2246, 2248, 109, 151]) := rfl
theorem k258_6 : mm_lk mm_m258.1 6 = some (6, .invokevirtual 119, 9, [0, 176, 2, 14, 1918, 1920, 45, 151]) := rfl
theorem k258_9 : mm_lk mm_m258.1 9 = some (9, .ifCond .eq 16, 12, [25]) := rfl
theorem k258_12 : mm_lk mm_m258.1 12 = some (12, .aload_n 0, 13, []) := rfl
theorem k258_13 : mm_lk mm_m258.1 13 = some (13, .getfield 7, 16, [0, 14, 0, 1828]) := rfl
theorem k258_16 : mm_lk mm_m258.1 16 = some (16, .sipush 150, 19, []) := rfl
theorem k258_19 : mm_lk mm_m258.1 19 = some (19, .iload_n 1, 20, []) := rfl
theorem k258_20 : mm_lk mm_m258.1 20 = some (20, .iadd, 21, []) := rfl
theorem k258_21 : mm_lk mm_m258.1 21 = some (21, .iaload, 22, []) := rfl
theorem k258_22 : mm_lk mm_m258.1 22 = some (22, .goto 4, 25, [26]) := rfl
theorem k258_25 : mm_lk mm_m258.1 25 = some (25, .iconst 0, 26, []) := rfl
theorem k258_26 : mm_lk mm_m258.1 26 = some (26, .ireturn, 27, []) := rfl
