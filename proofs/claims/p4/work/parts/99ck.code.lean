/-! ===== code, row by row (by program) ===== -/
/-- WhoKnowsModel.writeQuestion()I -/
def mm_m309 : mm_M := (mm_c309, 1, 1, [])
set_option maxRecDepth 20000 in
theorem P309 : mm_P 309 = some mm_m309 := rfl
theorem k309_0 : mm_lk mm_m309.1 0 = some (0, .aload_n 0, 1, []) := rfl
theorem k309_1 : mm_lk mm_m309.1 1 = some (1, .iconst 0, 2, []) := rfl
theorem k309_2 : mm_lk mm_m309.1 2 = some (2, .putfield 48, 5, [0, 14, 6, 1834]) := rfl
theorem k309_5 : mm_lk mm_m309.1 5 = some (5, .aload_n 0, 6, []) := rfl
theorem k309_6 : mm_lk mm_m309.1 6 = some (6, .iconst 0, 7, []) := rfl
theorem k309_7 : mm_lk mm_m309.1 7 = some (7, .putfield 428, 10, [0, 14, 26, 1854]) := rfl
theorem k309_10 : mm_lk mm_m309.1 10 = some (10, .aload_n 0, 11, []) := rfl
theorem k309_11 : mm_lk mm_m309.1 11 = some (11, .aload_n 0, 12, []) := rfl
theorem k309_12 : mm_lk mm_m309.1 12 = some (12, .getfield 7, 15, [0, 14, 0, 1828]) := rfl
theorem k309_15 : mm_lk mm_m309.1 15 = some (15, .sipush 320, 18, []) := rfl
theorem k309_18 : mm_lk mm_m309.1 18 = some (18, .iaload, 19, []) := rfl
theorem k309_19 : mm_lk mm_m309.1 19 = some (19, .iconst 1, 20, []) := rfl
theorem k309_20 : mm_lk mm_m309.1 20 = some (20, .isub, 21, []) := rfl
theorem k309_21 : mm_lk mm_m309.1 21 = some (21, .invokevirtual 449, 24, [0, 308, 2, 14, 2464, 2466, 128, 151]) := rfl
theorem k309_24 : mm_lk mm_m309.1 24 = some (24, .aload_n 0, 25, []) := rfl
theorem k309_25 : mm_lk mm_m309.1 25 = some (25, .getfield 428, 28, [0, 14, 26, 1854]) := rfl
theorem k309_28 : mm_lk mm_m309.1 28 = some (28, .ireturn, 29, []) := rfl
