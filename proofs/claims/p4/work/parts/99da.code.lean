/-! ===== code, row by row (by program) ===== -/
/-- WhoKnows$Names.writeTo(Ljava/lang/StringBuilder;I)V -/
def mm_m53 : mm_M := (mm_c53, 4, 0, [])
set_option maxRecDepth 20000 in
theorem P53 : mm_P 53 = some mm_m53 := rfl
theorem k53_0 : mm_lk mm_m53.1 0 = some (0, .iconst 0, 1, []) := rfl
theorem k53_1 : mm_lk mm_m53.1 1 = some (1, .istore_n 3, 2, []) := rfl
theorem k53_2 : mm_lk mm_m53.1 2 = some (2, .iload_n 3, 3, []) := rfl
theorem k53_3 : mm_lk mm_m53.1 3 = some (3, .bipush 6, 5, []) := rfl
theorem k53_5 : mm_lk mm_m53.1 5 = some (5, .if_icmp .ge 31, 8, [36]) := rfl
theorem k53_8 : mm_lk mm_m53.1 8 = some (8, .aload_n 0, 9, []) := rfl
theorem k53_9 : mm_lk mm_m53.1 9 = some (9, .iload_n 2, 10, []) := rfl
theorem k53_10 : mm_lk mm_m53.1 10 = some (10, .iload_n 3, 11, []) := rfl
theorem k53_11 : mm_lk mm_m53.1 11 = some (11, .invokevirtual 33, 14, [0, 52, 3, 7, 1391, 1392, 1393, 148]) := rfl
theorem k53_14 : mm_lk mm_m53.1 14 = some (14, .iconst (-1), 15, []) := rfl
theorem k53_15 : mm_lk mm_m53.1 15 = some (15, .if_icmp .eq 21, 18, [36]) := rfl
theorem k53_18 : mm_lk mm_m53.1 18 = some (18, .aload_n 1, 19, []) := rfl
theorem k53_19 : mm_lk mm_m53.1 19 = some (19, .aload_n 0, 20, []) := rfl
theorem k53_20 : mm_lk mm_m53.1 20 = some (20, .iload_n 2, 21, []) := rfl
theorem k53_21 : mm_lk mm_m53.1 21 = some (21, .iload_n 3, 22, []) := rfl
theorem k53_22 : mm_lk mm_m53.1 22 = some (22, .invokevirtual 33, 25, [0, 52, 3, 7, 1391, 1392, 1393, 148]) := rfl
theorem k53_25 : mm_lk mm_m53.1 25 = some (25, .i2c, 26, []) := rfl
theorem k53_26 : mm_lk mm_m53.1 26 = some (26, .invokevirtual 36, 29, [0, 373, 2, 1, 1396, 1397, 1398, 141]) := rfl
theorem k53_29 : mm_lk mm_m53.1 29 = some (29, .pop, 30, []) := rfl
theorem k53_30 : mm_lk mm_m53.1 30 = some (30, .iinc 3 1, 33, []) := rfl
theorem k53_33 : mm_lk mm_m53.1 33 = some (33, .goto (-31), 36, [2]) := rfl
theorem k53_36 : mm_lk mm_m53.1 36 = some (36, .return_, 37, []) := rfl
