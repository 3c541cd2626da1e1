/-! ===== code, row by row (by program) ===== -/
/-- WhoKnowsModel.grows(II)V -/
def mm_m237 : mm_M := (mm_c237, 3, 0, [])
set_option maxRecDepth 20000 in
theorem P237 : mm_P 237 = some mm_m237 := rfl
/-- WhoKnowsModel.notes(III)V -/
def mm_m238 : mm_M := (mm_c238, 5, 0, [])
set_option maxRecDepth 20000 in
theorem P238 : mm_P 238 = some mm_m238 := rfl
/-- WhoKnowsModel.rules(I)I -/
def mm_m239 : mm_M := (mm_c239, 3, 1, [])
set_option maxRecDepth 20000 in
theorem P239 : mm_P 239 = some mm_m239 := rfl
theorem k237_0 : mm_lk mm_m237.1 0 = some (0, .aload_n 0, 1, []) := rfl
theorem k237_1 : mm_lk mm_m237.1 1 = some (1, .getfield 7, 4, [0, 14, 0, 1828]) := rfl
theorem k237_4 : mm_lk mm_m237.1 4 = some (4, .bipush 8, 6, []) := rfl
theorem k237_6 : mm_lk mm_m237.1 6 = some (6, .iload_n 1, 7, []) := rfl
theorem k237_7 : mm_lk mm_m237.1 7 = some (7, .iadd, 8, []) := rfl
theorem k237_8 : mm_lk mm_m237.1 8 = some (8, .dup2, 9, []) := rfl
theorem k237_9 : mm_lk mm_m237.1 9 = some (9, .iaload, 10, []) := rfl
theorem k237_10 : mm_lk mm_m237.1 10 = some (10, .iload_n 2, 11, []) := rfl
theorem k237_11 : mm_lk mm_m237.1 11 = some (11, .iadd, 12, []) := rfl
theorem k237_12 : mm_lk mm_m237.1 12 = some (12, .iastore, 13, []) := rfl
theorem k237_13 : mm_lk mm_m237.1 13 = some (13, .return_, 14, []) := rfl
theorem k238_4 : mm_lk mm_m238.1 4 = some (4, .iload 4, 6, []) := rfl
theorem k238_6 : mm_lk mm_m238.1 6 = some (6, .iconst 3, 7, []) := rfl
theorem k238_7 : mm_lk mm_m238.1 7 = some (7, .if_icmp .lt 31, 10, [38]) := rfl
theorem k238_10 : mm_lk mm_m238.1 10 = some (10, .aload_n 0, 11, []) := rfl
theorem k238_11 : mm_lk mm_m238.1 11 = some (11, .getfield 7, 14, [0, 14, 0, 1828]) := rfl
theorem k238_14 : mm_lk mm_m238.1 14 = some (14, .bipush 16, 16, []) := rfl
theorem k238_16 : mm_lk mm_m238.1 16 = some (16, .iload 4, 18, []) := rfl
theorem k238_18 : mm_lk mm_m238.1 18 = some (18, .iadd, 19, []) := rfl
theorem k238_19 : mm_lk mm_m238.1 19 = some (19, .aload_n 0, 20, []) := rfl
theorem k238_20 : mm_lk mm_m238.1 20 = some (20, .getfield 7, 23, [0, 14, 0, 1828]) := rfl
theorem k238_23 : mm_lk mm_m238.1 23 = some (23, .bipush 16, 25, []) := rfl
theorem k238_25 : mm_lk mm_m238.1 25 = some (25, .iload 4, 27, []) := rfl
theorem k238_27 : mm_lk mm_m238.1 27 = some (27, .iadd, 28, []) := rfl
theorem k238_28 : mm_lk mm_m238.1 28 = some (28, .iconst 3, 29, []) := rfl
theorem k238_29 : mm_lk mm_m238.1 29 = some (29, .isub, 30, []) := rfl
theorem k238_30 : mm_lk mm_m238.1 30 = some (30, .iaload, 31, []) := rfl
theorem k238_31 : mm_lk mm_m238.1 31 = some (31, .iastore, 32, []) := rfl
theorem k238_32 : mm_lk mm_m238.1 32 = some (32, .iinc 4 (-1), 35, []) := rfl
theorem k238_35 : mm_lk mm_m238.1 35 = some (35, .goto (-31), 38, [4]) := rfl
theorem k239_0 : mm_lk mm_m239.1 0 = some (0, .aload_n 0, 1, []) := rfl
theorem k239_1 : mm_lk mm_m239.1 1 = some (1, .getfield 7, 4, [0, 14, 0, 1828]) := rfl
theorem k239_4 : mm_lk mm_m239.1 4 = some (4, .iconst 2, 5, []) := rfl
theorem k239_5 : mm_lk mm_m239.1 5 = some (5, .iaload, 6, []) := rfl
theorem k239_6 : mm_lk mm_m239.1 6 = some (6, .iload_n 1, 7, []) := rfl
theorem k239_7 : mm_lk mm_m239.1 7 = some (7, .iconst (-1), 8, []) := rfl
theorem k239_8 : mm_lk mm_m239.1 8 = some (8, .ixor, 9, []) := rfl
theorem k239_9 : mm_lk mm_m239.1 9 = some (9, .iand, 10, []) := rfl
theorem k239_10 : mm_lk mm_m239.1 10 = some (10, .istore_n 2, 11, []) := rfl
theorem k239_11 : mm_lk mm_m239.1 11 = some (11, .aload_n 0, 12, []) := rfl
theorem k239_12 : mm_lk mm_m239.1 12 = some (12, .getfield 7, 15, [0, 14, 0, 1828]) := rfl
theorem k239_15 : mm_lk mm_m239.1 15 = some (15, .iconst 2, 16, []) := rfl
theorem k239_16 : mm_lk mm_m239.1 16 = some (16, .dup2, 17, []) := rfl
theorem k239_17 : mm_lk mm_m239.1 17 = some (17, .iaload, 18, []) := rfl
theorem k239_18 : mm_lk mm_m239.1 18 = some (18, .iload_n 1, 19, []) := rfl
theorem k239_19 : mm_lk mm_m239.1 19 = some (19, .iand, 20, []) := rfl
theorem k239_20 : mm_lk mm_m239.1 20 = some (20, .iastore, 21, []) := rfl
theorem k239_21 : mm_lk mm_m239.1 21 = some (21, .aload_n 0, 22, []) := rfl
theorem k239_22 : mm_lk mm_m239.1 22 = some (22, .iconst 5, 23, []) := rfl
theorem k239_23 : mm_lk mm_m239.1 23 = some (23, .iload_n 2, 24, []) := rfl
theorem k239_24 : mm_lk mm_m239.1 24 = some (24, .invokestatic 74, 27, [1, 174, 1, 1818, 1819, 151]) := rfl
theorem k239_27 : mm_lk mm_m239.1 27 = some (27, .invokevirtual 311, 30, [0, 237, 3, 14, 2191, 2193, 99, 151]) := rfl
theorem k239_30 : mm_lk mm_m239.1 30 = some (30, .iload_n 2, 31, []) := rfl
theorem k239_31 : mm_lk mm_m239.1 31 = some (31, .ireturn, 32, []) := rfl
