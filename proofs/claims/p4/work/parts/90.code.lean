/-! ===== code, row by row (by program) ===== -/
/-- WhoKnowsModel.knowersOf(II)I -/
def mm_m246 : mm_M := (mm_c246, 6, 1, [])
set_option maxRecDepth 20000 in
theorem P246 : mm_P 246 = some mm_m246 := rfl
theorem k246_0 : mm_lk mm_m246.1 0 = some (0, .iconst 0, 1, []) := rfl
theorem k246_1 : mm_lk mm_m246.1 1 = some (1, .istore_n 3, 2, []) := rfl
theorem k246_2 : mm_lk mm_m246.1 2 = some (2, .iconst 0, 3, []) := rfl
theorem k246_3 : mm_lk mm_m246.1 3 = some (3, .istore 4, 5, []) := rfl
theorem k246_5 : mm_lk mm_m246.1 5 = some (5, .iload 4, 7, []) := rfl
theorem k246_7 : mm_lk mm_m246.1 7 = some (7, .aload_n 0, 8, []) := rfl
theorem k246_8 : mm_lk mm_m246.1 8 = some (8, .invokevirtual 63, 11, [0, 179, 1, 14, 1821, 1823, 44, 151]) := rfl
theorem k246_11 : mm_lk mm_m246.1 11 = some (11, .if_icmp .ge 48, 14, [59]) := rfl
theorem k246_14 : mm_lk mm_m246.1 14 = some (14, .aload_n 0, 15, []) := rfl
theorem k246_15 : mm_lk mm_m246.1 15 = some (15, .iload 4, 17, []) := rfl
theorem k246_17 : mm_lk mm_m246.1 17 = some (17, .iload_n 1, 18, []) := rfl
theorem k246_18 : mm_lk mm_m246.1 18 = some (18, .invokevirtual 78, 21, [0, 186, 3, 14, 2105, 2107, 81, 151]) := rfl
theorem k246_21 : mm_lk mm_m246.1 21 = some (21, .istore 5, 23, []) := rfl
theorem k246_23 : mm_lk mm_m246.1 23 = some (23, .iload_n 3, 24, []) := rfl
theorem k246_24 : mm_lk mm_m246.1 24 = some (24, .iload 5, 26, []) := rfl
theorem k246_26 : mm_lk mm_m246.1 26 = some (26, .iload_n 2, 27, []) := rfl
theorem k246_27 : mm_lk mm_m246.1 27 = some (27, .iconst (-1), 28, []) := rfl
theorem k246_28 : mm_lk mm_m246.1 28 = some (28, .ixor, 29, []) := rfl
theorem k246_29 : mm_lk mm_m246.1 29 = some (29, .iand, 30, []) := rfl
theorem k246_30 : mm_lk mm_m246.1 30 = some (30, .ifCond .eq 10, 33, [40]) := rfl
theorem k246_33 : mm_lk mm_m246.1 33 = some (33, .iload 5, 35, []) := rfl
theorem k246_35 : mm_lk mm_m246.1 35 = some (35, .iload_n 2, 36, []) := rfl
theorem k246_36 : mm_lk mm_m246.1 36 = some (36, .iand, 37, []) := rfl
theorem k246_37 : mm_lk mm_m246.1 37 = some (37, .ifCond .ne 7, 40, [44]) := rfl
theorem k246_40 : mm_lk mm_m246.1 40 = some (40, .iconst 1, 41, []) := rfl
theorem k246_41 : mm_lk mm_m246.1 41 = some (41, .goto 4, 44, [45]) := rfl
theorem k246_44 : mm_lk mm_m246.1 44 = some (44, .iconst 0, 45, []) := rfl
theorem k246_45 : mm_lk mm_m246.1 45 = some (45, .invokestatic 66, 48, [1, 172, 1, 1825, 1826, 151]) := rfl
theorem k246_48 : mm_lk mm_m246.1 48 = some (48, .iload 4, 50, []) := rfl
theorem k246_50 : mm_lk mm_m246.1 50 = some (50, .ishl, 51, []) := rfl
theorem k246_51 : mm_lk mm_m246.1 51 = some (51, .ior, 52, []) := rfl
theorem k246_52 : mm_lk mm_m246.1 52 = some (52, .istore_n 3, 53, []) := rfl
theorem k246_53 : mm_lk mm_m246.1 53 = some (53, .iinc 4 1, 56, []) := rfl
theorem k246_56 : mm_lk mm_m246.1 56 = some (56, .goto (-51), 59, [5]) := rfl
theorem k246_59 : mm_lk mm_m246.1 59 = some (59, .iload_n 3, 60, []) := rfl
theorem k246_60 : mm_lk mm_m246.1 60 = some (60, .ireturn, 61, []) := rfl
