/-! ===== code, row by row (by program) ===== -/
/-- WhoKnowsModel.keeps([I)V -/
def mm_m253 : mm_M := (mm_c253, 3, 0, [])
set_option maxRecDepth 20000 in
theorem P253 : mm_P 253 = some mm_m253 := rfl
theorem k253_0 : mm_lk mm_m253.1 0 = some (0, .aload_n 0, 1, []) := rfl
theorem k253_1 : mm_lk mm_m253.1 1 = some (1, .getfield 305, 4, [0, 14, 5, 1833]) := rfl
theorem k253_4 : mm_lk mm_m253.1 4 = some (4, .bipush 8, 6, []) := rfl
theorem k253_6 : mm_lk mm_m253.1 6 = some (6, .if_icmp .ne 44, 9, [50]) := rfl
theorem k253_9 : mm_lk mm_m253.1 9 = some (9, .iconst 0, 10, []) := rfl
theorem k253_10 : mm_lk mm_m253.1 10 = some (10, .istore_n 2, 11, []) := rfl
theorem k253_11 : mm_lk mm_m253.1 11 = some (11, .iload_n 2, 12, []) := rfl
theorem k253_12 : mm_lk mm_m253.1 12 = some (12, .sipush 3948, 15, []) := rfl
theorem k253_15 : mm_lk mm_m253.1 15 = some (15, .if_icmp .ge 25, 18, [40]) := rfl
theorem k253_18 : mm_lk mm_m253.1 18 = some (18, .aload_n 0, 19, []) := rfl
theorem k253_19 : mm_lk mm_m253.1 19 = some (19, .getfield 22, 22, [0, 14, 4, 1832]) := rfl
theorem k253_22 : mm_lk mm_m253.1 22 = some (22, .iload_n 2, 23, []) := rfl
theorem k253_23 : mm_lk mm_m253.1 23 = some (23, .aload_n 0, 24, []) := rfl
theorem k253_24 : mm_lk mm_m253.1 24 = some (24, .getfield 22, 27, [0, 14, 4, 1832]) := rfl
theorem k253_27 : mm_lk mm_m253.1 27 = some (27, .iload_n 2, 28, []) := rfl
theorem k253_28 : mm_lk mm_m253.1 28 = some (28, .sipush 564, 31, []) := rfl
theorem k253_31 : mm_lk mm_m253.1 31 = some (31, .iadd, 32, []) := rfl
theorem k253_32 : mm_lk mm_m253.1 32 = some (32, .iaload, 33, []) := rfl
theorem k253_33 : mm_lk mm_m253.1 33 = some (33, .iastore, 34, []) := rfl
theorem k253_34 : mm_lk mm_m253.1 34 = some (34, .iinc 2 1, 37, []) := rfl
theorem k253_37 : mm_lk mm_m253.1 37 = some (37, .goto (-26), 40, [11]) := rfl
theorem k253_40 : mm_lk mm_m253.1 40 = some (40, .aload_n 0, 41, []) := rfl
theorem k253_41 : mm_lk mm_m253.1 41 = some (41, .dup, 42, []) := rfl
theorem k253_42 : mm_lk mm_m253.1 42 = some (42, .getfield 305, 45, [0, 14, 5, 1833]) := rfl
theorem k253_45 : mm_lk mm_m253.1 45 = some (45, .iconst 1, 46, []) := rfl
theorem k253_46 : mm_lk mm_m253.1 46 = some (46, .isub, 47, []) := rfl
theorem k253_47 : mm_lk mm_m253.1 47 = some (47, .putfield 305, 50, [0, 14, 5, 1833]) := rfl
theorem k253_50 : mm_lk mm_m253.1 50 = some (50, .aload_n 1, 51, []) := rfl
theorem k253_51 : mm_lk mm_m253.1 51 = some (51, .iconst 0, 52, []) := rfl
theorem k253_52 : mm_lk mm_m253.1 52 = some (52, .aload_n 0, 53, []) := rfl
theorem k253_53 : mm_lk mm_m253.1 53 = some (53, .getfield 22, 56, [0, 14, 4, 1832]) := rfl
theorem k253_56 : mm_lk mm_m253.1 56 = some (56, .sipush 564, 59, []) := rfl
theorem k253_59 : mm_lk mm_m253.1 59 = some (59, .aload_n 0, 60, []) := rfl
theorem k253_60 : mm_lk mm_m253.1 60 = some (60, .getfield 305, 63, [0, 14, 5, 1833]) := rfl
theorem k253_63 : mm_lk mm_m253.1 63 = some (63, .imul, 64, []) := rfl
theorem k253_64 : mm_lk mm_m253.1 64 = some (64, .invokestatic 286, 67, [1, 177, 4, 1945, 1946, 151]) := rfl
theorem k253_67 : mm_lk mm_m253.1 67 = some (67, .aload_n 0, 68, []) := rfl
theorem k253_68 : mm_lk mm_m253.1 68 = some (68, .dup, 69, []) := rfl
theorem k253_69 : mm_lk mm_m253.1 69 = some (69, .getfield 305, 72, [0, 14, 5, 1833]) := rfl
theorem k253_72 : mm_lk mm_m253.1 72 = some (72, .iconst 1, 73, []) := rfl
theorem k253_73 : mm_lk mm_m253.1 73 = some (73, .iadd, 74, []) := rfl
theorem k253_74 : mm_lk mm_m253.1 74 = some (74, .putfield 305, 77, [0, 14, 5, 1833]) := rfl
theorem k253_77 : mm_lk mm_m253.1 77 = some (77, .return_, 78, []) := rfl
