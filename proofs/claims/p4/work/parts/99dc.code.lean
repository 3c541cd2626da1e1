/-! ===== code, row by row (by program) ===== -/
/-- WhoKnows.writeKind(II)V -/
def mm_m155 : mm_M := (mm_c155, 4, 0, [])
set_option maxRecDepth 20000 in
theorem P155 : mm_P 155 = some mm_m155 := rfl
theorem k155_0 : mm_lk mm_m155.1 0 = some (0, .iload_n 2, 1, []) := rfl
theorem k155_1 : mm_lk mm_m155.1 1 = some (1, .istore_n 3, 2, []) := rfl
theorem k155_2 : mm_lk mm_m155.1 2 = some (2, .iload_n 3, 3, []) := rfl
theorem k155_3 : mm_lk mm_m155.1 3 = some (3, .bipush 32, 5, []) := rfl
theorem k155_5 : mm_lk mm_m155.1 5 = some (5, .if_icmp .ge 41, 8, [46]) := rfl
theorem k155_8 : mm_lk mm_m155.1 8 = some (8, .iload_n 1, 9, []) := rfl
theorem k155_9 : mm_lk mm_m155.1 9 = some (9, .iload_n 3, 10, []) := rfl
theorem k155_10 : mm_lk mm_m155.1 10 = some (10, .invokestatic 252, 13, [1, 159, 2, 763, 715, 132]) := rfl
theorem k155_13 : mm_lk mm_m155.1 13 = some (13, .ifCond .eq 27, 16, [40]) := rfl
theorem k155_16 : mm_lk mm_m155.1 16 = some (16, .iload_n 3, 17, []) := rfl
theorem k155_17 : mm_lk mm_m155.1 17 = some (17, .iload_n 2, 18, []) := rfl
theorem k155_18 : mm_lk mm_m155.1 18 = some (18, .if_icmp .eq 13, 21, [31]) := rfl
theorem k155_21 : mm_lk mm_m155.1 21 = some (21, .aload_n 0, 22, []) := rfl
theorem k155_22 : mm_lk mm_m155.1 22 = some (22, .getfield 64, 25, [0, 13, 7, 848]) := rfl
theorem k155_25 : mm_lk mm_m155.1 25 = some (25, .bipush 32, 27, []) := rfl
theorem k155_27 : mm_lk mm_m155.1 27 = some (27, .invokevirtual 318, 30, [0, 373, 2, 1, 1787, 1397, 1398, 141]) := rfl
theorem k155_30 : mm_lk mm_m155.1 30 = some (30, .pop, 31, []) := rfl
theorem k155_31 : mm_lk mm_m155.1 31 = some (31, .aload_n 0, 32, []) := rfl
theorem k155_32 : mm_lk mm_m155.1 32 = some (32, .getfield 64, 35, [0, 13, 7, 848]) := rfl
theorem k155_35 : mm_lk mm_m155.1 35 = some (35, .iload_n 3, 36, []) := rfl
theorem k155_36 : mm_lk mm_m155.1 36 = some (36, .invokevirtual 365, 39, [0, 374, 2, 1, 1800, 1169, 1170, 141]) := rfl
theorem k155_39 : mm_lk mm_m155.1 39 = some (39, .pop, 40, []) := rfl
theorem k155_40 : mm_lk mm_m155.1 40 = some (40, .iinc 3 1, 43, []) := rfl
theorem k155_43 : mm_lk mm_m155.1 43 = some (43, .goto (-41), 46, [2]) := rfl
theorem k155_46 : mm_lk mm_m155.1 46 = some (46, .return_, 47, []) := rfl
