/-! ===== code, row by row (by program) ===== -/
/-- WhoKnows$Formula.writePrefix(Ljava/lang/StringBuilder;LWhoKnows$Scene;I)V -/
def mm_m14 : mm_M := (mm_c14, 4, 0, [])
set_option maxRecDepth 20000 in
theorem P14 : mm_P 14 = some mm_m14 := rfl
theorem k14_0 : mm_lk mm_m14.1 0 = some (0, .aload_n 1, 1, []) := rfl
theorem k14_1 : mm_lk mm_m14.1 1 = some (1, .aload_n 0, 2, []) := rfl
theorem k14_2 : mm_lk mm_m14.1 2 = some (2, .getfield 9, 5, [0, 3, 0, 251]) := rfl
theorem k14_5 : mm_lk mm_m14.1 5 = some (5, .iload_n 3, 6, []) := rfl
theorem k14_6 : mm_lk mm_m14.1 6 = some (6, .invokestatic 39, 9, [6, 156, 2, 702, 568, 132, 0]) := rfl
theorem k14_9 : mm_lk mm_m14.1 9 = some (9, .invokestatic 96, 12, [6, 167, 1, 1414, 545, 132, 0]) := rfl
theorem k14_12 : mm_lk mm_m14.1 12 = some (12, .invokevirtual 71, 15, [0, 372, 2, 1, 1386, 1074, 1075, 141]) := rfl
theorem k14_15 : mm_lk mm_m14.1 15 = some (15, .pop, 16, []) := rfl
theorem k14_16 : mm_lk mm_m14.1 16 = some (16, .aload_n 1, 17, []) := rfl
theorem k14_17 : mm_lk mm_m14.1 17 = some (17, .bipush 32, 19, []) := rfl
theorem k14_19 : mm_lk mm_m14.1 19 = some (19, .invokevirtual 89, 22, [0, 373, 2, 1, 1409, 1397, 1398, 141]) := rfl
theorem k14_22 : mm_lk mm_m14.1 22 = some (22, .pop, 23, []) := rfl
theorem k14_23 : mm_lk mm_m14.1 23 = some (23, .aload_n 0, 24, []) := rfl
theorem k14_24 : mm_lk mm_m14.1 24 = some (24, .getfield 9, 27, [0, 3, 0, 251]) := rfl
theorem k14_27 : mm_lk mm_m14.1 27 = some (27, .iload_n 3, 28, []) := rfl
theorem k14_28 : mm_lk mm_m14.1 28 = some (28, .invokestatic 39, 31, [6, 156, 2, 702, 568, 132, 0]) := rfl
theorem k14_31 : mm_lk mm_m14.1 31 = some (31, .invokestatic 100, 34, [6, 166, 1, 1415, 664, 132, 0]) := rfl
theorem k14_34 : mm_lk mm_m14.1 34 = some (34, .ifCond .eq 26, 37, [60]) := rfl
theorem k14_37 : mm_lk mm_m14.1 37 = some (37, .aload_n 2, 38, []) := rfl
theorem k14_38 : mm_lk mm_m14.1 38 = some (38, .getfield 103, 41, [1, 10, 1, 492, 0]) := rfl
theorem k14_41 : mm_lk mm_m14.1 41 = some (41, .aload_n 1, 42, []) := rfl
theorem k14_42 : mm_lk mm_m14.1 42 = some (42, .aload_n 0, 43, []) := rfl
theorem k14_43 : mm_lk mm_m14.1 43 = some (43, .getfield 15, 46, [0, 3, 1, 252]) := rfl
theorem k14_46 : mm_lk mm_m14.1 46 = some (46, .iload_n 3, 47, []) := rfl
theorem k14_47 : mm_lk mm_m14.1 47 = some (47, .invokestatic 39, 50, [6, 156, 2, 702, 568, 132, 0]) := rfl
theorem k14_50 : mm_lk mm_m14.1 50 = some (50, .invokevirtual 83, 53, [0, 53, 3, 7, 1387, 1388, 1389, 148]) := rfl
theorem k14_53 : mm_lk mm_m14.1 53 = some (53, .aload_n 1, 54, []) := rfl
theorem k14_54 : mm_lk mm_m14.1 54 = some (54, .bipush 32, 56, []) := rfl
theorem k14_56 : mm_lk mm_m14.1 56 = some (56, .invokevirtual 89, 59, [0, 373, 2, 1, 1409, 1397, 1398, 141]) := rfl
theorem k14_59 : mm_lk mm_m14.1 59 = some (59, .pop, 60, []) := rfl
theorem k14_60 : mm_lk mm_m14.1 60 = some (60, .return_, 61, []) := rfl
