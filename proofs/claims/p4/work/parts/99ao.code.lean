/-! ===== code, row by row (by program) ===== -/
/-- WhoKnowsModel.runOrders()I -/
def mm_m254 : mm_M := (mm_c254, 2, 1, [])
set_option maxRecDepth 20000 in
theorem P254 : mm_P 254 = some mm_m254 := rfl
theorem k254_9 : mm_lk mm_m254.1 9 = some (9, .aload_n 0, 10, []) := rfl
theorem k254_10 : mm_lk mm_m254.1 10 = some (10, .getfield 142, 13, [0, 14, 14, 1842]) := rfl
theorem k254_13 : mm_lk mm_m254.1 13 = some (13, .ifCond .ne 18, 16, [31]) := rfl
theorem k254_16 : mm_lk mm_m254.1 16 = some (16, .aload_n 0, 17, []) := rfl
theorem k254_17 : mm_lk mm_m254.1 17 = some (17, .invokevirtual 151, 20, [0, 202, 1, 14, 1965, 1967, 51, 151]) := rfl
theorem k254_20 : mm_lk mm_m254.1 20 = some (20, .iconst (-1), 21, []) := rfl
theorem k254_21 : mm_lk mm_m254.1 21 = some (21, .if_icmp .eq 10, 24, [31]) := rfl
theorem k254_24 : mm_lk mm_m254.1 24 = some (24, .aload_n 0, 25, []) := rfl
theorem k254_25 : mm_lk mm_m254.1 25 = some (25, .invokevirtual 369, 28, [0, 251, 1, 14, 2154, 2156, 91, 151]) := rfl
theorem k254_28 : mm_lk mm_m254.1 28 = some (28, .goto (-19), 31, [9]) := rfl
