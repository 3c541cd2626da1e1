/-! ===== code, row by row (by program) ===== -/
/-- WhoKnowsModel.readsLines()V -/
def mm_m234 : mm_M := (mm_c234, 2, 0, [])
set_option maxRecDepth 20000 in
theorem P234 : mm_P 234 = some mm_m234 := rfl
theorem k234_0 : mm_lk mm_m234.1 0 = some (0, .aload_n 0, 1, []) := rfl
theorem k234_1 : mm_lk mm_m234.1 1 = some (1, .getfield 142, 4, [0, 14, 14, 1842]) := rfl
theorem k234_4 : mm_lk mm_m234.1 4 = some (4, .ifCond .ne 31, 7, [35]) := rfl
theorem k234_7 : mm_lk mm_m234.1 7 = some (7, .aload_n 0, 8, []) := rfl
theorem k234_8 : mm_lk mm_m234.1 8 = some (8, .invokevirtual 63, 11, [0, 179, 1, 14, 1821, 1823, 44, 151]) := rfl
theorem k234_11 : mm_lk mm_m234.1 11 = some (11, .ifCond .ne 24, 14, [35]) := rfl
theorem k234_14 : mm_lk mm_m234.1 14 = some (14, .aload_n 0, 15, []) := rfl
theorem k234_15 : mm_lk mm_m234.1 15 = some (15, .ldc_w 268, 18, [1, 24, 2022]) := rfl
theorem k234_18 : mm_lk mm_m234.1 18 = some (18, .invokevirtual 270, 21, [0, 235, 2, 14, 2023, 2025, 62, 151]) := rfl
theorem k234_21 : mm_lk mm_m234.1 21 = some (21, .ifCond .eq 14, 24, [35]) := rfl
theorem k234_24 : mm_lk mm_m234.1 24 = some (24, .aload_n 0, 25, []) := rfl
theorem k234_25 : mm_lk mm_m234.1 25 = some (25, .aload_n 0, 26, []) := rfl
theorem k234_26 : mm_lk mm_m234.1 26 = some (26, .getfield 132, 29, [0, 14, 12, 1840]) := rfl
theorem k234_29 : mm_lk mm_m234.1 29 = some (29, .invokevirtual 273, 32, [0, 230, 2, 14, 2031, 2033, 64, 151]) := rfl
theorem k234_32 : mm_lk mm_m234.1 32 = some (32, .goto (-32), 35, [0]) := rfl
