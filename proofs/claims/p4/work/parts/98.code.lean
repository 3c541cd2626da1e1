/-! ===== code, row by row (by program) ===== -/
/-- WhoKnowsModel.orderHere()I -/
def mm_m248 : mm_M := (mm_c248, 1, 1, [])
set_option maxRecDepth 20000 in
theorem P248 : mm_P 248 = some mm_m248 := rfl
theorem k248_0 : mm_lk mm_m248.1 0 = some (0, .aload_n 0, 1, []) := rfl
theorem k248_1 : mm_lk mm_m248.1 1 = some (1, .ldc_w 331, 4, [1, 36, 2162]) := rfl
theorem k248_4 : mm_lk mm_m248.1 4 = some (4, .invokevirtual 162, 7, [0, 205, 2, 14, 1961, 1963, 50, 151]) := rfl
theorem k248_7 : mm_lk mm_m248.1 7 = some (7, .ifCond .eq 5, 10, [12]) := rfl
theorem k248_10 : mm_lk mm_m248.1 10 = some (10, .iconst 0, 11, []) := rfl
theorem k248_11 : mm_lk mm_m248.1 11 = some (11, .ireturn, 12, []) := rfl
theorem k248_12 : mm_lk mm_m248.1 12 = some (12, .aload_n 0, 13, []) := rfl
theorem k248_13 : mm_lk mm_m248.1 13 = some (13, .ldc_w 333, 16, [1, 38, 2163]) := rfl
theorem k248_16 : mm_lk mm_m248.1 16 = some (16, .invokevirtual 162, 19, [0, 205, 2, 14, 1961, 1963, 50, 151]) := rfl
theorem k248_19 : mm_lk mm_m248.1 19 = some (19, .ifCond .eq 5, 22, [24]) := rfl
theorem k248_22 : mm_lk mm_m248.1 22 = some (22, .iconst 1, 23, []) := rfl
theorem k248_23 : mm_lk mm_m248.1 23 = some (23, .ireturn, 24, []) := rfl
theorem k248_24 : mm_lk mm_m248.1 24 = some (24, .aload_n 0, 25, []) := rfl
theorem k248_25 : mm_lk mm_m248.1 25 = some (25, .ldc_w 335, 28, [1, 40, 2164]) := rfl
theorem k248_28 : mm_lk mm_m248.1 28 = some (28, .invokevirtual 162, 31, [0, 205, 2, 14, 1961, 1963, 50, 151]) := rfl
theorem k248_31 : mm_lk mm_m248.1 31 = some (31, .ifCond .eq 5, 34, [36]) := rfl
theorem k248_34 : mm_lk mm_m248.1 34 = some (34, .iconst 2, 35, []) := rfl
theorem k248_35 : mm_lk mm_m248.1 35 = some (35, .ireturn, 36, []) := rfl
theorem k248_36 : mm_lk mm_m248.1 36 = some (36, .aload_n 0, 37, []) := rfl
theorem k248_37 : mm_lk mm_m248.1 37 = some (37, .ldc_w 337, 40, [1, 42, 2165]) := rfl
theorem k248_40 : mm_lk mm_m248.1 40 = some (40, .invokevirtual 162, 43, [0, 205, 2, 14, 1961, 1963, 50, 151]) := rfl
theorem k248_43 : mm_lk mm_m248.1 43 = some (43, .ifCond .eq 5, 46, [48]) := rfl
theorem k248_46 : mm_lk mm_m248.1 46 = some (46, .iconst 3, 47, []) := rfl
theorem k248_47 : mm_lk mm_m248.1 47 = some (47, .ireturn, 48, []) := rfl
theorem k248_48 : mm_lk mm_m248.1 48 = some (48, .aload_n 0, 49, []) := rfl
theorem k248_49 : mm_lk mm_m248.1 49 = some (49, .ldc_w 339, 52, [1, 44, 2166]) := rfl
theorem k248_52 : mm_lk mm_m248.1 52 = some (52, .invokevirtual 162, 55, [0, 205, 2, 14, 1961, 1963, 50, 151]) := rfl
theorem k248_55 : mm_lk mm_m248.1 55 = some (55, .ifCond .eq 7, 58, [62]) := rfl
theorem k248_58 : mm_lk mm_m248.1 58 = some (58, .iconst 4, 59, []) := rfl
theorem k248_59 : mm_lk mm_m248.1 59 = some (59, .goto 4, 62, [63]) := rfl
theorem k248_62 : mm_lk mm_m248.1 62 = some (62, .iconst (-1), 63, []) := rfl
theorem k248_63 : mm_lk mm_m248.1 63 = some (63, .ireturn, 64, []) := rfl
