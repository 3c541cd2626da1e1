/-! ===== code, row by row (by program) ===== -/
theorem k254_0 : mm_lk mm_m254.1 0 = some (0, .aload_n 0, 1, []) := rfl
theorem k254_1 : mm_lk mm_m254.1 1 = some (1, .invokevirtual 290, 4, [0, 214, 1, 14, 1948, 1950, 47, 151]) := rfl
theorem k254_4 : mm_lk mm_m254.1 4 = some (4, .aload_n 0, 5, []) := rfl
theorem k254_5 : mm_lk mm_m254.1 5 = some (5, .iconst 0, 6, []) := rfl
theorem k254_6 : mm_lk mm_m254.1 6 = some (6, .putfield 344, 9, [0, 14, 24, 1852]) := rfl
theorem k254_31 : mm_lk mm_m254.1 31 = some (31, .aload_n 0, 32, []) := rfl
theorem k254_32 : mm_lk mm_m254.1 32 = some (32, .aload_n 0, 33, []) := rfl
theorem k254_33 : mm_lk mm_m254.1 33 = some (33, .invokevirtual 299, 36, [0, 215, 1, 14, 2143, 2145, 90, 151]) := rfl
theorem k254_36 : mm_lk mm_m254.1 36 = some (36, .invokevirtual 119, 39, [0, 176, 2, 14, 1918, 1920, 45, 151]) := rfl
theorem k254_39 : mm_lk mm_m254.1 39 = some (39, .ifCond .ne 5, 42, [44]) := rfl
theorem k254_42 : mm_lk mm_m254.1 42 = some (42, .iconst 0, 43, []) := rfl
theorem k254_43 : mm_lk mm_m254.1 43 = some (43, .ireturn, 44, []) := rfl
theorem k254_44 : mm_lk mm_m254.1 44 = some (44, .aload_n 0, 45, []) := rfl
theorem k254_45 : mm_lk mm_m254.1 45 = some (45, .aload_n 0, 46, []) := rfl
theorem k254_46 : mm_lk mm_m254.1 46 = some (46, .getfield 7, 49, [0, 14, 0, 1828]) := rfl
theorem k254_49 : mm_lk mm_m254.1 49 = some (49, .invokevirtual 372, 52, [0, 253, 2, 14, 2175, 2177, 95, 151]) := rfl
theorem k254_52 : mm_lk mm_m254.1 52 = some (52, .iconst 0, 53, []) := rfl
theorem k254_53 : mm_lk mm_m254.1 53 = some (53, .istore_n 1, 54, []) := rfl
theorem k254_54 : mm_lk mm_m254.1 54 = some (54, .iload_n 1, 55, []) := rfl
theorem k254_55 : mm_lk mm_m254.1 55 = some (55, .aload_n 0, 56, []) := rfl
theorem k254_56 : mm_lk mm_m254.1 56 = some (56, .getfield 344, 59, [0, 14, 24, 1852]) := rfl
theorem k254_59 : mm_lk mm_m254.1 59 = some (59, .if_icmp .ge 17, 62, [76]) := rfl
theorem k254_62 : mm_lk mm_m254.1 62 = some (62, .aload_n 0, 63, []) := rfl
theorem k254_63 : mm_lk mm_m254.1 63 = some (63, .iload_n 1, 64, []) := rfl
theorem k254_64 : mm_lk mm_m254.1 64 = some (64, .invokevirtual 376, 67, [0, 252, 2, 14, 2179, 2181, 96, 151]) := rfl
theorem k254_67 : mm_lk mm_m254.1 67 = some (67, .ifCond .lt 9, 70, [76]) := rfl
theorem k254_70 : mm_lk mm_m254.1 70 = some (70, .iinc 1 1, 73, []) := rfl
theorem k254_73 : mm_lk mm_m254.1 73 = some (73, .goto (-19), 76, [54]) := rfl
theorem k254_76 : mm_lk mm_m254.1 76 = some (76, .iload_n 1, 77, []) := rfl
theorem k254_77 : mm_lk mm_m254.1 77 = some (77, .ireturn, 78, []) := rfl
