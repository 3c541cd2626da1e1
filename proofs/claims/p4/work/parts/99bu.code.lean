/-! ===== code, row by row (by program) ===== -/
/-- WhoKnowsModel.four(I)V -/
def mm_m198 : mm_M := (mm_c198, 3, 0, [])
set_option maxRecDepth 20000 in
theorem P198 : mm_P 198 = some mm_m198 := rfl
/-- WhoKnowsModel.append(IIIII)I -/
def mm_m199 : mm_M := (mm_c199, 6, 1, [])
set_option maxRecDepth 20000 in
theorem P199 : mm_P 199 = some mm_m199 := rfl
/-- WhoKnowsModel.truncate(I)I -/
def mm_m200 : mm_M := (mm_c200, 2, 1, [])
set_option maxRecDepth 20000 in
theorem P200 : mm_P 200 = some mm_m200 := rfl
/-- WhoKnowsModel.undo()I -/
def mm_m311 : mm_M := (mm_c311, 1, 1, [])
set_option maxRecDepth 20000 in
theorem P311 : mm_P 311 = some mm_m311 := rfl
/-- WhoKnowsModel.save()I -/
def mm_m312 : mm_M := (mm_c312, 1, 1, [])
set_option maxRecDepth 20000 in
theorem P312 : mm_P 312 = some mm_m312 := rfl
/-- WhoKnowsModel.restore()I -/
def mm_m313 : mm_M := (mm_c313, 1, 1, [])
set_option maxRecDepth 20000 in
theorem P313 : mm_P 313 = some mm_m313 := rfl
theorem k198_0 : mm_lk mm_m198.1 0 = some (0, .bipush 24, 2, []) := rfl
theorem k198_2 : mm_lk mm_m198.1 2 = some (2, .istore_n 2, 3, []) := rfl
theorem k198_3 : mm_lk mm_m198.1 3 = some (3, .iload_n 2, 4, []) := rfl
theorem k198_4 : mm_lk mm_m198.1 4 = some (4, .ifCond .lt 35, 7, [39]) := rfl
theorem k198_7 : mm_lk mm_m198.1 7 = some (7, .aload_n 0, 8, []) := rfl
theorem k198_8 : mm_lk mm_m198.1 8 = some (8, .getfield 28, 11, [0, 14, 9, 1837]) := rfl
theorem k198_11 : mm_lk mm_m198.1 11 = some (11, .aload_n 0, 12, []) := rfl
theorem k198_12 : mm_lk mm_m198.1 12 = some (12, .getfield 116, 15, [0, 14, 10, 1838]) := rfl
theorem k198_15 : mm_lk mm_m198.1 15 = some (15, .iload_n 1, 16, []) := rfl
theorem k198_16 : mm_lk mm_m198.1 16 = some (16, .iload_n 2, 17, []) := rfl
theorem k198_17 : mm_lk mm_m198.1 17 = some (17, .ishr, 18, []) := rfl
theorem k198_18 : mm_lk mm_m198.1 18 = some (18, .sipush 255, 21, []) := rfl
theorem k198_21 : mm_lk mm_m198.1 21 = some (21, .iand, 22, []) := rfl
theorem k198_22 : mm_lk mm_m198.1 22 = some (22, .iastore, 23, []) := rfl
theorem k198_23 : mm_lk mm_m198.1 23 = some (23, .aload_n 0, 24, []) := rfl
theorem k198_24 : mm_lk mm_m198.1 24 = some (24, .dup, 25, []) := rfl
theorem k198_25 : mm_lk mm_m198.1 25 = some (25, .getfield 116, 28, [0, 14, 10, 1838]) := rfl
theorem k198_28 : mm_lk mm_m198.1 28 = some (28, .iconst 1, 29, []) := rfl
theorem k198_29 : mm_lk mm_m198.1 29 = some (29, .iadd, 30, []) := rfl
theorem k198_30 : mm_lk mm_m198.1 30 = some (30, .putfield 116, 33, [0, 14, 10, 1838]) := rfl
theorem k198_33 : mm_lk mm_m198.1 33 = some (33, .iinc 2 (-8), 36, []) := rfl
theorem k198_36 : mm_lk mm_m198.1 36 = some (36, .goto (-33), 39, [3]) := rfl
theorem k198_39 : mm_lk mm_m198.1 39 = some (39, .return_, 40, []) := rfl
theorem k199_0 : mm_lk mm_m199.1 0 = some (0, .aload_n 0, 1, []) := rfl
theorem k199_1 : mm_lk mm_m199.1 1 = some (1, .aload_n 0, 2, []) := rfl
theorem k199_2 : mm_lk mm_m199.1 2 = some (2, .getfield 116, 5, [0, 14, 10, 1838]) := rfl
theorem k199_5 : mm_lk mm_m199.1 5 = some (5, .bipush 20, 7, []) := rfl
theorem k199_7 : mm_lk mm_m199.1 7 = some (7, .iadd, 8, []) := rfl
theorem k199_8 : mm_lk mm_m199.1 8 = some (8, .sipush 600, 11, []) := rfl
theorem k199_11 : mm_lk mm_m199.1 11 = some (11, .if_icmp .gt 7, 14, [18]) := rfl
theorem k199_14 : mm_lk mm_m199.1 14 = some (14, .iconst 1, 15, []) := rfl
theorem k199_15 : mm_lk mm_m199.1 15 = some (15, .goto 4, 18, [19]) := rfl
theorem k199_18 : mm_lk mm_m199.1 18 = some (18, .iconst 0, 19, []) := rfl
theorem k199_19 : mm_lk mm_m199.1 19 = some (19, .invokevirtual 119, 22, [0, 176, 2, 14, 1918, 1920, 45, 151]) := rfl
theorem k199_22 : mm_lk mm_m199.1 22 = some (22, .ifCond .ne 5, 25, [27]) := rfl
theorem k199_25 : mm_lk mm_m199.1 25 = some (25, .iconst 0, 26, []) := rfl
theorem k199_26 : mm_lk mm_m199.1 26 = some (26, .ireturn, 27, []) := rfl
theorem k199_27 : mm_lk mm_m199.1 27 = some (27, .aload_n 0, 28, []) := rfl
theorem k199_28 : mm_lk mm_m199.1 28 = some (28, .iload_n 1, 29, []) := rfl
theorem k199_29 : mm_lk mm_m199.1 29 = some (29, .invokevirtual 123, 32, [0, 198, 2, 14, 1922, 1924, 46, 151]) := rfl
theorem k199_32 : mm_lk mm_m199.1 32 = some (32, .aload_n 0, 33, []) := rfl
theorem k199_33 : mm_lk mm_m199.1 33 = some (33, .iload_n 2, 34, []) := rfl
theorem k199_34 : mm_lk mm_m199.1 34 = some (34, .invokevirtual 123, 37, [0, 198, 2, 14, 1922, 1924, 46, 151]) := rfl
theorem k199_37 : mm_lk mm_m199.1 37 = some (37, .aload_n 0, 38, []) := rfl
theorem k199_38 : mm_lk mm_m199.1 38 = some (38, .iload_n 3, 39, []) := rfl
theorem k199_39 : mm_lk mm_m199.1 39 = some (39, .invokevirtual 123, 42, [0, 198, 2, 14, 1922, 1924, 46, 151]) := rfl
theorem k199_42 : mm_lk mm_m199.1 42 = some (42, .aload_n 0, 43, []) := rfl
theorem k199_43 : mm_lk mm_m199.1 43 = some (43, .iload 4, 45, []) := rfl
theorem k199_45 : mm_lk mm_m199.1 45 = some (45, .invokevirtual 123, 48, [0, 198, 2, 14, 1922, 1924, 46, 151]) := rfl
theorem k199_48 : mm_lk mm_m199.1 48 = some (48, .aload_n 0, 49, []) := rfl
theorem k199_49 : mm_lk mm_m199.1 49 = some (49, .iload 5, 51, []) := rfl
theorem k199_51 : mm_lk mm_m199.1 51 = some (51, .invokevirtual 123, 54, [0, 198, 2, 14, 1922, 1924, 46, 151]) := rfl
theorem k199_54 : mm_lk mm_m199.1 54 = some (54, .aload_n 0, 55, []) := rfl
theorem k199_55 : mm_lk mm_m199.1 55 = some (55, .getfield 116, 58, [0, 14, 10, 1838]) := rfl
theorem k199_58 : mm_lk mm_m199.1 58 = some (58, .ireturn, 59, []) := rfl
theorem k200_0 : mm_lk mm_m200.1 0 = some (0, .aload_n 0, 1, []) := rfl
theorem k200_1 : mm_lk mm_m200.1 1 = some (1, .iload_n 1, 2, []) := rfl
theorem k200_2 : mm_lk mm_m200.1 2 = some (2, .i2l, 3, []) := rfl
theorem k200_3 : mm_lk mm_m200.1 3 = some (3, .lconst 0, 4, []) := rfl
theorem k200_4 : mm_lk mm_m200.1 4 = some (4, .aload_n 0, 5, []) := rfl
theorem k200_5 : mm_lk mm_m200.1 5 = some (5, .getfield 116, 8, [0, 14, 10, 1838]) := rfl
theorem k200_8 : mm_lk mm_m200.1 8 = some (8, .i2l, 9, []) := rfl
theorem k200_9 : mm_lk mm_m200.1 9 = some (9, .invokestatic 59, 12, [1, 171, 3, 1930, 1931, 151]) := rfl
theorem k200_12 : mm_lk mm_m200.1 12 = some (12, .invokevirtual 119, 15, [0, 176, 2, 14, 1918, 1920, 45, 151]) := rfl
theorem k200_15 : mm_lk mm_m200.1 15 = some (15, .ifCond .ne 5, 18, [20]) := rfl
theorem k200_18 : mm_lk mm_m200.1 18 = some (18, .iconst 0, 19, []) := rfl
theorem k200_19 : mm_lk mm_m200.1 19 = some (19, .ireturn, 20, []) := rfl
theorem k200_20 : mm_lk mm_m200.1 20 = some (20, .aload_n 0, 21, []) := rfl
theorem k200_21 : mm_lk mm_m200.1 21 = some (21, .iload_n 1, 22, []) := rfl
theorem k200_22 : mm_lk mm_m200.1 22 = some (22, .putfield 116, 25, [0, 14, 10, 1838]) := rfl
theorem k200_25 : mm_lk mm_m200.1 25 = some (25, .iload_n 1, 26, []) := rfl
theorem k200_26 : mm_lk mm_m200.1 26 = some (26, .ireturn, 27, []) := rfl
theorem k311_0 : mm_lk mm_m311.1 0 = some (0, .aload_n 0, 1, []) := rfl
theorem k311_1 : mm_lk mm_m311.1 1 = some (1, .iconst 0, 2, []) := rfl
theorem k311_2 : mm_lk mm_m311.1 2 = some (2, .putfield 48, 5, [0, 14, 6, 1834]) := rfl
theorem k311_5 : mm_lk mm_m311.1 5 = some (5, .aload_n 0, 6, []) := rfl
theorem k311_6 : mm_lk mm_m311.1 6 = some (6, .getfield 305, 9, [0, 14, 5, 1833]) := rfl
theorem k311_9 : mm_lk mm_m311.1 9 = some (9, .ifCond .ne 5, 12, [14]) := rfl
theorem k311_12 : mm_lk mm_m311.1 12 = some (12, .iconst (-1), 13, []) := rfl
theorem k311_13 : mm_lk mm_m311.1 13 = some (13, .ireturn, 14, []) := rfl
theorem k311_14 : mm_lk mm_m311.1 14 = some (14, .aload_n 0, 15, []) := rfl
theorem k311_15 : mm_lk mm_m311.1 15 = some (15, .dup, 16, []) := rfl
theorem k311_16 : mm_lk mm_m311.1 16 = some (16, .getfield 305, 19, [0, 14, 5, 1833]) := rfl
theorem k311_19 : mm_lk mm_m311.1 19 = some (19, .iconst 1, 20, []) := rfl
theorem k311_20 : mm_lk mm_m311.1 20 = some (20, .isub, 21, []) := rfl
theorem k311_21 : mm_lk mm_m311.1 21 = some (21, .putfield 305, 24, [0, 14, 5, 1833]) := rfl
theorem k311_24 : mm_lk mm_m311.1 24 = some (24, .aload_n 0, 25, []) := rfl
theorem k311_25 : mm_lk mm_m311.1 25 = some (25, .getfield 22, 28, [0, 14, 4, 1832]) := rfl
theorem k311_28 : mm_lk mm_m311.1 28 = some (28, .sipush 564, 31, []) := rfl
theorem k311_31 : mm_lk mm_m311.1 31 = some (31, .aload_n 0, 32, []) := rfl
theorem k311_32 : mm_lk mm_m311.1 32 = some (32, .getfield 305, 35, [0, 14, 5, 1833]) := rfl
theorem k311_35 : mm_lk mm_m311.1 35 = some (35, .imul, 36, []) := rfl
theorem k311_36 : mm_lk mm_m311.1 36 = some (36, .aload_n 0, 37, []) := rfl
theorem k311_37 : mm_lk mm_m311.1 37 = some (37, .getfield 7, 40, [0, 14, 0, 1828]) := rfl
theorem k311_40 : mm_lk mm_m311.1 40 = some (40, .iconst 0, 41, []) := rfl
theorem k311_41 : mm_lk mm_m311.1 41 = some (41, .invokestatic 286, 44, [1, 177, 4, 1945, 1946, 151]) := rfl
theorem k311_44 : mm_lk mm_m311.1 44 = some (44, .aload_n 0, 45, []) := rfl
theorem k311_45 : mm_lk mm_m311.1 45 = some (45, .getfield 305, 48, [0, 14, 5, 1833]) := rfl
theorem k311_48 : mm_lk mm_m311.1 48 = some (48, .ireturn, 49, []) := rfl
theorem k312_0 : mm_lk mm_m312.1 0 = some (0, .aload_n 0, 1, []) := rfl
theorem k312_1 : mm_lk mm_m312.1 1 = some (1, .iconst 0, 2, []) := rfl
theorem k312_2 : mm_lk mm_m312.1 2 = some (2, .putfield 48, 5, [0, 14, 6, 1834]) := rfl
theorem k312_5 : mm_lk mm_m312.1 5 = some (5, .aload_n 0, 6, []) := rfl
theorem k312_6 : mm_lk mm_m312.1 6 = some (6, .getfield 7, 9, [0, 14, 0, 1828]) := rfl
theorem k312_9 : mm_lk mm_m312.1 9 = some (9, .iconst 0, 10, []) := rfl
theorem k312_10 : mm_lk mm_m312.1 10 = some (10, .aload_n 0, 11, []) := rfl
theorem k312_11 : mm_lk mm_m312.1 11 = some (11, .getfield 13, 14, [0, 14, 1, 1829]) := rfl
theorem k312_14 : mm_lk mm_m312.1 14 = some (14, .iconst 0, 15, []) := rfl
theorem k312_15 : mm_lk mm_m312.1 15 = some (15, .invokestatic 286, 18, [1, 177, 4, 1945, 1946, 151]) := rfl
theorem k312_18 : mm_lk mm_m312.1 18 = some (18, .aload_n 0, 19, []) := rfl
theorem k312_19 : mm_lk mm_m312.1 19 = some (19, .iconst 1, 20, []) := rfl
theorem k312_20 : mm_lk mm_m312.1 20 = some (20, .putfield 474, 23, [0, 14, 7, 1835]) := rfl
theorem k312_23 : mm_lk mm_m312.1 23 = some (23, .aload_n 0, 24, []) := rfl
theorem k312_24 : mm_lk mm_m312.1 24 = some (24, .getfield 7, 27, [0, 14, 0, 1828]) := rfl
theorem k312_27 : mm_lk mm_m312.1 27 = some (27, .iconst 2, 28, []) := rfl
theorem k312_28 : mm_lk mm_m312.1 28 = some (28, .iaload, 29, []) := rfl
theorem k312_29 : mm_lk mm_m312.1 29 = some (29, .invokestatic 74, 32, [1, 174, 1, 1818, 1819, 151]) := rfl
theorem k312_32 : mm_lk mm_m312.1 32 = some (32, .ireturn, 33, []) := rfl
theorem k313_0 : mm_lk mm_m313.1 0 = some (0, .aload_n 0, 1, []) := rfl
theorem k313_1 : mm_lk mm_m313.1 1 = some (1, .aload_n 0, 2, []) := rfl
theorem k313_2 : mm_lk mm_m313.1 2 = some (2, .getfield 474, 5, [0, 14, 7, 1835]) := rfl
theorem k313_5 : mm_lk mm_m313.1 5 = some (5, .invokevirtual 119, 8, [0, 176, 2, 14, 1918, 1920, 45, 151]) := rfl
theorem k313_8 : mm_lk mm_m313.1 8 = some (8, .ifCond .ne 5, 11, [13]) := rfl
theorem k313_11 : mm_lk mm_m313.1 11 = some (11, .iconst 0, 12, []) := rfl
theorem k313_12 : mm_lk mm_m313.1 12 = some (12, .ireturn, 13, []) := rfl
theorem k313_13 : mm_lk mm_m313.1 13 = some (13, .aload_n 0, 14, []) := rfl
theorem k313_14 : mm_lk mm_m313.1 14 = some (14, .getfield 13, 17, [0, 14, 1, 1829]) := rfl
theorem k313_17 : mm_lk mm_m313.1 17 = some (17, .iconst 0, 18, []) := rfl
theorem k313_18 : mm_lk mm_m313.1 18 = some (18, .aload_n 0, 19, []) := rfl
theorem k313_19 : mm_lk mm_m313.1 19 = some (19, .getfield 7, 22, [0, 14, 0, 1828]) := rfl
theorem k313_22 : mm_lk mm_m313.1 22 = some (22, .iconst 0, 23, []) := rfl
theorem k313_23 : mm_lk mm_m313.1 23 = some (23, .invokestatic 286, 26, [1, 177, 4, 1945, 1946, 151]) := rfl
theorem k313_26 : mm_lk mm_m313.1 26 = some (26, .aload_n 0, 27, []) := rfl
theorem k313_27 : mm_lk mm_m313.1 27 = some (27, .iconst 0, 28, []) := rfl
theorem k313_28 : mm_lk mm_m313.1 28 = some (28, .putfield 305, 31, [0, 14, 5, 1833]) := rfl
theorem k313_31 : mm_lk mm_m313.1 31 = some (31, .aload_n 0, 32, []) := rfl
theorem k313_32 : mm_lk mm_m313.1 32 = some (32, .getfield 7, 35, [0, 14, 0, 1828]) := rfl
theorem k313_35 : mm_lk mm_m313.1 35 = some (35, .iconst 2, 36, []) := rfl
theorem k313_36 : mm_lk mm_m313.1 36 = some (36, .iaload, 37, []) := rfl
theorem k313_37 : mm_lk mm_m313.1 37 = some (37, .invokestatic 74, 40, [1, 174, 1, 1818, 1819, 151]) := rfl
theorem k313_40 : mm_lk mm_m313.1 40 = some (40, .ireturn, 41, []) := rfl
