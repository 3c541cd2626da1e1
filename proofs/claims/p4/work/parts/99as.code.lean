/-! ===== code, row by row (by program) ===== -/
/-- WhoKnowsModel.alike(II)I -/
def mm_m260 : mm_M := (mm_c260, 3, 1, [])
set_option maxRecDepth 20000 in
theorem P260 : mm_P 260 = some mm_m260 := rfl
/-- WhoKnowsModel.isFirstOf(II)Z -/
def mm_m261 : mm_M := (mm_c261, 3, 2, [])
set_option maxRecDepth 20000 in
theorem P261 : mm_P 261 = some mm_m261 := rfl
/-- WhoKnowsModel.kinds(I)I -/
def mm_m262 : mm_M := (mm_c262, 4, 1, [])
set_option maxRecDepth 20000 in
theorem P262 : mm_P 262 = some mm_m262 := rfl
/-- WhoKnowsModel.doubts(I)I -/
def mm_m263 : mm_M := (mm_c263, 4, 1, [])
set_option maxRecDepth 20000 in
theorem P263 : mm_P 263 = some mm_m263 := rfl
/-- WhoKnowsModel.reach(I)I -/
def mm_m264 : mm_M := (mm_c264, 2, 1, [])
set_option maxRecDepth 20000 in
theorem P264 : mm_P 264 = some mm_m264 := rfl
/-- WhoKnowsModel.holds(I)Z -/
def mm_m266 : mm_M := (mm_c266, 2, 2, [])
set_option maxRecDepth 20000 in
theorem P266 : mm_P 266 = some mm_m266 := rfl
/-- WhoKnowsModel.truth()I -/
def mm_m267 : mm_M := (mm_c267, 1, 1, [])
set_option maxRecDepth 20000 in
theorem P267 : mm_P 267 = some mm_m267 := rfl
/-- WhoKnowsModel.who()I -/
def mm_m268 : mm_M := (mm_c268, 4, 1, [])
set_option maxRecDepth 20000 in
theorem P268 : mm_P 268 = some mm_m268 := rfl
/-- WhoKnowsModel.whether()I -/
def mm_m269 : mm_M := (mm_c269, 1, 1, [])
set_option maxRecDepth 20000 in
theorem P269 : mm_P 269 = some mm_m269 := rfl
/-- WhoKnowsModel.isCommon()Z -/
def mm_m270 : mm_M := (mm_c270, 1, 2, [])
set_option maxRecDepth 20000 in
theorem P270 : mm_P 270 = some mm_m270 := rfl
theorem k260_0 : mm_lk mm_m260.1 0 = some (0, .aload_n 0, 1, []) := rfl
theorem k260_1 : mm_lk mm_m260.1 1 = some (1, .aload_n 0, 2, []) := rfl
theorem k260_2 : mm_lk mm_m260.1 2 = some (2, .iload_n 1, 3, []) := rfl
theorem k260_3 : mm_lk mm_m260.1 3 = some (3, .invokevirtual 384, 6, [0, 181, 2, 14, 2246, 2248, 109, 151]) := rfl
theorem k260_6 : mm_lk mm_m260.1 6 = some (6, .ifCond .eq 15, 9, [21]) := rfl
theorem k260_9 : mm_lk mm_m260.1 9 = some (9, .aload_n 0, 10, []) := rfl
theorem k260_10 : mm_lk mm_m260.1 10 = some (10, .iload_n 2, 11, []) := rfl
theorem k260_11 : mm_lk mm_m260.1 11 = some (11, .invokevirtual 390, 14, [0, 182, 2, 14, 2266, 2268, 111, 151]) := rfl
theorem k260_14 : mm_lk mm_m260.1 14 = some (14, .ifCond .eq 7, 17, [21]) := rfl
theorem k260_17 : mm_lk mm_m260.1 17 = some (17, .iconst 1, 18, []) := rfl
theorem k260_18 : mm_lk mm_m260.1 18 = some (18, .goto 4, 21, [22]) := rfl
theorem k260_21 : mm_lk mm_m260.1 21 = some (21, .iconst 0, 22, []) := rfl
theorem k260_22 : mm_lk mm_m260.1 22 = some (22, .invokevirtual 119, 25, [0, 176, 2, 14, 1918, 1920, 45, 151]) := rfl
theorem k260_25 : mm_lk mm_m260.1 25 = some (25, .ifCond .eq 12, 28, [37]) := rfl
theorem k260_28 : mm_lk mm_m260.1 28 = some (28, .aload_n 0, 29, []) := rfl
theorem k260_29 : mm_lk mm_m260.1 29 = some (29, .iload_n 1, 30, []) := rfl
theorem k260_30 : mm_lk mm_m260.1 30 = some (30, .iload_n 2, 31, []) := rfl
theorem k260_31 : mm_lk mm_m260.1 31 = some (31, .invokevirtual 78, 34, [0, 186, 3, 14, 2105, 2107, 81, 151]) := rfl
theorem k260_34 : mm_lk mm_m260.1 34 = some (34, .goto 4, 37, [38]) := rfl
theorem k260_37 : mm_lk mm_m260.1 37 = some (37, .iconst 0, 38, []) := rfl
theorem k260_38 : mm_lk mm_m260.1 38 = some (38, .ireturn, 39, []) := rfl
theorem k261_0 : mm_lk mm_m261.1 0 = some (0, .aload_n 0, 1, []) := rfl
theorem k261_1 : mm_lk mm_m261.1 1 = some (1, .iload_n 2, 2, []) := rfl
theorem k261_2 : mm_lk mm_m261.1 2 = some (2, .invokevirtual 70, 5, [0, 185, 2, 14, 2101, 2103, 80, 151]) := rfl
theorem k261_5 : mm_lk mm_m261.1 5 = some (5, .ifCond .eq 20, 8, [25]) := rfl
theorem k261_8 : mm_lk mm_m261.1 8 = some (8, .aload_n 0, 9, []) := rfl
theorem k261_9 : mm_lk mm_m261.1 9 = some (9, .iload_n 1, 10, []) := rfl
theorem k261_10 : mm_lk mm_m261.1 10 = some (10, .iload_n 2, 11, []) := rfl
theorem k261_11 : mm_lk mm_m261.1 11 = some (11, .invokevirtual 78, 14, [0, 186, 3, 14, 2105, 2107, 81, 151]) := rfl
theorem k261_14 : mm_lk mm_m261.1 14 = some (14, .invokestatic 302, 17, [1, 175, 1, 2147, 2148, 151]) := rfl
theorem k261_17 : mm_lk mm_m261.1 17 = some (17, .iload_n 2, 18, []) := rfl
theorem k261_18 : mm_lk mm_m261.1 18 = some (18, .if_icmp .ne 7, 21, [25]) := rfl
theorem k261_21 : mm_lk mm_m261.1 21 = some (21, .iconst 1, 22, []) := rfl
theorem k261_22 : mm_lk mm_m261.1 22 = some (22, .goto 4, 25, [26]) := rfl
theorem k261_25 : mm_lk mm_m261.1 25 = some (25, .iconst 0, 26, []) := rfl
theorem k261_26 : mm_lk mm_m261.1 26 = some (26, .ireturn, 27, []) := rfl
theorem k262_0 : mm_lk mm_m262.1 0 = some (0, .aload_n 0, 1, []) := rfl
theorem k262_1 : mm_lk mm_m262.1 1 = some (1, .aload_n 0, 2, []) := rfl
theorem k262_2 : mm_lk mm_m262.1 2 = some (2, .iload_n 1, 3, []) := rfl
theorem k262_3 : mm_lk mm_m262.1 3 = some (3, .invokevirtual 384, 6, [0, 181, 2, 14, 2246, 2248, 109, 151]) := rfl
theorem k262_6 : mm_lk mm_m262.1 6 = some (6, .invokevirtual 119, 9, [0, 176, 2, 14, 1918, 1920, 45, 151]) := rfl
theorem k262_9 : mm_lk mm_m262.1 9 = some (9, .ifCond .ne 5, 12, [14]) := rfl
theorem k262_12 : mm_lk mm_m262.1 12 = some (12, .iconst 0, 13, []) := rfl
theorem k262_13 : mm_lk mm_m262.1 13 = some (13, .ireturn, 14, []) := rfl
theorem k262_14 : mm_lk mm_m262.1 14 = some (14, .iconst 0, 15, []) := rfl
theorem k262_15 : mm_lk mm_m262.1 15 = some (15, .istore_n 2, 16, []) := rfl
theorem k262_16 : mm_lk mm_m262.1 16 = some (16, .iconst 0, 17, []) := rfl
theorem k262_17 : mm_lk mm_m262.1 17 = some (17, .istore_n 3, 18, []) := rfl
theorem k262_18 : mm_lk mm_m262.1 18 = some (18, .iload_n 3, 19, []) := rfl
theorem k262_19 : mm_lk mm_m262.1 19 = some (19, .bipush 32, 21, []) := rfl
theorem k262_21 : mm_lk mm_m262.1 21 = some (21, .if_icmp .ge 21, 24, [42]) := rfl
theorem k262_24 : mm_lk mm_m262.1 24 = some (24, .iload_n 2, 25, []) := rfl
theorem k262_25 : mm_lk mm_m262.1 25 = some (25, .aload_n 0, 26, []) := rfl
theorem k262_26 : mm_lk mm_m262.1 26 = some (26, .iload_n 1, 27, []) := rfl
theorem k262_27 : mm_lk mm_m262.1 27 = some (27, .iload_n 3, 28, []) := rfl
theorem k262_28 : mm_lk mm_m262.1 28 = some (28, .invokevirtual 393, 31, [0, 261, 3, 14, 2274, 2276, 112, 151]) := rfl
theorem k262_31 : mm_lk mm_m262.1 31 = some (31, .invokestatic 66, 34, [1, 172, 1, 1825, 1826, 151]) := rfl
theorem k262_34 : mm_lk mm_m262.1 34 = some (34, .iadd, 35, []) := rfl
theorem k262_35 : mm_lk mm_m262.1 35 = some (35, .istore_n 2, 36, []) := rfl
theorem k262_36 : mm_lk mm_m262.1 36 = some (36, .iinc 3 1, 39, []) := rfl
theorem k262_39 : mm_lk mm_m262.1 39 = some (39, .goto (-21), 42, [18]) := rfl
theorem k262_42 : mm_lk mm_m262.1 42 = some (42, .iload_n 2, 43, []) := rfl
theorem k262_43 : mm_lk mm_m262.1 43 = some (43, .ireturn, 44, []) := rfl
theorem k263_0 : mm_lk mm_m263.1 0 = some (0, .aload_n 0, 1, []) := rfl
theorem k263_1 : mm_lk mm_m263.1 1 = some (1, .aload_n 0, 2, []) := rfl
theorem k263_2 : mm_lk mm_m263.1 2 = some (2, .iload_n 1, 3, []) := rfl
theorem k263_3 : mm_lk mm_m263.1 3 = some (3, .invokevirtual 384, 6, [0, 181, 2, 14, 2246, 2248, 109, 151]) := rfl
theorem k263_6 : mm_lk mm_m263.1 6 = some (6, .invokevirtual 119, 9, [0, 176, 2, 14, 1918, 1920, 45, 151]) := rfl
theorem k263_9 : mm_lk mm_m263.1 9 = some (9, .ifCond .ne 5, 12, [14]) := rfl
theorem k263_12 : mm_lk mm_m263.1 12 = some (12, .iconst 0, 13, []) := rfl
theorem k263_13 : mm_lk mm_m263.1 13 = some (13, .ireturn, 14, []) := rfl
theorem k263_14 : mm_lk mm_m263.1 14 = some (14, .iconst 0, 15, []) := rfl
theorem k263_15 : mm_lk mm_m263.1 15 = some (15, .istore_n 2, 16, []) := rfl
theorem k263_16 : mm_lk mm_m263.1 16 = some (16, .iconst 0, 17, []) := rfl
theorem k263_17 : mm_lk mm_m263.1 17 = some (17, .istore_n 3, 18, []) := rfl
theorem k263_18 : mm_lk mm_m263.1 18 = some (18, .iload_n 3, 19, []) := rfl
theorem k263_19 : mm_lk mm_m263.1 19 = some (19, .bipush 32, 21, []) := rfl
theorem k263_21 : mm_lk mm_m263.1 21 = some (21, .if_icmp .ge 35, 24, [56]) := rfl
theorem k263_24 : mm_lk mm_m263.1 24 = some (24, .iload_n 2, 25, []) := rfl
theorem k263_25 : mm_lk mm_m263.1 25 = some (25, .aload_n 0, 26, []) := rfl
theorem k263_26 : mm_lk mm_m263.1 26 = some (26, .iload_n 3, 27, []) := rfl
theorem k263_27 : mm_lk mm_m263.1 27 = some (27, .invokevirtual 70, 30, [0, 185, 2, 14, 2101, 2103, 80, 151]) := rfl
theorem k263_30 : mm_lk mm_m263.1 30 = some (30, .ifCond .eq 17, 33, [47]) := rfl
theorem k263_33 : mm_lk mm_m263.1 33 = some (33, .aload_n 0, 34, []) := rfl
theorem k263_34 : mm_lk mm_m263.1 34 = some (34, .iload_n 1, 35, []) := rfl
theorem k263_35 : mm_lk mm_m263.1 35 = some (35, .iload_n 3, 36, []) := rfl
theorem k263_36 : mm_lk mm_m263.1 36 = some (36, .invokevirtual 78, 39, [0, 186, 3, 14, 2105, 2107, 81, 151]) := rfl
theorem k263_39 : mm_lk mm_m263.1 39 = some (39, .invokestatic 74, 42, [1, 174, 1, 1818, 1819, 151]) := rfl
theorem k263_42 : mm_lk mm_m263.1 42 = some (42, .iconst 1, 43, []) := rfl
theorem k263_43 : mm_lk mm_m263.1 43 = some (43, .isub, 44, []) := rfl
theorem k263_44 : mm_lk mm_m263.1 44 = some (44, .goto 4, 47, [48]) := rfl
theorem k263_47 : mm_lk mm_m263.1 47 = some (47, .iconst 0, 48, []) := rfl
theorem k263_48 : mm_lk mm_m263.1 48 = some (48, .iadd, 49, []) := rfl
theorem k263_49 : mm_lk mm_m263.1 49 = some (49, .istore_n 2, 50, []) := rfl
theorem k263_50 : mm_lk mm_m263.1 50 = some (50, .iinc 3 1, 53, []) := rfl
theorem k263_53 : mm_lk mm_m263.1 53 = some (53, .goto (-35), 56, [18]) := rfl
theorem k263_56 : mm_lk mm_m263.1 56 = some (56, .iload_n 2, 57, []) := rfl
theorem k263_57 : mm_lk mm_m263.1 57 = some (57, .iconst 2, 58, []) := rfl
theorem k263_58 : mm_lk mm_m263.1 58 = some (58, .idiv, 59, []) := rfl
theorem k263_59 : mm_lk mm_m263.1 59 = some (59, .ireturn, 60, []) := rfl
theorem k264_0 : mm_lk mm_m264.1 0 = some (0, .aload_n 0, 1, []) := rfl
theorem k264_1 : mm_lk mm_m264.1 1 = some (1, .aload_n 0, 2, []) := rfl
theorem k264_2 : mm_lk mm_m264.1 2 = some (2, .iload_n 1, 3, []) := rfl
theorem k264_3 : mm_lk mm_m264.1 3 = some (3, .invokevirtual 390, 6, [0, 182, 2, 14, 2266, 2268, 111, 151]) := rfl
theorem k264_6 : mm_lk mm_m264.1 6 = some (6, .invokevirtual 119, 9, [0, 176, 2, 14, 1918, 1920, 45, 151]) := rfl
theorem k264_9 : mm_lk mm_m264.1 9 = some (9, .ifCond .eq 11, 12, [20]) := rfl
theorem k264_12 : mm_lk mm_m264.1 12 = some (12, .aload_n 0, 13, []) := rfl
theorem k264_13 : mm_lk mm_m264.1 13 = some (13, .iload_n 1, 14, []) := rfl
theorem k264_14 : mm_lk mm_m264.1 14 = some (14, .invokevirtual 88, 17, [0, 192, 2, 14, 2121, 2123, 85, 151]) := rfl
theorem k264_17 : mm_lk mm_m264.1 17 = some (17, .goto 4, 20, [21]) := rfl
theorem k264_20 : mm_lk mm_m264.1 20 = some (20, .iconst 0, 21, []) := rfl
theorem k264_21 : mm_lk mm_m264.1 21 = some (21, .ireturn, 22, []) := rfl
theorem k266_0 : mm_lk mm_m266.1 0 = some (0, .aload_n 0, 1, []) := rfl
theorem k266_1 : mm_lk mm_m266.1 1 = some (1, .aload_n 0, 2, []) := rfl
theorem k266_2 : mm_lk mm_m266.1 2 = some (2, .iload_n 1, 3, []) := rfl
theorem k266_3 : mm_lk mm_m266.1 3 = some (3, .invokevirtual 390, 6, [0, 182, 2, 14, 2266, 2268, 111, 151]) := rfl
theorem k266_6 : mm_lk mm_m266.1 6 = some (6, .invokevirtual 119, 9, [0, 176, 2, 14, 1918, 1920, 45, 151]) := rfl
theorem k266_9 : mm_lk mm_m266.1 9 = some (9, .ifCond .eq 18, 12, [27]) := rfl
theorem k266_12 : mm_lk mm_m266.1 12 = some (12, .aload_n 0, 13, []) := rfl
theorem k266_13 : mm_lk mm_m266.1 13 = some (13, .invokevirtual 396, 16, [0, 196, 1, 14, 2294, 2296, 113, 151]) := rfl
theorem k266_16 : mm_lk mm_m266.1 16 = some (16, .iload_n 1, 17, []) := rfl
theorem k266_17 : mm_lk mm_m266.1 17 = some (17, .invokestatic 51, 20, [1, 173, 2, 2094, 2095, 151]) := rfl
theorem k266_20 : mm_lk mm_m266.1 20 = some (20, .ifCond .eq 7, 23, [27]) := rfl
theorem k266_23 : mm_lk mm_m266.1 23 = some (23, .iconst 1, 24, []) := rfl
theorem k266_24 : mm_lk mm_m266.1 24 = some (24, .goto 4, 27, [28]) := rfl
theorem k266_27 : mm_lk mm_m266.1 27 = some (27, .iconst 0, 28, []) := rfl
theorem k266_28 : mm_lk mm_m266.1 28 = some (28, .ireturn, 29, []) := rfl
theorem k267_0 : mm_lk mm_m267.1 0 = some (0, .aload_n 0, 1, []) := rfl
theorem k267_1 : mm_lk mm_m267.1 1 = some (1, .iconst 0, 2, []) := rfl
theorem k267_2 : mm_lk mm_m267.1 2 = some (2, .putfield 48, 5, [0, 14, 6, 1834]) := rfl
theorem k267_5 : mm_lk mm_m267.1 5 = some (5, .aload_n 0, 6, []) := rfl
theorem k267_6 : mm_lk mm_m267.1 6 = some (6, .invokevirtual 396, 9, [0, 196, 1, 14, 2294, 2296, 113, 151]) := rfl
theorem k267_9 : mm_lk mm_m267.1 9 = some (9, .ireturn, 10, []) := rfl
theorem k268_0 : mm_lk mm_m268.1 0 = some (0, .aload_n 0, 1, []) := rfl
theorem k268_1 : mm_lk mm_m268.1 1 = some (1, .iconst 0, 2, []) := rfl
theorem k268_2 : mm_lk mm_m268.1 2 = some (2, .putfield 48, 5, [0, 14, 6, 1834]) := rfl
theorem k268_5 : mm_lk mm_m268.1 5 = some (5, .aload_n 0, 6, []) := rfl
theorem k268_6 : mm_lk mm_m268.1 6 = some (6, .invokevirtual 396, 9, [0, 196, 1, 14, 2294, 2296, 113, 151]) := rfl
theorem k268_9 : mm_lk mm_m268.1 9 = some (9, .istore_n 1, 10, []) := rfl
theorem k268_10 : mm_lk mm_m268.1 10 = some (10, .iconst 0, 11, []) := rfl
theorem k268_11 : mm_lk mm_m268.1 11 = some (11, .istore_n 2, 12, []) := rfl
theorem k268_12 : mm_lk mm_m268.1 12 = some (12, .iconst 0, 13, []) := rfl
theorem k268_13 : mm_lk mm_m268.1 13 = some (13, .istore_n 3, 14, []) := rfl
theorem k268_14 : mm_lk mm_m268.1 14 = some (14, .iload_n 3, 15, []) := rfl
theorem k268_15 : mm_lk mm_m268.1 15 = some (15, .aload_n 0, 16, []) := rfl
theorem k268_16 : mm_lk mm_m268.1 16 = some (16, .invokevirtual 63, 19, [0, 179, 1, 14, 1821, 1823, 44, 151]) := rfl
theorem k268_19 : mm_lk mm_m268.1 19 = some (19, .if_icmp .ge 40, 22, [59]) := rfl
theorem k268_22 : mm_lk mm_m268.1 22 = some (22, .iload_n 2, 23, []) := rfl
theorem k268_23 : mm_lk mm_m268.1 23 = some (23, .aload_n 0, 24, []) := rfl
theorem k268_24 : mm_lk mm_m268.1 24 = some (24, .iload_n 3, 25, []) := rfl
theorem k268_25 : mm_lk mm_m268.1 25 = some (25, .aload_n 0, 26, []) := rfl
theorem k268_26 : mm_lk mm_m268.1 26 = some (26, .getfield 7, 29, [0, 14, 0, 1828]) := rfl
theorem k268_29 : mm_lk mm_m268.1 29 = some (29, .iconst 4, 30, []) := rfl
theorem k268_30 : mm_lk mm_m268.1 30 = some (30, .iaload, 31, []) := rfl
theorem k268_31 : mm_lk mm_m268.1 31 = some (31, .invokevirtual 78, 34, [0, 186, 3, 14, 2105, 2107, 81, 151]) := rfl
theorem k268_34 : mm_lk mm_m268.1 34 = some (34, .iload_n 1, 35, []) := rfl
theorem k268_35 : mm_lk mm_m268.1 35 = some (35, .iconst (-1), 36, []) := rfl
theorem k268_36 : mm_lk mm_m268.1 36 = some (36, .ixor, 37, []) := rfl
theorem k268_37 : mm_lk mm_m268.1 37 = some (37, .iand, 38, []) := rfl
theorem k268_38 : mm_lk mm_m268.1 38 = some (38, .ifCond .ne 7, 41, [45]) := rfl
theorem k268_41 : mm_lk mm_m268.1 41 = some (41, .iconst 1, 42, []) := rfl
theorem k268_42 : mm_lk mm_m268.1 42 = some (42, .goto 4, 45, [46]) := rfl
theorem k268_45 : mm_lk mm_m268.1 45 = some (45, .iconst 0, 46, []) := rfl
theorem k268_46 : mm_lk mm_m268.1 46 = some (46, .invokestatic 66, 49, [1, 172, 1, 1825, 1826, 151]) := rfl
theorem k268_49 : mm_lk mm_m268.1 49 = some (49, .iload_n 3, 50, []) := rfl
theorem k268_50 : mm_lk mm_m268.1 50 = some (50, .ishl, 51, []) := rfl
theorem k268_51 : mm_lk mm_m268.1 51 = some (51, .ior, 52, []) := rfl
theorem k268_52 : mm_lk mm_m268.1 52 = some (52, .istore_n 2, 53, []) := rfl
theorem k268_53 : mm_lk mm_m268.1 53 = some (53, .iinc 3 1, 56, []) := rfl
theorem k268_56 : mm_lk mm_m268.1 56 = some (56, .goto (-42), 59, [14]) := rfl
theorem k268_59 : mm_lk mm_m268.1 59 = some (59, .iload_n 2, 60, []) := rfl
theorem k268_60 : mm_lk mm_m268.1 60 = some (60, .ireturn, 61, []) := rfl
theorem k269_0 : mm_lk mm_m269.1 0 = some (0, .aload_n 0, 1, []) := rfl
theorem k269_1 : mm_lk mm_m269.1 1 = some (1, .iconst 0, 2, []) := rfl
theorem k269_2 : mm_lk mm_m269.1 2 = some (2, .putfield 48, 5, [0, 14, 6, 1834]) := rfl
theorem k269_5 : mm_lk mm_m269.1 5 = some (5, .aload_n 0, 6, []) := rfl
theorem k269_6 : mm_lk mm_m269.1 6 = some (6, .aload_n 0, 7, []) := rfl
theorem k269_7 : mm_lk mm_m269.1 7 = some (7, .getfield 7, 10, [0, 14, 0, 1828]) := rfl
theorem k269_10 : mm_lk mm_m269.1 10 = some (10, .iconst 4, 11, []) := rfl
theorem k269_11 : mm_lk mm_m269.1 11 = some (11, .iaload, 12, []) := rfl
theorem k269_12 : mm_lk mm_m269.1 12 = some (12, .aload_n 0, 13, []) := rfl
theorem k269_13 : mm_lk mm_m269.1 13 = some (13, .invokevirtual 396, 16, [0, 196, 1, 14, 2294, 2296, 113, 151]) := rfl
theorem k269_16 : mm_lk mm_m269.1 16 = some (16, .invokevirtual 328, 19, [0, 246, 3, 14, 2224, 2226, 107, 151]) := rfl
theorem k269_19 : mm_lk mm_m269.1 19 = some (19, .ireturn, 20, []) := rfl
theorem k270_0 : mm_lk mm_m270.1 0 = some (0, .aload_n 0, 1, []) := rfl
theorem k270_1 : mm_lk mm_m270.1 1 = some (1, .iconst 0, 2, []) := rfl
theorem k270_2 : mm_lk mm_m270.1 2 = some (2, .putfield 48, 5, [0, 14, 6, 1834]) := rfl
theorem k270_5 : mm_lk mm_m270.1 5 = some (5, .aload_n 0, 6, []) := rfl
theorem k270_6 : mm_lk mm_m270.1 6 = some (6, .aload_n 0, 7, []) := rfl
theorem k270_7 : mm_lk mm_m270.1 7 = some (7, .getfield 7, 10, [0, 14, 0, 1828]) := rfl
theorem k270_10 : mm_lk mm_m270.1 10 = some (10, .iconst 4, 11, []) := rfl
theorem k270_11 : mm_lk mm_m270.1 11 = some (11, .iaload, 12, []) := rfl
theorem k270_12 : mm_lk mm_m270.1 12 = some (12, .invokevirtual 88, 15, [0, 192, 2, 14, 2121, 2123, 85, 151]) := rfl
theorem k270_15 : mm_lk mm_m270.1 15 = some (15, .aload_n 0, 16, []) := rfl
theorem k270_16 : mm_lk mm_m270.1 16 = some (16, .invokevirtual 396, 19, [0, 196, 1, 14, 2294, 2296, 113, 151]) := rfl
theorem k270_19 : mm_lk mm_m270.1 19 = some (19, .iconst (-1), 20, []) := rfl
theorem k270_20 : mm_lk mm_m270.1 20 = some (20, .ixor, 21, []) := rfl
theorem k270_21 : mm_lk mm_m270.1 21 = some (21, .iand, 22, []) := rfl
theorem k270_22 : mm_lk mm_m270.1 22 = some (22, .ifCond .ne 7, 25, [29]) := rfl
theorem k270_25 : mm_lk mm_m270.1 25 = some (25, .iconst 1, 26, []) := rfl
theorem k270_26 : mm_lk mm_m270.1 26 = some (26, .goto 4, 29, [30]) := rfl
theorem k270_29 : mm_lk mm_m270.1 29 = some (29, .iconst 0, 30, []) := rfl
theorem k270_30 : mm_lk mm_m270.1 30 = some (30, .ireturn, 31, []) := rfl
