/-! ===== code, row by row (by program) ===== -/
/-- WhoKnowsModel.tried(Z)Z -/
def mm_m292 : mm_M := (mm_c292, 2, 2, [])
set_option maxRecDepth 20000 in
theorem P292 : mm_P 292 = some mm_m292 := rfl
/-- WhoKnowsModel.done(I)I -/
def mm_m293 : mm_M := (mm_c293, 2, 1, [])
set_option maxRecDepth 20000 in
theorem P293 : mm_P 293 = some mm_m293 := rfl
/-- WhoKnowsModel.announce()I -/
def mm_m294 : mm_M := (mm_c294, 1, 1, [])
set_option maxRecDepth 20000 in
theorem P294 : mm_P 294 = some mm_m294 := rfl
/-- WhoKnowsModel.say(I)I -/
def mm_m295 : mm_M := (mm_c295, 2, 1, [])
set_option maxRecDepth 20000 in
theorem P295 : mm_P 295 = some mm_m295 := rfl
/-- WhoKnowsModel.whisper(I)I -/
def mm_m296 : mm_M := (mm_c296, 2, 1, [])
set_option maxRecDepth 20000 in
theorem P296 : mm_P 296 = some mm_m296 := rfl
/-- WhoKnowsModel.show(II)I -/
def mm_m297 : mm_M := (mm_c297, 3, 1, [])
set_option maxRecDepth 20000 in
theorem P297 : mm_P 297 = some mm_m297 := rfl
/-- WhoKnowsModel.round(I)I -/
def mm_m298 : mm_M := (mm_c298, 2, 1, [])
set_option maxRecDepth 20000 in
theorem P298 : mm_P 298 = some mm_m298 := rfl
theorem k292_0 : mm_lk mm_m292.1 0 = some (0, .iload_n 1, 1, []) := rfl
theorem k292_1 : mm_lk mm_m292.1 1 = some (1, .ifCond .eq 16, 4, [17]) := rfl
theorem k292_4 : mm_lk mm_m292.1 4 = some (4, .aload_n 0, 5, []) := rfl
theorem k292_5 : mm_lk mm_m292.1 5 = some (5, .getfield 7, 8, [0, 14, 0, 1828]) := rfl
theorem k292_8 : mm_lk mm_m292.1 8 = some (8, .iconst 0, 9, []) := rfl
theorem k292_9 : mm_lk mm_m292.1 9 = some (9, .aload_n 0, 10, []) := rfl
theorem k292_10 : mm_lk mm_m292.1 10 = some (10, .getfield 16, 13, [0, 14, 2, 1830]) := rfl
theorem k292_13 : mm_lk mm_m292.1 13 = some (13, .iconst 0, 14, []) := rfl
theorem k292_14 : mm_lk mm_m292.1 14 = some (14, .invokestatic 286, 17, [1, 177, 4, 1945, 1946, 151]) := rfl
theorem k292_17 : mm_lk mm_m292.1 17 = some (17, .iload_n 1, 18, []) := rfl
theorem k292_18 : mm_lk mm_m292.1 18 = some (18, .ireturn, 19, []) := rfl
theorem k293_0 : mm_lk mm_m293.1 0 = some (0, .iload_n 1, 1, []) := rfl
theorem k293_1 : mm_lk mm_m293.1 1 = some (1, .ifCond .lt 11, 4, [12]) := rfl
theorem k293_4 : mm_lk mm_m293.1 4 = some (4, .aload_n 0, 5, []) := rfl
theorem k293_5 : mm_lk mm_m293.1 5 = some (5, .aload_n 0, 6, []) := rfl
theorem k293_6 : mm_lk mm_m293.1 6 = some (6, .getfield 16, 9, [0, 14, 2, 1830]) := rfl
theorem k293_9 : mm_lk mm_m293.1 9 = some (9, .invokevirtual 372, 12, [0, 253, 2, 14, 2175, 2177, 95, 151]) := rfl
theorem k293_12 : mm_lk mm_m293.1 12 = some (12, .iload_n 1, 13, []) := rfl
theorem k293_13 : mm_lk mm_m293.1 13 = some (13, .ireturn, 14, []) := rfl
theorem k294_0 : mm_lk mm_m294.1 0 = some (0, .aload_n 0, 1, []) := rfl
theorem k294_1 : mm_lk mm_m294.1 1 = some (1, .aload_n 0, 2, []) := rfl
theorem k294_2 : mm_lk mm_m294.1 2 = some (2, .iconst 1, 3, []) := rfl
theorem k294_3 : mm_lk mm_m294.1 3 = some (3, .invokevirtual 119, 6, [0, 176, 2, 14, 1918, 1920, 45, 151]) := rfl
theorem k294_6 : mm_lk mm_m294.1 6 = some (6, .invokevirtual 422, 9, [0, 292, 2, 14, 2407, 2409, 121, 151]) := rfl
theorem k294_9 : mm_lk mm_m294.1 9 = some (9, .ifCond .eq 21, 12, [30]) := rfl
theorem k294_12 : mm_lk mm_m294.1 12 = some (12, .aload_n 0, 13, []) := rfl
theorem k294_13 : mm_lk mm_m294.1 13 = some (13, .aload_n 0, 14, []) := rfl
theorem k294_14 : mm_lk mm_m294.1 14 = some (14, .aload_n 0, 15, []) := rfl
theorem k294_15 : mm_lk mm_m294.1 15 = some (15, .getfield 7, 18, [0, 14, 0, 1828]) := rfl
theorem k294_18 : mm_lk mm_m294.1 18 = some (18, .sipush 320, 21, []) := rfl
theorem k294_21 : mm_lk mm_m294.1 21 = some (21, .invokevirtual 353, 24, [0, 240, 3, 14, 2183, 2185, 97, 151]) := rfl
theorem k294_24 : mm_lk mm_m294.1 24 = some (24, .invokevirtual 425, 27, [0, 293, 2, 14, 2411, 2413, 122, 151]) := rfl
theorem k294_27 : mm_lk mm_m294.1 27 = some (27, .goto 4, 30, [31]) := rfl
theorem k294_31 : mm_lk mm_m294.1 31 = some (31, .ireturn, 32, []) := rfl
theorem k295_0 : mm_lk mm_m295.1 0 = some (0, .aload_n 0, 1, []) := rfl
theorem k295_1 : mm_lk mm_m295.1 1 = some (1, .aload_n 0, 2, []) := rfl
theorem k295_2 : mm_lk mm_m295.1 2 = some (2, .aload_n 0, 3, []) := rfl
theorem k295_3 : mm_lk mm_m295.1 3 = some (3, .iload_n 1, 4, []) := rfl
theorem k295_4 : mm_lk mm_m295.1 4 = some (4, .invokevirtual 384, 7, [0, 181, 2, 14, 2246, 2248, 109, 151]) := rfl
theorem k295_7 : mm_lk mm_m295.1 7 = some (7, .invokevirtual 119, 10, [0, 176, 2, 14, 1918, 1920, 45, 151]) := rfl
theorem k295_10 : mm_lk mm_m295.1 10 = some (10, .invokevirtual 422, 13, [0, 292, 2, 14, 2407, 2409, 121, 151]) := rfl
theorem k295_13 : mm_lk mm_m295.1 13 = some (13, .ifCond .eq 22, 16, [35]) := rfl
theorem k295_16 : mm_lk mm_m295.1 16 = some (16, .aload_n 0, 17, []) := rfl
theorem k295_17 : mm_lk mm_m295.1 17 = some (17, .aload_n 0, 18, []) := rfl
theorem k295_18 : mm_lk mm_m295.1 18 = some (18, .iload_n 1, 19, []) := rfl
theorem k295_19 : mm_lk mm_m295.1 19 = some (19, .aload_n 0, 20, []) := rfl
theorem k295_20 : mm_lk mm_m295.1 20 = some (20, .getfield 7, 23, [0, 14, 0, 1828]) := rfl
theorem k295_23 : mm_lk mm_m295.1 23 = some (23, .sipush 320, 26, []) := rfl
theorem k295_26 : mm_lk mm_m295.1 26 = some (26, .invokevirtual 356, 29, [0, 241, 4, 14, 2200, 2202, 101, 151]) := rfl
theorem k295_29 : mm_lk mm_m295.1 29 = some (29, .invokevirtual 425, 32, [0, 293, 2, 14, 2411, 2413, 122, 151]) := rfl
theorem k295_32 : mm_lk mm_m295.1 32 = some (32, .goto 4, 35, [36]) := rfl
theorem k295_35 : mm_lk mm_m295.1 35 = some (35, .iconst 0, 36, []) := rfl
theorem k295_36 : mm_lk mm_m295.1 36 = some (36, .ireturn, 37, []) := rfl
theorem k296_0 : mm_lk mm_m296.1 0 = some (0, .aload_n 0, 1, []) := rfl
theorem k296_1 : mm_lk mm_m296.1 1 = some (1, .aload_n 0, 2, []) := rfl
theorem k296_2 : mm_lk mm_m296.1 2 = some (2, .iload_n 1, 3, []) := rfl
theorem k296_3 : mm_lk mm_m296.1 3 = some (3, .ifCond .eq 15, 6, [18]) := rfl
theorem k296_6 : mm_lk mm_m296.1 6 = some (6, .aload_n 0, 7, []) := rfl
theorem k296_7 : mm_lk mm_m296.1 7 = some (7, .iload_n 1, 8, []) := rfl
theorem k296_8 : mm_lk mm_m296.1 8 = some (8, .invokevirtual 411, 11, [0, 280, 2, 14, 2354, 2356, 117, 151]) := rfl
theorem k296_11 : mm_lk mm_m296.1 11 = some (11, .ifCond .eq 7, 14, [18]) := rfl
theorem k296_14 : mm_lk mm_m296.1 14 = some (14, .iconst 1, 15, []) := rfl
theorem k296_15 : mm_lk mm_m296.1 15 = some (15, .goto 4, 18, [19]) := rfl
theorem k296_18 : mm_lk mm_m296.1 18 = some (18, .iconst 0, 19, []) := rfl
theorem k296_19 : mm_lk mm_m296.1 19 = some (19, .invokevirtual 119, 22, [0, 176, 2, 14, 1918, 1920, 45, 151]) := rfl
theorem k296_22 : mm_lk mm_m296.1 22 = some (22, .invokevirtual 422, 25, [0, 292, 2, 14, 2407, 2409, 121, 151]) := rfl
theorem k296_25 : mm_lk mm_m296.1 25 = some (25, .ifCond .eq 22, 28, [47]) := rfl
theorem k296_28 : mm_lk mm_m296.1 28 = some (28, .aload_n 0, 29, []) := rfl
theorem k296_29 : mm_lk mm_m296.1 29 = some (29, .aload_n 0, 30, []) := rfl
theorem k296_30 : mm_lk mm_m296.1 30 = some (30, .iload_n 1, 31, []) := rfl
theorem k296_31 : mm_lk mm_m296.1 31 = some (31, .aload_n 0, 32, []) := rfl
theorem k296_32 : mm_lk mm_m296.1 32 = some (32, .getfield 7, 35, [0, 14, 0, 1828]) := rfl
theorem k296_35 : mm_lk mm_m296.1 35 = some (35, .sipush 320, 38, []) := rfl
theorem k296_38 : mm_lk mm_m296.1 38 = some (38, .invokevirtual 360, 41, [0, 244, 4, 14, 2204, 2206, 102, 151]) := rfl
theorem k296_41 : mm_lk mm_m296.1 41 = some (41, .invokevirtual 425, 44, [0, 293, 2, 14, 2411, 2413, 122, 151]) := rfl
theorem k296_44 : mm_lk mm_m296.1 44 = some (44, .goto 4, 47, [48]) := rfl
theorem k296_47 : mm_lk mm_m296.1 47 = some (47, .iconst 0, 48, []) := rfl
theorem k296_48 : mm_lk mm_m296.1 48 = some (48, .ireturn, 49, []) := rfl
theorem k297_0 : mm_lk mm_m297.1 0 = some (0, .aload_n 0, 1, []) := rfl
theorem k297_1 : mm_lk mm_m297.1 1 = some (1, .aload_n 0, 2, []) := rfl
theorem k297_2 : mm_lk mm_m297.1 2 = some (2, .aload_n 0, 3, []) := rfl
theorem k297_3 : mm_lk mm_m297.1 3 = some (3, .iload_n 1, 4, []) := rfl
theorem k297_4 : mm_lk mm_m297.1 4 = some (4, .invokevirtual 384, 7, [0, 181, 2, 14, 2246, 2248, 109, 151]) := rfl
theorem k297_7 : mm_lk mm_m297.1 7 = some (7, .ifCond .eq 15, 10, [22]) := rfl
theorem k297_10 : mm_lk mm_m297.1 10 = some (10, .aload_n 0, 11, []) := rfl
theorem k297_11 : mm_lk mm_m297.1 11 = some (11, .iload_n 2, 12, []) := rfl
theorem k297_12 : mm_lk mm_m297.1 12 = some (12, .invokevirtual 387, 15, [0, 180, 2, 14, 2250, 2252, 110, 151]) := rfl
theorem k297_15 : mm_lk mm_m297.1 15 = some (15, .ifCond .eq 7, 18, [22]) := rfl
theorem k297_18 : mm_lk mm_m297.1 18 = some (18, .iconst 1, 19, []) := rfl
theorem k297_19 : mm_lk mm_m297.1 19 = some (19, .goto 4, 22, [23]) := rfl
theorem k297_22 : mm_lk mm_m297.1 22 = some (22, .iconst 0, 23, []) := rfl
theorem k297_23 : mm_lk mm_m297.1 23 = some (23, .invokevirtual 119, 26, [0, 176, 2, 14, 1918, 1920, 45, 151]) := rfl
theorem k297_26 : mm_lk mm_m297.1 26 = some (26, .invokevirtual 422, 29, [0, 292, 2, 14, 2407, 2409, 121, 151]) := rfl
theorem k297_29 : mm_lk mm_m297.1 29 = some (29, .ifCond .eq 16, 32, [45]) := rfl
theorem k297_32 : mm_lk mm_m297.1 32 = some (32, .aload_n 0, 33, []) := rfl
theorem k297_33 : mm_lk mm_m297.1 33 = some (33, .aload_n 0, 34, []) := rfl
theorem k297_34 : mm_lk mm_m297.1 34 = some (34, .iload_n 1, 35, []) := rfl
theorem k297_35 : mm_lk mm_m297.1 35 = some (35, .iload_n 2, 36, []) := rfl
theorem k297_36 : mm_lk mm_m297.1 36 = some (36, .invokevirtual 363, 39, [0, 245, 3, 14, 2216, 2218, 105, 151]) := rfl
theorem k297_39 : mm_lk mm_m297.1 39 = some (39, .invokevirtual 425, 42, [0, 293, 2, 14, 2411, 2413, 122, 151]) := rfl
theorem k297_42 : mm_lk mm_m297.1 42 = some (42, .goto 4, 45, [46]) := rfl
theorem k297_45 : mm_lk mm_m297.1 45 = some (45, .iconst 0, 46, []) := rfl
theorem k297_46 : mm_lk mm_m297.1 46 = some (46, .ireturn, 47, []) := rfl
theorem k298_0 : mm_lk mm_m298.1 0 = some (0, .aload_n 0, 1, []) := rfl
theorem k298_1 : mm_lk mm_m298.1 1 = some (1, .aload_n 0, 2, []) := rfl
theorem k298_2 : mm_lk mm_m298.1 2 = some (2, .aload_n 0, 3, []) := rfl
theorem k298_3 : mm_lk mm_m298.1 3 = some (3, .iload_n 1, 4, []) := rfl
theorem k298_4 : mm_lk mm_m298.1 4 = some (4, .invokevirtual 387, 7, [0, 180, 2, 14, 2250, 2252, 110, 151]) := rfl
theorem k298_7 : mm_lk mm_m298.1 7 = some (7, .invokevirtual 119, 10, [0, 176, 2, 14, 1918, 1920, 45, 151]) := rfl
theorem k298_10 : mm_lk mm_m298.1 10 = some (10, .invokevirtual 422, 13, [0, 292, 2, 14, 2407, 2409, 121, 151]) := rfl
theorem k298_13 : mm_lk mm_m298.1 13 = some (13, .ifCond .eq 15, 16, [28]) := rfl
theorem k298_16 : mm_lk mm_m298.1 16 = some (16, .aload_n 0, 17, []) := rfl
theorem k298_17 : mm_lk mm_m298.1 17 = some (17, .aload_n 0, 18, []) := rfl
theorem k298_18 : mm_lk mm_m298.1 18 = some (18, .iload_n 1, 19, []) := rfl
theorem k298_19 : mm_lk mm_m298.1 19 = some (19, .invokevirtual 366, 22, [0, 247, 2, 14, 2220, 2222, 106, 151]) := rfl
theorem k298_22 : mm_lk mm_m298.1 22 = some (22, .invokevirtual 425, 25, [0, 293, 2, 14, 2411, 2413, 122, 151]) := rfl
theorem k298_25 : mm_lk mm_m298.1 25 = some (25, .goto 4, 28, [29]) := rfl
theorem k298_28 : mm_lk mm_m298.1 28 = some (28, .iconst 0, 29, []) := rfl
theorem k298_29 : mm_lk mm_m298.1 29 = some (29, .ireturn, 30, []) := rfl
