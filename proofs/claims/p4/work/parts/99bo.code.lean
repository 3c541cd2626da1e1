/-! ===== code, row by row (by program) ===== -/
/-- WhoKnowsModel.wouldLeave()I -/
def mm_m278 : mm_M := (mm_c278, 1, 1, [])
set_option maxRecDepth 20000 in
theorem P278 : mm_P 278 = some mm_m278 := rfl
/-- WhoKnowsModel.wouldSay(I)I -/
def mm_m279 : mm_M := (mm_c279, 2, 1, [])
set_option maxRecDepth 20000 in
theorem P279 : mm_P 279 = some mm_m279 := rfl
/-- WhoKnowsModel.arePersons(I)Z -/
def mm_m280 : mm_M := (mm_c280, 2, 2, [])
set_option maxRecDepth 20000 in
theorem P280 : mm_P 280 = some mm_m280 := rfl
/-- WhoKnowsModel.wouldKnow(I)I -/
def mm_m281 : mm_M := (mm_c281, 3, 1, [])
set_option maxRecDepth 20000 in
theorem P281 : mm_P 281 = some mm_m281 := rfl
/-- WhoKnowsModel.roundsNow(I)I -/
def mm_m282 : mm_M := (mm_c282, 5, 1, [])
set_option maxRecDepth 20000 in
theorem P282 : mm_P 282 = some mm_m282 := rfl
/-- WhoKnowsModel.roundsTo(I)I -/
def mm_m283 : mm_M := (mm_c283, 2, 1, [])
set_option maxRecDepth 20000 in
theorem P283 : mm_P 283 = some mm_m283 := rfl
/-- WhoKnowsModel.bestFact()I -/
def mm_m284 : mm_M := (mm_c284, 6, 1, [])
set_option maxRecDepth 20000 in
theorem P284 : mm_P 284 = some mm_m284 := rfl
/-- WhoKnowsModel.agreeing(I)I -/
def mm_m285 : mm_M := (mm_c285, 4, 1, [])
set_option maxRecDepth 20000 in
theorem P285 : mm_P 285 = some mm_m285 := rfl
/-- WhoKnowsModel.leastShown(I)I -/
def mm_m286 : mm_M := (mm_c286, 5, 1, [])
set_option maxRecDepth 20000 in
theorem P286 : mm_P 286 = some mm_m286 := rfl
/-- WhoKnowsModel.log(II)I -/
def mm_m287 : mm_M := (mm_c287, 3, 1, [])
set_option maxRecDepth 20000 in
theorem P287 : mm_P 287 = some mm_m287 := rfl
/-- WhoKnowsModel.account(I)I -/
def mm_m288 : mm_M := (mm_c288, 2, 1, [])
set_option maxRecDepth 20000 in
theorem P288 : mm_P 288 = some mm_m288 := rfl
/-- WhoKnowsModel.gap()I -/
def mm_m289 : mm_M := (mm_c289, 1, 1, [])
set_option maxRecDepth 20000 in
theorem P289 : mm_P 289 = some mm_m289 := rfl
theorem k278_0 : mm_lk mm_m278.1 0 = some (0, .aload_n 0, 1, []) := rfl
theorem k278_1 : mm_lk mm_m278.1 1 = some (1, .iconst 0, 2, []) := rfl
theorem k278_2 : mm_lk mm_m278.1 2 = some (2, .putfield 48, 5, [0, 14, 6, 1834]) := rfl
theorem k278_5 : mm_lk mm_m278.1 5 = some (5, .aload_n 0, 6, []) := rfl
theorem k278_6 : mm_lk mm_m278.1 6 = some (6, .invokevirtual 402, 9, [0, 276, 1, 14, 2338, 2340, 115, 151]) := rfl
theorem k278_9 : mm_lk mm_m278.1 9 = some (9, .aload_n 0, 10, []) := rfl
theorem k278_10 : mm_lk mm_m278.1 10 = some (10, .aload_n 0, 11, []) := rfl
theorem k278_11 : mm_lk mm_m278.1 11 = some (11, .aload_n 0, 12, []) := rfl
theorem k278_12 : mm_lk mm_m278.1 12 = some (12, .getfield 7, 15, [0, 14, 0, 1828]) := rfl
theorem k278_15 : mm_lk mm_m278.1 15 = some (15, .sipush 320, 18, []) := rfl
theorem k278_18 : mm_lk mm_m278.1 18 = some (18, .invokevirtual 353, 21, [0, 240, 3, 14, 2183, 2185, 97, 151]) := rfl
theorem k278_21 : mm_lk mm_m278.1 21 = some (21, .invokevirtual 405, 24, [0, 277, 2, 14, 2342, 2344, 116, 151]) := rfl
theorem k278_24 : mm_lk mm_m278.1 24 = some (24, .ireturn, 25, []) := rfl
theorem k279_0 : mm_lk mm_m279.1 0 = some (0, .aload_n 0, 1, []) := rfl
theorem k279_1 : mm_lk mm_m279.1 1 = some (1, .aload_n 0, 2, []) := rfl
theorem k279_2 : mm_lk mm_m279.1 2 = some (2, .iload_n 1, 3, []) := rfl
theorem k279_3 : mm_lk mm_m279.1 3 = some (3, .invokevirtual 384, 6, [0, 181, 2, 14, 2246, 2248, 109, 151]) := rfl
theorem k279_6 : mm_lk mm_m279.1 6 = some (6, .invokevirtual 119, 9, [0, 176, 2, 14, 1918, 1920, 45, 151]) := rfl
theorem k279_9 : mm_lk mm_m279.1 9 = some (9, .ifCond .ne 5, 12, [14]) := rfl
theorem k279_12 : mm_lk mm_m279.1 12 = some (12, .iconst 0, 13, []) := rfl
theorem k279_13 : mm_lk mm_m279.1 13 = some (13, .ireturn, 14, []) := rfl
theorem k279_14 : mm_lk mm_m279.1 14 = some (14, .aload_n 0, 15, []) := rfl
theorem k279_15 : mm_lk mm_m279.1 15 = some (15, .invokevirtual 402, 18, [0, 276, 1, 14, 2338, 2340, 115, 151]) := rfl
theorem k279_18 : mm_lk mm_m279.1 18 = some (18, .aload_n 0, 19, []) := rfl
theorem k279_19 : mm_lk mm_m279.1 19 = some (19, .aload_n 0, 20, []) := rfl
theorem k279_20 : mm_lk mm_m279.1 20 = some (20, .iload_n 1, 21, []) := rfl
theorem k279_21 : mm_lk mm_m279.1 21 = some (21, .aload_n 0, 22, []) := rfl
theorem k279_22 : mm_lk mm_m279.1 22 = some (22, .getfield 7, 25, [0, 14, 0, 1828]) := rfl
theorem k279_25 : mm_lk mm_m279.1 25 = some (25, .sipush 320, 28, []) := rfl
theorem k279_28 : mm_lk mm_m279.1 28 = some (28, .invokevirtual 356, 31, [0, 241, 4, 14, 2200, 2202, 101, 151]) := rfl
theorem k279_31 : mm_lk mm_m279.1 31 = some (31, .invokevirtual 405, 34, [0, 277, 2, 14, 2342, 2344, 116, 151]) := rfl
theorem k279_34 : mm_lk mm_m279.1 34 = some (34, .ireturn, 35, []) := rfl
theorem k280_0 : mm_lk mm_m280.1 0 = some (0, .iload_n 1, 1, []) := rfl
theorem k280_1 : mm_lk mm_m280.1 1 = some (1, .aload_n 0, 2, []) := rfl
theorem k280_2 : mm_lk mm_m280.1 2 = some (2, .invokevirtual 408, 5, [0, 183, 1, 14, 2358, 2360, 118, 151]) := rfl
theorem k280_5 : mm_lk mm_m280.1 5 = some (5, .iconst (-1), 6, []) := rfl
theorem k280_6 : mm_lk mm_m280.1 6 = some (6, .ixor, 7, []) := rfl
theorem k280_7 : mm_lk mm_m280.1 7 = some (7, .iand, 8, []) := rfl
theorem k280_8 : mm_lk mm_m280.1 8 = some (8, .ifCond .ne 7, 11, [15]) := rfl
theorem k280_11 : mm_lk mm_m280.1 11 = some (11, .iconst 1, 12, []) := rfl
theorem k280_12 : mm_lk mm_m280.1 12 = some (12, .goto 4, 15, [16]) := rfl
theorem k280_15 : mm_lk mm_m280.1 15 = some (15, .iconst 0, 16, []) := rfl
theorem k280_16 : mm_lk mm_m280.1 16 = some (16, .ireturn, 17, []) := rfl
theorem k281_0 : mm_lk mm_m281.1 0 = some (0, .aload_n 0, 1, []) := rfl
theorem k281_1 : mm_lk mm_m281.1 1 = some (1, .aload_n 0, 2, []) := rfl
theorem k281_2 : mm_lk mm_m281.1 2 = some (2, .iload_n 1, 3, []) := rfl
theorem k281_3 : mm_lk mm_m281.1 3 = some (3, .invokevirtual 411, 6, [0, 280, 2, 14, 2354, 2356, 117, 151]) := rfl
theorem k281_6 : mm_lk mm_m281.1 6 = some (6, .invokevirtual 119, 9, [0, 176, 2, 14, 1918, 1920, 45, 151]) := rfl
theorem k281_9 : mm_lk mm_m281.1 9 = some (9, .ifCond .ne 5, 12, [14]) := rfl
theorem k281_12 : mm_lk mm_m281.1 12 = some (12, .iconst 0, 13, []) := rfl
theorem k281_13 : mm_lk mm_m281.1 13 = some (13, .ireturn, 14, []) := rfl
theorem k281_14 : mm_lk mm_m281.1 14 = some (14, .aload_n 0, 15, []) := rfl
theorem k281_15 : mm_lk mm_m281.1 15 = some (15, .invokevirtual 402, 18, [0, 276, 1, 14, 2338, 2340, 115, 151]) := rfl
theorem k281_18 : mm_lk mm_m281.1 18 = some (18, .aload_n 0, 19, []) := rfl
theorem k281_19 : mm_lk mm_m281.1 19 = some (19, .iload_n 1, 20, []) := rfl
theorem k281_20 : mm_lk mm_m281.1 20 = some (20, .aload_n 0, 21, []) := rfl
theorem k281_21 : mm_lk mm_m281.1 21 = some (21, .getfield 7, 24, [0, 14, 0, 1828]) := rfl
theorem k281_24 : mm_lk mm_m281.1 24 = some (24, .sipush 320, 27, []) := rfl
theorem k281_27 : mm_lk mm_m281.1 27 = some (27, .invokevirtual 360, 30, [0, 244, 4, 14, 2204, 2206, 102, 151]) := rfl
theorem k281_30 : mm_lk mm_m281.1 30 = some (30, .istore_n 2, 31, []) := rfl
theorem k281_31 : mm_lk mm_m281.1 31 = some (31, .aload_n 0, 32, []) := rfl
theorem k281_32 : mm_lk mm_m281.1 32 = some (32, .aload_n 0, 33, []) := rfl
theorem k281_33 : mm_lk mm_m281.1 33 = some (33, .invokevirtual 399, 36, [0, 274, 1, 14, 2330, 2332, 114, 151]) := rfl
theorem k281_36 : mm_lk mm_m281.1 36 = some (36, .invokevirtual 405, 39, [0, 277, 2, 14, 2342, 2344, 116, 151]) := rfl
theorem k281_39 : mm_lk mm_m281.1 39 = some (39, .ireturn, 40, []) := rfl
theorem k282_0 : mm_lk mm_m282.1 0 = some (0, .iconst 0, 1, []) := rfl
theorem k282_1 : mm_lk mm_m282.1 1 = some (1, .istore_n 2, 2, []) := rfl
theorem k282_2 : mm_lk mm_m282.1 2 = some (2, .aload_n 0, 3, []) := rfl
theorem k282_3 : mm_lk mm_m282.1 3 = some (3, .aload_n 0, 4, []) := rfl
theorem k282_4 : mm_lk mm_m282.1 4 = some (4, .getfield 7, 7, [0, 14, 0, 1828]) := rfl
theorem k282_7 : mm_lk mm_m282.1 7 = some (7, .iconst 4, 8, []) := rfl
theorem k282_8 : mm_lk mm_m282.1 8 = some (8, .iaload, 9, []) := rfl
theorem k282_9 : mm_lk mm_m282.1 9 = some (9, .iload_n 1, 10, []) := rfl
theorem k282_10 : mm_lk mm_m282.1 10 = some (10, .invokestatic 91, 13, [1, 184, 1, 2091, 2092, 151]) := rfl
theorem k282_13 : mm_lk mm_m282.1 13 = some (13, .invokevirtual 328, 16, [0, 246, 3, 14, 2224, 2226, 107, 151]) := rfl
theorem k282_16 : mm_lk mm_m282.1 16 = some (16, .aload_n 0, 17, []) := rfl
theorem k282_17 : mm_lk mm_m282.1 17 = some (17, .invokevirtual 408, 20, [0, 183, 1, 14, 2358, 2360, 118, 151]) := rfl
theorem k282_20 : mm_lk mm_m282.1 20 = some (20, .if_icmp .eq 35, 23, [55]) := rfl
theorem k282_23 : mm_lk mm_m282.1 23 = some (23, .aload_n 0, 24, []) := rfl
theorem k282_24 : mm_lk mm_m282.1 24 = some (24, .getfield 7, 27, [0, 14, 0, 1828]) := rfl
theorem k282_27 : mm_lk mm_m282.1 27 = some (27, .iconst 2, 28, []) := rfl
theorem k282_28 : mm_lk mm_m282.1 28 = some (28, .iaload, 29, []) := rfl
theorem k282_29 : mm_lk mm_m282.1 29 = some (29, .istore_n 3, 30, []) := rfl
theorem k282_30 : mm_lk mm_m282.1 30 = some (30, .aload_n 0, 31, []) := rfl
theorem k282_31 : mm_lk mm_m282.1 31 = some (31, .iload_n 1, 32, []) := rfl
theorem k282_32 : mm_lk mm_m282.1 32 = some (32, .invokevirtual 366, 35, [0, 247, 2, 14, 2220, 2222, 106, 151]) := rfl
theorem k282_35 : mm_lk mm_m282.1 35 = some (35, .istore 4, 37, []) := rfl
theorem k282_37 : mm_lk mm_m282.1 37 = some (37, .aload_n 0, 38, []) := rfl
theorem k282_38 : mm_lk mm_m282.1 38 = some (38, .getfield 7, 41, [0, 14, 0, 1828]) := rfl
theorem k282_41 : mm_lk mm_m282.1 41 = some (41, .iconst 2, 42, []) := rfl
theorem k282_42 : mm_lk mm_m282.1 42 = some (42, .iaload, 43, []) := rfl
theorem k282_43 : mm_lk mm_m282.1 43 = some (43, .iload_n 3, 44, []) := rfl
theorem k282_44 : mm_lk mm_m282.1 44 = some (44, .if_icmp .ne 5, 47, [49]) := rfl
theorem k282_47 : mm_lk mm_m282.1 47 = some (47, .iconst (-1), 48, []) := rfl
theorem k282_48 : mm_lk mm_m282.1 48 = some (48, .ireturn, 49, []) := rfl
theorem k282_49 : mm_lk mm_m282.1 49 = some (49, .iinc 2 1, 52, []) := rfl
theorem k282_52 : mm_lk mm_m282.1 52 = some (52, .goto (-50), 55, [2]) := rfl
theorem k282_55 : mm_lk mm_m282.1 55 = some (55, .iload_n 2, 56, []) := rfl
theorem k282_56 : mm_lk mm_m282.1 56 = some (56, .ireturn, 57, []) := rfl
theorem k283_0 : mm_lk mm_m283.1 0 = some (0, .aload_n 0, 1, []) := rfl
theorem k283_1 : mm_lk mm_m283.1 1 = some (1, .aload_n 0, 2, []) := rfl
theorem k283_2 : mm_lk mm_m283.1 2 = some (2, .iload_n 1, 3, []) := rfl
theorem k283_3 : mm_lk mm_m283.1 3 = some (3, .invokevirtual 387, 6, [0, 180, 2, 14, 2250, 2252, 110, 151]) := rfl
theorem k283_6 : mm_lk mm_m283.1 6 = some (6, .invokevirtual 119, 9, [0, 176, 2, 14, 1918, 1920, 45, 151]) := rfl
theorem k283_9 : mm_lk mm_m283.1 9 = some (9, .ifCond .ne 5, 12, [14]) := rfl
theorem k283_12 : mm_lk mm_m283.1 12 = some (12, .iconst 0, 13, []) := rfl
theorem k283_13 : mm_lk mm_m283.1 13 = some (13, .ireturn, 14, []) := rfl
theorem k283_14 : mm_lk mm_m283.1 14 = some (14, .aload_n 0, 15, []) := rfl
theorem k283_15 : mm_lk mm_m283.1 15 = some (15, .invokevirtual 402, 18, [0, 276, 1, 14, 2338, 2340, 115, 151]) := rfl
theorem k283_18 : mm_lk mm_m283.1 18 = some (18, .aload_n 0, 19, []) := rfl
theorem k283_19 : mm_lk mm_m283.1 19 = some (19, .aload_n 0, 20, []) := rfl
theorem k283_20 : mm_lk mm_m283.1 20 = some (20, .iload_n 1, 21, []) := rfl
theorem k283_21 : mm_lk mm_m283.1 21 = some (21, .invokevirtual 414, 24, [0, 282, 2, 14, 2366, 2368, 119, 151]) := rfl
theorem k283_24 : mm_lk mm_m283.1 24 = some (24, .invokevirtual 405, 27, [0, 277, 2, 14, 2342, 2344, 116, 151]) := rfl
theorem k283_27 : mm_lk mm_m283.1 27 = some (27, .ireturn, 28, []) := rfl
theorem k284_0 : mm_lk mm_m284.1 0 = some (0, .aload_n 0, 1, []) := rfl
theorem k284_1 : mm_lk mm_m284.1 1 = some (1, .iconst 0, 2, []) := rfl
theorem k284_2 : mm_lk mm_m284.1 2 = some (2, .putfield 48, 5, [0, 14, 6, 1834]) := rfl
theorem k284_5 : mm_lk mm_m284.1 5 = some (5, .iconst 0, 6, []) := rfl
theorem k284_6 : mm_lk mm_m284.1 6 = some (6, .istore_n 1, 7, []) := rfl
theorem k284_7 : mm_lk mm_m284.1 7 = some (7, .bipush 33, 9, []) := rfl
theorem k284_9 : mm_lk mm_m284.1 9 = some (9, .istore_n 2, 10, []) := rfl
theorem k284_10 : mm_lk mm_m284.1 10 = some (10, .iconst 0, 11, []) := rfl
theorem k284_11 : mm_lk mm_m284.1 11 = some (11, .istore_n 3, 12, []) := rfl
theorem k284_12 : mm_lk mm_m284.1 12 = some (12, .iload_n 3, 13, []) := rfl
theorem k284_13 : mm_lk mm_m284.1 13 = some (13, .aload_n 0, 14, []) := rfl
theorem k284_14 : mm_lk mm_m284.1 14 = some (14, .invokevirtual 55, 17, [0, 178, 1, 14, 2002, 2004, 57, 151]) := rfl
theorem k284_17 : mm_lk mm_m284.1 17 = some (17, .if_icmp .ge 65, 20, [82]) := rfl
theorem k284_20 : mm_lk mm_m284.1 20 = some (20, .aload_n 0, 21, []) := rfl
theorem k284_21 : mm_lk mm_m284.1 21 = some (21, .getfield 7, 24, [0, 14, 0, 1828]) := rfl
theorem k284_24 : mm_lk mm_m284.1 24 = some (24, .iconst 4, 25, []) := rfl
theorem k284_25 : mm_lk mm_m284.1 25 = some (25, .iaload, 26, []) := rfl
theorem k284_26 : mm_lk mm_m284.1 26 = some (26, .iload_n 3, 27, []) := rfl
theorem k284_27 : mm_lk mm_m284.1 27 = some (27, .invokestatic 51, 30, [1, 173, 2, 2094, 2095, 151]) := rfl
theorem k284_30 : mm_lk mm_m284.1 30 = some (30, .ifCond .eq 10, 33, [40]) := rfl
theorem k284_33 : mm_lk mm_m284.1 33 = some (33, .iload_n 3, 34, []) := rfl
theorem k284_34 : mm_lk mm_m284.1 34 = some (34, .invokestatic 91, 37, [1, 184, 1, 2091, 2092, 151]) := rfl
theorem k284_37 : mm_lk mm_m284.1 37 = some (37, .goto 9, 40, [46]) := rfl
theorem k284_40 : mm_lk mm_m284.1 40 = some (40, .iload_n 3, 41, []) := rfl
theorem k284_41 : mm_lk mm_m284.1 41 = some (41, .invokestatic 91, 44, [1, 184, 1, 2091, 2092, 151]) := rfl
theorem k284_44 : mm_lk mm_m284.1 44 = some (44, .iconst (-1), 45, []) := rfl
theorem k284_45 : mm_lk mm_m284.1 45 = some (45, .ixor, 46, []) := rfl
theorem k284_46 : mm_lk mm_m284.1 46 = some (46, .istore 4, 48, []) := rfl
theorem k284_48 : mm_lk mm_m284.1 48 = some (48, .aload_n 0, 49, []) := rfl
theorem k284_49 : mm_lk mm_m284.1 49 = some (49, .getfield 7, 52, [0, 14, 0, 1828]) := rfl
theorem k284_52 : mm_lk mm_m284.1 52 = some (52, .iconst 2, 53, []) := rfl
theorem k284_53 : mm_lk mm_m284.1 53 = some (53, .iaload, 54, []) := rfl
theorem k284_54 : mm_lk mm_m284.1 54 = some (54, .iload 4, 56, []) := rfl
theorem k284_56 : mm_lk mm_m284.1 56 = some (56, .iand, 57, []) := rfl
theorem k284_57 : mm_lk mm_m284.1 57 = some (57, .invokestatic 74, 60, [1, 174, 1, 1818, 1819, 151]) := rfl
theorem k284_60 : mm_lk mm_m284.1 60 = some (60, .istore 5, 62, []) := rfl
theorem k284_62 : mm_lk mm_m284.1 62 = some (62, .iload 5, 64, []) := rfl
theorem k284_64 : mm_lk mm_m284.1 64 = some (64, .iload_n 2, 65, []) := rfl
theorem k284_65 : mm_lk mm_m284.1 65 = some (65, .if_icmp .lt 6, 68, [71]) := rfl
theorem k284_68 : mm_lk mm_m284.1 68 = some (68, .goto 8, 71, [76]) := rfl
theorem k284_71 : mm_lk mm_m284.1 71 = some (71, .iload_n 3, 72, []) := rfl
theorem k284_72 : mm_lk mm_m284.1 72 = some (72, .istore_n 1, 73, []) := rfl
theorem k284_73 : mm_lk mm_m284.1 73 = some (73, .iload 5, 75, []) := rfl
theorem k284_75 : mm_lk mm_m284.1 75 = some (75, .istore_n 2, 76, []) := rfl
theorem k284_76 : mm_lk mm_m284.1 76 = some (76, .iinc 3 1, 79, []) := rfl
theorem k284_79 : mm_lk mm_m284.1 79 = some (79, .goto (-67), 82, [12]) := rfl
theorem k284_82 : mm_lk mm_m284.1 82 = some (82, .iload_n 1, 83, []) := rfl
theorem k284_83 : mm_lk mm_m284.1 83 = some (83, .ireturn, 84, []) := rfl
theorem k285_0 : mm_lk mm_m285.1 0 = some (0, .iconst 0, 1, []) := rfl
theorem k285_1 : mm_lk mm_m285.1 1 = some (1, .istore_n 2, 2, []) := rfl
theorem k285_2 : mm_lk mm_m285.1 2 = some (2, .iconst 0, 3, []) := rfl
theorem k285_3 : mm_lk mm_m285.1 3 = some (3, .istore_n 3, 4, []) := rfl
theorem k285_4 : mm_lk mm_m285.1 4 = some (4, .iload_n 3, 5, []) := rfl
theorem k285_5 : mm_lk mm_m285.1 5 = some (5, .bipush 32, 7, []) := rfl
theorem k285_7 : mm_lk mm_m285.1 7 = some (7, .if_icmp .ge 35, 10, [42]) := rfl
theorem k285_10 : mm_lk mm_m285.1 10 = some (10, .iload_n 2, 11, []) := rfl
theorem k285_11 : mm_lk mm_m285.1 11 = some (11, .iload_n 3, 12, []) := rfl
theorem k285_12 : mm_lk mm_m285.1 12 = some (12, .aload_n 0, 13, []) := rfl
theorem k285_13 : mm_lk mm_m285.1 13 = some (13, .getfield 7, 16, [0, 14, 0, 1828]) := rfl
theorem k285_16 : mm_lk mm_m285.1 16 = some (16, .iconst 4, 17, []) := rfl
theorem k285_17 : mm_lk mm_m285.1 17 = some (17, .iaload, 18, []) := rfl
theorem k285_18 : mm_lk mm_m285.1 18 = some (18, .ixor, 19, []) := rfl
theorem k285_19 : mm_lk mm_m285.1 19 = some (19, .iload_n 1, 20, []) := rfl
theorem k285_20 : mm_lk mm_m285.1 20 = some (20, .iand, 21, []) := rfl
theorem k285_21 : mm_lk mm_m285.1 21 = some (21, .ifCond .ne 7, 24, [28]) := rfl
theorem k285_24 : mm_lk mm_m285.1 24 = some (24, .iconst 1, 25, []) := rfl
theorem k285_25 : mm_lk mm_m285.1 25 = some (25, .goto 4, 28, [29]) := rfl
theorem k285_28 : mm_lk mm_m285.1 28 = some (28, .iconst 0, 29, []) := rfl
theorem k285_29 : mm_lk mm_m285.1 29 = some (29, .invokestatic 66, 32, [1, 172, 1, 1825, 1826, 151]) := rfl
theorem k285_32 : mm_lk mm_m285.1 32 = some (32, .iload_n 3, 33, []) := rfl
theorem k285_33 : mm_lk mm_m285.1 33 = some (33, .ishl, 34, []) := rfl
theorem k285_34 : mm_lk mm_m285.1 34 = some (34, .ior, 35, []) := rfl
theorem k285_35 : mm_lk mm_m285.1 35 = some (35, .istore_n 2, 36, []) := rfl
theorem k285_36 : mm_lk mm_m285.1 36 = some (36, .iinc 3 1, 39, []) := rfl
theorem k285_39 : mm_lk mm_m285.1 39 = some (39, .goto (-35), 42, [4]) := rfl
theorem k285_42 : mm_lk mm_m285.1 42 = some (42, .iload_n 2, 43, []) := rfl
theorem k285_43 : mm_lk mm_m285.1 43 = some (43, .ireturn, 44, []) := rfl
theorem k286_0 : mm_lk mm_m286.1 0 = some (0, .aload_n 0, 1, []) := rfl
theorem k286_1 : mm_lk mm_m286.1 1 = some (1, .aload_n 0, 2, []) := rfl
theorem k286_2 : mm_lk mm_m286.1 2 = some (2, .iload_n 1, 3, []) := rfl
theorem k286_3 : mm_lk mm_m286.1 3 = some (3, .invokevirtual 384, 6, [0, 181, 2, 14, 2246, 2248, 109, 151]) := rfl
theorem k286_6 : mm_lk mm_m286.1 6 = some (6, .invokevirtual 119, 9, [0, 176, 2, 14, 1918, 1920, 45, 151]) := rfl
theorem k286_9 : mm_lk mm_m286.1 9 = some (9, .ifCond .ne 5, 12, [14]) := rfl
theorem k286_12 : mm_lk mm_m286.1 12 = some (12, .iconst 0, 13, []) := rfl
theorem k286_13 : mm_lk mm_m286.1 13 = some (13, .ireturn, 14, []) := rfl
theorem k286_14 : mm_lk mm_m286.1 14 = some (14, .iconst 1, 15, []) := rfl
theorem k286_15 : mm_lk mm_m286.1 15 = some (15, .aload_n 0, 16, []) := rfl
theorem k286_16 : mm_lk mm_m286.1 16 = some (16, .invokevirtual 55, 19, [0, 178, 1, 14, 2002, 2004, 57, 151]) := rfl
theorem k286_19 : mm_lk mm_m286.1 19 = some (19, .ishl, 20, []) := rfl
theorem k286_20 : mm_lk mm_m286.1 20 = some (20, .iconst 1, 21, []) := rfl
theorem k286_21 : mm_lk mm_m286.1 21 = some (21, .isub, 22, []) := rfl
theorem k286_22 : mm_lk mm_m286.1 22 = some (22, .istore_n 2, 23, []) := rfl
theorem k286_23 : mm_lk mm_m286.1 23 = some (23, .iload_n 2, 24, []) := rfl
theorem k286_24 : mm_lk mm_m286.1 24 = some (24, .iconst 1, 25, []) := rfl
theorem k286_25 : mm_lk mm_m286.1 25 = some (25, .isub, 26, []) := rfl
theorem k286_26 : mm_lk mm_m286.1 26 = some (26, .istore_n 3, 27, []) := rfl
theorem k286_27 : mm_lk mm_m286.1 27 = some (27, .iload_n 3, 28, []) := rfl
theorem k286_28 : mm_lk mm_m286.1 28 = some (28, .ifCond .lt 62, 31, [90]) := rfl
theorem k286_31 : mm_lk mm_m286.1 31 = some (31, .aload_n 0, 32, []) := rfl
theorem k286_32 : mm_lk mm_m286.1 32 = some (32, .iload_n 1, 33, []) := rfl
theorem k286_33 : mm_lk mm_m286.1 33 = some (33, .aload_n 0, 34, []) := rfl
theorem k286_34 : mm_lk mm_m286.1 34 = some (34, .getfield 7, 37, [0, 14, 0, 1828]) := rfl
theorem k286_37 : mm_lk mm_m286.1 37 = some (37, .iconst 4, 38, []) := rfl
theorem k286_38 : mm_lk mm_m286.1 38 = some (38, .iaload, 39, []) := rfl
theorem k286_39 : mm_lk mm_m286.1 39 = some (39, .invokevirtual 78, 42, [0, 186, 3, 14, 2105, 2107, 81, 151]) := rfl
theorem k286_42 : mm_lk mm_m286.1 42 = some (42, .aload_n 0, 43, []) := rfl
theorem k286_43 : mm_lk mm_m286.1 43 = some (43, .iload_n 3, 44, []) := rfl
theorem k286_44 : mm_lk mm_m286.1 44 = some (44, .invokevirtual 417, 47, [0, 285, 2, 14, 2378, 2380, 120, 151]) := rfl
theorem k286_47 : mm_lk mm_m286.1 47 = some (47, .iand, 48, []) := rfl
theorem k286_48 : mm_lk mm_m286.1 48 = some (48, .iconst 1, 49, []) := rfl
theorem k286_49 : mm_lk mm_m286.1 49 = some (49, .aload_n 0, 50, []) := rfl
theorem k286_50 : mm_lk mm_m286.1 50 = some (50, .getfield 7, 53, [0, 14, 0, 1828]) := rfl
theorem k286_53 : mm_lk mm_m286.1 53 = some (53, .iconst 4, 54, []) := rfl
theorem k286_54 : mm_lk mm_m286.1 54 = some (54, .iaload, 55, []) := rfl
theorem k286_55 : mm_lk mm_m286.1 55 = some (55, .ishl, 56, []) := rfl
theorem k286_56 : mm_lk mm_m286.1 56 = some (56, .if_icmp .ne 7, 59, [63]) := rfl
theorem k286_59 : mm_lk mm_m286.1 59 = some (59, .iconst 1, 60, []) := rfl
theorem k286_60 : mm_lk mm_m286.1 60 = some (60, .goto 4, 63, [64]) := rfl
theorem k286_63 : mm_lk mm_m286.1 63 = some (63, .iconst 0, 64, []) := rfl
theorem k286_64 : mm_lk mm_m286.1 64 = some (64, .istore 4, 66, []) := rfl
theorem k286_66 : mm_lk mm_m286.1 66 = some (66, .iload 4, 68, []) := rfl
theorem k286_68 : mm_lk mm_m286.1 68 = some (68, .ifCond .eq 16, 71, [84]) := rfl
theorem k286_71 : mm_lk mm_m286.1 71 = some (71, .iload_n 3, 72, []) := rfl
theorem k286_72 : mm_lk mm_m286.1 72 = some (72, .invokestatic 74, 75, [1, 174, 1, 1818, 1819, 151]) := rfl
theorem k286_75 : mm_lk mm_m286.1 75 = some (75, .iload_n 2, 76, []) := rfl
theorem k286_76 : mm_lk mm_m286.1 76 = some (76, .invokestatic 74, 79, [1, 174, 1, 1818, 1819, 151]) := rfl
theorem k286_79 : mm_lk mm_m286.1 79 = some (79, .if_icmp .gt 5, 82, [84]) := rfl
theorem k286_82 : mm_lk mm_m286.1 82 = some (82, .iload_n 3, 83, []) := rfl
theorem k286_83 : mm_lk mm_m286.1 83 = some (83, .istore_n 2, 84, []) := rfl
theorem k286_84 : mm_lk mm_m286.1 84 = some (84, .iinc 3 (-1), 87, []) := rfl
theorem k286_87 : mm_lk mm_m286.1 87 = some (87, .goto (-60), 90, [27]) := rfl
theorem k286_90 : mm_lk mm_m286.1 90 = some (90, .iload_n 2, 91, []) := rfl
theorem k286_91 : mm_lk mm_m286.1 91 = some (91, .ireturn, 92, []) := rfl
theorem k287_0 : mm_lk mm_m287.1 0 = some (0, .aload_n 0, 1, []) := rfl
theorem k287_1 : mm_lk mm_m287.1 1 = some (1, .iload_n 2, 2, []) := rfl
theorem k287_2 : mm_lk mm_m287.1 2 = some (2, .i2l, 3, []) := rfl
theorem k287_3 : mm_lk mm_m287.1 3 = some (3, .lconst 0, 4, []) := rfl
theorem k287_4 : mm_lk mm_m287.1 4 = some (4, .ldc2_w 420, 7, [2, 2386]) := rfl
theorem k287_7 : mm_lk mm_m287.1 7 = some (7, .invokestatic 59, 10, [1, 171, 3, 1930, 1931, 151]) := rfl
theorem k287_10 : mm_lk mm_m287.1 10 = some (10, .invokevirtual 119, 13, [0, 176, 2, 14, 1918, 1920, 45, 151]) := rfl
theorem k287_13 : mm_lk mm_m287.1 13 = some (13, .ifCond .ne 5, 16, [18]) := rfl
theorem k287_16 : mm_lk mm_m287.1 16 = some (16, .iconst 0, 17, []) := rfl
theorem k287_17 : mm_lk mm_m287.1 17 = some (17, .ireturn, 18, []) := rfl
theorem k287_18 : mm_lk mm_m287.1 18 = some (18, .iload_n 1, 19, []) := rfl
theorem k287_19 : mm_lk mm_m287.1 19 = some (19, .i2l, 20, []) := rfl
theorem k287_20 : mm_lk mm_m287.1 20 = some (20, .lconst 0, 21, []) := rfl
theorem k287_21 : mm_lk mm_m287.1 21 = some (21, .aload_n 0, 22, []) := rfl
theorem k287_22 : mm_lk mm_m287.1 22 = some (22, .getfield 7, 25, [0, 14, 0, 1828]) := rfl
theorem k287_25 : mm_lk mm_m287.1 25 = some (25, .bipush 6, 27, []) := rfl
theorem k287_27 : mm_lk mm_m287.1 27 = some (27, .iaload, 28, []) := rfl
theorem k287_28 : mm_lk mm_m287.1 28 = some (28, .iconst 1, 29, []) := rfl
theorem k287_29 : mm_lk mm_m287.1 29 = some (29, .isub, 30, []) := rfl
theorem k287_30 : mm_lk mm_m287.1 30 = some (30, .i2l, 31, []) := rfl
theorem k287_31 : mm_lk mm_m287.1 31 = some (31, .invokestatic 59, 34, [1, 171, 3, 1930, 1931, 151]) := rfl
theorem k287_34 : mm_lk mm_m287.1 34 = some (34, .ifCond .eq 19, 37, [53]) := rfl
theorem k287_37 : mm_lk mm_m287.1 37 = some (37, .aload_n 0, 38, []) := rfl
theorem k287_38 : mm_lk mm_m287.1 38 = some (38, .getfield 7, 41, [0, 14, 0, 1828]) := rfl
theorem k287_41 : mm_lk mm_m287.1 41 = some (41, .bipush 16, 43, []) := rfl
theorem k287_43 : mm_lk mm_m287.1 43 = some (43, .iconst 3, 44, []) := rfl
theorem k287_44 : mm_lk mm_m287.1 44 = some (44, .iload_n 1, 45, []) := rfl
theorem k287_45 : mm_lk mm_m287.1 45 = some (45, .imul, 46, []) := rfl
theorem k287_46 : mm_lk mm_m287.1 46 = some (46, .iadd, 47, []) := rfl
theorem k287_47 : mm_lk mm_m287.1 47 = some (47, .iload_n 2, 48, []) := rfl
theorem k287_48 : mm_lk mm_m287.1 48 = some (48, .iadd, 49, []) := rfl
theorem k287_49 : mm_lk mm_m287.1 49 = some (49, .iaload, 50, []) := rfl
theorem k287_50 : mm_lk mm_m287.1 50 = some (50, .goto 4, 53, [54]) := rfl
theorem k287_53 : mm_lk mm_m287.1 53 = some (53, .iconst (-1), 54, []) := rfl
theorem k287_54 : mm_lk mm_m287.1 54 = some (54, .ireturn, 55, []) := rfl
theorem k288_0 : mm_lk mm_m288.1 0 = some (0, .aload_n 0, 1, []) := rfl
theorem k288_1 : mm_lk mm_m288.1 1 = some (1, .iload_n 1, 2, []) := rfl
theorem k288_2 : mm_lk mm_m288.1 2 = some (2, .i2l, 3, []) := rfl
theorem k288_3 : mm_lk mm_m288.1 3 = some (3, .lconst 0, 4, []) := rfl
theorem k288_4 : mm_lk mm_m288.1 4 = some (4, .ldc2_w 186, 7, [6, 1989]) := rfl
theorem k288_7 : mm_lk mm_m288.1 7 = some (7, .invokestatic 59, 10, [1, 171, 3, 1930, 1931, 151]) := rfl
theorem k288_10 : mm_lk mm_m288.1 10 = some (10, .invokevirtual 119, 13, [0, 176, 2, 14, 1918, 1920, 45, 151]) := rfl
theorem k288_13 : mm_lk mm_m288.1 13 = some (13, .ifCond .eq 15, 16, [28]) := rfl
theorem k288_16 : mm_lk mm_m288.1 16 = some (16, .aload_n 0, 17, []) := rfl
theorem k288_17 : mm_lk mm_m288.1 17 = some (17, .getfield 7, 20, [0, 14, 0, 1828]) := rfl
theorem k288_20 : mm_lk mm_m288.1 20 = some (20, .bipush 8, 22, []) := rfl
theorem k288_22 : mm_lk mm_m288.1 22 = some (22, .iload_n 1, 23, []) := rfl
theorem k288_23 : mm_lk mm_m288.1 23 = some (23, .iadd, 24, []) := rfl
theorem k288_24 : mm_lk mm_m288.1 24 = some (24, .iaload, 25, []) := rfl
theorem k288_25 : mm_lk mm_m288.1 25 = some (25, .goto 4, 28, [29]) := rfl
theorem k288_28 : mm_lk mm_m288.1 28 = some (28, .iconst 0, 29, []) := rfl
theorem k288_29 : mm_lk mm_m288.1 29 = some (29, .ireturn, 30, []) := rfl
theorem k289_0 : mm_lk mm_m289.1 0 = some (0, .aload_n 0, 1, []) := rfl
theorem k289_1 : mm_lk mm_m289.1 1 = some (1, .iconst 0, 2, []) := rfl
theorem k289_2 : mm_lk mm_m289.1 2 = some (2, .putfield 48, 5, [0, 14, 6, 1834]) := rfl
theorem k289_5 : mm_lk mm_m289.1 5 = some (5, .aload_n 0, 6, []) := rfl
theorem k289_6 : mm_lk mm_m289.1 6 = some (6, .getfield 7, 9, [0, 14, 0, 1828]) := rfl
theorem k289_9 : mm_lk mm_m289.1 9 = some (9, .iconst 3, 10, []) := rfl
theorem k289_10 : mm_lk mm_m289.1 10 = some (10, .iaload, 11, []) := rfl
theorem k289_11 : mm_lk mm_m289.1 11 = some (11, .aload_n 0, 12, []) := rfl
theorem k289_12 : mm_lk mm_m289.1 12 = some (12, .getfield 7, 15, [0, 14, 0, 1828]) := rfl
theorem k289_15 : mm_lk mm_m289.1 15 = some (15, .iconst 2, 16, []) := rfl
theorem k289_16 : mm_lk mm_m289.1 16 = some (16, .iaload, 17, []) := rfl
theorem k289_17 : mm_lk mm_m289.1 17 = some (17, .invokestatic 74, 20, [1, 174, 1, 1818, 1819, 151]) := rfl
theorem k289_20 : mm_lk mm_m289.1 20 = some (20, .isub, 21, []) := rfl
theorem k289_21 : mm_lk mm_m289.1 21 = some (21, .aload_n 0, 22, []) := rfl
theorem k289_22 : mm_lk mm_m289.1 22 = some (22, .getfield 7, 25, [0, 14, 0, 1828]) := rfl
theorem k289_25 : mm_lk mm_m289.1 25 = some (25, .bipush 13, 27, []) := rfl
theorem k289_27 : mm_lk mm_m289.1 27 = some (27, .iaload, 28, []) := rfl
theorem k289_28 : mm_lk mm_m289.1 28 = some (28, .isub, 29, []) := rfl
theorem k289_29 : mm_lk mm_m289.1 29 = some (29, .ireturn, 30, []) := rfl
