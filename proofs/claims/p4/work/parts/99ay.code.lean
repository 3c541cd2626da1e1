/-! ===== code, row by row (by program) ===== -/
/-- WhoKnows$Knowledge.likeTo(II)I -/
def mm_m29 : mm_M := (mm_c29, 4, 1, [])
set_option maxRecDepth 20000 in
theorem P29 : mm_P 29 = some mm_m29 := rfl
/-- WhoKnows$Names.find(I)I -/
def mm_m51 : mm_M := (mm_c51, 3, 1, [])
set_option maxRecDepth 20000 in
theorem P51 : mm_P 51 = some mm_m51 := rfl
/-- WhoKnows$Source.spells(ILjava/lang/String;)Z -/
def mm_m70 : mm_M := (mm_c70, 4, 2, [])
set_option maxRecDepth 20000 in
theorem P70 : mm_P 70 = some mm_m70 := rfl
/-- WhoKnows$Source.isLetter(I)Z -/
def mm_m71 : mm_M := (mm_c71, 2, 2, [])
set_option maxRecDepth 20000 in
theorem P71 : mm_P 71 = some mm_m71 := rfl
/-- WhoKnows$Source.byteAt(I)I -/
def mm_m72 : mm_M := (mm_c72, 2, 1, [])
set_option maxRecDepth 20000 in
theorem P72 : mm_P 72 = some mm_m72 := rfl
/-- WhoKnows.at([II)I -/
def mm_m156 : mm_M := (mm_c156, 2, 1, [])
set_option maxRecDepth 20000 in
theorem P156 : mm_P 156 = some mm_m156 := rfl
/-- WhoKnows.put([III)V -/
def mm_m157 : mm_M := (mm_c157, 3, 0, [])
set_option maxRecDepth 20000 in
theorem P157 : mm_P 157 = some mm_m157 := rfl
/-- WhoKnows.isIn(II)Z -/
def mm_m159 : mm_M := (mm_c159, 2, 2, [])
set_option maxRecDepth 20000 in
theorem P159 : mm_P 159 = some mm_m159 := rfl
/-- WhoKnows.setOf(I)I -/
def mm_m160 : mm_M := (mm_c160, 1, 1, [])
set_option maxRecDepth 20000 in
theorem P160 : mm_P 160 = some mm_m160 := rfl
/-- WhoKnows.allBelow(I)I -/
def mm_m161 : mm_M := (mm_c161, 1, 1, [])
set_option maxRecDepth 20000 in
theorem P161 : mm_P 161 = some mm_m161 := rfl
/-- WhoKnows.lowestOf(I)I -/
def mm_m162 : mm_M := (mm_c162, 2, 1, [])
set_option maxRecDepth 20000 in
theorem P162 : mm_P 162 = some mm_m162 := rfl
/-- WhoKnows.agreeing(II)I -/
def mm_m163 : mm_M := (mm_c163, 4, 1, [])
set_option maxRecDepth 20000 in
theorem P163 : mm_P 163 = some mm_m163 := rfl
/-- WhoKnows.isPrefix(I)Z -/
def mm_m164 : mm_M := (mm_c164, 1, 2, [])
set_option maxRecDepth 20000 in
theorem P164 : mm_P 164 = some mm_m164 := rfl
/-- WhoKnows.isJoin(I)Z -/
def mm_m165 : mm_M := (mm_c165, 1, 2, [])
set_option maxRecDepth 20000 in
theorem P165 : mm_P 165 = some mm_m165 := rfl
/-- WhoKnows.namesPerson(I)Z -/
def mm_m166 : mm_M := (mm_c166, 1, 2, [])
set_option maxRecDepth 20000 in
theorem P166 : mm_P 166 = some mm_m166 := rfl
theorem k29_0 : mm_lk mm_m29.1 0 = some (0, .iload_n 1, 1, []) := rfl
theorem k29_1 : mm_lk mm_m29.1 1 = some (1, .bipush 32, 3, []) := rfl
theorem k29_3 : mm_lk mm_m29.1 3 = some (3, .imul, 4, []) := rfl
theorem k29_4 : mm_lk mm_m29.1 4 = some (4, .iload_n 2, 5, []) := rfl
theorem k29_5 : mm_lk mm_m29.1 5 = some (5, .iadd, 6, []) := rfl
theorem k29_6 : mm_lk mm_m29.1 6 = some (6, .istore_n 3, 7, []) := rfl
theorem k29_7 : mm_lk mm_m29.1 7 = some (7, .iload_n 2, 8, []) := rfl
theorem k29_8 : mm_lk mm_m29.1 8 = some (8, .ifCond .lt 22, 11, [30]) := rfl
theorem k29_11 : mm_lk mm_m29.1 11 = some (11, .iload_n 2, 12, []) := rfl
theorem k29_12 : mm_lk mm_m29.1 12 = some (12, .bipush 32, 14, []) := rfl
theorem k29_14 : mm_lk mm_m29.1 14 = some (14, .if_icmp .ge 16, 17, [30]) := rfl
theorem k29_17 : mm_lk mm_m29.1 17 = some (17, .iload_n 3, 18, []) := rfl
theorem k29_18 : mm_lk mm_m29.1 18 = some (18, .ifCond .lt 12, 21, [30]) := rfl
theorem k29_21 : mm_lk mm_m29.1 21 = some (21, .iload_n 3, 22, []) := rfl
theorem k29_22 : mm_lk mm_m29.1 22 = some (22, .aload_n 0, 23, []) := rfl
theorem k29_23 : mm_lk mm_m29.1 23 = some (23, .getfield 9, 26, [0, 5, 0, 231]) := rfl
theorem k29_26 : mm_lk mm_m29.1 26 = some (26, .arraylength, 27, []) := rfl
theorem k29_27 : mm_lk mm_m29.1 27 = some (27, .if_icmp .lt 5, 30, [32]) := rfl
theorem k29_30 : mm_lk mm_m29.1 30 = some (30, .iconst 0, 31, []) := rfl
theorem k29_31 : mm_lk mm_m29.1 31 = some (31, .ireturn, 32, []) := rfl
theorem k29_32 : mm_lk mm_m29.1 32 = some (32, .aload_n 0, 33, []) := rfl
theorem k29_33 : mm_lk mm_m29.1 33 = some (33, .getfield 21, 36, [0, 5, 1, 232]) := rfl
theorem k29_36 : mm_lk mm_m29.1 36 = some (36, .iload_n 2, 37, []) := rfl
theorem k29_37 : mm_lk mm_m29.1 37 = some (37, .iushr, 38, []) := rfl
theorem k29_38 : mm_lk mm_m29.1 38 = some (38, .iconst 1, 39, []) := rfl
theorem k29_39 : mm_lk mm_m29.1 39 = some (39, .iand, 40, []) := rfl
theorem k29_40 : mm_lk mm_m29.1 40 = some (40, .iconst 1, 41, []) := rfl
theorem k29_41 : mm_lk mm_m29.1 41 = some (41, .if_icmp .ne 17, 44, [58]) := rfl
theorem k29_44 : mm_lk mm_m29.1 44 = some (44, .aload_n 0, 45, []) := rfl
theorem k29_45 : mm_lk mm_m29.1 45 = some (45, .getfield 9, 48, [0, 5, 0, 231]) := rfl
theorem k29_48 : mm_lk mm_m29.1 48 = some (48, .iload_n 3, 49, []) := rfl
theorem k29_49 : mm_lk mm_m29.1 49 = some (49, .iaload, 50, []) := rfl
theorem k29_50 : mm_lk mm_m29.1 50 = some (50, .aload_n 0, 51, []) := rfl
theorem k29_51 : mm_lk mm_m29.1 51 = some (51, .getfield 21, 54, [0, 5, 1, 232]) := rfl
theorem k29_54 : mm_lk mm_m29.1 54 = some (54, .iand, 55, []) := rfl
theorem k29_55 : mm_lk mm_m29.1 55 = some (55, .goto 4, 58, [59]) := rfl
theorem k29_58 : mm_lk mm_m29.1 58 = some (58, .iconst 0, 59, []) := rfl
theorem k29_59 : mm_lk mm_m29.1 59 = some (59, .ireturn, 60, []) := rfl
theorem k51_0 : mm_lk mm_m51.1 0 = some (0, .iconst 0, 1, []) := rfl
theorem k51_1 : mm_lk mm_m51.1 1 = some (1, .istore_n 2, 2, []) := rfl
theorem k51_2 : mm_lk mm_m51.1 2 = some (2, .iload_n 2, 3, []) := rfl
theorem k51_3 : mm_lk mm_m51.1 3 = some (3, .aload_n 0, 4, []) := rfl
theorem k51_4 : mm_lk mm_m51.1 4 = some (4, .getfield 21, 7, [0, 7, 1, 471]) := rfl
theorem k51_7 : mm_lk mm_m51.1 7 = some (7, .if_icmp .ge 30, 10, [37]) := rfl
theorem k51_10 : mm_lk mm_m51.1 10 = some (10, .iload_n 2, 11, []) := rfl
theorem k51_11 : mm_lk mm_m51.1 11 = some (11, .aload_n 0, 12, []) := rfl
theorem k51_12 : mm_lk mm_m51.1 12 = some (12, .getfield 15, 15, [0, 7, 0, 470]) := rfl
theorem k51_15 : mm_lk mm_m51.1 15 = some (15, .arraylength, 16, []) := rfl
theorem k51_16 : mm_lk mm_m51.1 16 = some (16, .if_icmp .ge 21, 19, [37]) := rfl
theorem k51_19 : mm_lk mm_m51.1 19 = some (19, .aload_n 0, 20, []) := rfl
theorem k51_20 : mm_lk mm_m51.1 20 = some (20, .getfield 15, 23, [0, 7, 0, 470]) := rfl
theorem k51_23 : mm_lk mm_m51.1 23 = some (23, .iload_n 2, 24, []) := rfl
theorem k51_24 : mm_lk mm_m51.1 24 = some (24, .iaload, 25, []) := rfl
theorem k51_25 : mm_lk mm_m51.1 25 = some (25, .iload_n 1, 26, []) := rfl
theorem k51_26 : mm_lk mm_m51.1 26 = some (26, .if_icmp .ne 5, 29, [31]) := rfl
theorem k51_29 : mm_lk mm_m51.1 29 = some (29, .iload_n 2, 30, []) := rfl
theorem k51_30 : mm_lk mm_m51.1 30 = some (30, .ireturn, 31, []) := rfl
theorem k51_31 : mm_lk mm_m51.1 31 = some (31, .iinc 2 1, 34, []) := rfl
theorem k51_34 : mm_lk mm_m51.1 34 = some (34, .goto (-32), 37, [2]) := rfl
theorem k51_37 : mm_lk mm_m51.1 37 = some (37, .iconst (-1), 38, []) := rfl
theorem k51_38 : mm_lk mm_m51.1 38 = some (38, .ireturn, 39, []) := rfl
theorem k70_0 : mm_lk mm_m70.1 0 = some (0, .iconst 0, 1, []) := rfl
theorem k70_1 : mm_lk mm_m70.1 1 = some (1, .istore_n 3, 2, []) := rfl
theorem k70_2 : mm_lk mm_m70.1 2 = some (2, .iload_n 3, 3, []) := rfl
theorem k70_3 : mm_lk mm_m70.1 3 = some (3, .aload_n 2, 4, []) := rfl
theorem k70_4 : mm_lk mm_m70.1 4 = some (4, .invokevirtual 28, 7, [0, 362, 1, 0, 398, 399, 400, 142]) := rfl
theorem k70_7 : mm_lk mm_m70.1 7 = some (7, .if_icmp .ge 26, 10, [33]) := rfl
theorem k70_10 : mm_lk mm_m70.1 10 = some (10, .aload_n 0, 11, []) := rfl
theorem k70_11 : mm_lk mm_m70.1 11 = some (11, .iload_n 1, 12, []) := rfl
theorem k70_12 : mm_lk mm_m70.1 12 = some (12, .iload_n 3, 13, []) := rfl
theorem k70_13 : mm_lk mm_m70.1 13 = some (13, .iadd, 14, []) := rfl
theorem k70_14 : mm_lk mm_m70.1 14 = some (14, .invokevirtual 70, 17, [0, 72, 2, 11, 528, 530, 7, 133]) := rfl
theorem k70_17 : mm_lk mm_m70.1 17 = some (17, .aload_n 2, 18, []) := rfl
theorem k70_18 : mm_lk mm_m70.1 18 = some (18, .iload_n 3, 19, []) := rfl
theorem k70_19 : mm_lk mm_m70.1 19 = some (19, .invokevirtual 42, 22, [0, 363, 2, 0, 410, 411, 412, 142]) := rfl
theorem k70_22 : mm_lk mm_m70.1 22 = some (22, .if_icmp .eq 5, 25, [27]) := rfl
theorem k70_25 : mm_lk mm_m70.1 25 = some (25, .iconst 0, 26, []) := rfl
theorem k70_26 : mm_lk mm_m70.1 26 = some (26, .ireturn, 27, []) := rfl
theorem k70_27 : mm_lk mm_m70.1 27 = some (27, .iinc 3 1, 30, []) := rfl
theorem k70_30 : mm_lk mm_m70.1 30 = some (30, .goto (-28), 33, [2]) := rfl
theorem k70_33 : mm_lk mm_m70.1 33 = some (33, .aload_n 0, 34, []) := rfl
theorem k70_34 : mm_lk mm_m70.1 34 = some (34, .iload_n 1, 35, []) := rfl
theorem k70_35 : mm_lk mm_m70.1 35 = some (35, .aload_n 2, 36, []) := rfl
theorem k70_36 : mm_lk mm_m70.1 36 = some (36, .invokevirtual 28, 39, [0, 362, 1, 0, 398, 399, 400, 142]) := rfl
theorem k70_39 : mm_lk mm_m70.1 39 = some (39, .iadd, 40, []) := rfl
theorem k70_40 : mm_lk mm_m70.1 40 = some (40, .invokevirtual 73, 43, [0, 71, 2, 11, 532, 534, 8, 133]) := rfl
theorem k70_43 : mm_lk mm_m70.1 43 = some (43, .ifCond .ne 7, 46, [50]) := rfl
theorem k70_46 : mm_lk mm_m70.1 46 = some (46, .iconst 1, 47, []) := rfl
theorem k70_47 : mm_lk mm_m70.1 47 = some (47, .goto 4, 50, [51]) := rfl
theorem k70_50 : mm_lk mm_m70.1 50 = some (50, .iconst 0, 51, []) := rfl
theorem k70_51 : mm_lk mm_m70.1 51 = some (51, .ireturn, 52, []) := rfl
theorem k71_0 : mm_lk mm_m71.1 0 = some (0, .aload_n 0, 1, []) := rfl
theorem k71_1 : mm_lk mm_m71.1 1 = some (1, .iload_n 1, 2, []) := rfl
theorem k71_2 : mm_lk mm_m71.1 2 = some (2, .invokevirtual 70, 5, [0, 72, 2, 11, 528, 530, 7, 133]) := rfl
theorem k71_5 : mm_lk mm_m71.1 5 = some (5, .bipush 97, 7, []) := rfl
theorem k71_7 : mm_lk mm_m71.1 7 = some (7, .if_icmp .lt 17, 10, [24]) := rfl
theorem k71_10 : mm_lk mm_m71.1 10 = some (10, .aload_n 0, 11, []) := rfl
theorem k71_11 : mm_lk mm_m71.1 11 = some (11, .iload_n 1, 12, []) := rfl
theorem k71_12 : mm_lk mm_m71.1 12 = some (12, .invokevirtual 70, 15, [0, 72, 2, 11, 528, 530, 7, 133]) := rfl
theorem k71_15 : mm_lk mm_m71.1 15 = some (15, .bipush 122, 17, []) := rfl
theorem k71_17 : mm_lk mm_m71.1 17 = some (17, .if_icmp .gt 7, 20, [24]) := rfl
theorem k71_20 : mm_lk mm_m71.1 20 = some (20, .iconst 1, 21, []) := rfl
theorem k71_21 : mm_lk mm_m71.1 21 = some (21, .goto 4, 24, [25]) := rfl
theorem k71_24 : mm_lk mm_m71.1 24 = some (24, .iconst 0, 25, []) := rfl
theorem k71_25 : mm_lk mm_m71.1 25 = some (25, .ireturn, 26, []) := rfl
theorem k72_0 : mm_lk mm_m72.1 0 = some (0, .iload_n 1, 1, []) := rfl
theorem k72_1 : mm_lk mm_m72.1 1 = some (1, .ifCond .lt 29, 4, [30]) := rfl
theorem k72_4 : mm_lk mm_m72.1 4 = some (4, .iload_n 1, 5, []) := rfl
theorem k72_5 : mm_lk mm_m72.1 5 = some (5, .aload_n 0, 6, []) := rfl
theorem k72_6 : mm_lk mm_m72.1 6 = some (6, .getfield 40, 9, [0, 11, 4, 183]) := rfl
theorem k72_9 : mm_lk mm_m72.1 9 = some (9, .if_icmp .ge 21, 12, [30]) := rfl
theorem k72_12 : mm_lk mm_m72.1 12 = some (12, .iload_n 1, 13, []) := rfl
theorem k72_13 : mm_lk mm_m72.1 13 = some (13, .aload_n 0, 14, []) := rfl
theorem k72_14 : mm_lk mm_m72.1 14 = some (14, .getfield 9, 17, [0, 11, 0, 178]) := rfl
theorem k72_17 : mm_lk mm_m72.1 17 = some (17, .arraylength, 18, []) := rfl
theorem k72_18 : mm_lk mm_m72.1 18 = some (18, .if_icmp .ge 12, 21, [30]) := rfl
theorem k72_21 : mm_lk mm_m72.1 21 = some (21, .aload_n 0, 22, []) := rfl
theorem k72_22 : mm_lk mm_m72.1 22 = some (22, .getfield 9, 25, [0, 11, 0, 178]) := rfl
theorem k72_25 : mm_lk mm_m72.1 25 = some (25, .iload_n 1, 26, []) := rfl
theorem k72_26 : mm_lk mm_m72.1 26 = some (26, .iaload, 27, []) := rfl
theorem k72_27 : mm_lk mm_m72.1 27 = some (27, .goto 4, 30, [31]) := rfl
theorem k72_30 : mm_lk mm_m72.1 30 = some (30, .iconst (-1), 31, []) := rfl
theorem k72_31 : mm_lk mm_m72.1 31 = some (31, .ireturn, 32, []) := rfl
theorem k156_0 : mm_lk mm_m156.1 0 = some (0, .iload_n 1, 1, []) := rfl
theorem k156_1 : mm_lk mm_m156.1 1 = some (1, .ifCond .lt 15, 4, [16]) := rfl
theorem k156_4 : mm_lk mm_m156.1 4 = some (4, .iload_n 1, 5, []) := rfl
theorem k156_5 : mm_lk mm_m156.1 5 = some (5, .aload_n 0, 6, []) := rfl
theorem k156_6 : mm_lk mm_m156.1 6 = some (6, .arraylength, 7, []) := rfl
theorem k156_7 : mm_lk mm_m156.1 7 = some (7, .if_icmp .ge 9, 10, [16]) := rfl
theorem k156_10 : mm_lk mm_m156.1 10 = some (10, .aload_n 0, 11, []) := rfl
theorem k156_11 : mm_lk mm_m156.1 11 = some (11, .iload_n 1, 12, []) := rfl
theorem k156_12 : mm_lk mm_m156.1 12 = some (12, .iaload, 13, []) := rfl
theorem k156_13 : mm_lk mm_m156.1 13 = some (13, .goto 4, 16, [17]) := rfl
theorem k156_16 : mm_lk mm_m156.1 16 = some (16, .iconst 0, 17, []) := rfl
theorem k156_17 : mm_lk mm_m156.1 17 = some (17, .ireturn, 18, []) := rfl
theorem k157_0 : mm_lk mm_m157.1 0 = some (0, .iload_n 1, 1, []) := rfl
theorem k157_1 : mm_lk mm_m157.1 1 = some (1, .ifCond .lt 13, 4, [14]) := rfl
theorem k157_4 : mm_lk mm_m157.1 4 = some (4, .iload_n 1, 5, []) := rfl
theorem k157_5 : mm_lk mm_m157.1 5 = some (5, .aload_n 0, 6, []) := rfl
theorem k157_6 : mm_lk mm_m157.1 6 = some (6, .arraylength, 7, []) := rfl
theorem k157_7 : mm_lk mm_m157.1 7 = some (7, .if_icmp .ge 7, 10, [14]) := rfl
theorem k157_10 : mm_lk mm_m157.1 10 = some (10, .aload_n 0, 11, []) := rfl
theorem k157_11 : mm_lk mm_m157.1 11 = some (11, .iload_n 1, 12, []) := rfl
theorem k157_12 : mm_lk mm_m157.1 12 = some (12, .iload_n 2, 13, []) := rfl
theorem k157_13 : mm_lk mm_m157.1 13 = some (13, .iastore, 14, []) := rfl
theorem k157_14 : mm_lk mm_m157.1 14 = some (14, .return_, 15, []) := rfl
theorem k159_0 : mm_lk mm_m159.1 0 = some (0, .iload_n 1, 1, []) := rfl
theorem k159_1 : mm_lk mm_m159.1 1 = some (1, .ifCond .lt 22, 4, [23]) := rfl
theorem k159_4 : mm_lk mm_m159.1 4 = some (4, .iload_n 1, 5, []) := rfl
theorem k159_5 : mm_lk mm_m159.1 5 = some (5, .bipush 32, 7, []) := rfl
theorem k159_7 : mm_lk mm_m159.1 7 = some (7, .if_icmp .ge 16, 10, [23]) := rfl
theorem k159_10 : mm_lk mm_m159.1 10 = some (10, .iload_n 0, 11, []) := rfl
theorem k159_11 : mm_lk mm_m159.1 11 = some (11, .iload_n 1, 12, []) := rfl
theorem k159_12 : mm_lk mm_m159.1 12 = some (12, .iushr, 13, []) := rfl
theorem k159_13 : mm_lk mm_m159.1 13 = some (13, .iconst 1, 14, []) := rfl
theorem k159_14 : mm_lk mm_m159.1 14 = some (14, .iand, 15, []) := rfl
theorem k159_15 : mm_lk mm_m159.1 15 = some (15, .iconst 1, 16, []) := rfl
theorem k159_16 : mm_lk mm_m159.1 16 = some (16, .if_icmp .ne 7, 19, [23]) := rfl
theorem k159_19 : mm_lk mm_m159.1 19 = some (19, .iconst 1, 20, []) := rfl
theorem k159_20 : mm_lk mm_m159.1 20 = some (20, .goto 4, 23, [24]) := rfl
theorem k159_23 : mm_lk mm_m159.1 23 = some (23, .iconst 0, 24, []) := rfl
theorem k159_24 : mm_lk mm_m159.1 24 = some (24, .ireturn, 25, []) := rfl
theorem k160_0 : mm_lk mm_m160.1 0 = some (0, .iload_n 0, 1, []) := rfl
theorem k160_1 : mm_lk mm_m160.1 1 = some (1, .ifCond .lt 15, 4, [16]) := rfl
theorem k160_4 : mm_lk mm_m160.1 4 = some (4, .iload_n 0, 5, []) := rfl
theorem k160_5 : mm_lk mm_m160.1 5 = some (5, .bipush 32, 7, []) := rfl
theorem k160_7 : mm_lk mm_m160.1 7 = some (7, .if_icmp .ge 9, 10, [16]) := rfl
theorem k160_10 : mm_lk mm_m160.1 10 = some (10, .iconst 1, 11, []) := rfl
theorem k160_11 : mm_lk mm_m160.1 11 = some (11, .iload_n 0, 12, []) := rfl
theorem k160_12 : mm_lk mm_m160.1 12 = some (12, .ishl, 13, []) := rfl
theorem k160_13 : mm_lk mm_m160.1 13 = some (13, .goto 4, 16, [17]) := rfl
theorem k160_16 : mm_lk mm_m160.1 16 = some (16, .iconst 0, 17, []) := rfl
theorem k160_17 : mm_lk mm_m160.1 17 = some (17, .ireturn, 18, []) := rfl
theorem k161_0 : mm_lk mm_m161.1 0 = some (0, .iload_n 0, 1, []) := rfl
theorem k161_1 : mm_lk mm_m161.1 1 = some (1, .bipush 32, 3, []) := rfl
theorem k161_3 : mm_lk mm_m161.1 3 = some (3, .if_icmp .lt 7, 6, [10]) := rfl
theorem k161_6 : mm_lk mm_m161.1 6 = some (6, .iconst (-1), 7, []) := rfl
theorem k161_7 : mm_lk mm_m161.1 7 = some (7, .goto 8, 10, [15]) := rfl
theorem k161_10 : mm_lk mm_m161.1 10 = some (10, .iconst 1, 11, []) := rfl
theorem k161_11 : mm_lk mm_m161.1 11 = some (11, .iload_n 0, 12, []) := rfl
theorem k161_12 : mm_lk mm_m161.1 12 = some (12, .ishl, 13, []) := rfl
theorem k161_13 : mm_lk mm_m161.1 13 = some (13, .iconst 1, 14, []) := rfl
theorem k161_14 : mm_lk mm_m161.1 14 = some (14, .isub, 15, []) := rfl
theorem k161_15 : mm_lk mm_m161.1 15 = some (15, .ireturn, 16, []) := rfl
theorem k162_0 : mm_lk mm_m162.1 0 = some (0, .iconst 0, 1, []) := rfl
theorem k162_1 : mm_lk mm_m162.1 1 = some (1, .istore_n 1, 2, []) := rfl
theorem k162_2 : mm_lk mm_m162.1 2 = some (2, .iload_n 1, 3, []) := rfl
theorem k162_3 : mm_lk mm_m162.1 3 = some (3, .bipush 32, 5, []) := rfl
theorem k162_5 : mm_lk mm_m162.1 5 = some (5, .if_icmp .ge 19, 8, [24]) := rfl
theorem k162_8 : mm_lk mm_m162.1 8 = some (8, .iload_n 0, 9, []) := rfl
theorem k162_9 : mm_lk mm_m162.1 9 = some (9, .iload_n 1, 10, []) := rfl
theorem k162_10 : mm_lk mm_m162.1 10 = some (10, .invokestatic 252, 13, [1, 159, 2, 763, 715, 132]) := rfl
theorem k162_13 : mm_lk mm_m162.1 13 = some (13, .ifCond .eq 5, 16, [18]) := rfl
theorem k162_16 : mm_lk mm_m162.1 16 = some (16, .iload_n 1, 17, []) := rfl
theorem k162_17 : mm_lk mm_m162.1 17 = some (17, .ireturn, 18, []) := rfl
theorem k162_18 : mm_lk mm_m162.1 18 = some (18, .iinc 1 1, 21, []) := rfl
theorem k162_21 : mm_lk mm_m162.1 21 = some (21, .goto (-19), 24, [2]) := rfl
theorem k162_24 : mm_lk mm_m162.1 24 = some (24, .iconst (-1), 25, []) := rfl
theorem k162_25 : mm_lk mm_m162.1 25 = some (25, .ireturn, 26, []) := rfl
theorem k163_0 : mm_lk mm_m163.1 0 = some (0, .iconst (-1), 1, []) := rfl
theorem k163_1 : mm_lk mm_m163.1 1 = some (1, .istore_n 2, 2, []) := rfl
theorem k163_2 : mm_lk mm_m163.1 2 = some (2, .iconst 0, 3, []) := rfl
theorem k163_3 : mm_lk mm_m163.1 3 = some (3, .istore_n 3, 4, []) := rfl
theorem k163_4 : mm_lk mm_m163.1 4 = some (4, .iload_n 3, 5, []) := rfl
theorem k163_5 : mm_lk mm_m163.1 5 = some (5, .getstatic 271, 8, [0, 4, 831]) := rfl
theorem k163_8 : mm_lk mm_m163.1 8 = some (8, .arraylength, 9, []) := rfl
theorem k163_9 : mm_lk mm_m163.1 9 = some (9, .if_icmp .ge 45, 12, [54]) := rfl
theorem k163_12 : mm_lk mm_m163.1 12 = some (12, .iload_n 1, 13, []) := rfl
theorem k163_13 : mm_lk mm_m163.1 13 = some (13, .iload_n 3, 14, []) := rfl
theorem k163_14 : mm_lk mm_m163.1 14 = some (14, .iushr, 15, []) := rfl
theorem k163_15 : mm_lk mm_m163.1 15 = some (15, .iconst 1, 16, []) := rfl
theorem k163_16 : mm_lk mm_m163.1 16 = some (16, .iand, 17, []) := rfl
theorem k163_17 : mm_lk mm_m163.1 17 = some (17, .iconst 1, 18, []) := rfl
theorem k163_18 : mm_lk mm_m163.1 18 = some (18, .if_icmp .ne 30, 21, [48]) := rfl
theorem k163_21 : mm_lk mm_m163.1 21 = some (21, .iload_n 2, 22, []) := rfl
theorem k163_22 : mm_lk mm_m163.1 22 = some (22, .iload_n 0, 23, []) := rfl
theorem k163_23 : mm_lk mm_m163.1 23 = some (23, .iload_n 3, 24, []) := rfl
theorem k163_24 : mm_lk mm_m163.1 24 = some (24, .iushr, 25, []) := rfl
theorem k163_25 : mm_lk mm_m163.1 25 = some (25, .iconst 1, 26, []) := rfl
theorem k163_26 : mm_lk mm_m163.1 26 = some (26, .iand, 27, []) := rfl
theorem k163_27 : mm_lk mm_m163.1 27 = some (27, .iconst 1, 28, []) := rfl
theorem k163_28 : mm_lk mm_m163.1 28 = some (28, .if_icmp .ne 11, 31, [39]) := rfl
theorem k163_31 : mm_lk mm_m163.1 31 = some (31, .getstatic 271, 34, [0, 4, 831]) := rfl
theorem k163_34 : mm_lk mm_m163.1 34 = some (34, .iload_n 3, 35, []) := rfl
theorem k163_35 : mm_lk mm_m163.1 35 = some (35, .iaload, 36, []) := rfl
theorem k163_36 : mm_lk mm_m163.1 36 = some (36, .goto 10, 39, [46]) := rfl
theorem k163_39 : mm_lk mm_m163.1 39 = some (39, .getstatic 271, 42, [0, 4, 831]) := rfl
theorem k163_42 : mm_lk mm_m163.1 42 = some (42, .iload_n 3, 43, []) := rfl
theorem k163_43 : mm_lk mm_m163.1 43 = some (43, .iaload, 44, []) := rfl
theorem k163_44 : mm_lk mm_m163.1 44 = some (44, .iconst (-1), 45, []) := rfl
theorem k163_45 : mm_lk mm_m163.1 45 = some (45, .ixor, 46, []) := rfl
theorem k163_46 : mm_lk mm_m163.1 46 = some (46, .iand, 47, []) := rfl
theorem k163_47 : mm_lk mm_m163.1 47 = some (47, .istore_n 2, 48, []) := rfl
theorem k163_48 : mm_lk mm_m163.1 48 = some (48, .iinc 3 1, 51, []) := rfl
theorem k163_51 : mm_lk mm_m163.1 51 = some (51, .goto (-47), 54, [4]) := rfl
theorem k163_54 : mm_lk mm_m163.1 54 = some (54, .iload_n 2, 55, []) := rfl
theorem k163_55 : mm_lk mm_m163.1 55 = some (55, .ireturn, 56, []) := rfl
theorem k164_0 : mm_lk mm_m164.1 0 = some (0, .iload_n 0, 1, []) := rfl
theorem k164_1 : mm_lk mm_m164.1 1 = some (1, .iconst 1, 2, []) := rfl
theorem k164_2 : mm_lk mm_m164.1 2 = some (2, .if_icmp .lt 12, 5, [14]) := rfl
theorem k164_5 : mm_lk mm_m164.1 5 = some (5, .iload_n 0, 6, []) := rfl
theorem k164_6 : mm_lk mm_m164.1 6 = some (6, .iconst 5, 7, []) := rfl
theorem k164_7 : mm_lk mm_m164.1 7 = some (7, .if_icmp .gt 7, 10, [14]) := rfl
theorem k164_10 : mm_lk mm_m164.1 10 = some (10, .iconst 1, 11, []) := rfl
theorem k164_11 : mm_lk mm_m164.1 11 = some (11, .goto 4, 14, [15]) := rfl
theorem k164_14 : mm_lk mm_m164.1 14 = some (14, .iconst 0, 15, []) := rfl
theorem k164_15 : mm_lk mm_m164.1 15 = some (15, .ireturn, 16, []) := rfl
theorem k165_0 : mm_lk mm_m165.1 0 = some (0, .iload_n 0, 1, []) := rfl
theorem k165_1 : mm_lk mm_m165.1 1 = some (1, .bipush 6, 3, []) := rfl
theorem k165_3 : mm_lk mm_m165.1 3 = some (3, .if_icmp .eq 9, 6, [12]) := rfl
theorem k165_6 : mm_lk mm_m165.1 6 = some (6, .iload_n 0, 7, []) := rfl
theorem k165_7 : mm_lk mm_m165.1 7 = some (7, .bipush 7, 9, []) := rfl
theorem k165_9 : mm_lk mm_m165.1 9 = some (9, .if_icmp .ne 7, 12, [16]) := rfl
theorem k165_12 : mm_lk mm_m165.1 12 = some (12, .iconst 1, 13, []) := rfl
theorem k165_13 : mm_lk mm_m165.1 13 = some (13, .goto 4, 16, [17]) := rfl
theorem k165_16 : mm_lk mm_m165.1 16 = some (16, .iconst 0, 17, []) := rfl
theorem k165_17 : mm_lk mm_m165.1 17 = some (17, .ireturn, 18, []) := rfl
theorem k166_0 : mm_lk mm_m166.1 0 = some (0, .iload_n 0, 1, []) := rfl
theorem k166_1 : mm_lk mm_m166.1 1 = some (1, .iconst 2, 2, []) := rfl
theorem k166_2 : mm_lk mm_m166.1 2 = some (2, .if_icmp .eq 8, 5, [10]) := rfl
theorem k166_5 : mm_lk mm_m166.1 5 = some (5, .iload_n 0, 6, []) := rfl
theorem k166_6 : mm_lk mm_m166.1 6 = some (6, .iconst 3, 7, []) := rfl
theorem k166_7 : mm_lk mm_m166.1 7 = some (7, .if_icmp .ne 7, 10, [14]) := rfl
theorem k166_10 : mm_lk mm_m166.1 10 = some (10, .iconst 1, 11, []) := rfl
theorem k166_11 : mm_lk mm_m166.1 11 = some (11, .goto 4, 14, [15]) := rfl
theorem k166_14 : mm_lk mm_m166.1 14 = some (14, .iconst 0, 15, []) := rfl
theorem k166_15 : mm_lk mm_m166.1 15 = some (15, .ireturn, 16, []) := rfl
