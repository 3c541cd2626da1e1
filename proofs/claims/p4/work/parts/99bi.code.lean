/-! ===== code, row by row (by program) ===== -/
/-- WhoKnows$Source.finish()Z -/
def mm_m66 : mm_M := (mm_c66, 1, 2, [])
set_option maxRecDepth 20000 in
theorem P66 : mm_P 66 = some mm_m66 := rfl
/-- WhoKnows$State.begin(LWhoKnows$Scene;)V -/
def mm_m87 : mm_M := (mm_c87, 2, 0, [])
set_option maxRecDepth 20000 in
theorem P87 : mm_P 87 = some mm_m87 := rfl
/-- WhoKnows$State.copyFrom(LWhoKnows$State;)V -/
def mm_m88 : mm_M := (mm_c88, 2, 0, [])
set_option maxRecDepth 20000 in
theorem P88 : mm_P 88 = some mm_m88 := rfl
/-- WhoKnows.runOrders()I -/
def mm_m101 : mm_M := (mm_c101, 2, 1, [])
set_option maxRecDepth 20000 in
theorem P101 : mm_P 101 = some mm_m101 := rfl
/-- WhoKnows.ask()I -/
def mm_m102 : mm_M := (mm_c102, 1, 1, [])
set_option maxRecDepth 20000 in
theorem P102 : mm_P 102 = some mm_m102 := rfl
/-- WhoKnows.announce()I -/
def mm_m134 : mm_M := (mm_c134, 1, 1, [])
set_option maxRecDepth 20000 in
theorem P134 : mm_P 134 = some mm_m134 := rfl
/-- WhoKnows.say(I)I -/
def mm_m135 : mm_M := (mm_c135, 2, 1, [])
set_option maxRecDepth 20000 in
theorem P135 : mm_P 135 = some mm_m135 := rfl
/-- WhoKnows.whisper(I)I -/
def mm_m136 : mm_M := (mm_c136, 2, 1, [])
set_option maxRecDepth 20000 in
theorem P136 : mm_P 136 = some mm_m136 := rfl
/-- WhoKnows.show(II)I -/
def mm_m137 : mm_M := (mm_c137, 3, 1, [])
set_option maxRecDepth 20000 in
theorem P137 : mm_P 137 = some mm_m137 := rfl
/-- WhoKnows.round(I)I -/
def mm_m138 : mm_M := (mm_c138, 2, 1, [])
set_option maxRecDepth 20000 in
theorem P138 : mm_P 138 = some mm_m138 := rfl
/-- WhoKnows.undo()I -/
def mm_m143 : mm_M := (mm_c143, 2, 1, [])
set_option maxRecDepth 20000 in
theorem P143 : mm_P 143 = some mm_m143 := rfl
/-- WhoKnows.save()I -/
def mm_m144 : mm_M := (mm_c144, 1, 1, [])
set_option maxRecDepth 20000 in
theorem P144 : mm_P 144 = some mm_m144 := rfl
/-- WhoKnows.restore()I -/
def mm_m145 : mm_M := (mm_c145, 1, 1, [])
set_option maxRecDepth 20000 in
theorem P145 : mm_P 145 = some mm_m145 := rfl
/-- WhoKnows.remember()V -/
def mm_m150 : mm_M := (mm_c150, 2, 0, [])
set_option maxRecDepth 20000 in
theorem P150 : mm_P 150 = some mm_m150 := rfl
/-- WhoKnows.forgetChanges()V -/
def mm_m151 : mm_M := (mm_c151, 1, 0, [])
set_option maxRecDepth 20000 in
theorem P151 : mm_P 151 = some mm_m151 := rfl
/-- WhoKnows.pastAt(I)LWhoKnows$State; -/
def mm_m152 : mm_M := (mm_c152, 2, 5, [])
set_option maxRecDepth 20000 in
theorem P152 : mm_P 152 = some mm_m152 := rfl
/-- WhoKnows.tell(II)I -/
def mm_m154 : mm_M := (mm_c154, 4, 1, [])
set_option maxRecDepth 20000 in
theorem P154 : mm_P 154 = some mm_m154 := rfl
theorem k66_0 : mm_lk mm_m66.1 0 = some (0, .aload_n 0, 1, []) := rfl
theorem k66_1 : mm_lk mm_m66.1 1 = some (1, .iconst 0, 2, []) := rfl
theorem k66_2 : mm_lk mm_m66.1 2 = some (2, .putfield 40, 5, [0, 11, 4, 183]) := rfl
theorem k66_5 : mm_lk mm_m66.1 5 = some (5, .aload_n 0, 6, []) := rfl
theorem k66_6 : mm_lk mm_m66.1 6 = some (6, .getfield 50, 9, [0, 11, 10, 195]) := rfl
theorem k66_9 : mm_lk mm_m66.1 9 = some (9, .ifCond .ne 7, 12, [16]) := rfl
theorem k66_12 : mm_lk mm_m66.1 12 = some (12, .iconst 1, 13, []) := rfl
theorem k66_13 : mm_lk mm_m66.1 13 = some (13, .goto 4, 16, [17]) := rfl
theorem k66_16 : mm_lk mm_m66.1 16 = some (16, .iconst 0, 17, []) := rfl
theorem k66_17 : mm_lk mm_m66.1 17 = some (17, .ireturn, 18, []) := rfl
theorem k87_0 : mm_lk mm_m87.1 0 = some (0, .aload_n 0, 1, []) := rfl
theorem k87_1 : mm_lk mm_m87.1 1 = some (1, .aload_n 1, 2, []) := rfl
theorem k87_2 : mm_lk mm_m87.1 2 = some (2, .putfield 32, 5, [0, 12, 3, 808]) := rfl
theorem k87_5 : mm_lk mm_m87.1 5 = some (5, .aload_n 0, 6, []) := rfl
theorem k87_6 : mm_lk mm_m87.1 6 = some (6, .getfield 12, 9, [0, 12, 0, 802]) := rfl
theorem k87_9 : mm_lk mm_m87.1 9 = some (9, .aload_n 1, 10, []) := rfl
theorem k87_10 : mm_lk mm_m87.1 10 = some (10, .invokevirtual 36, 13, [0, 26, 2, 5, 823, 824, 825, 134]) := rfl
theorem k87_13 : mm_lk mm_m87.1 13 = some (13, .aload_n 0, 14, []) := rfl
theorem k87_14 : mm_lk mm_m87.1 14 = some (14, .getfield 21, 17, [0, 12, 1, 804]) := rfl
theorem k87_17 : mm_lk mm_m87.1 17 = some (17, .invokevirtual 40, 20, [0, 8, 1, 3, 833, 637, 638, 135]) := rfl
theorem k87_20 : mm_lk mm_m87.1 20 = some (20, .aload_n 0, 21, []) := rfl
theorem k87_21 : mm_lk mm_m87.1 21 = some (21, .getfield 21, 24, [0, 12, 1, 804]) := rfl
theorem k87_24 : mm_lk mm_m87.1 24 = some (24, .iconst 0, 25, []) := rfl
theorem k87_25 : mm_lk mm_m87.1 25 = some (25, .iconst 0, 26, []) := rfl
theorem k87_26 : mm_lk mm_m87.1 26 = some (26, .invokevirtual 43, 29, [0, 9, 3, 3, 834, 676, 677, 135]) := rfl
theorem k87_29 : mm_lk mm_m87.1 29 = some (29, .aload_n 0, 30, []) := rfl
theorem k87_30 : mm_lk mm_m87.1 30 = some (30, .getfield 28, 33, [0, 12, 2, 806]) := rfl
theorem k87_33 : mm_lk mm_m87.1 33 = some (33, .invokevirtual 47, 36, [0, 43, 1, 6, 835, 836, 837, 150]) := rfl
theorem k87_36 : mm_lk mm_m87.1 36 = some (36, .return_, 37, []) := rfl
theorem k88_0 : mm_lk mm_m88.1 0 = some (0, .aload_n 0, 1, []) := rfl
theorem k88_1 : mm_lk mm_m88.1 1 = some (1, .aload_n 1, 2, []) := rfl
theorem k88_2 : mm_lk mm_m88.1 2 = some (2, .getfield 32, 5, [0, 12, 3, 808]) := rfl
theorem k88_5 : mm_lk mm_m88.1 5 = some (5, .putfield 32, 8, [0, 12, 3, 808]) := rfl
theorem k88_8 : mm_lk mm_m88.1 8 = some (8, .aload_n 0, 9, []) := rfl
theorem k88_9 : mm_lk mm_m88.1 9 = some (9, .getfield 12, 12, [0, 12, 0, 802]) := rfl
theorem k88_12 : mm_lk mm_m88.1 12 = some (12, .aload_n 1, 13, []) := rfl
theorem k88_13 : mm_lk mm_m88.1 13 = some (13, .getfield 12, 16, [0, 12, 0, 802]) := rfl
theorem k88_16 : mm_lk mm_m88.1 16 = some (16, .invokevirtual 48, 19, [0, 27, 2, 5, 1014, 1015, 1016, 134]) := rfl
theorem k88_19 : mm_lk mm_m88.1 19 = some (19, .aload_n 0, 20, []) := rfl
theorem k88_20 : mm_lk mm_m88.1 20 = some (20, .getfield 21, 23, [0, 12, 1, 804]) := rfl
theorem k88_23 : mm_lk mm_m88.1 23 = some (23, .aload_n 1, 24, []) := rfl
theorem k88_24 : mm_lk mm_m88.1 24 = some (24, .getfield 21, 27, [0, 12, 1, 804]) := rfl
theorem k88_27 : mm_lk mm_m88.1 27 = some (27, .invokevirtual 52, 30, [0, 10, 2, 3, 1025, 1026, 1027, 135]) := rfl
theorem k88_30 : mm_lk mm_m88.1 30 = some (30, .aload_n 0, 31, []) := rfl
theorem k88_31 : mm_lk mm_m88.1 31 = some (31, .getfield 28, 34, [0, 12, 2, 806]) := rfl
theorem k88_34 : mm_lk mm_m88.1 34 = some (34, .aload_n 1, 35, []) := rfl
theorem k88_35 : mm_lk mm_m88.1 35 = some (35, .getfield 28, 38, [0, 12, 2, 806]) := rfl
theorem k88_38 : mm_lk mm_m88.1 38 = some (38, .invokevirtual 55, 41, [0, 44, 2, 6, 1030, 1031, 1032, 150]) := rfl
theorem k88_41 : mm_lk mm_m88.1 41 = some (41, .return_, 42, []) := rfl
theorem k101_0 : mm_lk mm_m101.1 0 = some (0, .aload_n 0, 1, []) := rfl
theorem k101_1 : mm_lk mm_m101.1 1 = some (1, .getfield 53, 4, [0, 13, 3, 844]) := rfl
theorem k101_4 : mm_lk mm_m101.1 4 = some (4, .aload_n 0, 5, []) := rfl
theorem k101_5 : mm_lk mm_m101.1 5 = some (5, .getfield 87, 8, [0, 13, 8, 849]) := rfl
theorem k101_8 : mm_lk mm_m101.1 8 = some (8, .getfield 125, 11, [1, 12, 3, 809, 0]) := rfl
theorem k101_11 : mm_lk mm_m101.1 11 = some (11, .invokevirtual 129, 14, [0, 57, 2, 9, 1503, 1504, 1505, 138]) := rfl
theorem k101_14 : mm_lk mm_m101.1 14 = some (14, .aload_n 0, 15, []) := rfl
theorem k101_15 : mm_lk mm_m101.1 15 = some (15, .getfield 10, 18, [0, 13, 0, 841]) := rfl
theorem k101_18 : mm_lk mm_m101.1 18 = some (18, .invokevirtual 78, 21, [0, 66, 1, 11, 764, 765, 766, 133]) := rfl
theorem k101_21 : mm_lk mm_m101.1 21 = some (21, .ifCond .ne 11, 24, [32]) := rfl
theorem k101_24 : mm_lk mm_m101.1 24 = some (24, .new 112, 27, [1, 15, 1480, 114]) := rfl
theorem k101_32 : mm_lk mm_m101.1 32 = some (32, .aload_n 0, 33, []) := rfl
theorem k101_33 : mm_lk mm_m101.1 33 = some (33, .invokevirtual 131, 36, [0, 150, 1, 13, 1002, 1004, 28, 132]) := rfl
theorem k101_36 : mm_lk mm_m101.1 36 = some (36, .iconst 0, 37, []) := rfl
theorem k101_37 : mm_lk mm_m101.1 37 = some (37, .istore_n 1, 38, []) := rfl
theorem k101_38 : mm_lk mm_m101.1 38 = some (38, .iload_n 1, 39, []) := rfl
theorem k101_39 : mm_lk mm_m101.1 39 = some (39, .aload_n 0, 40, []) := rfl
theorem k101_40 : mm_lk mm_m101.1 40 = some (40, .getfield 53, 43, [0, 13, 3, 844]) := rfl
theorem k101_43 : mm_lk mm_m101.1 43 = some (43, .getfield 134, 46, [1, 9, 3, 350, 0]) := rfl
theorem k101_46 : mm_lk mm_m101.1 46 = some (46, .if_icmp .ge 27, 49, [73]) := rfl
theorem k101_49 : mm_lk mm_m101.1 49 = some (49, .aload_n 0, 50, []) := rfl
theorem k101_50 : mm_lk mm_m101.1 50 = some (50, .getfield 87, 53, [0, 13, 8, 849]) := rfl
theorem k101_53 : mm_lk mm_m101.1 53 = some (53, .aload_n 0, 54, []) := rfl
theorem k101_54 : mm_lk mm_m101.1 54 = some (54, .getfield 53, 57, [0, 13, 3, 844]) := rfl
theorem k101_57 : mm_lk mm_m101.1 57 = some (57, .iload_n 1, 58, []) := rfl
theorem k101_58 : mm_lk mm_m101.1 58 = some (58, .invokevirtual 137, 61, [0, 56, 2, 9, 1542, 1525, 1526, 138]) := rfl
theorem k101_61 : mm_lk mm_m101.1 61 = some (61, .invokevirtual 141, 64, [0, 95, 2, 12, 1543, 1544, 1545, 149]) := rfl
theorem k101_64 : mm_lk mm_m101.1 64 = some (64, .ifCond .eq 9, 67, [73]) := rfl
theorem k101_67 : mm_lk mm_m101.1 67 = some (67, .iinc 1 1, 70, []) := rfl
theorem k101_70 : mm_lk mm_m101.1 70 = some (70, .goto (-32), 73, [38]) := rfl
theorem k101_73 : mm_lk mm_m101.1 73 = some (73, .iload_n 1, 74, []) := rfl
theorem k101_74 : mm_lk mm_m101.1 74 = some (74, .ireturn, 75, []) := rfl
theorem k102_0 : mm_lk mm_m102.1 0 = some (0, .aload_n 0, 1, []) := rfl
theorem k102_1 : mm_lk mm_m102.1 1 = some (1, .getfield 10, 4, [0, 13, 0, 841]) := rfl
theorem k102_4 : mm_lk mm_m102.1 4 = some (4, .invokevirtual 145, 7, [0, 65, 1, 11, 1576, 521, 522, 133]) := rfl
theorem k102_7 : mm_lk mm_m102.1 7 = some (7, .aload_n 0, 8, []) := rfl
theorem k102_8 : mm_lk mm_m102.1 8 = some (8, .getfield 35, 11, [0, 13, 1, 842]) := rfl
theorem k102_11 : mm_lk mm_m102.1 11 = some (11, .aload_n 0, 12, []) := rfl
theorem k102_12 : mm_lk mm_m102.1 12 = some (12, .getfield 87, 15, [0, 13, 8, 849]) := rfl
theorem k102_15 : mm_lk mm_m102.1 15 = some (15, .getfield 125, 18, [1, 12, 3, 809, 0]) := rfl
theorem k102_18 : mm_lk mm_m102.1 18 = some (18, .iconst 0, 19, []) := rfl
theorem k102_19 : mm_lk mm_m102.1 19 = some (19, .aload_n 0, 20, []) := rfl
theorem k102_20 : mm_lk mm_m102.1 20 = some (20, .getfield 26, 23, [0, 13, 4, 845]) := rfl
theorem k102_23 : mm_lk mm_m102.1 23 = some (23, .invokevirtual 147, 26, [0, 17, 4, 4, 1577, 633, 634, 136]) := rfl
theorem k102_26 : mm_lk mm_m102.1 26 = some (26, .aload_n 0, 27, []) := rfl
theorem k102_27 : mm_lk mm_m102.1 27 = some (27, .getfield 10, 30, [0, 13, 0, 841]) := rfl
theorem k102_30 : mm_lk mm_m102.1 30 = some (30, .invokevirtual 150, 33, [0, 81, 1, 11, 1578, 757, 758, 133]) := rfl
theorem k102_33 : mm_lk mm_m102.1 33 = some (33, .aload_n 0, 34, []) := rfl
theorem k102_34 : mm_lk mm_m102.1 34 = some (34, .getfield 10, 37, [0, 13, 0, 841]) := rfl
theorem k102_37 : mm_lk mm_m102.1 37 = some (37, .invokevirtual 78, 40, [0, 66, 1, 11, 764, 765, 766, 133]) := rfl
theorem k102_40 : mm_lk mm_m102.1 40 = some (40, .ifCond .ne 11, 43, [51]) := rfl
theorem k102_43 : mm_lk mm_m102.1 43 = some (43, .new 112, 46, [1, 15, 1480, 114]) := rfl
theorem k102_51 : mm_lk mm_m102.1 51 = some (51, .aload_n 0, 52, []) := rfl
theorem k102_52 : mm_lk mm_m102.1 52 = some (52, .invokevirtual 131, 55, [0, 150, 1, 13, 1002, 1004, 28, 132]) := rfl
theorem k102_55 : mm_lk mm_m102.1 55 = some (55, .aload_n 0, 56, []) := rfl
theorem k102_56 : mm_lk mm_m102.1 56 = some (56, .getfield 87, 59, [0, 13, 8, 849]) := rfl
theorem k102_59 : mm_lk mm_m102.1 59 = some (59, .getfield 153, 62, [1, 12, 1, 805, 0]) := rfl
theorem k102_62 : mm_lk mm_m102.1 62 = some (62, .aload_n 0, 63, []) := rfl
theorem k102_63 : mm_lk mm_m102.1 63 = some (63, .getfield 26, 66, [0, 13, 4, 845]) := rfl
theorem k102_66 : mm_lk mm_m102.1 66 = some (66, .invokevirtual 156, 69, [0, 10, 2, 3, 1579, 1026, 1027, 135]) := rfl
theorem k102_69 : mm_lk mm_m102.1 69 = some (69, .aload_n 0, 70, []) := rfl
theorem k102_70 : mm_lk mm_m102.1 70 = some (70, .getfield 87, 73, [0, 13, 8, 849]) := rfl
theorem k102_73 : mm_lk mm_m102.1 73 = some (73, .getfield 153, 76, [1, 12, 1, 805, 0]) := rfl
theorem k102_76 : mm_lk mm_m102.1 76 = some (76, .getfield 160, 79, [1, 3, 3, 255, 0]) := rfl
theorem k102_79 : mm_lk mm_m102.1 79 = some (79, .ireturn, 80, []) := rfl
theorem k134_0 : mm_lk mm_m134.1 0 = some (0, .aload_n 0, 1, []) := rfl
theorem k134_1 : mm_lk mm_m134.1 1 = some (1, .iconst (-1), 2, []) := rfl
theorem k134_2 : mm_lk mm_m134.1 2 = some (2, .aload_n 0, 3, []) := rfl
theorem k134_3 : mm_lk mm_m134.1 3 = some (3, .getfield 87, 6, [0, 13, 8, 849]) := rfl
theorem k134_6 : mm_lk mm_m134.1 6 = some (6, .invokevirtual 249, 9, [0, 89, 1, 12, 900, 901, 902, 149]) := rfl
theorem k134_9 : mm_lk mm_m134.1 9 = some (9, .invokevirtual 301, 12, [0, 154, 3, 13, 998, 1000, 27, 132]) := rfl
theorem k134_12 : mm_lk mm_m134.1 12 = some (12, .ireturn, 13, []) := rfl
theorem k135_0 : mm_lk mm_m135.1 0 = some (0, .aload_n 0, 1, []) := rfl
theorem k135_1 : mm_lk mm_m135.1 1 = some (1, .iload_n 1, 2, []) := rfl
theorem k135_2 : mm_lk mm_m135.1 2 = some (2, .invokevirtual 214, 5, [0, 146, 2, 13, 1623, 1625, 38, 132]) := rfl
theorem k135_5 : mm_lk mm_m135.1 5 = some (5, .aload_n 0, 6, []) := rfl
theorem k135_6 : mm_lk mm_m135.1 6 = some (6, .iload_n 1, 7, []) := rfl
theorem k135_7 : mm_lk mm_m135.1 7 = some (7, .aload_n 0, 8, []) := rfl
theorem k135_8 : mm_lk mm_m135.1 8 = some (8, .getfield 87, 11, [0, 13, 8, 849]) := rfl
theorem k135_11 : mm_lk mm_m135.1 11 = some (11, .invokevirtual 249, 14, [0, 89, 1, 12, 900, 901, 902, 149]) := rfl
theorem k135_14 : mm_lk mm_m135.1 14 = some (14, .invokevirtual 301, 17, [0, 154, 3, 13, 998, 1000, 27, 132]) := rfl
theorem k135_17 : mm_lk mm_m135.1 17 = some (17, .ireturn, 18, []) := rfl
theorem k136_0 : mm_lk mm_m136.1 0 = some (0, .aload_n 0, 1, []) := rfl
theorem k136_1 : mm_lk mm_m136.1 1 = some (1, .iload_n 1, 2, []) := rfl
theorem k136_2 : mm_lk mm_m136.1 2 = some (2, .invokevirtual 277, 5, [0, 149, 2, 13, 1708, 1710, 41, 132]) := rfl
theorem k136_5 : mm_lk mm_m136.1 5 = some (5, .iload_n 1, 6, []) := rfl
theorem k136_6 : mm_lk mm_m136.1 6 = some (6, .ifCond .ne 11, 9, [17]) := rfl
theorem k136_9 : mm_lk mm_m136.1 9 = some (9, .new 112, 12, [1, 15, 1480, 114]) := rfl
theorem k136_17 : mm_lk mm_m136.1 17 = some (17, .aload_n 0, 18, []) := rfl
theorem k136_18 : mm_lk mm_m136.1 18 = some (18, .invokevirtual 131, 21, [0, 150, 1, 13, 1002, 1004, 28, 132]) := rfl
theorem k136_21 : mm_lk mm_m136.1 21 = some (21, .aload_n 0, 22, []) := rfl
theorem k136_22 : mm_lk mm_m136.1 22 = some (22, .getfield 87, 25, [0, 13, 8, 849]) := rfl
theorem k136_25 : mm_lk mm_m136.1 25 = some (25, .iconst 2, 26, []) := rfl
theorem k136_26 : mm_lk mm_m136.1 26 = some (26, .iload_n 1, 27, []) := rfl
theorem k136_27 : mm_lk mm_m136.1 27 = some (27, .aload_n 0, 28, []) := rfl
theorem k136_28 : mm_lk mm_m136.1 28 = some (28, .getfield 87, 31, [0, 13, 8, 849]) := rfl
theorem k136_31 : mm_lk mm_m136.1 31 = some (31, .invokevirtual 249, 34, [0, 89, 1, 12, 900, 901, 902, 149]) := rfl
theorem k136_34 : mm_lk mm_m136.1 34 = some (34, .invokevirtual 304, 37, [0, 93, 4, 12, 1762, 1560, 1561, 149]) := rfl
theorem k136_37 : mm_lk mm_m136.1 37 = some (37, .ireturn, 38, []) := rfl
theorem k137_0 : mm_lk mm_m137.1 0 = some (0, .aload_n 0, 1, []) := rfl
theorem k137_1 : mm_lk mm_m137.1 1 = some (1, .iload_n 1, 2, []) := rfl
theorem k137_2 : mm_lk mm_m137.1 2 = some (2, .invokevirtual 214, 5, [0, 146, 2, 13, 1623, 1625, 38, 132]) := rfl
theorem k137_5 : mm_lk mm_m137.1 5 = some (5, .aload_n 0, 6, []) := rfl
theorem k137_6 : mm_lk mm_m137.1 6 = some (6, .iload_n 2, 7, []) := rfl
theorem k137_7 : mm_lk mm_m137.1 7 = some (7, .invokevirtual 268, 10, [0, 147, 2, 13, 1690, 1692, 40, 132]) := rfl
theorem k137_10 : mm_lk mm_m137.1 10 = some (10, .aload_n 0, 11, []) := rfl
theorem k137_11 : mm_lk mm_m137.1 11 = some (11, .invokevirtual 131, 14, [0, 150, 1, 13, 1002, 1004, 28, 132]) := rfl
theorem k137_14 : mm_lk mm_m137.1 14 = some (14, .aload_n 0, 15, []) := rfl
theorem k137_15 : mm_lk mm_m137.1 15 = some (15, .getfield 87, 18, [0, 13, 8, 849]) := rfl
theorem k137_18 : mm_lk mm_m137.1 18 = some (18, .iconst 3, 19, []) := rfl
theorem k137_19 : mm_lk mm_m137.1 19 = some (19, .iload_n 1, 20, []) := rfl
theorem k137_20 : mm_lk mm_m137.1 20 = some (20, .invokestatic 240, 23, [1, 160, 1, 926, 722, 132]) := rfl
theorem k137_23 : mm_lk mm_m137.1 23 = some (23, .getstatic 271, 26, [0, 4, 831]) := rfl
theorem k137_26 : mm_lk mm_m137.1 26 = some (26, .iload_n 2, 27, []) := rfl
theorem k137_27 : mm_lk mm_m137.1 27 = some (27, .invokestatic 220, 30, [1, 156, 2, 976, 568, 132]) := rfl
theorem k137_30 : mm_lk mm_m137.1 30 = some (30, .invokevirtual 304, 33, [0, 93, 4, 12, 1762, 1560, 1561, 149]) := rfl
theorem k137_33 : mm_lk mm_m137.1 33 = some (33, .ireturn, 34, []) := rfl
theorem k138_0 : mm_lk mm_m138.1 0 = some (0, .aload_n 0, 1, []) := rfl
theorem k138_1 : mm_lk mm_m138.1 1 = some (1, .iload_n 1, 2, []) := rfl
theorem k138_2 : mm_lk mm_m138.1 2 = some (2, .invokevirtual 268, 5, [0, 147, 2, 13, 1690, 1692, 40, 132]) := rfl
theorem k138_5 : mm_lk mm_m138.1 5 = some (5, .aload_n 0, 6, []) := rfl
theorem k138_6 : mm_lk mm_m138.1 6 = some (6, .invokevirtual 131, 9, [0, 150, 1, 13, 1002, 1004, 28, 132]) := rfl
theorem k138_9 : mm_lk mm_m138.1 9 = some (9, .aload_n 0, 10, []) := rfl
theorem k138_10 : mm_lk mm_m138.1 10 = some (10, .getfield 87, 13, [0, 13, 8, 849]) := rfl
theorem k138_13 : mm_lk mm_m138.1 13 = some (13, .iload_n 1, 14, []) := rfl
theorem k138_14 : mm_lk mm_m138.1 14 = some (14, .invokevirtual 306, 17, [0, 94, 2, 12, 1777, 1548, 1549, 149]) := rfl
theorem k138_17 : mm_lk mm_m138.1 17 = some (17, .ireturn, 18, []) := rfl
theorem k143_0 : mm_lk mm_m143.1 0 = some (0, .aload_n 0, 1, []) := rfl
theorem k143_1 : mm_lk mm_m143.1 1 = some (1, .getfield 204, 4, [0, 13, 12, 853]) := rfl
theorem k143_4 : mm_lk mm_m143.1 4 = some (4, .ifCond .ne 5, 7, [9]) := rfl
theorem k143_7 : mm_lk mm_m143.1 7 = some (7, .iconst (-1), 8, []) := rfl
theorem k143_8 : mm_lk mm_m143.1 8 = some (8, .ireturn, 9, []) := rfl
theorem k143_9 : mm_lk mm_m143.1 9 = some (9, .aload_n 0, 10, []) := rfl
theorem k143_10 : mm_lk mm_m143.1 10 = some (10, .aload_n 0, 11, []) := rfl
theorem k143_11 : mm_lk mm_m143.1 11 = some (11, .getfield 338, 14, [0, 13, 13, 854]) := rfl
theorem k143_14 : mm_lk mm_m143.1 14 = some (14, .ifCond .ne 8, 17, [22]) := rfl
theorem k143_17 : mm_lk mm_m143.1 17 = some (17, .bipush 7, 19, []) := rfl
theorem k143_19 : mm_lk mm_m143.1 19 = some (19, .goto 9, 22, [28]) := rfl
theorem k143_22 : mm_lk mm_m143.1 22 = some (22, .aload_n 0, 23, []) := rfl
theorem k143_23 : mm_lk mm_m143.1 23 = some (23, .getfield 338, 26, [0, 13, 13, 854]) := rfl
theorem k143_26 : mm_lk mm_m143.1 26 = some (26, .iconst 1, 27, []) := rfl
theorem k143_27 : mm_lk mm_m143.1 27 = some (27, .isub, 28, []) := rfl
theorem k143_28 : mm_lk mm_m143.1 28 = some (28, .putfield 338, 31, [0, 13, 13, 854]) := rfl
theorem k143_31 : mm_lk mm_m143.1 31 = some (31, .aload_n 0, 32, []) := rfl
theorem k143_32 : mm_lk mm_m143.1 32 = some (32, .dup, 33, []) := rfl
theorem k143_33 : mm_lk mm_m143.1 33 = some (33, .getfield 204, 36, [0, 13, 12, 853]) := rfl
theorem k143_36 : mm_lk mm_m143.1 36 = some (36, .iconst 1, 37, []) := rfl
theorem k143_37 : mm_lk mm_m143.1 37 = some (37, .isub, 38, []) := rfl
theorem k143_38 : mm_lk mm_m143.1 38 = some (38, .putfield 204, 41, [0, 13, 12, 853]) := rfl
theorem k143_41 : mm_lk mm_m143.1 41 = some (41, .aload_n 0, 42, []) := rfl
theorem k143_42 : mm_lk mm_m143.1 42 = some (42, .aload_n 0, 43, []) := rfl
theorem k143_43 : mm_lk mm_m143.1 43 = some (43, .getfield 338, 46, [0, 13, 13, 854]) := rfl
theorem k143_46 : mm_lk mm_m143.1 46 = some (46, .invokevirtual 341, 49, [0, 152, 2, 13, 1006, 1008, 29, 132]) := rfl
theorem k143_49 : mm_lk mm_m143.1 49 = some (49, .astore_n 1, 50, []) := rfl
theorem k143_50 : mm_lk mm_m143.1 50 = some (50, .aload_n 1, 51, []) := rfl
theorem k143_51 : mm_lk mm_m143.1 51 = some (51, .ifnull 11, 54, [62]) := rfl
theorem k143_54 : mm_lk mm_m143.1 54 = some (54, .aload_n 0, 55, []) := rfl
theorem k143_55 : mm_lk mm_m143.1 55 = some (55, .getfield 87, 58, [0, 13, 8, 849]) := rfl
theorem k143_58 : mm_lk mm_m143.1 58 = some (58, .aload_n 1, 59, []) := rfl
theorem k143_59 : mm_lk mm_m143.1 59 = some (59, .invokevirtual 345, 62, [0, 88, 2, 12, 1010, 1011, 1012, 149]) := rfl
theorem k143_62 : mm_lk mm_m143.1 62 = some (62, .aload_n 0, 63, []) := rfl
theorem k143_63 : mm_lk mm_m143.1 63 = some (63, .getfield 204, 66, [0, 13, 12, 853]) := rfl
theorem k143_66 : mm_lk mm_m143.1 66 = some (66, .ireturn, 67, []) := rfl
theorem k144_0 : mm_lk mm_m144.1 0 = some (0, .aload_n 0, 1, []) := rfl
theorem k144_1 : mm_lk mm_m144.1 1 = some (1, .getfield 94, 4, [0, 13, 9, 850]) := rfl
theorem k144_4 : mm_lk mm_m144.1 4 = some (4, .aload_n 0, 5, []) := rfl
theorem k144_5 : mm_lk mm_m144.1 5 = some (5, .getfield 87, 8, [0, 13, 8, 849]) := rfl
theorem k144_8 : mm_lk mm_m144.1 8 = some (8, .invokevirtual 345, 11, [0, 88, 2, 12, 1010, 1011, 1012, 149]) := rfl
theorem k144_11 : mm_lk mm_m144.1 11 = some (11, .aload_n 0, 12, []) := rfl
theorem k144_12 : mm_lk mm_m144.1 12 = some (12, .iconst 1, 13, []) := rfl
theorem k144_13 : mm_lk mm_m144.1 13 = some (13, .putfield 348, 16, [0, 13, 11, 852]) := rfl
theorem k144_16 : mm_lk mm_m144.1 16 = some (16, .aload_n 0, 17, []) := rfl
theorem k144_17 : mm_lk mm_m144.1 17 = some (17, .getfield 87, 20, [0, 13, 8, 849]) := rfl
theorem k144_20 : mm_lk mm_m144.1 20 = some (20, .getfield 118, 23, [1, 12, 0, 803, 0]) := rfl
theorem k144_23 : mm_lk mm_m144.1 23 = some (23, .invokevirtual 121, 26, [0, 28, 1, 5, 977, 978, 979, 134]) := rfl
theorem k144_26 : mm_lk mm_m144.1 26 = some (26, .ireturn, 27, []) := rfl
theorem k145_0 : mm_lk mm_m145.1 0 = some (0, .aload_n 0, 1, []) := rfl
theorem k145_1 : mm_lk mm_m145.1 1 = some (1, .getfield 348, 4, [0, 13, 11, 852]) := rfl
theorem k145_4 : mm_lk mm_m145.1 4 = some (4, .ifCond .ne 11, 7, [15]) := rfl
theorem k145_7 : mm_lk mm_m145.1 7 = some (7, .new 105, 10, [1, 17, 1447, 107]) := rfl
theorem k145_15 : mm_lk mm_m145.1 15 = some (15, .aload_n 0, 16, []) := rfl
theorem k145_16 : mm_lk mm_m145.1 16 = some (16, .getfield 87, 19, [0, 13, 8, 849]) := rfl
theorem k145_19 : mm_lk mm_m145.1 19 = some (19, .aload_n 0, 20, []) := rfl
theorem k145_20 : mm_lk mm_m145.1 20 = some (20, .getfield 94, 23, [0, 13, 9, 850]) := rfl
theorem k145_23 : mm_lk mm_m145.1 23 = some (23, .invokevirtual 345, 26, [0, 88, 2, 12, 1010, 1011, 1012, 149]) := rfl
theorem k145_26 : mm_lk mm_m145.1 26 = some (26, .aload_n 0, 27, []) := rfl
theorem k145_27 : mm_lk mm_m145.1 27 = some (27, .invokevirtual 115, 30, [0, 151, 1, 13, 1492, 1494, 34, 132]) := rfl
theorem k145_30 : mm_lk mm_m145.1 30 = some (30, .aload_n 0, 31, []) := rfl
theorem k145_31 : mm_lk mm_m145.1 31 = some (31, .getfield 87, 34, [0, 13, 8, 849]) := rfl
theorem k145_34 : mm_lk mm_m145.1 34 = some (34, .getfield 118, 37, [1, 12, 0, 803, 0]) := rfl
theorem k145_37 : mm_lk mm_m145.1 37 = some (37, .invokevirtual 121, 40, [0, 28, 1, 5, 977, 978, 979, 134]) := rfl
theorem k145_40 : mm_lk mm_m145.1 40 = some (40, .ireturn, 41, []) := rfl
theorem k150_0 : mm_lk mm_m150.1 0 = some (0, .aload_n 0, 1, []) := rfl
theorem k150_1 : mm_lk mm_m150.1 1 = some (1, .aload_n 0, 2, []) := rfl
theorem k150_2 : mm_lk mm_m150.1 2 = some (2, .getfield 338, 5, [0, 13, 13, 854]) := rfl
theorem k150_5 : mm_lk mm_m150.1 5 = some (5, .invokevirtual 341, 8, [0, 152, 2, 13, 1006, 1008, 29, 132]) := rfl
theorem k150_8 : mm_lk mm_m150.1 8 = some (8, .astore_n 1, 9, []) := rfl
theorem k150_9 : mm_lk mm_m150.1 9 = some (9, .aload_n 1, 10, []) := rfl
theorem k150_10 : mm_lk mm_m150.1 10 = some (10, .ifnull 11, 13, [21]) := rfl
theorem k150_13 : mm_lk mm_m150.1 13 = some (13, .aload_n 1, 14, []) := rfl
theorem k150_14 : mm_lk mm_m150.1 14 = some (14, .aload_n 0, 15, []) := rfl
theorem k150_15 : mm_lk mm_m150.1 15 = some (15, .getfield 87, 18, [0, 13, 8, 849]) := rfl
theorem k150_18 : mm_lk mm_m150.1 18 = some (18, .invokevirtual 345, 21, [0, 88, 2, 12, 1010, 1011, 1012, 149]) := rfl
theorem k150_21 : mm_lk mm_m150.1 21 = some (21, .aload_n 0, 22, []) := rfl
theorem k150_22 : mm_lk mm_m150.1 22 = some (22, .aload_n 0, 23, []) := rfl
theorem k150_23 : mm_lk mm_m150.1 23 = some (23, .getfield 338, 26, [0, 13, 13, 854]) := rfl
theorem k150_26 : mm_lk mm_m150.1 26 = some (26, .bipush 7, 28, []) := rfl
theorem k150_28 : mm_lk mm_m150.1 28 = some (28, .if_icmp .ne 7, 31, [35]) := rfl
theorem k150_31 : mm_lk mm_m150.1 31 = some (31, .iconst 0, 32, []) := rfl
theorem k150_32 : mm_lk mm_m150.1 32 = some (32, .goto 9, 35, [41]) := rfl
theorem k150_35 : mm_lk mm_m150.1 35 = some (35, .aload_n 0, 36, []) := rfl
theorem k150_36 : mm_lk mm_m150.1 36 = some (36, .getfield 338, 39, [0, 13, 13, 854]) := rfl
theorem k150_39 : mm_lk mm_m150.1 39 = some (39, .iconst 1, 40, []) := rfl
theorem k150_40 : mm_lk mm_m150.1 40 = some (40, .iadd, 41, []) := rfl
theorem k150_41 : mm_lk mm_m150.1 41 = some (41, .putfield 338, 44, [0, 13, 13, 854]) := rfl
theorem k150_44 : mm_lk mm_m150.1 44 = some (44, .aload_n 0, 45, []) := rfl
theorem k150_45 : mm_lk mm_m150.1 45 = some (45, .aload_n 0, 46, []) := rfl
theorem k150_46 : mm_lk mm_m150.1 46 = some (46, .getfield 204, 49, [0, 13, 12, 853]) := rfl
theorem k150_49 : mm_lk mm_m150.1 49 = some (49, .iconst 1, 50, []) := rfl
theorem k150_50 : mm_lk mm_m150.1 50 = some (50, .iadd, 51, []) := rfl
theorem k150_51 : mm_lk mm_m150.1 51 = some (51, .bipush 8, 53, []) := rfl
theorem k150_53 : mm_lk mm_m150.1 53 = some (53, .invokestatic 352, 56, [12, 1021]) := rfl
theorem k150_56 : mm_lk mm_m150.1 56 = some (56, .putfield 204, 59, [0, 13, 12, 853]) := rfl
theorem k150_59 : mm_lk mm_m150.1 59 = some (59, .return_, 60, []) := rfl
theorem k151_0 : mm_lk mm_m151.1 0 = some (0, .aload_n 0, 1, []) := rfl
theorem k151_1 : mm_lk mm_m151.1 1 = some (1, .iconst 0, 2, []) := rfl
theorem k151_2 : mm_lk mm_m151.1 2 = some (2, .putfield 204, 5, [0, 13, 12, 853]) := rfl
theorem k151_5 : mm_lk mm_m151.1 5 = some (5, .aload_n 0, 6, []) := rfl
theorem k151_6 : mm_lk mm_m151.1 6 = some (6, .iconst 0, 7, []) := rfl
theorem k151_7 : mm_lk mm_m151.1 7 = some (7, .putfield 338, 10, [0, 13, 13, 854]) := rfl
theorem k151_10 : mm_lk mm_m151.1 10 = some (10, .return_, 11, []) := rfl
theorem k152_0 : mm_lk mm_m152.1 0 = some (0, .iload_n 1, 1, []) := rfl
theorem k152_1 : mm_lk mm_m152.1 1 = some (1, .ifCond .lt 21, 4, [22]) := rfl
theorem k152_4 : mm_lk mm_m152.1 4 = some (4, .iload_n 1, 5, []) := rfl
theorem k152_5 : mm_lk mm_m152.1 5 = some (5, .aload_n 0, 6, []) := rfl
theorem k152_6 : mm_lk mm_m152.1 6 = some (6, .getfield 97, 9, [0, 13, 10, 851]) := rfl
theorem k152_9 : mm_lk mm_m152.1 9 = some (9, .arraylength, 10, []) := rfl
theorem k152_10 : mm_lk mm_m152.1 10 = some (10, .if_icmp .ge 12, 13, [22]) := rfl
theorem k152_13 : mm_lk mm_m152.1 13 = some (13, .aload_n 0, 14, []) := rfl
theorem k152_14 : mm_lk mm_m152.1 14 = some (14, .getfield 97, 17, [0, 13, 10, 851]) := rfl
theorem k152_17 : mm_lk mm_m152.1 17 = some (17, .iload_n 1, 18, []) := rfl
theorem k152_18 : mm_lk mm_m152.1 18 = some (18, .aaload, 19, []) := rfl
theorem k152_19 : mm_lk mm_m152.1 19 = some (19, .goto 4, 22, [23]) := rfl
theorem k152_22 : mm_lk mm_m152.1 22 = some (22, .aconst_null, 23, []) := rfl
theorem k152_23 : mm_lk mm_m152.1 23 = some (23, .areturn, 24, []) := rfl
theorem k154_0 : mm_lk mm_m154.1 0 = some (0, .aload_n 0, 1, []) := rfl
theorem k154_1 : mm_lk mm_m154.1 1 = some (1, .getfield 87, 4, [0, 13, 8, 849]) := rfl
theorem k154_4 : mm_lk mm_m154.1 4 = some (4, .iload_n 1, 5, []) := rfl
theorem k154_5 : mm_lk mm_m154.1 5 = some (5, .iload_n 2, 6, []) := rfl
theorem k154_6 : mm_lk mm_m154.1 6 = some (6, .invokevirtual 357, 9, [0, 90, 3, 12, 950, 951, 952, 149]) := rfl
theorem k154_9 : mm_lk mm_m154.1 9 = some (9, .istore_n 3, 10, []) := rfl
theorem k154_10 : mm_lk mm_m154.1 10 = some (10, .iload_n 3, 11, []) := rfl
theorem k154_11 : mm_lk mm_m154.1 11 = some (11, .ifCond .eq 6, 14, [17]) := rfl
theorem k154_14 : mm_lk mm_m154.1 14 = some (14, .iload_n 3, 15, []) := rfl
theorem k154_15 : mm_lk mm_m154.1 15 = some (15, .ineg, 16, []) := rfl
theorem k154_16 : mm_lk mm_m154.1 16 = some (16, .ireturn, 17, []) := rfl
theorem k154_17 : mm_lk mm_m154.1 17 = some (17, .aload_n 0, 18, []) := rfl
theorem k154_18 : mm_lk mm_m154.1 18 = some (18, .invokevirtual 131, 21, [0, 150, 1, 13, 1002, 1004, 28, 132]) := rfl
theorem k154_21 : mm_lk mm_m154.1 21 = some (21, .aload_n 0, 22, []) := rfl
theorem k154_22 : mm_lk mm_m154.1 22 = some (22, .getfield 87, 25, [0, 13, 8, 849]) := rfl
theorem k154_25 : mm_lk mm_m154.1 25 = some (25, .iload_n 1, 26, []) := rfl
theorem k154_26 : mm_lk mm_m154.1 26 = some (26, .iload_n 2, 27, []) := rfl
theorem k154_27 : mm_lk mm_m154.1 27 = some (27, .invokevirtual 363, 30, [0, 92, 3, 12, 1035, 1036, 1037, 149]) := rfl
theorem k154_30 : mm_lk mm_m154.1 30 = some (30, .aload_n 0, 31, []) := rfl
theorem k154_31 : mm_lk mm_m154.1 31 = some (31, .getfield 87, 34, [0, 13, 8, 849]) := rfl
theorem k154_34 : mm_lk mm_m154.1 34 = some (34, .getfield 118, 37, [1, 12, 0, 803, 0]) := rfl
theorem k154_37 : mm_lk mm_m154.1 37 = some (37, .invokevirtual 121, 40, [0, 28, 1, 5, 977, 978, 979, 134]) := rfl
theorem k154_40 : mm_lk mm_m154.1 40 = some (40, .ireturn, 41, []) := rfl
