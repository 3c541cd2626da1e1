/-! ===== code, row by row (by program) ===== -/
/-- WhoKnows$DescriptionReader.isAtEnd(LWhoKnows$Scene;)Z -/
def mm_m2 : mm_M := (mm_c2, 2, 2, [])
set_option maxRecDepth 20000 in
theorem P2 : mm_P 2 = some mm_m2 := rfl
/-- WhoKnows$DescriptionReader.readFacts(LWhoKnows$Scene;)V -/
def mm_m3 : mm_M := (mm_c3, 3, 0, [])
set_option maxRecDepth 20000 in
theorem P3 : mm_P 3 = some mm_m3 := rfl
/-- WhoKnows$DescriptionReader.readLaw(LWhoKnows$Scene;)V -/
def mm_m4 : mm_M := (mm_c4, 3, 0, [])
set_option maxRecDepth 20000 in
theorem P4 : mm_P 4 = some mm_m4 := rfl
/-- WhoKnows$DescriptionReader.readPerson(LWhoKnows$Scene;)V -/
def mm_m5 : mm_M := (mm_c5, 3, 0, [])
set_option maxRecDepth 20000 in
theorem P5 : mm_P 5 = some mm_m5 := rfl
/-- WhoKnows$DescriptionReader.readReal(LWhoKnows$Scene;)V -/
def mm_m6 : mm_M := (mm_c6, 3, 0, [])
set_option maxRecDepth 20000 in
theorem P6 : mm_P 6 = some mm_m6 := rfl
/-- WhoKnows$FormulaReader.read(LWhoKnows$Scene;ZLWhoKnows$Formula;)V -/
def mm_m17 : mm_M := (mm_c17, 7, 0, [])
set_option maxRecDepth 20000 in
theorem P17 : mm_P 17 = some mm_m17 := rfl
/-- WhoKnows$FormulaReader.readItem(LWhoKnows$Scene;ZLWhoKnows$Formula;)Z -/
def mm_m18 : mm_M := (mm_c18, 6, 2, [])
set_option maxRecDepth 20000 in
theorem P18 : mm_P 18 = some mm_m18 := rfl
/-- WhoKnows$FormulaReader.readOpen()V -/
def mm_m19 : mm_M := (mm_c19, 1, 0, [])
set_option maxRecDepth 20000 in
theorem P19 : mm_P 19 = some mm_m19 := rfl
/-- WhoKnows$FormulaReader.readJoin(LWhoKnows$Formula;)V -/
def mm_m20 : mm_M := (mm_c20, 3, 0, [])
set_option maxRecDepth 20000 in
theorem P20 : mm_P 20 = some mm_m20 := rfl
/-- WhoKnows$FormulaReader.readClose(LWhoKnows$Formula;)V -/
def mm_m21 : mm_M := (mm_c21, 2, 0, [])
set_option maxRecDepth 20000 in
theorem P21 : mm_P 21 = some mm_m21 := rfl
/-- WhoKnows$FormulaReader.takeNode()Z -/
def mm_m22 : mm_M := (mm_c22, 1, 2, [])
set_option maxRecDepth 20000 in
theorem P22 : mm_P 22 = some mm_m22 := rfl
/-- WhoKnows$FormulaReader.hold(II)V -/
def mm_m23 : mm_M := (mm_c23, 3, 0, [])
set_option maxRecDepth 20000 in
theorem P23 : mm_P 23 = some mm_m23 := rfl
/-- WhoKnows$FormulaReader.release(ILWhoKnows$Formula;)V -/
def mm_m24 : mm_M := (mm_c24, 3, 0, [])
set_option maxRecDepth 20000 in
theorem P24 : mm_P 24 = some mm_m24 := rfl
/-- WhoKnows$Names.add(I)V -/
def mm_m50 : mm_M := (mm_c50, 2, 0, [])
set_option maxRecDepth 20000 in
theorem P50 : mm_P 50 = some mm_m50 := rfl
/-- WhoKnows$OrderReader.orderAt(I)LWhoKnows$Order; -/
def mm_m56 : mm_M := (mm_c56, 2, 5, [])
set_option maxRecDepth 20000 in
theorem P56 : mm_P 56 = some mm_m56 := rfl
/-- WhoKnows$OrderReader.read(LWhoKnows$Scene;)V -/
def mm_m57 : mm_M := (mm_c57, 4, 0, [])
set_option maxRecDepth 20000 in
theorem P57 : mm_P 57 = some mm_m57 := rfl
/-- WhoKnows$OrderReader.openOrder()LWhoKnows$Order; -/
def mm_m58 : mm_M := (mm_c58, 3, 5, [])
set_option maxRecDepth 20000 in
theorem P58 : mm_P 58 = some mm_m58 := rfl
/-- WhoKnows$OrderReader.readParts(LWhoKnows$Scene;LWhoKnows$Order;)V -/
def mm_m59 : mm_M := (mm_c59, 3, 0, [])
set_option maxRecDepth 20000 in
theorem P59 : mm_P 59 = some mm_m59 := rfl
/-- WhoKnows$OrderReader.readHearers(LWhoKnows$Scene;LWhoKnows$Order;)V -/
def mm_m60 : mm_M := (mm_c60, 3, 0, [])
set_option maxRecDepth 20000 in
theorem P60 : mm_P 60 = some mm_m60 := rfl
/-- WhoKnows$Source.takeNew(LWhoKnows$Names;)V -/
def mm_m82 : mm_M := (mm_c82, 2, 0, [])
set_option maxRecDepth 20000 in
theorem P82 : mm_P 82 = some mm_m82 := rfl
/-- WhoKnows$Source.takeSet(LWhoKnows$Names;)I -/
def mm_m85 : mm_M := (mm_c85, 5, 1, [])
set_option maxRecDepth 20000 in
theorem P85 : mm_P 85 = some mm_m85 := rfl
theorem k2_0 : mm_lk mm_m2.1 0 = some (0, .aload_n 0, 1, []) := rfl
theorem k2_1 : mm_lk mm_m2.1 1 = some (1, .getfield 9, 4, [0, 2, 0, 296]) := rfl
theorem k2_4 : mm_lk mm_m2.1 4 = some (4, .invokevirtual 91, 7, [0, 76, 1, 11, 609, 610, 611, 133]) := rfl
theorem k2_7 : mm_lk mm_m2.1 7 = some (7, .ifCond .ne 26, 10, [33]) := rfl
theorem k2_10 : mm_lk mm_m2.1 10 = some (10, .aload_n 0, 11, []) := rfl
theorem k2_11 : mm_lk mm_m2.1 11 = some (11, .getfield 9, 14, [0, 2, 0, 296]) := rfl
theorem k2_14 : mm_lk mm_m2.1 14 = some (14, .getfield 95, 17, [1, 11, 7, 187, 0]) := rfl
theorem k2_17 : mm_lk mm_m2.1 17 = some (17, .sipush 267, 20, []) := rfl
theorem k2_20 : mm_lk mm_m2.1 20 = some (20, .if_icmp .ne 17, 23, [37]) := rfl
theorem k2_23 : mm_lk mm_m2.1 23 = some (23, .aload_n 1, 24, []) := rfl
theorem k2_24 : mm_lk mm_m2.1 24 = some (24, .getfield 47, 27, [1, 10, 1, 489, 0]) := rfl
theorem k2_27 : mm_lk mm_m2.1 27 = some (27, .getfield 51, 30, [1, 7, 1, 473, 0]) := rfl
theorem k2_30 : mm_lk mm_m2.1 30 = some (30, .ifCond .le 7, 33, [37]) := rfl
theorem k2_33 : mm_lk mm_m2.1 33 = some (33, .iconst 1, 34, []) := rfl
theorem k2_34 : mm_lk mm_m2.1 34 = some (34, .goto 4, 37, [38]) := rfl
theorem k2_37 : mm_lk mm_m2.1 37 = some (37, .iconst 0, 38, []) := rfl
theorem k2_38 : mm_lk mm_m2.1 38 = some (38, .ireturn, 39, []) := rfl
theorem k3_0 : mm_lk mm_m3.1 0 = some (0, .aload_n 0, 1, []) := rfl
theorem k3_1 : mm_lk mm_m3.1 1 = some (1, .getfield 9, 4, [0, 2, 0, 296]) := rfl
theorem k3_4 : mm_lk mm_m3.1 4 = some (4, .ldc 98, 6, [1, 22, 574]) := rfl
theorem k3_6 : mm_lk mm_m3.1 6 = some (6, .invokevirtual 100, 9, [0, 79, 2, 11, 575, 576, 577, 133]) := rfl
theorem k3_9 : mm_lk mm_m3.1 9 = some (9, .aload_n 0, 10, []) := rfl
theorem k3_10 : mm_lk mm_m3.1 10 = some (10, .getfield 9, 13, [0, 2, 0, 296]) := rfl
theorem k3_13 : mm_lk mm_m3.1 13 = some (13, .aload_n 1, 14, []) := rfl
theorem k3_14 : mm_lk mm_m3.1 14 = some (14, .getfield 104, 17, [1, 10, 0, 483, 0]) := rfl
theorem k3_17 : mm_lk mm_m3.1 17 = some (17, .invokevirtual 106, 20, [0, 82, 2, 11, 587, 588, 589, 133]) := rfl
theorem k3_20 : mm_lk mm_m3.1 20 = some (20, .iconst 0, 21, []) := rfl
theorem k3_21 : mm_lk mm_m3.1 21 = some (21, .istore_n 2, 22, []) := rfl
theorem k3_22 : mm_lk mm_m3.1 22 = some (22, .iload_n 2, 23, []) := rfl
theorem k3_23 : mm_lk mm_m3.1 23 = some (23, .iconst 5, 24, []) := rfl
theorem k3_24 : mm_lk mm_m3.1 24 = some (24, .if_icmp .gt 40, 27, [64]) := rfl
theorem k3_27 : mm_lk mm_m3.1 27 = some (27, .aload_n 0, 28, []) := rfl
theorem k3_28 : mm_lk mm_m3.1 28 = some (28, .getfield 9, 31, [0, 2, 0, 296]) := rfl
theorem k3_31 : mm_lk mm_m3.1 31 = some (31, .invokevirtual 110, 34, [0, 78, 1, 11, 608, 592, 593, 133]) := rfl
theorem k3_34 : mm_lk mm_m3.1 34 = some (34, .ifCond .eq 30, 37, [64]) := rfl
theorem k3_37 : mm_lk mm_m3.1 37 = some (37, .aload_n 0, 38, []) := rfl
theorem k3_38 : mm_lk mm_m3.1 38 = some (38, .getfield 9, 41, [0, 2, 0, 296]) := rfl
theorem k3_41 : mm_lk mm_m3.1 41 = some (41, .invokevirtual 91, 44, [0, 76, 1, 11, 609, 610, 611, 133]) := rfl
theorem k3_44 : mm_lk mm_m3.1 44 = some (44, .ifCond .ne 20, 47, [64]) := rfl
theorem k3_47 : mm_lk mm_m3.1 47 = some (47, .aload_n 0, 48, []) := rfl
theorem k3_48 : mm_lk mm_m3.1 48 = some (48, .getfield 9, 51, [0, 2, 0, 296]) := rfl
theorem k3_51 : mm_lk mm_m3.1 51 = some (51, .aload_n 1, 52, []) := rfl
theorem k3_52 : mm_lk mm_m3.1 52 = some (52, .getfield 104, 55, [1, 10, 0, 483, 0]) := rfl
theorem k3_55 : mm_lk mm_m3.1 55 = some (55, .invokevirtual 106, 58, [0, 82, 2, 11, 587, 588, 589, 133]) := rfl
theorem k3_58 : mm_lk mm_m3.1 58 = some (58, .iinc 2 1, 61, []) := rfl
theorem k3_61 : mm_lk mm_m3.1 61 = some (61, .goto (-39), 64, [22]) := rfl
theorem k3_64 : mm_lk mm_m3.1 64 = some (64, .aload_n 1, 65, []) := rfl
theorem k3_65 : mm_lk mm_m3.1 65 = some (65, .iconst 1, 66, []) := rfl
theorem k3_66 : mm_lk mm_m3.1 66 = some (66, .aload_n 1, 67, []) := rfl
theorem k3_67 : mm_lk mm_m3.1 67 = some (67, .getfield 104, 70, [1, 10, 0, 483, 0]) := rfl
theorem k3_70 : mm_lk mm_m3.1 70 = some (70, .getfield 51, 73, [1, 7, 1, 473, 0]) := rfl
theorem k3_73 : mm_lk mm_m3.1 73 = some (73, .ishl, 74, []) := rfl
theorem k3_74 : mm_lk mm_m3.1 74 = some (74, .invokestatic 113, 77, [6, 161, 1, 613, 614, 132, 0]) := rfl
theorem k3_77 : mm_lk mm_m3.1 77 = some (77, .putfield 84, 80, [1, 10, 4, 501, 0]) := rfl
theorem k3_80 : mm_lk mm_m3.1 80 = some (80, .return_, 81, []) := rfl
theorem k4_0 : mm_lk mm_m4.1 0 = some (0, .aload_n 0, 1, []) := rfl
theorem k4_1 : mm_lk mm_m4.1 1 = some (1, .getfield 9, 4, [0, 2, 0, 296]) := rfl
theorem k4_4 : mm_lk mm_m4.1 4 = some (4, .getfield 75, 7, [1, 11, 8, 190, 0]) := rfl
theorem k4_7 : mm_lk mm_m4.1 7 = some (7, .istore_n 2, 8, []) := rfl
theorem k4_8 : mm_lk mm_m4.1 8 = some (8, .aload_n 1, 9, []) := rfl
theorem k4_9 : mm_lk mm_m4.1 9 = some (9, .getfield 116, 12, [1, 10, 3, 498, 0]) := rfl
theorem k4_12 : mm_lk mm_m4.1 12 = some (12, .bipush 6, 14, []) := rfl
theorem k4_14 : mm_lk mm_m4.1 14 = some (14, .if_icmp .lt 19, 17, [33]) := rfl
theorem k4_17 : mm_lk mm_m4.1 17 = some (17, .aload_n 0, 18, []) := rfl
theorem k4_18 : mm_lk mm_m4.1 18 = some (18, .getfield 9, 21, [0, 2, 0, 296]) := rfl
theorem k4_21 : mm_lk mm_m4.1 21 = some (21, .iconst 3, 22, []) := rfl
theorem k4_22 : mm_lk mm_m4.1 22 = some (22, .aload_n 0, 23, []) := rfl
theorem k4_23 : mm_lk mm_m4.1 23 = some (23, .getfield 9, 26, [0, 2, 0, 296]) := rfl
theorem k4_26 : mm_lk mm_m4.1 26 = some (26, .getfield 75, 29, [1, 11, 8, 190, 0]) := rfl
theorem k4_29 : mm_lk mm_m4.1 29 = some (29, .invokevirtual 78, 32, [0, 75, 3, 11, 630, 584, 585, 133]) := rfl
theorem k4_32 : mm_lk mm_m4.1 32 = some (32, .return_, 33, []) := rfl
theorem k4_33 : mm_lk mm_m4.1 33 = some (33, .aload_n 0, 34, []) := rfl
theorem k4_34 : mm_lk mm_m4.1 34 = some (34, .getfield 9, 37, [0, 2, 0, 296]) := rfl
theorem k4_37 : mm_lk mm_m4.1 37 = some (37, .invokevirtual 119, 40, [0, 74, 1, 11, 631, 564, 565, 133]) := rfl
theorem k4_40 : mm_lk mm_m4.1 40 = some (40, .aload_n 0, 41, []) := rfl
theorem k4_41 : mm_lk mm_m4.1 41 = some (41, .getfield 15, 44, [0, 2, 1, 297]) := rfl
theorem k4_44 : mm_lk mm_m4.1 44 = some (44, .aload_n 1, 45, []) := rfl
theorem k4_45 : mm_lk mm_m4.1 45 = some (45, .iconst 1, 46, []) := rfl
theorem k4_46 : mm_lk mm_m4.1 46 = some (46, .aload_n 0, 47, []) := rfl
theorem k4_47 : mm_lk mm_m4.1 47 = some (47, .getfield 19, 50, [0, 2, 2, 298]) := rfl
theorem k4_50 : mm_lk mm_m4.1 50 = some (50, .invokevirtual 122, 53, [0, 17, 4, 4, 632, 633, 634, 136]) := rfl
theorem k4_53 : mm_lk mm_m4.1 53 = some (53, .aload_n 0, 54, []) := rfl
theorem k4_54 : mm_lk mm_m4.1 54 = some (54, .getfield 9, 57, [0, 2, 0, 296]) := rfl
theorem k4_57 : mm_lk mm_m4.1 57 = some (57, .invokevirtual 91, 60, [0, 76, 1, 11, 609, 610, 611, 133]) := rfl
theorem k4_60 : mm_lk mm_m4.1 60 = some (60, .ifCond .eq 4, 63, [64]) := rfl
theorem k4_63 : mm_lk mm_m4.1 63 = some (63, .return_, 64, []) := rfl
theorem k4_64 : mm_lk mm_m4.1 64 = some (64, .aload_n 0, 65, []) := rfl
theorem k4_65 : mm_lk mm_m4.1 65 = some (65, .getfield 23, 68, [0, 2, 3, 299]) := rfl
theorem k4_68 : mm_lk mm_m4.1 68 = some (68, .aload_n 1, 69, []) := rfl
theorem k4_69 : mm_lk mm_m4.1 69 = some (69, .getfield 84, 72, [1, 10, 4, 501, 0]) := rfl
theorem k4_72 : mm_lk mm_m4.1 72 = some (72, .putfield 128, 75, [1, 5, 1, 234, 0]) := rfl
theorem k4_75 : mm_lk mm_m4.1 75 = some (75, .aload_n 1, 76, []) := rfl
theorem k4_76 : mm_lk mm_m4.1 76 = some (76, .aload_n 0, 77, []) := rfl
theorem k4_77 : mm_lk mm_m4.1 77 = some (77, .getfield 19, 80, [0, 2, 2, 298]) := rfl
theorem k4_80 : mm_lk mm_m4.1 80 = some (80, .aload_n 0, 81, []) := rfl
theorem k4_81 : mm_lk mm_m4.1 81 = some (81, .getfield 23, 84, [0, 2, 3, 299]) := rfl
theorem k4_84 : mm_lk mm_m4.1 84 = some (84, .invokevirtual 133, 87, [0, 11, 2, 3, 698, 699, 700, 135]) := rfl
theorem k4_87 : mm_lk mm_m4.1 87 = some (87, .putfield 84, 90, [1, 10, 4, 501, 0]) := rfl
theorem k4_90 : mm_lk mm_m4.1 90 = some (90, .aload_n 1, 91, []) := rfl
theorem k4_91 : mm_lk mm_m4.1 91 = some (91, .dup, 92, []) := rfl
theorem k4_92 : mm_lk mm_m4.1 92 = some (92, .getfield 116, 95, [1, 10, 3, 498, 0]) := rfl
theorem k4_95 : mm_lk mm_m4.1 95 = some (95, .iconst 1, 96, []) := rfl
theorem k4_96 : mm_lk mm_m4.1 96 = some (96, .iadd, 97, []) := rfl
theorem k4_97 : mm_lk mm_m4.1 97 = some (97, .putfield 116, 100, [1, 10, 3, 498, 0]) := rfl
theorem k4_100 : mm_lk mm_m4.1 100 = some (100, .aload_n 1, 101, []) := rfl
theorem k4_101 : mm_lk mm_m4.1 101 = some (101, .getfield 84, 104, [1, 10, 4, 501, 0]) := rfl
theorem k4_104 : mm_lk mm_m4.1 104 = some (104, .ifCond .ne 12, 107, [116]) := rfl
theorem k4_107 : mm_lk mm_m4.1 107 = some (107, .aload_n 0, 108, []) := rfl
theorem k4_108 : mm_lk mm_m4.1 108 = some (108, .getfield 9, 111, [0, 2, 0, 296]) := rfl
theorem k4_111 : mm_lk mm_m4.1 111 = some (111, .iconst 4, 112, []) := rfl
theorem k4_112 : mm_lk mm_m4.1 112 = some (112, .iload_n 2, 113, []) := rfl
theorem k4_113 : mm_lk mm_m4.1 113 = some (113, .invokevirtual 78, 116, [0, 75, 3, 11, 630, 584, 585, 133]) := rfl
theorem k4_116 : mm_lk mm_m4.1 116 = some (116, .return_, 117, []) := rfl
theorem k5_0 : mm_lk mm_m5.1 0 = some (0, .aload_n 1, 1, []) := rfl
theorem k5_1 : mm_lk mm_m5.1 1 = some (1, .getfield 47, 4, [1, 10, 1, 489, 0]) := rfl
theorem k5_4 : mm_lk mm_m5.1 4 = some (4, .getfield 51, 7, [1, 7, 1, 473, 0]) := rfl
theorem k5_7 : mm_lk mm_m5.1 7 = some (7, .istore_n 2, 8, []) := rfl
theorem k5_8 : mm_lk mm_m5.1 8 = some (8, .aload_n 1, 9, []) := rfl
theorem k5_9 : mm_lk mm_m5.1 9 = some (9, .getfield 47, 12, [1, 10, 1, 489, 0]) := rfl
theorem k5_12 : mm_lk mm_m5.1 12 = some (12, .invokevirtual 139, 15, [0, 49, 1, 7, 741, 600, 601, 148]) := rfl
theorem k5_15 : mm_lk mm_m5.1 15 = some (15, .ifCond .eq 19, 18, [34]) := rfl
theorem k5_18 : mm_lk mm_m5.1 18 = some (18, .aload_n 0, 19, []) := rfl
theorem k5_19 : mm_lk mm_m5.1 19 = some (19, .getfield 9, 22, [0, 2, 0, 296]) := rfl
theorem k5_22 : mm_lk mm_m5.1 22 = some (22, .iconst 3, 23, []) := rfl
theorem k5_23 : mm_lk mm_m5.1 23 = some (23, .aload_n 0, 24, []) := rfl
theorem k5_24 : mm_lk mm_m5.1 24 = some (24, .getfield 9, 27, [0, 2, 0, 296]) := rfl
theorem k5_27 : mm_lk mm_m5.1 27 = some (27, .getfield 75, 30, [1, 11, 8, 190, 0]) := rfl
theorem k5_30 : mm_lk mm_m5.1 30 = some (30, .invokevirtual 78, 33, [0, 75, 3, 11, 630, 584, 585, 133]) := rfl
theorem k5_33 : mm_lk mm_m5.1 33 = some (33, .return_, 34, []) := rfl
theorem k5_34 : mm_lk mm_m5.1 34 = some (34, .aload_n 0, 35, []) := rfl
theorem k5_35 : mm_lk mm_m5.1 35 = some (35, .getfield 9, 38, [0, 2, 0, 296]) := rfl
theorem k5_38 : mm_lk mm_m5.1 38 = some (38, .invokevirtual 119, 41, [0, 74, 1, 11, 631, 564, 565, 133]) := rfl
theorem k5_41 : mm_lk mm_m5.1 41 = some (41, .aload_n 0, 42, []) := rfl
theorem k5_42 : mm_lk mm_m5.1 42 = some (42, .getfield 9, 45, [0, 2, 0, 296]) := rfl
theorem k5_45 : mm_lk mm_m5.1 45 = some (45, .aload_n 1, 46, []) := rfl
theorem k5_46 : mm_lk mm_m5.1 46 = some (46, .getfield 47, 49, [1, 10, 1, 489, 0]) := rfl
theorem k5_49 : mm_lk mm_m5.1 49 = some (49, .invokevirtual 106, 52, [0, 82, 2, 11, 587, 588, 589, 133]) := rfl
theorem k5_52 : mm_lk mm_m5.1 52 = some (52, .aload_n 0, 53, []) := rfl
theorem k5_53 : mm_lk mm_m5.1 53 = some (53, .getfield 9, 56, [0, 2, 0, 296]) := rfl
theorem k5_56 : mm_lk mm_m5.1 56 = some (56, .invokevirtual 91, 59, [0, 76, 1, 11, 609, 610, 611, 133]) := rfl
theorem k5_59 : mm_lk mm_m5.1 59 = some (59, .ifCond .ne 22, 62, [81]) := rfl
theorem k5_62 : mm_lk mm_m5.1 62 = some (62, .aload_n 1, 63, []) := rfl
theorem k5_63 : mm_lk mm_m5.1 63 = some (63, .getfield 142, 66, [1, 10, 2, 496, 0]) := rfl
theorem k5_66 : mm_lk mm_m5.1 66 = some (66, .iload_n 2, 67, []) := rfl
theorem k5_67 : mm_lk mm_m5.1 67 = some (67, .aload_n 0, 68, []) := rfl
theorem k5_68 : mm_lk mm_m5.1 68 = some (68, .getfield 9, 71, [0, 2, 0, 296]) := rfl
theorem k5_71 : mm_lk mm_m5.1 71 = some (71, .aload_n 1, 72, []) := rfl
theorem k5_72 : mm_lk mm_m5.1 72 = some (72, .getfield 104, 75, [1, 10, 0, 483, 0]) := rfl
theorem k5_75 : mm_lk mm_m5.1 75 = some (75, .invokevirtual 146, 78, [0, 85, 2, 11, 742, 743, 744, 133]) := rfl
theorem k5_78 : mm_lk mm_m5.1 78 = some (78, .invokestatic 150, 81, [6, 157, 3, 749, 449, 132, 0]) := rfl
theorem k5_81 : mm_lk mm_m5.1 81 = some (81, .return_, 82, []) := rfl
theorem k6_0 : mm_lk mm_m6.1 0 = some (0, .aload_n 0, 1, []) := rfl
theorem k6_1 : mm_lk mm_m6.1 1 = some (1, .getfield 9, 4, [0, 2, 0, 296]) := rfl
theorem k6_4 : mm_lk mm_m6.1 4 = some (4, .getfield 75, 7, [1, 11, 8, 190, 0]) := rfl
theorem k6_7 : mm_lk mm_m6.1 7 = some (7, .istore_n 2, 8, []) := rfl
theorem k6_8 : mm_lk mm_m6.1 8 = some (8, .aload_n 0, 9, []) := rfl
theorem k6_9 : mm_lk mm_m6.1 9 = some (9, .getfield 9, 12, [0, 2, 0, 296]) := rfl
theorem k6_12 : mm_lk mm_m6.1 12 = some (12, .invokevirtual 119, 15, [0, 74, 1, 11, 631, 564, 565, 133]) := rfl
theorem k6_15 : mm_lk mm_m6.1 15 = some (15, .aload_n 1, 16, []) := rfl
theorem k6_16 : mm_lk mm_m6.1 16 = some (16, .aload_n 0, 17, []) := rfl
theorem k6_17 : mm_lk mm_m6.1 17 = some (17, .getfield 9, 20, [0, 2, 0, 296]) := rfl
theorem k6_20 : mm_lk mm_m6.1 20 = some (20, .aload_n 1, 21, []) := rfl
theorem k6_21 : mm_lk mm_m6.1 21 = some (21, .getfield 104, 24, [1, 10, 0, 483, 0]) := rfl
theorem k6_24 : mm_lk mm_m6.1 24 = some (24, .invokevirtual 146, 27, [0, 85, 2, 11, 742, 743, 744, 133]) := rfl
theorem k6_27 : mm_lk mm_m6.1 27 = some (27, .putfield 82, 30, [1, 10, 5, 504, 0]) := rfl
theorem k6_30 : mm_lk mm_m6.1 30 = some (30, .aload_n 0, 31, []) := rfl
theorem k6_31 : mm_lk mm_m6.1 31 = some (31, .getfield 9, 34, [0, 2, 0, 296]) := rfl
theorem k6_34 : mm_lk mm_m6.1 34 = some (34, .invokevirtual 91, 37, [0, 76, 1, 11, 609, 610, 611, 133]) := rfl
theorem k6_37 : mm_lk mm_m6.1 37 = some (37, .ifCond .ne 26, 40, [63]) := rfl
theorem k6_40 : mm_lk mm_m6.1 40 = some (40, .aload_n 1, 41, []) := rfl
theorem k6_41 : mm_lk mm_m6.1 41 = some (41, .getfield 84, 44, [1, 10, 4, 501, 0]) := rfl
theorem k6_44 : mm_lk mm_m6.1 44 = some (44, .aload_n 1, 45, []) := rfl
theorem k6_45 : mm_lk mm_m6.1 45 = some (45, .getfield 82, 48, [1, 10, 5, 504, 0]) := rfl
theorem k6_48 : mm_lk mm_m6.1 48 = some (48, .invokestatic 154, 51, [6, 159, 2, 755, 715, 132, 0]) := rfl
theorem k6_51 : mm_lk mm_m6.1 51 = some (51, .ifCond .ne 12, 54, [63]) := rfl
theorem k6_54 : mm_lk mm_m6.1 54 = some (54, .aload_n 0, 55, []) := rfl
theorem k6_55 : mm_lk mm_m6.1 55 = some (55, .getfield 9, 58, [0, 2, 0, 296]) := rfl
theorem k6_58 : mm_lk mm_m6.1 58 = some (58, .iconst 4, 59, []) := rfl
theorem k6_59 : mm_lk mm_m6.1 59 = some (59, .iload_n 2, 60, []) := rfl
theorem k6_60 : mm_lk mm_m6.1 60 = some (60, .invokevirtual 78, 63, [0, 75, 3, 11, 630, 584, 585, 133]) := rfl
theorem k6_63 : mm_lk mm_m6.1 63 = some (63, .aload_n 0, 64, []) := rfl
theorem k6_64 : mm_lk mm_m6.1 64 = some (64, .getfield 9, 67, [0, 2, 0, 296]) := rfl
theorem k6_67 : mm_lk mm_m6.1 67 = some (67, .invokevirtual 158, 70, [0, 81, 1, 11, 756, 757, 758, 133]) := rfl
theorem k6_70 : mm_lk mm_m6.1 70 = some (70, .return_, 71, []) := rfl
theorem k17_0 : mm_lk mm_m17.1 0 = some (0, .aload_n 0, 1, []) := rfl
theorem k17_1 : mm_lk mm_m17.1 1 = some (1, .iconst 0, 2, []) := rfl
theorem k17_2 : mm_lk mm_m17.1 2 = some (2, .putfield 22, 5, [0, 4, 3, 274]) := rfl
theorem k17_5 : mm_lk mm_m17.1 5 = some (5, .aload_n 0, 6, []) := rfl
theorem k17_6 : mm_lk mm_m17.1 6 = some (6, .iconst 0, 7, []) := rfl
theorem k17_7 : mm_lk mm_m17.1 7 = some (7, .putfield 26, 10, [0, 4, 4, 275]) := rfl
theorem k17_10 : mm_lk mm_m17.1 10 = some (10, .aload_n 0, 11, []) := rfl
theorem k17_11 : mm_lk mm_m17.1 11 = some (11, .iconst 0, 12, []) := rfl
theorem k17_12 : mm_lk mm_m17.1 12 = some (12, .putfield 29, 15, [0, 4, 5, 276]) := rfl
theorem k17_15 : mm_lk mm_m17.1 15 = some (15, .aload_n 3, 16, []) := rfl
theorem k17_16 : mm_lk mm_m17.1 16 = some (16, .invokevirtual 32, 19, [0, 8, 1, 3, 636, 637, 638, 135]) := rfl
theorem k17_19 : mm_lk mm_m17.1 19 = some (19, .iconst 1, 20, []) := rfl
theorem k17_20 : mm_lk mm_m17.1 20 = some (20, .istore 4, 22, []) := rfl
theorem k17_22 : mm_lk mm_m17.1 22 = some (22, .aload_n 0, 23, []) := rfl
theorem k17_23 : mm_lk mm_m17.1 23 = some (23, .getfield 18, 26, [0, 4, 0, 271]) := rfl
theorem k17_26 : mm_lk mm_m17.1 26 = some (26, .invokevirtual 37, 29, [0, 76, 1, 11, 640, 610, 611, 133]) := rfl
theorem k17_29 : mm_lk mm_m17.1 29 = some (29, .ifCond .ne 7, 32, [36]) := rfl
theorem k17_32 : mm_lk mm_m17.1 32 = some (32, .iconst 1, 33, []) := rfl
theorem k17_33 : mm_lk mm_m17.1 33 = some (33, .goto 4, 36, [37]) := rfl
theorem k17_36 : mm_lk mm_m17.1 36 = some (36, .iconst 0, 37, []) := rfl
theorem k17_37 : mm_lk mm_m17.1 37 = some (37, .istore 5, 39, []) := rfl
theorem k17_39 : mm_lk mm_m17.1 39 = some (39, .iconst 0, 40, []) := rfl
theorem k17_40 : mm_lk mm_m17.1 40 = some (40, .istore 6, 42, []) := rfl
theorem k17_42 : mm_lk mm_m17.1 42 = some (42, .iload 6, 44, []) := rfl
theorem k17_44 : mm_lk mm_m17.1 44 = some (44, .sipush 600, 47, []) := rfl
theorem k17_47 : mm_lk mm_m17.1 47 = some (47, .if_icmp .gt 128, 50, [175]) := rfl
theorem k17_50 : mm_lk mm_m17.1 50 = some (50, .iload 5, 52, []) := rfl
theorem k17_52 : mm_lk mm_m17.1 52 = some (52, .ifCond .eq 123, 55, [175]) := rfl
theorem k17_55 : mm_lk mm_m17.1 55 = some (55, .iload 4, 57, []) := rfl
theorem k17_57 : mm_lk mm_m17.1 57 = some (57, .ifCond .eq 32, 60, [89]) := rfl
theorem k17_60 : mm_lk mm_m17.1 60 = some (60, .aload_n 0, 61, []) := rfl
theorem k17_61 : mm_lk mm_m17.1 61 = some (61, .aload_n 1, 62, []) := rfl
theorem k17_62 : mm_lk mm_m17.1 62 = some (62, .iload_n 2, 63, []) := rfl
theorem k17_63 : mm_lk mm_m17.1 63 = some (63, .aload_n 3, 64, []) := rfl
theorem k17_64 : mm_lk mm_m17.1 64 = some (64, .invokevirtual 43, 67, [0, 18, 4, 4, 641, 643, 16, 136]) := rfl
theorem k17_67 : mm_lk mm_m17.1 67 = some (67, .istore 4, 69, []) := rfl
theorem k17_69 : mm_lk mm_m17.1 69 = some (69, .aload_n 0, 70, []) := rfl
theorem k17_70 : mm_lk mm_m17.1 70 = some (70, .getfield 18, 73, [0, 4, 0, 271]) := rfl
theorem k17_73 : mm_lk mm_m17.1 73 = some (73, .invokevirtual 37, 76, [0, 76, 1, 11, 640, 610, 611, 133]) := rfl
theorem k17_76 : mm_lk mm_m17.1 76 = some (76, .ifCond .ne 7, 79, [83]) := rfl
theorem k17_79 : mm_lk mm_m17.1 79 = some (79, .iconst 1, 80, []) := rfl
theorem k17_80 : mm_lk mm_m17.1 80 = some (80, .goto 4, 83, [84]) := rfl
theorem k17_83 : mm_lk mm_m17.1 83 = some (83, .iconst 0, 84, []) := rfl
theorem k17_84 : mm_lk mm_m17.1 84 = some (84, .istore 5, 86, []) := rfl
theorem k17_86 : mm_lk mm_m17.1 86 = some (86, .goto 83, 89, [169]) := rfl
theorem k17_89 : mm_lk mm_m17.1 89 = some (89, .aload_n 0, 90, []) := rfl
theorem k17_90 : mm_lk mm_m17.1 90 = some (90, .getfield 18, 93, [0, 4, 0, 271]) := rfl
theorem k17_93 : mm_lk mm_m17.1 93 = some (93, .getfield 47, 96, [1, 11, 7, 186, 0]) := rfl
theorem k17_96 : mm_lk mm_m17.1 96 = some (96, .sipush 256, 99, []) := rfl
theorem k17_99 : mm_lk mm_m17.1 99 = some (99, .isub, 100, []) := rfl
theorem k17_100 : mm_lk mm_m17.1 100 = some (100, .invokestatic 50, 103, [6, 165, 1, 681, 682, 132, 0]) := rfl
theorem k17_103 : mm_lk mm_m17.1 103 = some (103, .ifCond .eq 31, 106, [134]) := rfl
theorem k17_106 : mm_lk mm_m17.1 106 = some (106, .aload_n 0, 107, []) := rfl
theorem k17_107 : mm_lk mm_m17.1 107 = some (107, .aload_n 3, 108, []) := rfl
theorem k17_108 : mm_lk mm_m17.1 108 = some (108, .invokevirtual 54, 111, [0, 20, 2, 4, 684, 686, 20, 136]) := rfl
theorem k17_111 : mm_lk mm_m17.1 111 = some (111, .iconst 1, 112, []) := rfl
theorem k17_112 : mm_lk mm_m17.1 112 = some (112, .istore 4, 114, []) := rfl
theorem k17_114 : mm_lk mm_m17.1 114 = some (114, .aload_n 0, 115, []) := rfl
theorem k17_115 : mm_lk mm_m17.1 115 = some (115, .getfield 18, 118, [0, 4, 0, 271]) := rfl
theorem k17_118 : mm_lk mm_m17.1 118 = some (118, .invokevirtual 37, 121, [0, 76, 1, 11, 640, 610, 611, 133]) := rfl
theorem k17_121 : mm_lk mm_m17.1 121 = some (121, .ifCond .ne 7, 124, [128]) := rfl
theorem k17_124 : mm_lk mm_m17.1 124 = some (124, .iconst 1, 125, []) := rfl
theorem k17_125 : mm_lk mm_m17.1 125 = some (125, .goto 4, 128, [129]) := rfl
theorem k17_128 : mm_lk mm_m17.1 128 = some (128, .iconst 0, 129, []) := rfl
theorem k17_129 : mm_lk mm_m17.1 129 = some (129, .istore 5, 131, []) := rfl
theorem k17_131 : mm_lk mm_m17.1 131 = some (131, .goto 38, 134, [169]) := rfl
theorem k17_134 : mm_lk mm_m17.1 134 = some (134, .aload_n 0, 135, []) := rfl
theorem k17_135 : mm_lk mm_m17.1 135 = some (135, .getfield 26, 138, [0, 4, 4, 275]) := rfl
theorem k17_138 : mm_lk mm_m17.1 138 = some (138, .ifCond .le 28, 141, [166]) := rfl
theorem k17_141 : mm_lk mm_m17.1 141 = some (141, .aload_n 0, 142, []) := rfl
theorem k17_142 : mm_lk mm_m17.1 142 = some (142, .aload_n 3, 143, []) := rfl
theorem k17_143 : mm_lk mm_m17.1 143 = some (143, .invokevirtual 58, 146, [0, 21, 2, 4, 693, 695, 22, 136]) := rfl
theorem k17_146 : mm_lk mm_m17.1 146 = some (146, .aload_n 0, 147, []) := rfl
theorem k17_147 : mm_lk mm_m17.1 147 = some (147, .getfield 18, 150, [0, 4, 0, 271]) := rfl
theorem k17_150 : mm_lk mm_m17.1 150 = some (150, .invokevirtual 37, 153, [0, 76, 1, 11, 640, 610, 611, 133]) := rfl
theorem k17_153 : mm_lk mm_m17.1 153 = some (153, .ifCond .ne 7, 156, [160]) := rfl
theorem k17_156 : mm_lk mm_m17.1 156 = some (156, .iconst 1, 157, []) := rfl
theorem k17_157 : mm_lk mm_m17.1 157 = some (157, .goto 4, 160, [161]) := rfl
theorem k17_160 : mm_lk mm_m17.1 160 = some (160, .iconst 0, 161, []) := rfl
theorem k17_161 : mm_lk mm_m17.1 161 = some (161, .istore 5, 163, []) := rfl
theorem k17_163 : mm_lk mm_m17.1 163 = some (163, .goto 6, 166, [169]) := rfl
theorem k17_166 : mm_lk mm_m17.1 166 = some (166, .iconst 0, 167, []) := rfl
theorem k17_167 : mm_lk mm_m17.1 167 = some (167, .istore 5, 169, []) := rfl
theorem k17_169 : mm_lk mm_m17.1 169 = some (169, .iinc 6 1, 172, []) := rfl
theorem k17_172 : mm_lk mm_m17.1 172 = some (172, .goto (-130), 175, [42]) := rfl
theorem k17_175 : mm_lk mm_m17.1 175 = some (175, .aload_n 0, 176, []) := rfl
theorem k17_176 : mm_lk mm_m17.1 176 = some (176, .bipush 7, 178, []) := rfl
theorem k17_178 : mm_lk mm_m17.1 178 = some (178, .aload_n 3, 179, []) := rfl
theorem k17_179 : mm_lk mm_m17.1 179 = some (179, .invokevirtual 61, 182, [0, 24, 3, 4, 688, 690, 21, 136]) := rfl
theorem k17_182 : mm_lk mm_m17.1 182 = some (182, .return_, 183, []) := rfl
theorem k18_0 : mm_lk mm_m18.1 0 = some (0, .aload_n 0, 1, []) := rfl
theorem k18_1 : mm_lk mm_m18.1 1 = some (1, .getfield 18, 4, [0, 4, 0, 271]) := rfl
theorem k18_4 : mm_lk mm_m18.1 4 = some (4, .getfield 47, 7, [1, 11, 7, 186, 0]) := rfl
theorem k18_7 : mm_lk mm_m18.1 7 = some (7, .sipush 256, 10, []) := rfl
theorem k18_10 : mm_lk mm_m18.1 10 = some (10, .isub, 11, []) := rfl
theorem k18_11 : mm_lk mm_m18.1 11 = some (11, .istore 4, 13, []) := rfl
theorem k18_13 : mm_lk mm_m18.1 13 = some (13, .aload_n 0, 14, []) := rfl
theorem k18_14 : mm_lk mm_m18.1 14 = some (14, .getfield 18, 17, [0, 4, 0, 271]) := rfl
theorem k18_17 : mm_lk mm_m18.1 17 = some (17, .getfield 47, 20, [1, 11, 7, 186, 0]) := rfl
theorem k18_20 : mm_lk mm_m18.1 20 = some (20, .bipush 40, 22, []) := rfl
theorem k18_22 : mm_lk mm_m18.1 22 = some (22, .if_icmp .ne 9, 25, [31]) := rfl
theorem k18_25 : mm_lk mm_m18.1 25 = some (25, .aload_n 0, 26, []) := rfl
theorem k18_26 : mm_lk mm_m18.1 26 = some (26, .invokevirtual 65, 29, [0, 19, 1, 4, 645, 647, 17, 136]) := rfl
theorem k18_29 : mm_lk mm_m18.1 29 = some (29, .iconst 1, 30, []) := rfl
theorem k18_30 : mm_lk mm_m18.1 30 = some (30, .ireturn, 31, []) := rfl
theorem k18_31 : mm_lk mm_m18.1 31 = some (31, .iload 4, 33, []) := rfl
theorem k18_33 : mm_lk mm_m18.1 33 = some (33, .invokestatic 68, 36, [6, 164, 1, 656, 657, 132, 0]) := rfl
theorem k18_36 : mm_lk mm_m18.1 36 = some (36, .ifCond .eq 51, 39, [87]) := rfl
theorem k18_39 : mm_lk mm_m18.1 39 = some (39, .iload 4, 41, []) := rfl
theorem k18_41 : mm_lk mm_m18.1 41 = some (41, .iconst 1, 42, []) := rfl
theorem k18_42 : mm_lk mm_m18.1 42 = some (42, .if_icmp .eq 7, 45, [49]) := rfl
theorem k18_45 : mm_lk mm_m18.1 45 = some (45, .iload_n 2, 46, []) := rfl
theorem k18_46 : mm_lk mm_m18.1 46 = some (46, .ifCond .ne 41, 49, [87]) := rfl
theorem k18_49 : mm_lk mm_m18.1 49 = some (49, .aload_n 0, 50, []) := rfl
theorem k18_50 : mm_lk mm_m18.1 50 = some (50, .invokevirtual 71, 53, [0, 22, 1, 4, 659, 661, 19, 136]) := rfl
theorem k18_53 : mm_lk mm_m18.1 53 = some (53, .ifCond .eq 32, 56, [85]) := rfl
theorem k18_56 : mm_lk mm_m18.1 56 = some (56, .aload_n 0, 57, []) := rfl
theorem k18_57 : mm_lk mm_m18.1 57 = some (57, .iload 4, 59, []) := rfl
theorem k18_59 : mm_lk mm_m18.1 59 = some (59, .iload 4, 61, []) := rfl
theorem k18_61 : mm_lk mm_m18.1 61 = some (61, .invokestatic 74, 64, [6, 166, 1, 663, 664, 132, 0]) := rfl
theorem k18_64 : mm_lk mm_m18.1 64 = some (64, .ifCond .eq 17, 67, [81]) := rfl
theorem k18_67 : mm_lk mm_m18.1 67 = some (67, .aload_n 0, 68, []) := rfl
theorem k18_68 : mm_lk mm_m18.1 68 = some (68, .getfield 18, 71, [0, 4, 0, 271]) := rfl
theorem k18_71 : mm_lk mm_m18.1 71 = some (71, .aload_n 1, 72, []) := rfl
theorem k18_72 : mm_lk mm_m18.1 72 = some (72, .getfield 77, 75, [1, 10, 1, 490, 0]) := rfl
theorem k18_75 : mm_lk mm_m18.1 75 = some (75, .invokevirtual 83, 78, [0, 84, 2, 11, 666, 667, 668, 133]) := rfl
theorem k18_78 : mm_lk mm_m18.1 78 = some (78, .goto 4, 81, [82]) := rfl
theorem k18_81 : mm_lk mm_m18.1 81 = some (81, .iconst 0, 82, []) := rfl
theorem k18_82 : mm_lk mm_m18.1 82 = some (82, .invokevirtual 87, 85, [0, 23, 3, 4, 650, 652, 18, 136]) := rfl
theorem k18_85 : mm_lk mm_m18.1 85 = some (85, .iconst 1, 86, []) := rfl
theorem k18_86 : mm_lk mm_m18.1 86 = some (86, .ireturn, 87, []) := rfl
theorem k18_87 : mm_lk mm_m18.1 87 = some (87, .aload_n 0, 88, []) := rfl
theorem k18_88 : mm_lk mm_m18.1 88 = some (88, .getfield 18, 91, [0, 4, 0, 271]) := rfl
theorem k18_91 : mm_lk mm_m18.1 91 = some (91, .aload_n 1, 92, []) := rfl
theorem k18_92 : mm_lk mm_m18.1 92 = some (92, .getfield 91, 95, [1, 10, 0, 482, 0]) := rfl
theorem k18_95 : mm_lk mm_m18.1 95 = some (95, .invokevirtual 94, 98, [0, 83, 2, 11, 674, 671, 672, 133]) := rfl
theorem k18_98 : mm_lk mm_m18.1 98 = some (98, .istore 5, 100, []) := rfl
theorem k18_100 : mm_lk mm_m18.1 100 = some (100, .iload 5, 102, []) := rfl
theorem k18_102 : mm_lk mm_m18.1 102 = some (102, .iconst (-1), 103, []) := rfl
theorem k18_103 : mm_lk mm_m18.1 103 = some (103, .if_icmp .eq 17, 106, [120]) := rfl
theorem k18_106 : mm_lk mm_m18.1 106 = some (106, .aload_n 0, 107, []) := rfl
theorem k18_107 : mm_lk mm_m18.1 107 = some (107, .invokevirtual 71, 110, [0, 22, 1, 4, 659, 661, 19, 136]) := rfl
theorem k18_110 : mm_lk mm_m18.1 110 = some (110, .ifCond .eq 10, 113, [120]) := rfl
theorem k18_113 : mm_lk mm_m18.1 113 = some (113, .aload_n 3, 114, []) := rfl
theorem k18_114 : mm_lk mm_m18.1 114 = some (114, .iconst 0, 115, []) := rfl
theorem k18_115 : mm_lk mm_m18.1 115 = some (115, .iload 5, 117, []) := rfl
theorem k18_117 : mm_lk mm_m18.1 117 = some (117, .invokevirtual 97, 120, [0, 9, 3, 3, 675, 676, 677, 135]) := rfl
theorem k18_120 : mm_lk mm_m18.1 120 = some (120, .iconst 0, 121, []) := rfl
theorem k18_121 : mm_lk mm_m18.1 121 = some (121, .ireturn, 122, []) := rfl
theorem k19_0 : mm_lk mm_m19.1 0 = some (0, .aload_n 0, 1, []) := rfl
theorem k19_1 : mm_lk mm_m19.1 1 = some (1, .getfield 26, 4, [0, 4, 4, 275]) := rfl
theorem k19_4 : mm_lk mm_m19.1 4 = some (4, .bipush 8, 6, []) := rfl
theorem k19_6 : mm_lk mm_m19.1 6 = some (6, .if_icmp .lt 21, 9, [27]) := rfl
theorem k19_9 : mm_lk mm_m19.1 9 = some (9, .aload_n 0, 10, []) := rfl
theorem k19_10 : mm_lk mm_m19.1 10 = some (10, .getfield 18, 13, [0, 4, 0, 271]) := rfl
theorem k19_13 : mm_lk mm_m19.1 13 = some (13, .iconst 1, 14, []) := rfl
theorem k19_14 : mm_lk mm_m19.1 14 = some (14, .aload_n 0, 15, []) := rfl
theorem k19_15 : mm_lk mm_m19.1 15 = some (15, .getfield 18, 18, [0, 4, 0, 271]) := rfl
theorem k19_18 : mm_lk mm_m19.1 18 = some (18, .getfield 100, 21, [1, 11, 8, 191, 0]) := rfl
theorem k19_21 : mm_lk mm_m19.1 21 = some (21, .invokevirtual 103, 24, [0, 75, 3, 11, 649, 584, 585, 133]) := rfl
theorem k19_24 : mm_lk mm_m19.1 24 = some (24, .goto 27, 27, [51]) := rfl
theorem k19_27 : mm_lk mm_m19.1 27 = some (27, .aload_n 0, 28, []) := rfl
theorem k19_28 : mm_lk mm_m19.1 28 = some (28, .dup, 29, []) := rfl
theorem k19_29 : mm_lk mm_m19.1 29 = some (29, .getfield 26, 32, [0, 4, 4, 275]) := rfl
theorem k19_32 : mm_lk mm_m19.1 32 = some (32, .iconst 1, 33, []) := rfl
theorem k19_33 : mm_lk mm_m19.1 33 = some (33, .iadd, 34, []) := rfl
theorem k19_34 : mm_lk mm_m19.1 34 = some (34, .putfield 26, 37, [0, 4, 4, 275]) := rfl
theorem k19_37 : mm_lk mm_m19.1 37 = some (37, .aload_n 0, 38, []) := rfl
theorem k19_38 : mm_lk mm_m19.1 38 = some (38, .bipush 8, 40, []) := rfl
theorem k19_40 : mm_lk mm_m19.1 40 = some (40, .iconst 0, 41, []) := rfl
theorem k19_41 : mm_lk mm_m19.1 41 = some (41, .invokevirtual 87, 44, [0, 23, 3, 4, 650, 652, 18, 136]) := rfl
theorem k19_44 : mm_lk mm_m19.1 44 = some (44, .aload_n 0, 45, []) := rfl
theorem k19_45 : mm_lk mm_m19.1 45 = some (45, .getfield 18, 48, [0, 4, 0, 271]) := rfl
theorem k19_48 : mm_lk mm_m19.1 48 = some (48, .invokevirtual 106, 51, [0, 74, 1, 11, 655, 564, 565, 133]) := rfl
theorem k19_51 : mm_lk mm_m19.1 51 = some (51, .return_, 52, []) := rfl
theorem k20_0 : mm_lk mm_m20.1 0 = some (0, .aload_n 0, 1, []) := rfl
theorem k20_1 : mm_lk mm_m20.1 1 = some (1, .getfield 18, 4, [0, 4, 0, 271]) := rfl
theorem k20_4 : mm_lk mm_m20.1 4 = some (4, .getfield 47, 7, [1, 11, 7, 186, 0]) := rfl
theorem k20_7 : mm_lk mm_m20.1 7 = some (7, .sipush 256, 10, []) := rfl
theorem k20_10 : mm_lk mm_m20.1 10 = some (10, .isub, 11, []) := rfl
theorem k20_11 : mm_lk mm_m20.1 11 = some (11, .istore_n 2, 12, []) := rfl
theorem k20_12 : mm_lk mm_m20.1 12 = some (12, .aload_n 0, 13, []) := rfl
theorem k20_13 : mm_lk mm_m20.1 13 = some (13, .invokevirtual 71, 16, [0, 22, 1, 4, 659, 661, 19, 136]) := rfl
theorem k20_16 : mm_lk mm_m20.1 16 = some (16, .ifCond .eq 15, 19, [31]) := rfl
theorem k20_19 : mm_lk mm_m20.1 19 = some (19, .aload_n 0, 20, []) := rfl
theorem k20_20 : mm_lk mm_m20.1 20 = some (20, .iload_n 2, 21, []) := rfl
theorem k20_21 : mm_lk mm_m20.1 21 = some (21, .aload_n 1, 22, []) := rfl
theorem k20_22 : mm_lk mm_m20.1 22 = some (22, .invokevirtual 61, 25, [0, 24, 3, 4, 688, 690, 21, 136]) := rfl
theorem k20_25 : mm_lk mm_m20.1 25 = some (25, .aload_n 0, 26, []) := rfl
theorem k20_26 : mm_lk mm_m20.1 26 = some (26, .iload_n 2, 27, []) := rfl
theorem k20_27 : mm_lk mm_m20.1 27 = some (27, .iconst 0, 28, []) := rfl
theorem k20_28 : mm_lk mm_m20.1 28 = some (28, .invokevirtual 87, 31, [0, 23, 3, 4, 650, 652, 18, 136]) := rfl
theorem k20_31 : mm_lk mm_m20.1 31 = some (31, .return_, 32, []) := rfl
theorem k21_0 : mm_lk mm_m21.1 0 = some (0, .aload_n 0, 1, []) := rfl
theorem k21_1 : mm_lk mm_m21.1 1 = some (1, .getfield 18, 4, [0, 4, 0, 271]) := rfl
theorem k21_4 : mm_lk mm_m21.1 4 = some (4, .bipush 41, 6, []) := rfl
theorem k21_6 : mm_lk mm_m21.1 6 = some (6, .invokevirtual 109, 9, [0, 80, 2, 11, 697, 621, 622, 133]) := rfl
theorem k21_9 : mm_lk mm_m21.1 9 = some (9, .ifCond .eq 30, 12, [39]) := rfl
theorem k21_12 : mm_lk mm_m21.1 12 = some (12, .aload_n 0, 13, []) := rfl
theorem k21_13 : mm_lk mm_m21.1 13 = some (13, .bipush 7, 15, []) := rfl
theorem k21_15 : mm_lk mm_m21.1 15 = some (15, .aload_n 1, 16, []) := rfl
theorem k21_16 : mm_lk mm_m21.1 16 = some (16, .invokevirtual 61, 19, [0, 24, 3, 4, 688, 690, 21, 136]) := rfl
theorem k21_19 : mm_lk mm_m21.1 19 = some (19, .aload_n 0, 20, []) := rfl
theorem k21_20 : mm_lk mm_m21.1 20 = some (20, .dup, 21, []) := rfl
theorem k21_21 : mm_lk mm_m21.1 21 = some (21, .getfield 22, 24, [0, 4, 3, 274]) := rfl
theorem k21_24 : mm_lk mm_m21.1 24 = some (24, .iconst 1, 25, []) := rfl
theorem k21_25 : mm_lk mm_m21.1 25 = some (25, .isub, 26, []) := rfl
theorem k21_26 : mm_lk mm_m21.1 26 = some (26, .putfield 22, 29, [0, 4, 3, 274]) := rfl
theorem k21_29 : mm_lk mm_m21.1 29 = some (29, .aload_n 0, 30, []) := rfl
theorem k21_30 : mm_lk mm_m21.1 30 = some (30, .dup, 31, []) := rfl
theorem k21_31 : mm_lk mm_m21.1 31 = some (31, .getfield 26, 34, [0, 4, 4, 275]) := rfl
theorem k21_34 : mm_lk mm_m21.1 34 = some (34, .iconst 1, 35, []) := rfl
theorem k21_35 : mm_lk mm_m21.1 35 = some (35, .isub, 36, []) := rfl
theorem k21_36 : mm_lk mm_m21.1 36 = some (36, .putfield 26, 39, [0, 4, 4, 275]) := rfl
theorem k21_39 : mm_lk mm_m21.1 39 = some (39, .return_, 40, []) := rfl
theorem k22_0 : mm_lk mm_m22.1 0 = some (0, .aload_n 0, 1, []) := rfl
theorem k22_1 : mm_lk mm_m22.1 1 = some (1, .getfield 29, 4, [0, 4, 5, 276]) := rfl
theorem k22_4 : mm_lk mm_m22.1 4 = some (4, .bipush 60, 6, []) := rfl
theorem k22_6 : mm_lk mm_m22.1 6 = some (6, .if_icmp .lt 20, 9, [26]) := rfl
theorem k22_9 : mm_lk mm_m22.1 9 = some (9, .aload_n 0, 10, []) := rfl
theorem k22_10 : mm_lk mm_m22.1 10 = some (10, .getfield 18, 13, [0, 4, 0, 271]) := rfl
theorem k22_13 : mm_lk mm_m22.1 13 = some (13, .iconst 3, 14, []) := rfl
theorem k22_14 : mm_lk mm_m22.1 14 = some (14, .aload_n 0, 15, []) := rfl
theorem k22_15 : mm_lk mm_m22.1 15 = some (15, .getfield 18, 18, [0, 4, 0, 271]) := rfl
theorem k22_18 : mm_lk mm_m22.1 18 = some (18, .getfield 100, 21, [1, 11, 8, 191, 0]) := rfl
theorem k22_21 : mm_lk mm_m22.1 21 = some (21, .invokevirtual 103, 24, [0, 75, 3, 11, 649, 584, 585, 133]) := rfl
theorem k22_24 : mm_lk mm_m22.1 24 = some (24, .iconst 0, 25, []) := rfl
theorem k22_25 : mm_lk mm_m22.1 25 = some (25, .ireturn, 26, []) := rfl
theorem k22_26 : mm_lk mm_m22.1 26 = some (26, .aload_n 0, 27, []) := rfl
theorem k22_27 : mm_lk mm_m22.1 27 = some (27, .dup, 28, []) := rfl
theorem k22_28 : mm_lk mm_m22.1 28 = some (28, .getfield 29, 31, [0, 4, 5, 276]) := rfl
theorem k22_31 : mm_lk mm_m22.1 31 = some (31, .iconst 1, 32, []) := rfl
theorem k22_32 : mm_lk mm_m22.1 32 = some (32, .iadd, 33, []) := rfl
theorem k22_33 : mm_lk mm_m22.1 33 = some (33, .putfield 29, 36, [0, 4, 5, 276]) := rfl
theorem k22_36 : mm_lk mm_m22.1 36 = some (36, .aload_n 0, 37, []) := rfl
theorem k22_37 : mm_lk mm_m22.1 37 = some (37, .getfield 18, 40, [0, 4, 0, 271]) := rfl
theorem k22_40 : mm_lk mm_m22.1 40 = some (40, .invokevirtual 106, 43, [0, 74, 1, 11, 655, 564, 565, 133]) := rfl
theorem k22_43 : mm_lk mm_m22.1 43 = some (43, .iconst 1, 44, []) := rfl
theorem k22_44 : mm_lk mm_m22.1 44 = some (44, .ireturn, 45, []) := rfl
theorem k23_0 : mm_lk mm_m23.1 0 = some (0, .aload_n 0, 1, []) := rfl
theorem k23_1 : mm_lk mm_m23.1 1 = some (1, .getfield 9, 4, [0, 4, 1, 272]) := rfl
theorem k23_4 : mm_lk mm_m23.1 4 = some (4, .aload_n 0, 5, []) := rfl
theorem k23_5 : mm_lk mm_m23.1 5 = some (5, .getfield 22, 8, [0, 4, 3, 274]) := rfl
theorem k23_8 : mm_lk mm_m23.1 8 = some (8, .iload_n 1, 9, []) := rfl
theorem k23_9 : mm_lk mm_m23.1 9 = some (9, .invokestatic 112, 12, [6, 157, 3, 654, 449, 132, 0]) := rfl
theorem k23_12 : mm_lk mm_m23.1 12 = some (12, .aload_n 0, 13, []) := rfl
theorem k23_13 : mm_lk mm_m23.1 13 = some (13, .getfield 15, 16, [0, 4, 2, 273]) := rfl
theorem k23_16 : mm_lk mm_m23.1 16 = some (16, .aload_n 0, 17, []) := rfl
theorem k23_17 : mm_lk mm_m23.1 17 = some (17, .getfield 22, 20, [0, 4, 3, 274]) := rfl
theorem k23_20 : mm_lk mm_m23.1 20 = some (20, .iload_n 2, 21, []) := rfl
theorem k23_21 : mm_lk mm_m23.1 21 = some (21, .invokestatic 112, 24, [6, 157, 3, 654, 449, 132, 0]) := rfl
theorem k23_24 : mm_lk mm_m23.1 24 = some (24, .aload_n 0, 25, []) := rfl
theorem k23_25 : mm_lk mm_m23.1 25 = some (25, .dup, 26, []) := rfl
theorem k23_26 : mm_lk mm_m23.1 26 = some (26, .getfield 22, 29, [0, 4, 3, 274]) := rfl
theorem k23_29 : mm_lk mm_m23.1 29 = some (29, .iconst 1, 30, []) := rfl
theorem k23_30 : mm_lk mm_m23.1 30 = some (30, .iadd, 31, []) := rfl
theorem k23_31 : mm_lk mm_m23.1 31 = some (31, .putfield 22, 34, [0, 4, 3, 274]) := rfl
theorem k23_34 : mm_lk mm_m23.1 34 = some (34, .return_, 35, []) := rfl
theorem k24_0 : mm_lk mm_m24.1 0 = some (0, .aload_n 0, 1, []) := rfl
theorem k24_1 : mm_lk mm_m24.1 1 = some (1, .getfield 22, 4, [0, 4, 3, 274]) := rfl
theorem k24_4 : mm_lk mm_m24.1 4 = some (4, .ifCond .le 59, 7, [63]) := rfl
theorem k24_7 : mm_lk mm_m24.1 7 = some (7, .aload_n 0, 8, []) := rfl
theorem k24_8 : mm_lk mm_m24.1 8 = some (8, .getfield 9, 11, [0, 4, 1, 272]) := rfl
theorem k24_11 : mm_lk mm_m24.1 11 = some (11, .aload_n 0, 12, []) := rfl
theorem k24_12 : mm_lk mm_m24.1 12 = some (12, .getfield 22, 15, [0, 4, 3, 274]) := rfl
theorem k24_15 : mm_lk mm_m24.1 15 = some (15, .iconst 1, 16, []) := rfl
theorem k24_16 : mm_lk mm_m24.1 16 = some (16, .isub, 17, []) := rfl
theorem k24_17 : mm_lk mm_m24.1 17 = some (17, .invokestatic 116, 20, [6, 156, 2, 692, 568, 132, 0]) := rfl
theorem k24_20 : mm_lk mm_m24.1 20 = some (20, .iload_n 1, 21, []) := rfl
theorem k24_21 : mm_lk mm_m24.1 21 = some (21, .if_icmp .gt 42, 24, [63]) := rfl
theorem k24_24 : mm_lk mm_m24.1 24 = some (24, .aload_n 0, 25, []) := rfl
theorem k24_25 : mm_lk mm_m24.1 25 = some (25, .dup, 26, []) := rfl
theorem k24_26 : mm_lk mm_m24.1 26 = some (26, .getfield 22, 29, [0, 4, 3, 274]) := rfl
theorem k24_29 : mm_lk mm_m24.1 29 = some (29, .iconst 1, 30, []) := rfl
theorem k24_30 : mm_lk mm_m24.1 30 = some (30, .isub, 31, []) := rfl
theorem k24_31 : mm_lk mm_m24.1 31 = some (31, .putfield 22, 34, [0, 4, 3, 274]) := rfl
theorem k24_34 : mm_lk mm_m24.1 34 = some (34, .aload_n 2, 35, []) := rfl
theorem k24_35 : mm_lk mm_m24.1 35 = some (35, .aload_n 0, 36, []) := rfl
theorem k24_36 : mm_lk mm_m24.1 36 = some (36, .getfield 9, 39, [0, 4, 1, 272]) := rfl
theorem k24_39 : mm_lk mm_m24.1 39 = some (39, .aload_n 0, 40, []) := rfl
theorem k24_40 : mm_lk mm_m24.1 40 = some (40, .getfield 22, 43, [0, 4, 3, 274]) := rfl
theorem k24_43 : mm_lk mm_m24.1 43 = some (43, .invokestatic 116, 46, [6, 156, 2, 692, 568, 132, 0]) := rfl
theorem k24_46 : mm_lk mm_m24.1 46 = some (46, .aload_n 0, 47, []) := rfl
theorem k24_47 : mm_lk mm_m24.1 47 = some (47, .getfield 15, 50, [0, 4, 2, 273]) := rfl
theorem k24_50 : mm_lk mm_m24.1 50 = some (50, .aload_n 0, 51, []) := rfl
theorem k24_51 : mm_lk mm_m24.1 51 = some (51, .getfield 22, 54, [0, 4, 3, 274]) := rfl
theorem k24_54 : mm_lk mm_m24.1 54 = some (54, .invokestatic 116, 57, [6, 156, 2, 692, 568, 132, 0]) := rfl
theorem k24_57 : mm_lk mm_m24.1 57 = some (57, .invokevirtual 97, 60, [0, 9, 3, 3, 675, 676, 677, 135]) := rfl
theorem k24_60 : mm_lk mm_m24.1 60 = some (60, .goto (-60), 63, [0]) := rfl
theorem k24_63 : mm_lk mm_m24.1 63 = some (63, .return_, 64, []) := rfl
theorem k50_0 : mm_lk mm_m50.1 0 = some (0, .aload_n 0, 1, []) := rfl
theorem k50_1 : mm_lk mm_m50.1 1 = some (1, .getfield 15, 4, [0, 7, 0, 470]) := rfl
theorem k50_4 : mm_lk mm_m50.1 4 = some (4, .aload_n 0, 5, []) := rfl
theorem k50_5 : mm_lk mm_m50.1 5 = some (5, .getfield 21, 8, [0, 7, 1, 471]) := rfl
theorem k50_8 : mm_lk mm_m50.1 8 = some (8, .iload_n 1, 9, []) := rfl
theorem k50_9 : mm_lk mm_m50.1 9 = some (9, .invokestatic 25, 12, [6, 157, 3, 607, 449, 132, 0]) := rfl
theorem k50_12 : mm_lk mm_m50.1 12 = some (12, .aload_n 0, 13, []) := rfl
theorem k50_13 : mm_lk mm_m50.1 13 = some (13, .dup, 14, []) := rfl
theorem k50_14 : mm_lk mm_m50.1 14 = some (14, .getfield 21, 17, [0, 7, 1, 471]) := rfl
theorem k50_17 : mm_lk mm_m50.1 17 = some (17, .iconst 1, 18, []) := rfl
theorem k50_18 : mm_lk mm_m50.1 18 = some (18, .iadd, 19, []) := rfl
theorem k50_19 : mm_lk mm_m50.1 19 = some (19, .putfield 21, 22, [0, 7, 1, 471]) := rfl
theorem k50_22 : mm_lk mm_m50.1 22 = some (22, .return_, 23, []) := rfl
theorem k56_0 : mm_lk mm_m56.1 0 = some (0, .iload_n 1, 1, []) := rfl
theorem k56_1 : mm_lk mm_m56.1 1 = some (1, .ifCond .lt 29, 4, [30]) := rfl
theorem k56_4 : mm_lk mm_m56.1 4 = some (4, .iload_n 1, 5, []) := rfl
theorem k56_5 : mm_lk mm_m56.1 5 = some (5, .aload_n 0, 6, []) := rfl
theorem k56_6 : mm_lk mm_m56.1 6 = some (6, .getfield 26, 9, [0, 9, 3, 349]) := rfl
theorem k56_9 : mm_lk mm_m56.1 9 = some (9, .if_icmp .ge 21, 12, [30]) := rfl
theorem k56_12 : mm_lk mm_m56.1 12 = some (12, .iload_n 1, 13, []) := rfl
theorem k56_13 : mm_lk mm_m56.1 13 = some (13, .aload_n 0, 14, []) := rfl
theorem k56_14 : mm_lk mm_m56.1 14 = some (14, .getfield 11, 17, [0, 9, 2, 348]) := rfl
theorem k56_17 : mm_lk mm_m56.1 17 = some (17, .arraylength, 18, []) := rfl
theorem k56_18 : mm_lk mm_m56.1 18 = some (18, .if_icmp .ge 12, 21, [30]) := rfl
theorem k56_21 : mm_lk mm_m56.1 21 = some (21, .aload_n 0, 22, []) := rfl
theorem k56_22 : mm_lk mm_m56.1 22 = some (22, .getfield 11, 25, [0, 9, 2, 348]) := rfl
theorem k56_25 : mm_lk mm_m56.1 25 = some (25, .iload_n 1, 26, []) := rfl
theorem k56_26 : mm_lk mm_m56.1 26 = some (26, .aaload, 27, []) := rfl
theorem k56_27 : mm_lk mm_m56.1 27 = some (27, .goto 4, 30, [31]) := rfl
theorem k56_30 : mm_lk mm_m56.1 30 = some (30, .aconst_null, 31, []) := rfl
theorem k56_31 : mm_lk mm_m56.1 31 = some (31, .areturn, 32, []) := rfl
theorem k57_0 : mm_lk mm_m57.1 0 = some (0, .aload_n 0, 1, []) := rfl
theorem k57_1 : mm_lk mm_m57.1 1 = some (1, .iconst 0, 2, []) := rfl
theorem k57_2 : mm_lk mm_m57.1 2 = some (2, .putfield 26, 5, [0, 9, 3, 349]) := rfl
theorem k57_5 : mm_lk mm_m57.1 5 = some (5, .aload_n 0, 6, []) := rfl
theorem k57_6 : mm_lk mm_m57.1 6 = some (6, .getfield 17, 9, [0, 9, 0, 346]) := rfl
theorem k57_9 : mm_lk mm_m57.1 9 = some (9, .invokevirtual 30, 12, [0, 65, 1, 11, 1507, 521, 522, 133]) := rfl
theorem k57_12 : mm_lk mm_m57.1 12 = some (12, .iconst 0, 13, []) := rfl
theorem k57_13 : mm_lk mm_m57.1 13 = some (13, .istore_n 2, 14, []) := rfl
theorem k57_14 : mm_lk mm_m57.1 14 = some (14, .iload_n 2, 15, []) := rfl
theorem k57_15 : mm_lk mm_m57.1 15 = some (15, .bipush 20, 17, []) := rfl
theorem k57_17 : mm_lk mm_m57.1 17 = some (17, .if_icmp .gt 57, 20, [74]) := rfl
theorem k57_20 : mm_lk mm_m57.1 20 = some (20, .aload_n 0, 21, []) := rfl
theorem k57_21 : mm_lk mm_m57.1 21 = some (21, .getfield 17, 24, [0, 9, 0, 346]) := rfl
theorem k57_24 : mm_lk mm_m57.1 24 = some (24, .getfield 35, 27, [1, 11, 7, 188, 0]) := rfl
theorem k57_27 : mm_lk mm_m57.1 27 = some (27, .sipush 267, 30, []) := rfl
theorem k57_30 : mm_lk mm_m57.1 30 = some (30, .if_icmp .eq 44, 33, [74]) := rfl
theorem k57_33 : mm_lk mm_m57.1 33 = some (33, .aload_n 0, 34, []) := rfl
theorem k57_34 : mm_lk mm_m57.1 34 = some (34, .getfield 17, 37, [0, 9, 0, 346]) := rfl
theorem k57_37 : mm_lk mm_m57.1 37 = some (37, .invokevirtual 38, 40, [0, 76, 1, 11, 1508, 610, 611, 133]) := rfl
theorem k57_40 : mm_lk mm_m57.1 40 = some (40, .ifCond .ne 34, 43, [74]) := rfl
theorem k57_43 : mm_lk mm_m57.1 43 = some (43, .aload_n 0, 44, []) := rfl
theorem k57_44 : mm_lk mm_m57.1 44 = some (44, .invokevirtual 42, 47, [0, 58, 1, 9, 1509, 1511, 35, 138]) := rfl
theorem k57_47 : mm_lk mm_m57.1 47 = some (47, .astore_n 3, 48, []) := rfl
theorem k57_48 : mm_lk mm_m57.1 48 = some (48, .aload_n 3, 49, []) := rfl
theorem k57_49 : mm_lk mm_m57.1 49 = some (49, .ifnull 19, 52, [68]) := rfl
theorem k57_52 : mm_lk mm_m57.1 52 = some (52, .aload_n 0, 53, []) := rfl
theorem k57_53 : mm_lk mm_m57.1 53 = some (53, .aload_n 1, 54, []) := rfl
theorem k57_54 : mm_lk mm_m57.1 54 = some (54, .aload_n 3, 55, []) := rfl
theorem k57_55 : mm_lk mm_m57.1 55 = some (55, .invokevirtual 46, 58, [0, 59, 3, 9, 1528, 1530, 36, 138]) := rfl
theorem k57_58 : mm_lk mm_m57.1 58 = some (58, .aload_n 0, 59, []) := rfl
theorem k57_59 : mm_lk mm_m57.1 59 = some (59, .getfield 17, 62, [0, 9, 0, 346]) := rfl
theorem k57_62 : mm_lk mm_m57.1 62 = some (62, .bipush 59, 64, []) := rfl
theorem k57_64 : mm_lk mm_m57.1 64 = some (64, .invokevirtual 50, 67, [0, 80, 2, 11, 1538, 621, 622, 133]) := rfl
theorem k57_67 : mm_lk mm_m57.1 67 = some (67, .pop, 68, []) := rfl
theorem k57_68 : mm_lk mm_m57.1 68 = some (68, .iinc 2 1, 71, []) := rfl
theorem k57_71 : mm_lk mm_m57.1 71 = some (71, .goto (-57), 74, [14]) := rfl
theorem k57_74 : mm_lk mm_m57.1 74 = some (74, .return_, 75, []) := rfl
theorem k58_0 : mm_lk mm_m58.1 0 = some (0, .iconst 0, 1, []) := rfl
theorem k58_1 : mm_lk mm_m58.1 1 = some (1, .istore_n 1, 2, []) := rfl
theorem k58_2 : mm_lk mm_m58.1 2 = some (2, .iload_n 1, 3, []) := rfl
theorem k58_3 : mm_lk mm_m58.1 3 = some (3, .iconst 4, 4, []) := rfl
theorem k58_4 : mm_lk mm_m58.1 4 = some (4, .if_icmp .gt 23, 7, [27]) := rfl
theorem k58_7 : mm_lk mm_m58.1 7 = some (7, .aload_n 0, 8, []) := rfl
theorem k58_8 : mm_lk mm_m58.1 8 = some (8, .getfield 17, 11, [0, 9, 0, 346]) := rfl
theorem k58_11 : mm_lk mm_m58.1 11 = some (11, .iload_n 1, 12, []) := rfl
theorem k58_12 : mm_lk mm_m58.1 12 = some (12, .invokestatic 54, 15, [6, 168, 1, 1513, 1514, 132, 0]) := rfl
theorem k58_15 : mm_lk mm_m58.1 15 = some (15, .invokevirtual 58, 18, [0, 77, 2, 11, 1521, 580, 581, 133]) := rfl
theorem k58_18 : mm_lk mm_m58.1 18 = some (18, .ifCond .ne 9, 21, [27]) := rfl
theorem k58_21 : mm_lk mm_m58.1 21 = some (21, .iinc 1 1, 24, []) := rfl
theorem k58_24 : mm_lk mm_m58.1 24 = some (24, .goto (-22), 27, [2]) := rfl
theorem k58_27 : mm_lk mm_m58.1 27 = some (27, .iload_n 1, 28, []) := rfl
theorem k58_28 : mm_lk mm_m58.1 28 = some (28, .iconst 4, 29, []) := rfl
theorem k58_29 : mm_lk mm_m58.1 29 = some (29, .if_icmp .le 20, 32, [49]) := rfl
theorem k58_32 : mm_lk mm_m58.1 32 = some (32, .aload_n 0, 33, []) := rfl
theorem k58_33 : mm_lk mm_m58.1 33 = some (33, .getfield 17, 36, [0, 9, 0, 346]) := rfl
theorem k58_36 : mm_lk mm_m58.1 36 = some (36, .iconst 1, 37, []) := rfl
theorem k58_37 : mm_lk mm_m58.1 37 = some (37, .aload_n 0, 38, []) := rfl
theorem k58_38 : mm_lk mm_m58.1 38 = some (38, .getfield 17, 41, [0, 9, 0, 346]) := rfl
theorem k58_41 : mm_lk mm_m58.1 41 = some (41, .getfield 62, 44, [1, 11, 8, 192, 0]) := rfl
theorem k58_44 : mm_lk mm_m58.1 44 = some (44, .invokevirtual 65, 47, [0, 75, 3, 11, 1522, 584, 585, 133]) := rfl
theorem k58_47 : mm_lk mm_m58.1 47 = some (47, .aconst_null, 48, []) := rfl
theorem k58_48 : mm_lk mm_m58.1 48 = some (48, .areturn, 49, []) := rfl
theorem k58_49 : mm_lk mm_m58.1 49 = some (49, .aload_n 0, 50, []) := rfl
theorem k58_50 : mm_lk mm_m58.1 50 = some (50, .getfield 26, 53, [0, 9, 3, 349]) := rfl
theorem k58_53 : mm_lk mm_m58.1 53 = some (53, .bipush 20, 55, []) := rfl
theorem k58_55 : mm_lk mm_m58.1 55 = some (55, .if_icmp .lt 20, 58, [75]) := rfl
theorem k58_58 : mm_lk mm_m58.1 58 = some (58, .aload_n 0, 59, []) := rfl
theorem k58_59 : mm_lk mm_m58.1 59 = some (59, .getfield 17, 62, [0, 9, 0, 346]) := rfl
theorem k58_62 : mm_lk mm_m58.1 62 = some (62, .iconst 3, 63, []) := rfl
theorem k58_63 : mm_lk mm_m58.1 63 = some (63, .aload_n 0, 64, []) := rfl
theorem k58_64 : mm_lk mm_m58.1 64 = some (64, .getfield 17, 67, [0, 9, 0, 346]) := rfl
theorem k58_67 : mm_lk mm_m58.1 67 = some (67, .getfield 62, 70, [1, 11, 8, 192, 0]) := rfl
theorem k58_70 : mm_lk mm_m58.1 70 = some (70, .invokevirtual 65, 73, [0, 75, 3, 11, 1522, 584, 585, 133]) := rfl
theorem k58_73 : mm_lk mm_m58.1 73 = some (73, .aconst_null, 74, []) := rfl
theorem k58_74 : mm_lk mm_m58.1 74 = some (74, .areturn, 75, []) := rfl
theorem k58_75 : mm_lk mm_m58.1 75 = some (75, .aload_n 0, 76, []) := rfl
theorem k58_76 : mm_lk mm_m58.1 76 = some (76, .getfield 17, 79, [0, 9, 0, 346]) := rfl
theorem k58_79 : mm_lk mm_m58.1 79 = some (79, .invokevirtual 69, 82, [0, 74, 1, 11, 1523, 564, 565, 133]) := rfl
theorem k58_82 : mm_lk mm_m58.1 82 = some (82, .aload_n 0, 83, []) := rfl
theorem k58_83 : mm_lk mm_m58.1 83 = some (83, .dup, 84, []) := rfl
theorem k58_84 : mm_lk mm_m58.1 84 = some (84, .getfield 26, 87, [0, 9, 3, 349]) := rfl
theorem k58_87 : mm_lk mm_m58.1 87 = some (87, .iconst 1, 88, []) := rfl
theorem k58_88 : mm_lk mm_m58.1 88 = some (88, .iadd, 89, []) := rfl
theorem k58_89 : mm_lk mm_m58.1 89 = some (89, .putfield 26, 92, [0, 9, 3, 349]) := rfl
theorem k58_92 : mm_lk mm_m58.1 92 = some (92, .aload_n 0, 93, []) := rfl
theorem k58_93 : mm_lk mm_m58.1 93 = some (93, .aload_n 0, 94, []) := rfl
theorem k58_94 : mm_lk mm_m58.1 94 = some (94, .getfield 26, 97, [0, 9, 3, 349]) := rfl
theorem k58_97 : mm_lk mm_m58.1 97 = some (97, .iconst 1, 98, []) := rfl
theorem k58_98 : mm_lk mm_m58.1 98 = some (98, .isub, 99, []) := rfl
theorem k58_99 : mm_lk mm_m58.1 99 = some (99, .invokevirtual 72, 102, [0, 56, 2, 9, 1524, 1525, 1526, 138]) := rfl
theorem k58_102 : mm_lk mm_m58.1 102 = some (102, .astore_n 2, 103, []) := rfl
theorem k58_103 : mm_lk mm_m58.1 103 = some (103, .aload_n 2, 104, []) := rfl
theorem k58_104 : mm_lk mm_m58.1 104 = some (104, .ifnull 8, 107, [112]) := rfl
theorem k58_107 : mm_lk mm_m58.1 107 = some (107, .aload_n 2, 108, []) := rfl
theorem k58_108 : mm_lk mm_m58.1 108 = some (108, .iload_n 1, 109, []) := rfl
theorem k58_109 : mm_lk mm_m58.1 109 = some (109, .putfield 76, 112, [1, 8, 1, 327, 0]) := rfl
theorem k58_112 : mm_lk mm_m58.1 112 = some (112, .aload_n 2, 113, []) := rfl
theorem k58_113 : mm_lk mm_m58.1 113 = some (113, .areturn, 114, []) := rfl
theorem k59_0 : mm_lk mm_m59.1 0 = some (0, .aload_n 2, 1, []) := rfl
theorem k59_1 : mm_lk mm_m59.1 1 = some (1, .iconst (-1), 2, []) := rfl
theorem k59_2 : mm_lk mm_m59.1 2 = some (2, .putfield 79, 5, [1, 8, 2, 329, 0]) := rfl
theorem k59_5 : mm_lk mm_m59.1 5 = some (5, .aload_n 2, 6, []) := rfl
theorem k59_6 : mm_lk mm_m59.1 6 = some (6, .getfield 76, 9, [1, 8, 1, 327, 0]) := rfl
theorem k59_9 : mm_lk mm_m59.1 9 = some (9, .iconst 2, 10, []) := rfl
theorem k59_10 : mm_lk mm_m59.1 10 = some (10, .if_icmp .ne 12, 13, [22]) := rfl
theorem k59_13 : mm_lk mm_m59.1 13 = some (13, .aload_n 0, 14, []) := rfl
theorem k59_14 : mm_lk mm_m59.1 14 = some (14, .aload_n 1, 15, []) := rfl
theorem k59_15 : mm_lk mm_m59.1 15 = some (15, .aload_n 2, 16, []) := rfl
theorem k59_16 : mm_lk mm_m59.1 16 = some (16, .invokevirtual 82, 19, [0, 60, 3, 9, 1532, 1534, 37, 138]) := rfl
theorem k59_19 : mm_lk mm_m59.1 19 = some (19, .goto 45, 22, [64]) := rfl
theorem k59_22 : mm_lk mm_m59.1 22 = some (22, .aload_n 2, 23, []) := rfl
theorem k59_23 : mm_lk mm_m59.1 23 = some (23, .getfield 76, 26, [1, 8, 1, 327, 0]) := rfl
theorem k59_26 : mm_lk mm_m59.1 26 = some (26, .iconst 1, 27, []) := rfl
theorem k59_27 : mm_lk mm_m59.1 27 = some (27, .if_icmp .eq 11, 30, [38]) := rfl
theorem k59_30 : mm_lk mm_m59.1 30 = some (30, .aload_n 2, 31, []) := rfl
theorem k59_31 : mm_lk mm_m59.1 31 = some (31, .getfield 76, 34, [1, 8, 1, 327, 0]) := rfl
theorem k59_34 : mm_lk mm_m59.1 34 = some (34, .iconst 3, 35, []) := rfl
theorem k59_35 : mm_lk mm_m59.1 35 = some (35, .if_icmp .ne 29, 38, [64]) := rfl
theorem k59_38 : mm_lk mm_m59.1 38 = some (38, .aload_n 2, 39, []) := rfl
theorem k59_39 : mm_lk mm_m59.1 39 = some (39, .aload_n 0, 40, []) := rfl
theorem k59_40 : mm_lk mm_m59.1 40 = some (40, .getfield 17, 43, [0, 9, 0, 346]) := rfl
theorem k59_43 : mm_lk mm_m59.1 43 = some (43, .aload_n 1, 44, []) := rfl
theorem k59_44 : mm_lk mm_m59.1 44 = some (44, .getfield 85, 47, [1, 10, 1, 491, 0]) := rfl
theorem k59_47 : mm_lk mm_m59.1 47 = some (47, .invokevirtual 91, 50, [0, 84, 2, 11, 1539, 667, 668, 133]) := rfl
theorem k59_50 : mm_lk mm_m59.1 50 = some (50, .putfield 79, 53, [1, 8, 2, 329, 0]) := rfl
theorem k59_53 : mm_lk mm_m59.1 53 = some (53, .aload_n 2, 54, []) := rfl
theorem k59_54 : mm_lk mm_m59.1 54 = some (54, .aload_n 2, 55, []) := rfl
theorem k59_55 : mm_lk mm_m59.1 55 = some (55, .getfield 79, 58, [1, 8, 2, 329, 0]) := rfl
theorem k59_58 : mm_lk mm_m59.1 58 = some (58, .invokestatic 95, 61, [6, 160, 1, 1540, 722, 132, 0]) := rfl
theorem k59_61 : mm_lk mm_m59.1 61 = some (61, .putfield 99, 64, [1, 8, 3, 331, 0]) := rfl
theorem k59_64 : mm_lk mm_m59.1 64 = some (64, .aload_n 0, 65, []) := rfl
theorem k59_65 : mm_lk mm_m59.1 65 = some (65, .getfield 17, 68, [0, 9, 0, 346]) := rfl
theorem k59_68 : mm_lk mm_m59.1 68 = some (68, .invokevirtual 38, 71, [0, 76, 1, 11, 1508, 610, 611, 133]) := rfl
theorem k59_71 : mm_lk mm_m59.1 71 = some (71, .ifCond .eq 4, 74, [75]) := rfl
theorem k59_74 : mm_lk mm_m59.1 74 = some (74, .return_, 75, []) := rfl
theorem k59_75 : mm_lk mm_m59.1 75 = some (75, .aload_n 2, 76, []) := rfl
theorem k59_76 : mm_lk mm_m59.1 76 = some (76, .getfield 76, 79, [1, 8, 1, 327, 0]) := rfl
theorem k59_79 : mm_lk mm_m59.1 79 = some (79, .iconst 3, 80, []) := rfl
theorem k59_80 : mm_lk mm_m59.1 80 = some (80, .if_icmp .eq 11, 83, [91]) := rfl
theorem k59_83 : mm_lk mm_m59.1 83 = some (83, .aload_n 2, 84, []) := rfl
theorem k59_84 : mm_lk mm_m59.1 84 = some (84, .getfield 76, 87, [1, 8, 1, 327, 0]) := rfl
theorem k59_87 : mm_lk mm_m59.1 87 = some (87, .iconst 4, 88, []) := rfl
theorem k59_88 : mm_lk mm_m59.1 88 = some (88, .if_icmp .ne 21, 91, [109]) := rfl
theorem k59_91 : mm_lk mm_m59.1 91 = some (91, .aload_n 2, 92, []) := rfl
theorem k59_92 : mm_lk mm_m59.1 92 = some (92, .aload_n 0, 93, []) := rfl
theorem k59_93 : mm_lk mm_m59.1 93 = some (93, .getfield 17, 96, [0, 9, 0, 346]) := rfl
theorem k59_96 : mm_lk mm_m59.1 96 = some (96, .aload_n 1, 97, []) := rfl
theorem k59_97 : mm_lk mm_m59.1 97 = some (97, .getfield 101, 100, [1, 10, 0, 484, 0]) := rfl
theorem k59_100 : mm_lk mm_m59.1 100 = some (100, .invokevirtual 91, 103, [0, 84, 2, 11, 1539, 667, 668, 133]) := rfl
theorem k59_103 : mm_lk mm_m59.1 103 = some (103, .putfield 104, 106, [1, 8, 4, 333, 0]) := rfl
theorem k59_106 : mm_lk mm_m59.1 106 = some (106, .goto 16, 109, [122]) := rfl
theorem k59_109 : mm_lk mm_m59.1 109 = some (109, .aload_n 0, 110, []) := rfl
theorem k59_110 : mm_lk mm_m59.1 110 = some (110, .getfield 21, 113, [0, 9, 1, 347]) := rfl
theorem k59_113 : mm_lk mm_m59.1 113 = some (113, .aload_n 1, 114, []) := rfl
theorem k59_114 : mm_lk mm_m59.1 114 = some (114, .iconst 0, 115, []) := rfl
theorem k59_115 : mm_lk mm_m59.1 115 = some (115, .aload_n 2, 116, []) := rfl
theorem k59_116 : mm_lk mm_m59.1 116 = some (116, .getfield 107, 119, [1, 8, 0, 325, 0]) := rfl
theorem k59_119 : mm_lk mm_m59.1 119 = some (119, .invokevirtual 111, 122, [0, 17, 4, 4, 1541, 633, 634, 136]) := rfl
theorem k59_122 : mm_lk mm_m59.1 122 = some (122, .return_, 123, []) := rfl
theorem k60_0 : mm_lk mm_m60.1 0 = some (0, .aload_n 0, 1, []) := rfl
theorem k60_1 : mm_lk mm_m60.1 1 = some (1, .getfield 17, 4, [0, 9, 0, 346]) := rfl
theorem k60_4 : mm_lk mm_m60.1 4 = some (4, .invokevirtual 117, 7, [0, 78, 1, 11, 1536, 592, 593, 133]) := rfl
theorem k60_7 : mm_lk mm_m60.1 7 = some (7, .ifCond .ne 19, 10, [26]) := rfl
theorem k60_10 : mm_lk mm_m60.1 10 = some (10, .aload_n 0, 11, []) := rfl
theorem k60_11 : mm_lk mm_m60.1 11 = some (11, .getfield 17, 14, [0, 9, 0, 346]) := rfl
theorem k60_14 : mm_lk mm_m60.1 14 = some (14, .iconst 1, 15, []) := rfl
theorem k60_15 : mm_lk mm_m60.1 15 = some (15, .aload_n 0, 16, []) := rfl
theorem k60_16 : mm_lk mm_m60.1 16 = some (16, .getfield 17, 19, [0, 9, 0, 346]) := rfl
theorem k60_19 : mm_lk mm_m60.1 19 = some (19, .getfield 62, 22, [1, 11, 8, 192, 0]) := rfl
theorem k60_22 : mm_lk mm_m60.1 22 = some (22, .invokevirtual 65, 25, [0, 75, 3, 11, 1522, 584, 585, 133]) := rfl
theorem k60_25 : mm_lk mm_m60.1 25 = some (25, .return_, 26, []) := rfl
theorem k60_26 : mm_lk mm_m60.1 26 = some (26, .aload_n 2, 27, []) := rfl
theorem k60_27 : mm_lk mm_m60.1 27 = some (27, .aload_n 0, 28, []) := rfl
theorem k60_28 : mm_lk mm_m60.1 28 = some (28, .getfield 17, 31, [0, 9, 0, 346]) := rfl
theorem k60_31 : mm_lk mm_m60.1 31 = some (31, .aload_n 1, 32, []) := rfl
theorem k60_32 : mm_lk mm_m60.1 32 = some (32, .getfield 85, 35, [1, 10, 1, 491, 0]) := rfl
theorem k60_35 : mm_lk mm_m60.1 35 = some (35, .invokevirtual 120, 38, [0, 85, 2, 11, 1537, 743, 744, 133]) := rfl
theorem k60_38 : mm_lk mm_m60.1 38 = some (38, .putfield 99, 41, [1, 8, 3, 331, 0]) := rfl
theorem k60_41 : mm_lk mm_m60.1 41 = some (41, .aload_n 0, 42, []) := rfl
theorem k60_42 : mm_lk mm_m60.1 42 = some (42, .getfield 17, 45, [0, 9, 0, 346]) := rfl
theorem k60_45 : mm_lk mm_m60.1 45 = some (45, .sipush 265, 48, []) := rfl
theorem k60_48 : mm_lk mm_m60.1 48 = some (48, .invokevirtual 50, 51, [0, 80, 2, 11, 1538, 621, 622, 133]) := rfl
theorem k60_51 : mm_lk mm_m60.1 51 = some (51, .pop, 52, []) := rfl
theorem k60_52 : mm_lk mm_m60.1 52 = some (52, .return_, 53, []) := rfl
theorem k82_0 : mm_lk mm_m82.1 0 = some (0, .aload_n 0, 1, []) := rfl
theorem k82_1 : mm_lk mm_m82.1 1 = some (1, .invokevirtual 114, 4, [0, 78, 1, 11, 591, 592, 593, 133]) := rfl
theorem k82_4 : mm_lk mm_m82.1 4 = some (4, .ifCond .ne 15, 7, [19]) := rfl
theorem k82_7 : mm_lk mm_m82.1 7 = some (7, .aload_n 0, 8, []) := rfl
theorem k82_8 : mm_lk mm_m82.1 8 = some (8, .iconst 1, 9, []) := rfl
theorem k82_9 : mm_lk mm_m82.1 9 = some (9, .aload_n 0, 10, []) := rfl
theorem k82_10 : mm_lk mm_m82.1 10 = some (10, .getfield 100, 13, [0, 11, 8, 193]) := rfl
theorem k82_13 : mm_lk mm_m82.1 13 = some (13, .invokevirtual 110, 16, [0, 75, 3, 11, 583, 584, 585, 133]) := rfl
theorem k82_16 : mm_lk mm_m82.1 16 = some (16, .goto 58, 19, [74]) := rfl
theorem k82_19 : mm_lk mm_m82.1 19 = some (19, .aload_n 1, 20, []) := rfl
theorem k82_20 : mm_lk mm_m82.1 20 = some (20, .aload_n 0, 21, []) := rfl
theorem k82_21 : mm_lk mm_m82.1 21 = some (21, .getfield 103, 24, [0, 11, 9, 194]) := rfl
theorem k82_24 : mm_lk mm_m82.1 24 = some (24, .invokevirtual 118, 27, [0, 51, 2, 7, 595, 596, 597, 148]) := rfl
theorem k82_27 : mm_lk mm_m82.1 27 = some (27, .iconst (-1), 28, []) := rfl
theorem k82_28 : mm_lk mm_m82.1 28 = some (28, .if_icmp .eq 15, 31, [43]) := rfl
theorem k82_31 : mm_lk mm_m82.1 31 = some (31, .aload_n 0, 32, []) := rfl
theorem k82_32 : mm_lk mm_m82.1 32 = some (32, .iconst 2, 33, []) := rfl
theorem k82_33 : mm_lk mm_m82.1 33 = some (33, .aload_n 0, 34, []) := rfl
theorem k82_34 : mm_lk mm_m82.1 34 = some (34, .getfield 100, 37, [0, 11, 8, 193]) := rfl
theorem k82_37 : mm_lk mm_m82.1 37 = some (37, .invokevirtual 110, 40, [0, 75, 3, 11, 583, 584, 585, 133]) := rfl
theorem k82_40 : mm_lk mm_m82.1 40 = some (40, .goto 34, 43, [74]) := rfl
theorem k82_43 : mm_lk mm_m82.1 43 = some (43, .aload_n 1, 44, []) := rfl
theorem k82_44 : mm_lk mm_m82.1 44 = some (44, .invokevirtual 123, 47, [0, 49, 1, 7, 599, 600, 601, 148]) := rfl
theorem k82_47 : mm_lk mm_m82.1 47 = some (47, .ifCond .eq 15, 50, [62]) := rfl
theorem k82_50 : mm_lk mm_m82.1 50 = some (50, .aload_n 0, 51, []) := rfl
theorem k82_51 : mm_lk mm_m82.1 51 = some (51, .iconst 3, 52, []) := rfl
theorem k82_52 : mm_lk mm_m82.1 52 = some (52, .aload_n 0, 53, []) := rfl
theorem k82_53 : mm_lk mm_m82.1 53 = some (53, .getfield 100, 56, [0, 11, 8, 193]) := rfl
theorem k82_56 : mm_lk mm_m82.1 56 = some (56, .invokevirtual 110, 59, [0, 75, 3, 11, 583, 584, 585, 133]) := rfl
theorem k82_59 : mm_lk mm_m82.1 59 = some (59, .goto 15, 62, [74]) := rfl
theorem k82_62 : mm_lk mm_m82.1 62 = some (62, .aload_n 1, 63, []) := rfl
theorem k82_63 : mm_lk mm_m82.1 63 = some (63, .aload_n 0, 64, []) := rfl
theorem k82_64 : mm_lk mm_m82.1 64 = some (64, .getfield 103, 67, [0, 11, 9, 194]) := rfl
theorem k82_67 : mm_lk mm_m82.1 67 = some (67, .invokevirtual 126, 70, [0, 50, 2, 7, 603, 604, 605, 148]) := rfl
theorem k82_70 : mm_lk mm_m82.1 70 = some (70, .aload_n 0, 71, []) := rfl
theorem k82_71 : mm_lk mm_m82.1 71 = some (71, .invokevirtual 67, 74, [0, 74, 1, 11, 563, 564, 565, 133]) := rfl
theorem k82_74 : mm_lk mm_m82.1 74 = some (74, .return_, 75, []) := rfl
theorem k85_0 : mm_lk mm_m85.1 0 = some (0, .iconst 0, 1, []) := rfl
theorem k85_1 : mm_lk mm_m85.1 1 = some (1, .istore_n 2, 2, []) := rfl
theorem k85_2 : mm_lk mm_m85.1 2 = some (2, .iconst 0, 3, []) := rfl
theorem k85_3 : mm_lk mm_m85.1 3 = some (3, .istore_n 3, 4, []) := rfl
theorem k85_4 : mm_lk mm_m85.1 4 = some (4, .iload_n 3, 5, []) := rfl
theorem k85_5 : mm_lk mm_m85.1 5 = some (5, .aload_n 1, 6, []) := rfl
theorem k85_6 : mm_lk mm_m85.1 6 = some (6, .getfield 134, 9, [1, 7, 1, 475, 0]) := rfl
theorem k85_9 : mm_lk mm_m85.1 9 = some (9, .if_icmp .gt 62, 12, [71]) := rfl
theorem k85_12 : mm_lk mm_m85.1 12 = some (12, .aload_n 0, 13, []) := rfl
theorem k85_13 : mm_lk mm_m85.1 13 = some (13, .invokevirtual 114, 16, [0, 78, 1, 11, 591, 592, 593, 133]) := rfl
theorem k85_16 : mm_lk mm_m85.1 16 = some (16, .ifCond .eq 55, 19, [71]) := rfl
theorem k85_19 : mm_lk mm_m85.1 19 = some (19, .aload_n 0, 20, []) := rfl
theorem k85_20 : mm_lk mm_m85.1 20 = some (20, .aload_n 1, 21, []) := rfl
theorem k85_21 : mm_lk mm_m85.1 21 = some (21, .invokevirtual 130, 24, [0, 83, 2, 11, 670, 671, 672, 133]) := rfl
theorem k85_24 : mm_lk mm_m85.1 24 = some (24, .istore 4, 26, []) := rfl
theorem k85_26 : mm_lk mm_m85.1 26 = some (26, .iload_n 2, 27, []) := rfl
theorem k85_27 : mm_lk mm_m85.1 27 = some (27, .iload 4, 29, []) := rfl
theorem k85_29 : mm_lk mm_m85.1 29 = some (29, .invokestatic 137, 32, [6, 159, 2, 746, 715, 132, 0]) := rfl
theorem k85_32 : mm_lk mm_m85.1 32 = some (32, .ifCond .eq 12, 35, [44]) := rfl
theorem k85_35 : mm_lk mm_m85.1 35 = some (35, .aload_n 0, 36, []) := rfl
theorem k85_36 : mm_lk mm_m85.1 36 = some (36, .iconst 2, 37, []) := rfl
theorem k85_37 : mm_lk mm_m85.1 37 = some (37, .aload_n 0, 38, []) := rfl
theorem k85_38 : mm_lk mm_m85.1 38 = some (38, .getfield 100, 41, [0, 11, 8, 193]) := rfl
theorem k85_41 : mm_lk mm_m85.1 41 = some (41, .invokevirtual 110, 44, [0, 75, 3, 11, 583, 584, 585, 133]) := rfl
theorem k85_44 : mm_lk mm_m85.1 44 = some (44, .aload_n 0, 45, []) := rfl
theorem k85_45 : mm_lk mm_m85.1 45 = some (45, .invokevirtual 141, 48, [0, 76, 1, 11, 747, 610, 611, 133]) := rfl
theorem k85_48 : mm_lk mm_m85.1 48 = some (48, .ifCond .eq 5, 51, [53]) := rfl
theorem k85_51 : mm_lk mm_m85.1 51 = some (51, .iload_n 2, 52, []) := rfl
theorem k85_52 : mm_lk mm_m85.1 52 = some (52, .ireturn, 53, []) := rfl
theorem k85_53 : mm_lk mm_m85.1 53 = some (53, .iload_n 2, 54, []) := rfl
theorem k85_54 : mm_lk mm_m85.1 54 = some (54, .iload 4, 56, []) := rfl
theorem k85_56 : mm_lk mm_m85.1 56 = some (56, .invokestatic 144, 59, [6, 160, 1, 748, 722, 132, 0]) := rfl
theorem k85_59 : mm_lk mm_m85.1 59 = some (59, .ior, 60, []) := rfl
theorem k85_60 : mm_lk mm_m85.1 60 = some (60, .istore_n 2, 61, []) := rfl
theorem k85_61 : mm_lk mm_m85.1 61 = some (61, .aload_n 0, 62, []) := rfl
theorem k85_62 : mm_lk mm_m85.1 62 = some (62, .invokevirtual 67, 65, [0, 74, 1, 11, 563, 564, 565, 133]) := rfl
theorem k85_65 : mm_lk mm_m85.1 65 = some (65, .iinc 3 1, 68, []) := rfl
theorem k85_68 : mm_lk mm_m85.1 68 = some (68, .goto (-64), 71, [4]) := rfl
theorem k85_71 : mm_lk mm_m85.1 71 = some (71, .iload_n 2, 72, []) := rfl
theorem k85_72 : mm_lk mm_m85.1 72 = some (72, .ireturn, 73, []) := rfl
