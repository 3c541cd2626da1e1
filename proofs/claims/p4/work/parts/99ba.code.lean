/-! ===== code, row by row (by program) ===== -/
/-- WhoKnows$Formula.clear()V -/
def mm_m8 : mm_M := (mm_c8, 1, 0, [])
set_option maxRecDepth 20000 in
theorem P8 : mm_P 8 = some mm_m8 := rfl
/-- WhoKnows$Formula.add(II)V -/
def mm_m9 : mm_M := (mm_c9, 3, 0, [])
set_option maxRecDepth 20000 in
theorem P9 : mm_P 9 = some mm_m9 := rfl
/-- WhoKnows$Formula.copyFrom(LWhoKnows$Formula;)V -/
def mm_m10 : mm_M := (mm_c10, 2, 0, [])
set_option maxRecDepth 20000 in
theorem P10 : mm_P 10 = some mm_m10 := rfl
/-- WhoKnows$Formula.truthIn(LWhoKnows$Knowledge;)I -/
def mm_m11 : mm_M := (mm_c11, 7, 1, [])
set_option maxRecDepth 20000 in
theorem P11 : mm_P 11 = some mm_m11 := rfl
/-- WhoKnows$Formula.depth()I -/
def mm_m12 : mm_M := (mm_c12, 4, 1, [])
set_option maxRecDepth 20000 in
theorem P12 : mm_P 12 = some mm_m12 := rfl
/-- WhoKnows$Formula.findBegins()V -/
def mm_m15 : mm_M := (mm_c15, 3, 0, [])
set_option maxRecDepth 20000 in
theorem P15 : mm_P 15 = some mm_m15 := rfl
/-- WhoKnows$Knowledge.copyFrom(LWhoKnows$Knowledge;)V -/
def mm_m27 : mm_M := (mm_c27, 2, 0, [])
set_option maxRecDepth 20000 in
theorem P27 : mm_P 27 = some mm_m27 := rfl
/-- WhoKnows$Knowledge.isLowest(II)Z -/
def mm_m30 : mm_M := (mm_c30, 3, 2, [])
set_option maxRecDepth 20000 in
theorem P30 : mm_P 30 = some mm_m30 := rfl
/-- WhoKnows$Knowledge.neighbours(I)I -/
def mm_m32 : mm_M := (mm_c32, 5, 1, [])
set_option maxRecDepth 20000 in
theorem P32 : mm_P 32 = some mm_m32 := rfl
/-- WhoKnows$Knowledge.reachedFrom(I)I -/
def mm_m33 : mm_M := (mm_c33, 5, 1, [])
set_option maxRecDepth 20000 in
theorem P33 : mm_P 33 = some mm_m33 := rfl
/-- WhoKnows$Knowledge.stepsBetween(II)I -/
def mm_m34 : mm_M := (mm_c34, 5, 1, [])
set_option maxRecDepth 20000 in
theorem P34 : mm_P 34 = some mm_m34 := rfl
/-- WhoKnows$Knowledge.knowing(II)I -/
def mm_m35 : mm_M := (mm_c35, 5, 1, [])
set_option maxRecDepth 20000 in
theorem P35 : mm_P 35 = some mm_m35 := rfl
/-- WhoKnows$Knowledge.knownToAll(I)I -/
def mm_m36 : mm_M := (mm_c36, 4, 1, [])
set_option maxRecDepth 20000 in
theorem P36 : mm_P 36 = some mm_m36 := rfl
/-- WhoKnows$Knowledge.prefixed(III)I -/
def mm_m37 : mm_M := (mm_c37, 4, 1, [])
set_option maxRecDepth 20000 in
theorem P37 : mm_P 37 = some mm_m37 := rfl
/-- WhoKnows$Knowledge.knowersOf(II)I -/
def mm_m38 : mm_M := (mm_c38, 5, 1, [])
set_option maxRecDepth 20000 in
theorem P38 : mm_P 38 = some mm_m38 := rfl
/-- WhoKnows$Knowledge.decidersOf(II)I -/
def mm_m39 : mm_M := (mm_c39, 3, 1, [])
set_option maxRecDepth 20000 in
theorem P39 : mm_P 39 = some mm_m39 := rfl
/-- WhoKnows$Knowledge.deciding(II)I -/
def mm_m40 : mm_M := (mm_c40, 5, 1, [])
set_option maxRecDepth 20000 in
theorem P40 : mm_P 40 = some mm_m40 := rfl
/-- WhoKnows$Log.clear()V -/
def mm_m43 : mm_M := (mm_c43, 2, 0, [])
set_option maxRecDepth 20000 in
theorem P43 : mm_P 43 = some mm_m43 := rfl
/-- WhoKnows$Log.copyFrom(LWhoKnows$Log;)V -/
def mm_m44 : mm_M := (mm_c44, 2, 0, [])
set_option maxRecDepth 20000 in
theorem P44 : mm_P 44 = some mm_m44 := rfl
/-- WhoKnows$Log.numberOf(II)I -/
def mm_m46 : mm_M := (mm_c46, 3, 1, [])
set_option maxRecDepth 20000 in
theorem P46 : mm_P 46 = some mm_m46 := rfl
/-- WhoKnows$Names.isFull()Z -/
def mm_m49 : mm_M := (mm_c49, 1, 2, [])
set_option maxRecDepth 20000 in
theorem P49 : mm_P 49 = some mm_m49 := rfl
/-- WhoKnows$Names.letterOf(II)I -/
def mm_m52 : mm_M := (mm_c52, 4, 1, [])
set_option maxRecDepth 20000 in
theorem P52 : mm_P 52 = some mm_m52 := rfl
/-- WhoKnows$Source.begin()V -/
def mm_m65 : mm_M := (mm_c65, 3, 0, [])
set_option maxRecDepth 20000 in
theorem P65 : mm_P 65 = some mm_m65 := rfl
/-- WhoKnows$Source.scan(I)I -/
def mm_m67 : mm_M := (mm_c67, 4, 1, [])
set_option maxRecDepth 20000 in
theorem P67 : mm_P 67 = some mm_m67 := rfl
/-- WhoKnows$Source.kindOfWord(I)I -/
def mm_m68 : mm_M := (mm_c68, 3, 1, [])
set_option maxRecDepth 20000 in
theorem P68 : mm_P 68 = some mm_m68 := rfl
/-- WhoKnows$Source.nameAt(I)I -/
def mm_m69 : mm_M := (mm_c69, 4, 1, [])
set_option maxRecDepth 20000 in
theorem P69 : mm_P 69 = some mm_m69 := rfl
/-- WhoKnows$Source.addToken(III)V -/
def mm_m73 : mm_M := (mm_c73, 4, 0, [])
set_option maxRecDepth 20000 in
theorem P73 : mm_P 73 = some mm_m73 := rfl
/-- WhoKnows$Source.advance()V -/
def mm_m74 : mm_M := (mm_c74, 1, 0, [])
set_option maxRecDepth 20000 in
theorem P74 : mm_P 74 = some mm_m74 := rfl
/-- WhoKnows$Source.fail(II)V -/
def mm_m75 : mm_M := (mm_c75, 3, 0, [])
set_option maxRecDepth 20000 in
theorem P75 : mm_P 75 = some mm_m75 := rfl
/-- WhoKnows$Source.hasError()Z -/
def mm_m76 : mm_M := (mm_c76, 1, 2, [])
set_option maxRecDepth 20000 in
theorem P76 : mm_P 76 = some mm_m76 := rfl
/-- WhoKnows$Source.isWord(Ljava/lang/String;)Z -/
def mm_m77 : mm_M := (mm_c77, 2, 2, [])
set_option maxRecDepth 20000 in
theorem P77 : mm_P 77 = some mm_m77 := rfl
/-- WhoKnows$Source.isName()Z -/
def mm_m78 : mm_M := (mm_c78, 1, 2, [])
set_option maxRecDepth 20000 in
theorem P78 : mm_P 78 = some mm_m78 := rfl
/-- WhoKnows$Source.takeWord(Ljava/lang/String;)V -/
def mm_m79 : mm_M := (mm_c79, 2, 0, [])
set_option maxRecDepth 20000 in
theorem P79 : mm_P 79 = some mm_m79 := rfl
/-- WhoKnows$Source.take(I)Z -/
def mm_m80 : mm_M := (mm_c80, 2, 2, [])
set_option maxRecDepth 20000 in
theorem P80 : mm_P 80 = some mm_m80 := rfl
/-- WhoKnows$Source.needEnd()V -/
def mm_m81 : mm_M := (mm_c81, 1, 0, [])
set_option maxRecDepth 20000 in
theorem P81 : mm_P 81 = some mm_m81 := rfl
/-- WhoKnows$Source.known(LWhoKnows$Names;)I -/
def mm_m83 : mm_M := (mm_c83, 3, 1, [])
set_option maxRecDepth 20000 in
theorem P83 : mm_P 83 = some mm_m83 := rfl
/-- WhoKnows$Source.takeKnown(LWhoKnows$Names;)I -/
def mm_m84 : mm_M := (mm_c84, 3, 1, [])
set_option maxRecDepth 20000 in
theorem P84 : mm_P 84 = some mm_m84 := rfl
/-- WhoKnows.copyRow([I[I)V -/
def mm_m158 : mm_M := (mm_c158, 2, 0, [])
set_option maxRecDepth 20000 in
theorem P158 : mm_P 158 = some mm_m158 := rfl
/-- WhoKnows.nodeWord(I)Ljava/lang/String; -/
def mm_m167 : mm_M := (mm_c167, 1, 5, [])
set_option maxRecDepth 20000 in
theorem P167 : mm_P 167 = some mm_m167 := rfl
/-- WhoKnows.actWord(I)Ljava/lang/String; -/
def mm_m168 : mm_M := (mm_c168, 1, 5, [])
set_option maxRecDepth 20000 in
theorem P168 : mm_P 168 = some mm_m168 := rfl
theorem k8_0 : mm_lk mm_m8.1 0 = some (0, .aload_n 0, 1, []) := rfl
theorem k8_1 : mm_lk mm_m8.1 1 = some (1, .iconst 0, 2, []) := rfl
theorem k8_2 : mm_lk mm_m8.1 2 = some (2, .putfield 21, 5, [0, 3, 3, 254]) := rfl
theorem k8_5 : mm_lk mm_m8.1 5 = some (5, .return_, 6, []) := rfl
theorem k9_0 : mm_lk mm_m9.1 0 = some (0, .aload_n 0, 1, []) := rfl
theorem k9_1 : mm_lk mm_m9.1 1 = some (1, .getfield 9, 4, [0, 3, 0, 251]) := rfl
theorem k9_4 : mm_lk mm_m9.1 4 = some (4, .aload_n 0, 5, []) := rfl
theorem k9_5 : mm_lk mm_m9.1 5 = some (5, .getfield 21, 8, [0, 3, 3, 254]) := rfl
theorem k9_8 : mm_lk mm_m9.1 8 = some (8, .iload_n 1, 9, []) := rfl
theorem k9_9 : mm_lk mm_m9.1 9 = some (9, .invokestatic 25, 12, [6, 157, 3, 679, 449, 132, 0]) := rfl
theorem k9_12 : mm_lk mm_m9.1 12 = some (12, .aload_n 0, 13, []) := rfl
theorem k9_13 : mm_lk mm_m9.1 13 = some (13, .getfield 15, 16, [0, 3, 1, 252]) := rfl
theorem k9_16 : mm_lk mm_m9.1 16 = some (16, .aload_n 0, 17, []) := rfl
theorem k9_17 : mm_lk mm_m9.1 17 = some (17, .getfield 21, 20, [0, 3, 3, 254]) := rfl
theorem k9_20 : mm_lk mm_m9.1 20 = some (20, .iload_n 2, 21, []) := rfl
theorem k9_21 : mm_lk mm_m9.1 21 = some (21, .invokestatic 25, 24, [6, 157, 3, 679, 449, 132, 0]) := rfl
theorem k9_24 : mm_lk mm_m9.1 24 = some (24, .aload_n 0, 25, []) := rfl
theorem k9_25 : mm_lk mm_m9.1 25 = some (25, .aload_n 0, 26, []) := rfl
theorem k9_26 : mm_lk mm_m9.1 26 = some (26, .getfield 21, 29, [0, 3, 3, 254]) := rfl
theorem k9_29 : mm_lk mm_m9.1 29 = some (29, .iconst 1, 30, []) := rfl
theorem k9_30 : mm_lk mm_m9.1 30 = some (30, .iadd, 31, []) := rfl
theorem k9_31 : mm_lk mm_m9.1 31 = some (31, .bipush 60, 33, []) := rfl
theorem k9_33 : mm_lk mm_m9.1 33 = some (33, .invokestatic 29, 36, [12, 680]) := rfl
theorem k9_36 : mm_lk mm_m9.1 36 = some (36, .putfield 21, 39, [0, 3, 3, 254]) := rfl
theorem k9_39 : mm_lk mm_m9.1 39 = some (39, .return_, 40, []) := rfl
theorem k10_0 : mm_lk mm_m10.1 0 = some (0, .aload_n 1, 1, []) := rfl
theorem k10_1 : mm_lk mm_m10.1 1 = some (1, .getfield 9, 4, [0, 3, 0, 251]) := rfl
theorem k10_4 : mm_lk mm_m10.1 4 = some (4, .aload_n 0, 5, []) := rfl
theorem k10_5 : mm_lk mm_m10.1 5 = some (5, .getfield 9, 8, [0, 3, 0, 251]) := rfl
theorem k10_8 : mm_lk mm_m10.1 8 = some (8, .invokestatic 35, 11, [6, 158, 2, 1029, 1019, 132, 0]) := rfl
theorem k10_11 : mm_lk mm_m10.1 11 = some (11, .aload_n 1, 12, []) := rfl
theorem k10_12 : mm_lk mm_m10.1 12 = some (12, .getfield 15, 15, [0, 3, 1, 252]) := rfl
theorem k10_15 : mm_lk mm_m10.1 15 = some (15, .aload_n 0, 16, []) := rfl
theorem k10_16 : mm_lk mm_m10.1 16 = some (16, .getfield 15, 19, [0, 3, 1, 252]) := rfl
theorem k10_19 : mm_lk mm_m10.1 19 = some (19, .invokestatic 35, 22, [6, 158, 2, 1029, 1019, 132, 0]) := rfl
theorem k10_22 : mm_lk mm_m10.1 22 = some (22, .aload_n 0, 23, []) := rfl
theorem k10_23 : mm_lk mm_m10.1 23 = some (23, .aload_n 1, 24, []) := rfl
theorem k10_24 : mm_lk mm_m10.1 24 = some (24, .getfield 21, 27, [0, 3, 3, 254]) := rfl
theorem k10_27 : mm_lk mm_m10.1 27 = some (27, .putfield 21, 30, [0, 3, 3, 254]) := rfl
theorem k10_30 : mm_lk mm_m10.1 30 = some (30, .return_, 31, []) := rfl
theorem k11_0 : mm_lk mm_m11.1 0 = some (0, .iconst (-1), 1, []) := rfl
theorem k11_1 : mm_lk mm_m11.1 1 = some (1, .istore_n 2, 2, []) := rfl
theorem k11_2 : mm_lk mm_m11.1 2 = some (2, .iconst 0, 3, []) := rfl
theorem k11_3 : mm_lk mm_m11.1 3 = some (3, .istore_n 3, 4, []) := rfl
theorem k11_4 : mm_lk mm_m11.1 4 = some (4, .iload_n 3, 5, []) := rfl
theorem k11_5 : mm_lk mm_m11.1 5 = some (5, .aload_n 0, 6, []) := rfl
theorem k11_6 : mm_lk mm_m11.1 6 = some (6, .getfield 21, 9, [0, 3, 3, 254]) := rfl
theorem k11_9 : mm_lk mm_m11.1 9 = some (9, .if_icmp .ge 151, 12, [160]) := rfl
theorem k11_12 : mm_lk mm_m11.1 12 = some (12, .aload_n 0, 13, []) := rfl
theorem k11_13 : mm_lk mm_m11.1 13 = some (13, .getfield 9, 16, [0, 3, 0, 251]) := rfl
theorem k11_16 : mm_lk mm_m11.1 16 = some (16, .iload_n 3, 17, []) := rfl
theorem k11_17 : mm_lk mm_m11.1 17 = some (17, .invokestatic 39, 20, [6, 156, 2, 702, 568, 132, 0]) := rfl
theorem k11_20 : mm_lk mm_m11.1 20 = some (20, .istore 4, 22, []) := rfl
theorem k11_22 : mm_lk mm_m11.1 22 = some (22, .iload 4, 24, []) := rfl
theorem k11_24 : mm_lk mm_m11.1 24 = some (24, .ifCond .ne 36, 27, [60]) := rfl
theorem k11_27 : mm_lk mm_m11.1 27 = some (27, .iinc 2 1, 30, []) := rfl
theorem k11_30 : mm_lk mm_m11.1 30 = some (30, .aload_n 0, 31, []) := rfl
theorem k11_31 : mm_lk mm_m11.1 31 = some (31, .getfield 18, 34, [0, 3, 2, 253]) := rfl
theorem k11_34 : mm_lk mm_m11.1 34 = some (34, .iload_n 2, 35, []) := rfl
theorem k11_35 : mm_lk mm_m11.1 35 = some (35, .aload_n 1, 36, []) := rfl
theorem k11_36 : mm_lk mm_m11.1 36 = some (36, .getfield 43, 39, [1, 5, 1, 233, 0]) := rfl
theorem k11_39 : mm_lk mm_m11.1 39 = some (39, .getstatic 48, 42, [1, 4, 703, 0]) := rfl
theorem k11_42 : mm_lk mm_m11.1 42 = some (42, .aload_n 0, 43, []) := rfl
theorem k11_43 : mm_lk mm_m11.1 43 = some (43, .getfield 15, 46, [0, 3, 1, 252]) := rfl
theorem k11_46 : mm_lk mm_m11.1 46 = some (46, .iload_n 3, 47, []) := rfl
theorem k11_47 : mm_lk mm_m11.1 47 = some (47, .invokestatic 39, 50, [6, 156, 2, 702, 568, 132, 0]) := rfl
theorem k11_50 : mm_lk mm_m11.1 50 = some (50, .invokestatic 39, 53, [6, 156, 2, 702, 568, 132, 0]) := rfl
theorem k11_53 : mm_lk mm_m11.1 53 = some (53, .iand, 54, []) := rfl
theorem k11_54 : mm_lk mm_m11.1 54 = some (54, .invokestatic 25, 57, [6, 157, 3, 679, 449, 132, 0]) := rfl
theorem k11_57 : mm_lk mm_m11.1 57 = some (57, .goto 97, 60, [154]) := rfl
theorem k11_60 : mm_lk mm_m11.1 60 = some (60, .iload 4, 62, []) := rfl
theorem k11_62 : mm_lk mm_m11.1 62 = some (62, .invokestatic 51, 65, [6, 165, 1, 705, 682, 132, 0]) := rfl
theorem k11_65 : mm_lk mm_m11.1 65 = some (65, .ifCond .eq 59, 68, [124]) := rfl
theorem k11_68 : mm_lk mm_m11.1 68 = some (68, .iinc 2 (-1), 71, []) := rfl
theorem k11_71 : mm_lk mm_m11.1 71 = some (71, .aload_n 0, 72, []) := rfl
theorem k11_72 : mm_lk mm_m11.1 72 = some (72, .getfield 18, 75, [0, 3, 2, 253]) := rfl
theorem k11_75 : mm_lk mm_m11.1 75 = some (75, .iload_n 2, 76, []) := rfl
theorem k11_76 : mm_lk mm_m11.1 76 = some (76, .invokestatic 39, 79, [6, 156, 2, 702, 568, 132, 0]) := rfl
theorem k11_79 : mm_lk mm_m11.1 79 = some (79, .istore 5, 81, []) := rfl
theorem k11_81 : mm_lk mm_m11.1 81 = some (81, .aload_n 0, 82, []) := rfl
theorem k11_82 : mm_lk mm_m11.1 82 = some (82, .getfield 18, 85, [0, 3, 2, 253]) := rfl
theorem k11_85 : mm_lk mm_m11.1 85 = some (85, .iload_n 2, 86, []) := rfl
theorem k11_86 : mm_lk mm_m11.1 86 = some (86, .iconst 1, 87, []) := rfl
theorem k11_87 : mm_lk mm_m11.1 87 = some (87, .iadd, 88, []) := rfl
theorem k11_88 : mm_lk mm_m11.1 88 = some (88, .invokestatic 39, 91, [6, 156, 2, 702, 568, 132, 0]) := rfl
theorem k11_91 : mm_lk mm_m11.1 91 = some (91, .istore 6, 93, []) := rfl
theorem k11_93 : mm_lk mm_m11.1 93 = some (93, .aload_n 0, 94, []) := rfl
theorem k11_94 : mm_lk mm_m11.1 94 = some (94, .getfield 18, 97, [0, 3, 2, 253]) := rfl
theorem k11_97 : mm_lk mm_m11.1 97 = some (97, .iload_n 2, 98, []) := rfl
theorem k11_98 : mm_lk mm_m11.1 98 = some (98, .iload 4, 100, []) := rfl
theorem k11_100 : mm_lk mm_m11.1 100 = some (100, .bipush 6, 102, []) := rfl
theorem k11_102 : mm_lk mm_m11.1 102 = some (102, .if_icmp .ne 11, 105, [113]) := rfl
theorem k11_105 : mm_lk mm_m11.1 105 = some (105, .iload 5, 107, []) := rfl
theorem k11_107 : mm_lk mm_m11.1 107 = some (107, .iload 6, 109, []) := rfl
theorem k11_109 : mm_lk mm_m11.1 109 = some (109, .iand, 110, []) := rfl
theorem k11_110 : mm_lk mm_m11.1 110 = some (110, .goto 8, 113, [118]) := rfl
theorem k11_113 : mm_lk mm_m11.1 113 = some (113, .iload 5, 115, []) := rfl
theorem k11_115 : mm_lk mm_m11.1 115 = some (115, .iload 6, 117, []) := rfl
theorem k11_117 : mm_lk mm_m11.1 117 = some (117, .ior, 118, []) := rfl
theorem k11_118 : mm_lk mm_m11.1 118 = some (118, .invokestatic 25, 121, [6, 157, 3, 679, 449, 132, 0]) := rfl
theorem k11_121 : mm_lk mm_m11.1 121 = some (121, .goto 33, 124, [154]) := rfl
theorem k11_124 : mm_lk mm_m11.1 124 = some (124, .aload_n 0, 125, []) := rfl
theorem k11_125 : mm_lk mm_m11.1 125 = some (125, .getfield 18, 128, [0, 3, 2, 253]) := rfl
theorem k11_128 : mm_lk mm_m11.1 128 = some (128, .iload_n 2, 129, []) := rfl
theorem k11_129 : mm_lk mm_m11.1 129 = some (129, .aload_n 1, 130, []) := rfl
theorem k11_130 : mm_lk mm_m11.1 130 = some (130, .iload 4, 132, []) := rfl
theorem k11_132 : mm_lk mm_m11.1 132 = some (132, .aload_n 0, 133, []) := rfl
theorem k11_133 : mm_lk mm_m11.1 133 = some (133, .getfield 15, 136, [0, 3, 1, 252]) := rfl
theorem k11_136 : mm_lk mm_m11.1 136 = some (136, .iload_n 3, 137, []) := rfl
theorem k11_137 : mm_lk mm_m11.1 137 = some (137, .invokestatic 39, 140, [6, 156, 2, 702, 568, 132, 0]) := rfl
theorem k11_140 : mm_lk mm_m11.1 140 = some (140, .aload_n 0, 141, []) := rfl
theorem k11_141 : mm_lk mm_m11.1 141 = some (141, .getfield 18, 144, [0, 3, 2, 253]) := rfl
theorem k11_144 : mm_lk mm_m11.1 144 = some (144, .iload_n 2, 145, []) := rfl
theorem k11_145 : mm_lk mm_m11.1 145 = some (145, .invokestatic 39, 148, [6, 156, 2, 702, 568, 132, 0]) := rfl
theorem k11_148 : mm_lk mm_m11.1 148 = some (148, .invokevirtual 55, 151, [0, 37, 4, 5, 706, 707, 708, 134]) := rfl
theorem k11_151 : mm_lk mm_m11.1 151 = some (151, .invokestatic 25, 154, [6, 157, 3, 679, 449, 132, 0]) := rfl
theorem k11_154 : mm_lk mm_m11.1 154 = some (154, .iinc 3 1, 157, []) := rfl
theorem k11_157 : mm_lk mm_m11.1 157 = some (157, .goto (-153), 160, [4]) := rfl
theorem k11_160 : mm_lk mm_m11.1 160 = some (160, .aload_n 0, 161, []) := rfl
theorem k11_161 : mm_lk mm_m11.1 161 = some (161, .getfield 18, 164, [0, 3, 2, 253]) := rfl
theorem k11_164 : mm_lk mm_m11.1 164 = some (164, .iconst 0, 165, []) := rfl
theorem k11_165 : mm_lk mm_m11.1 165 = some (165, .invokestatic 39, 168, [6, 156, 2, 702, 568, 132, 0]) := rfl
theorem k11_168 : mm_lk mm_m11.1 168 = some (168, .ireturn, 169, []) := rfl
theorem k12_0 : mm_lk mm_m12.1 0 = some (0, .iconst (-1), 1, []) := rfl
theorem k12_1 : mm_lk mm_m12.1 1 = some (1, .istore_n 1, 2, []) := rfl
theorem k12_2 : mm_lk mm_m12.1 2 = some (2, .iconst 0, 3, []) := rfl
theorem k12_3 : mm_lk mm_m12.1 3 = some (3, .istore_n 2, 4, []) := rfl
theorem k12_4 : mm_lk mm_m12.1 4 = some (4, .iload_n 2, 5, []) := rfl
theorem k12_5 : mm_lk mm_m12.1 5 = some (5, .aload_n 0, 6, []) := rfl
theorem k12_6 : mm_lk mm_m12.1 6 = some (6, .getfield 21, 9, [0, 3, 3, 254]) := rfl
theorem k12_9 : mm_lk mm_m12.1 9 = some (9, .if_icmp .ge 102, 12, [111]) := rfl
theorem k12_12 : mm_lk mm_m12.1 12 = some (12, .aload_n 0, 13, []) := rfl
theorem k12_13 : mm_lk mm_m12.1 13 = some (13, .getfield 9, 16, [0, 3, 0, 251]) := rfl
theorem k12_16 : mm_lk mm_m12.1 16 = some (16, .iload_n 2, 17, []) := rfl
theorem k12_17 : mm_lk mm_m12.1 17 = some (17, .invokestatic 39, 20, [6, 156, 2, 702, 568, 132, 0]) := rfl
theorem k12_20 : mm_lk mm_m12.1 20 = some (20, .istore_n 3, 21, []) := rfl
theorem k12_21 : mm_lk mm_m12.1 21 = some (21, .iload_n 3, 22, []) := rfl
theorem k12_22 : mm_lk mm_m12.1 22 = some (22, .ifCond .ne 18, 25, [40]) := rfl
theorem k12_25 : mm_lk mm_m12.1 25 = some (25, .iinc 1 1, 28, []) := rfl
theorem k12_28 : mm_lk mm_m12.1 28 = some (28, .aload_n 0, 29, []) := rfl
theorem k12_29 : mm_lk mm_m12.1 29 = some (29, .getfield 18, 32, [0, 3, 2, 253]) := rfl
theorem k12_32 : mm_lk mm_m12.1 32 = some (32, .iload_n 1, 33, []) := rfl
theorem k12_33 : mm_lk mm_m12.1 33 = some (33, .iconst 0, 34, []) := rfl
theorem k12_34 : mm_lk mm_m12.1 34 = some (34, .invokestatic 25, 37, [6, 157, 3, 679, 449, 132, 0]) := rfl
theorem k12_37 : mm_lk mm_m12.1 37 = some (37, .goto 68, 40, [105]) := rfl
theorem k12_40 : mm_lk mm_m12.1 40 = some (40, .iload_n 3, 41, []) := rfl
theorem k12_41 : mm_lk mm_m12.1 41 = some (41, .invokestatic 51, 44, [6, 165, 1, 705, 682, 132, 0]) := rfl
theorem k12_44 : mm_lk mm_m12.1 44 = some (44, .ifCond .eq 38, 47, [82]) := rfl
theorem k12_47 : mm_lk mm_m12.1 47 = some (47, .iinc 1 (-1), 50, []) := rfl
theorem k12_50 : mm_lk mm_m12.1 50 = some (50, .aload_n 0, 51, []) := rfl
theorem k12_51 : mm_lk mm_m12.1 51 = some (51, .getfield 18, 54, [0, 3, 2, 253]) := rfl
theorem k12_54 : mm_lk mm_m12.1 54 = some (54, .iload_n 1, 55, []) := rfl
theorem k12_55 : mm_lk mm_m12.1 55 = some (55, .aload_n 0, 56, []) := rfl
theorem k12_56 : mm_lk mm_m12.1 56 = some (56, .getfield 18, 59, [0, 3, 2, 253]) := rfl
theorem k12_59 : mm_lk mm_m12.1 59 = some (59, .iload_n 1, 60, []) := rfl
theorem k12_60 : mm_lk mm_m12.1 60 = some (60, .invokestatic 39, 63, [6, 156, 2, 702, 568, 132, 0]) := rfl
theorem k12_63 : mm_lk mm_m12.1 63 = some (63, .aload_n 0, 64, []) := rfl
theorem k12_64 : mm_lk mm_m12.1 64 = some (64, .getfield 18, 67, [0, 3, 2, 253]) := rfl
theorem k12_67 : mm_lk mm_m12.1 67 = some (67, .iload_n 1, 68, []) := rfl
theorem k12_68 : mm_lk mm_m12.1 68 = some (68, .iconst 1, 69, []) := rfl
theorem k12_69 : mm_lk mm_m12.1 69 = some (69, .iadd, 70, []) := rfl
theorem k12_70 : mm_lk mm_m12.1 70 = some (70, .invokestatic 39, 73, [6, 156, 2, 702, 568, 132, 0]) := rfl
theorem k12_73 : mm_lk mm_m12.1 73 = some (73, .invokestatic 59, 76, [11, 1591]) := rfl
theorem k12_76 : mm_lk mm_m12.1 76 = some (76, .invokestatic 25, 79, [6, 157, 3, 679, 449, 132, 0]) := rfl
theorem k12_79 : mm_lk mm_m12.1 79 = some (79, .goto 26, 82, [105]) := rfl
theorem k12_82 : mm_lk mm_m12.1 82 = some (82, .iload_n 3, 83, []) := rfl
theorem k12_83 : mm_lk mm_m12.1 83 = some (83, .iconst 1, 84, []) := rfl
theorem k12_84 : mm_lk mm_m12.1 84 = some (84, .if_icmp .eq 21, 87, [105]) := rfl
theorem k12_87 : mm_lk mm_m12.1 87 = some (87, .aload_n 0, 88, []) := rfl
theorem k12_88 : mm_lk mm_m12.1 88 = some (88, .getfield 18, 91, [0, 3, 2, 253]) := rfl
theorem k12_91 : mm_lk mm_m12.1 91 = some (91, .iload_n 1, 92, []) := rfl
theorem k12_92 : mm_lk mm_m12.1 92 = some (92, .aload_n 0, 93, []) := rfl
theorem k12_93 : mm_lk mm_m12.1 93 = some (93, .getfield 18, 96, [0, 3, 2, 253]) := rfl
theorem k12_96 : mm_lk mm_m12.1 96 = some (96, .iload_n 1, 97, []) := rfl
theorem k12_97 : mm_lk mm_m12.1 97 = some (97, .invokestatic 39, 100, [6, 156, 2, 702, 568, 132, 0]) := rfl
theorem k12_100 : mm_lk mm_m12.1 100 = some (100, .iconst 1, 101, []) := rfl
theorem k12_101 : mm_lk mm_m12.1 101 = some (101, .iadd, 102, []) := rfl
theorem k12_102 : mm_lk mm_m12.1 102 = some (102, .invokestatic 25, 105, [6, 157, 3, 679, 449, 132, 0]) := rfl
theorem k12_105 : mm_lk mm_m12.1 105 = some (105, .iinc 2 1, 108, []) := rfl
theorem k12_108 : mm_lk mm_m12.1 108 = some (108, .goto (-104), 111, [4]) := rfl
theorem k12_111 : mm_lk mm_m12.1 111 = some (111, .aload_n 0, 112, []) := rfl
theorem k12_112 : mm_lk mm_m12.1 112 = some (112, .getfield 18, 115, [0, 3, 2, 253]) := rfl
theorem k12_115 : mm_lk mm_m12.1 115 = some (115, .iconst 0, 116, []) := rfl
theorem k12_116 : mm_lk mm_m12.1 116 = some (116, .invokestatic 39, 119, [6, 156, 2, 702, 568, 132, 0]) := rfl
theorem k12_119 : mm_lk mm_m12.1 119 = some (119, .ireturn, 120, []) := rfl
theorem k15_0 : mm_lk mm_m15.1 0 = some (0, .iconst 0, 1, []) := rfl
theorem k15_1 : mm_lk mm_m15.1 1 = some (1, .istore_n 1, 2, []) := rfl
theorem k15_2 : mm_lk mm_m15.1 2 = some (2, .iload_n 1, 3, []) := rfl
theorem k15_3 : mm_lk mm_m15.1 3 = some (3, .aload_n 0, 4, []) := rfl
theorem k15_4 : mm_lk mm_m15.1 4 = some (4, .getfield 21, 7, [0, 3, 3, 254]) := rfl
theorem k15_7 : mm_lk mm_m15.1 7 = some (7, .if_icmp .ge 82, 10, [89]) := rfl
theorem k15_10 : mm_lk mm_m15.1 10 = some (10, .iload_n 1, 11, []) := rfl
theorem k15_11 : mm_lk mm_m15.1 11 = some (11, .istore_n 2, 12, []) := rfl
theorem k15_12 : mm_lk mm_m15.1 12 = some (12, .aload_n 0, 13, []) := rfl
theorem k15_13 : mm_lk mm_m15.1 13 = some (13, .getfield 9, 16, [0, 3, 0, 251]) := rfl
theorem k15_16 : mm_lk mm_m15.1 16 = some (16, .iload_n 1, 17, []) := rfl
theorem k15_17 : mm_lk mm_m15.1 17 = some (17, .invokestatic 39, 20, [6, 156, 2, 702, 568, 132, 0]) := rfl
theorem k15_20 : mm_lk mm_m15.1 20 = some (20, .invokestatic 106, 23, [6, 164, 1, 1382, 657, 132, 0]) := rfl
theorem k15_23 : mm_lk mm_m15.1 23 = some (23, .ifCond .eq 17, 26, [40]) := rfl
theorem k15_26 : mm_lk mm_m15.1 26 = some (26, .aload_n 0, 27, []) := rfl
theorem k15_27 : mm_lk mm_m15.1 27 = some (27, .getfield 18, 30, [0, 3, 2, 253]) := rfl
theorem k15_30 : mm_lk mm_m15.1 30 = some (30, .iload_n 1, 31, []) := rfl
theorem k15_31 : mm_lk mm_m15.1 31 = some (31, .iconst 1, 32, []) := rfl
theorem k15_32 : mm_lk mm_m15.1 32 = some (32, .isub, 33, []) := rfl
theorem k15_33 : mm_lk mm_m15.1 33 = some (33, .invokestatic 39, 36, [6, 156, 2, 702, 568, 132, 0]) := rfl
theorem k15_36 : mm_lk mm_m15.1 36 = some (36, .istore_n 2, 37, []) := rfl
theorem k15_37 : mm_lk mm_m15.1 37 = some (37, .goto 37, 40, [74]) := rfl
theorem k15_40 : mm_lk mm_m15.1 40 = some (40, .aload_n 0, 41, []) := rfl
theorem k15_41 : mm_lk mm_m15.1 41 = some (41, .getfield 9, 44, [0, 3, 0, 251]) := rfl
theorem k15_44 : mm_lk mm_m15.1 44 = some (44, .iload_n 1, 45, []) := rfl
theorem k15_45 : mm_lk mm_m15.1 45 = some (45, .invokestatic 39, 48, [6, 156, 2, 702, 568, 132, 0]) := rfl
theorem k15_48 : mm_lk mm_m15.1 48 = some (48, .invokestatic 51, 51, [6, 165, 1, 705, 682, 132, 0]) := rfl
theorem k15_51 : mm_lk mm_m15.1 51 = some (51, .ifCond .eq 23, 54, [74]) := rfl
theorem k15_54 : mm_lk mm_m15.1 54 = some (54, .aload_n 0, 55, []) := rfl
theorem k15_55 : mm_lk mm_m15.1 55 = some (55, .getfield 18, 58, [0, 3, 2, 253]) := rfl
theorem k15_58 : mm_lk mm_m15.1 58 = some (58, .aload_n 0, 59, []) := rfl
theorem k15_59 : mm_lk mm_m15.1 59 = some (59, .getfield 18, 62, [0, 3, 2, 253]) := rfl
theorem k15_62 : mm_lk mm_m15.1 62 = some (62, .iload_n 1, 63, []) := rfl
theorem k15_63 : mm_lk mm_m15.1 63 = some (63, .iconst 1, 64, []) := rfl
theorem k15_64 : mm_lk mm_m15.1 64 = some (64, .isub, 65, []) := rfl
theorem k15_65 : mm_lk mm_m15.1 65 = some (65, .invokestatic 39, 68, [6, 156, 2, 702, 568, 132, 0]) := rfl
theorem k15_68 : mm_lk mm_m15.1 68 = some (68, .iconst 1, 69, []) := rfl
theorem k15_69 : mm_lk mm_m15.1 69 = some (69, .isub, 70, []) := rfl
theorem k15_70 : mm_lk mm_m15.1 70 = some (70, .invokestatic 39, 73, [6, 156, 2, 702, 568, 132, 0]) := rfl
theorem k15_73 : mm_lk mm_m15.1 73 = some (73, .istore_n 2, 74, []) := rfl
theorem k15_74 : mm_lk mm_m15.1 74 = some (74, .aload_n 0, 75, []) := rfl
theorem k15_75 : mm_lk mm_m15.1 75 = some (75, .getfield 18, 78, [0, 3, 2, 253]) := rfl
theorem k15_78 : mm_lk mm_m15.1 78 = some (78, .iload_n 1, 79, []) := rfl
theorem k15_79 : mm_lk mm_m15.1 79 = some (79, .iload_n 2, 80, []) := rfl
theorem k15_80 : mm_lk mm_m15.1 80 = some (80, .invokestatic 25, 83, [6, 157, 3, 679, 449, 132, 0]) := rfl
theorem k15_83 : mm_lk mm_m15.1 83 = some (83, .iinc 1 1, 86, []) := rfl
theorem k15_86 : mm_lk mm_m15.1 86 = some (86, .goto (-84), 89, [2]) := rfl
theorem k15_89 : mm_lk mm_m15.1 89 = some (89, .return_, 90, []) := rfl
theorem k27_0 : mm_lk mm_m27.1 0 = some (0, .aload_n 1, 1, []) := rfl
theorem k27_1 : mm_lk mm_m27.1 1 = some (1, .getfield 9, 4, [0, 5, 0, 231]) := rfl
theorem k27_4 : mm_lk mm_m27.1 4 = some (4, .aload_n 0, 5, []) := rfl
theorem k27_5 : mm_lk mm_m27.1 5 = some (5, .getfield 9, 8, [0, 5, 0, 231]) := rfl
theorem k27_8 : mm_lk mm_m27.1 8 = some (8, .invokestatic 50, 11, [6, 158, 2, 1018, 1019, 132, 0]) := rfl
theorem k27_11 : mm_lk mm_m27.1 11 = some (11, .aload_n 0, 12, []) := rfl
theorem k27_12 : mm_lk mm_m27.1 12 = some (12, .aload_n 1, 13, []) := rfl
theorem k27_13 : mm_lk mm_m27.1 13 = some (13, .getfield 21, 16, [0, 5, 1, 232]) := rfl
theorem k27_16 : mm_lk mm_m27.1 16 = some (16, .putfield 21, 19, [0, 5, 1, 232]) := rfl
theorem k27_19 : mm_lk mm_m27.1 19 = some (19, .aload_n 0, 20, []) := rfl
theorem k27_20 : mm_lk mm_m27.1 20 = some (20, .aload_n 1, 21, []) := rfl
theorem k27_21 : mm_lk mm_m27.1 21 = some (21, .getfield 33, 24, [0, 5, 2, 237]) := rfl
theorem k27_24 : mm_lk mm_m27.1 24 = some (24, .putfield 33, 27, [0, 5, 2, 237]) := rfl
theorem k27_27 : mm_lk mm_m27.1 27 = some (27, .return_, 28, []) := rfl
theorem k30_0 : mm_lk mm_m30.1 0 = some (0, .aload_n 0, 1, []) := rfl
theorem k30_1 : mm_lk mm_m30.1 1 = some (1, .getfield 21, 4, [0, 5, 1, 232]) := rfl
theorem k30_4 : mm_lk mm_m30.1 4 = some (4, .iload_n 2, 5, []) := rfl
theorem k30_5 : mm_lk mm_m30.1 5 = some (5, .invokestatic 60, 8, [6, 159, 2, 714, 715, 132, 0]) := rfl
theorem k30_8 : mm_lk mm_m30.1 8 = some (8, .ifCond .eq 21, 11, [29]) := rfl
theorem k30_11 : mm_lk mm_m30.1 11 = some (11, .aload_n 0, 12, []) := rfl
theorem k30_12 : mm_lk mm_m30.1 12 = some (12, .iload_n 1, 13, []) := rfl
theorem k30_13 : mm_lk mm_m30.1 13 = some (13, .iload_n 2, 14, []) := rfl
theorem k30_14 : mm_lk mm_m30.1 14 = some (14, .invokevirtual 64, 17, [0, 29, 3, 5, 717, 718, 719, 134]) := rfl
theorem k30_17 : mm_lk mm_m30.1 17 = some (17, .iload_n 2, 18, []) := rfl
theorem k30_18 : mm_lk mm_m30.1 18 = some (18, .invokestatic 67, 21, [6, 161, 1, 1650, 614, 132, 0]) := rfl
theorem k30_21 : mm_lk mm_m30.1 21 = some (21, .iand, 22, []) := rfl
theorem k30_22 : mm_lk mm_m30.1 22 = some (22, .ifCond .ne 7, 25, [29]) := rfl
theorem k30_25 : mm_lk mm_m30.1 25 = some (25, .iconst 1, 26, []) := rfl
theorem k30_26 : mm_lk mm_m30.1 26 = some (26, .goto 4, 29, [30]) := rfl
theorem k30_29 : mm_lk mm_m30.1 29 = some (29, .iconst 0, 30, []) := rfl
theorem k30_30 : mm_lk mm_m30.1 30 = some (30, .ireturn, 31, []) := rfl
theorem k32_0 : mm_lk mm_m32.1 0 = some (0, .iconst 0, 1, []) := rfl
theorem k32_1 : mm_lk mm_m32.1 1 = some (1, .istore_n 2, 2, []) := rfl
theorem k32_2 : mm_lk mm_m32.1 2 = some (2, .iconst 0, 3, []) := rfl
theorem k32_3 : mm_lk mm_m32.1 3 = some (3, .istore_n 3, 4, []) := rfl
theorem k32_4 : mm_lk mm_m32.1 4 = some (4, .iload_n 3, 5, []) := rfl
theorem k32_5 : mm_lk mm_m32.1 5 = some (5, .bipush 32, 7, []) := rfl
theorem k32_7 : mm_lk mm_m32.1 7 = some (7, .if_icmp .ge 46, 10, [53]) := rfl
theorem k32_10 : mm_lk mm_m32.1 10 = some (10, .iconst 0, 11, []) := rfl
theorem k32_11 : mm_lk mm_m32.1 11 = some (11, .istore 4, 13, []) := rfl
theorem k32_13 : mm_lk mm_m32.1 13 = some (13, .iload 4, 15, []) := rfl
theorem k32_15 : mm_lk mm_m32.1 15 = some (15, .aload_n 0, 16, []) := rfl
theorem k32_16 : mm_lk mm_m32.1 16 = some (16, .getfield 33, 19, [0, 5, 2, 237]) := rfl
theorem k32_19 : mm_lk mm_m32.1 19 = some (19, .if_icmp .ge 28, 22, [47]) := rfl
theorem k32_22 : mm_lk mm_m32.1 22 = some (22, .iload_n 1, 23, []) := rfl
theorem k32_23 : mm_lk mm_m32.1 23 = some (23, .iload_n 3, 24, []) := rfl
theorem k32_24 : mm_lk mm_m32.1 24 = some (24, .iushr, 25, []) := rfl
theorem k32_25 : mm_lk mm_m32.1 25 = some (25, .iconst 1, 26, []) := rfl
theorem k32_26 : mm_lk mm_m32.1 26 = some (26, .iand, 27, []) := rfl
theorem k32_27 : mm_lk mm_m32.1 27 = some (27, .iconst 1, 28, []) := rfl
theorem k32_28 : mm_lk mm_m32.1 28 = some (28, .if_icmp .ne 19, 31, [47]) := rfl
theorem k32_31 : mm_lk mm_m32.1 31 = some (31, .iload_n 2, 32, []) := rfl
theorem k32_32 : mm_lk mm_m32.1 32 = some (32, .aload_n 0, 33, []) := rfl
theorem k32_33 : mm_lk mm_m32.1 33 = some (33, .iload 4, 35, []) := rfl
theorem k32_35 : mm_lk mm_m32.1 35 = some (35, .iload_n 3, 36, []) := rfl
theorem k32_36 : mm_lk mm_m32.1 36 = some (36, .invokevirtual 64, 39, [0, 29, 3, 5, 717, 718, 719, 134]) := rfl
theorem k32_39 : mm_lk mm_m32.1 39 = some (39, .ior, 40, []) := rfl
theorem k32_40 : mm_lk mm_m32.1 40 = some (40, .istore_n 2, 41, []) := rfl
theorem k32_41 : mm_lk mm_m32.1 41 = some (41, .iinc 4 1, 44, []) := rfl
theorem k32_44 : mm_lk mm_m32.1 44 = some (44, .goto (-31), 47, [13]) := rfl
theorem k32_47 : mm_lk mm_m32.1 47 = some (47, .iinc 3 1, 50, []) := rfl
theorem k32_50 : mm_lk mm_m32.1 50 = some (50, .goto (-46), 53, [4]) := rfl
theorem k32_53 : mm_lk mm_m32.1 53 = some (53, .iload_n 2, 54, []) := rfl
theorem k32_54 : mm_lk mm_m32.1 54 = some (54, .ireturn, 55, []) := rfl
theorem k33_0 : mm_lk mm_m33.1 0 = some (0, .aload_n 0, 1, []) := rfl
theorem k33_1 : mm_lk mm_m33.1 1 = some (1, .getfield 21, 4, [0, 5, 1, 232]) := rfl
theorem k33_4 : mm_lk mm_m33.1 4 = some (4, .iload_n 1, 5, []) := rfl
theorem k33_5 : mm_lk mm_m33.1 5 = some (5, .iand, 6, []) := rfl
theorem k33_6 : mm_lk mm_m33.1 6 = some (6, .istore_n 2, 7, []) := rfl
theorem k33_7 : mm_lk mm_m33.1 7 = some (7, .iload_n 2, 8, []) := rfl
theorem k33_8 : mm_lk mm_m33.1 8 = some (8, .istore_n 3, 9, []) := rfl
theorem k33_9 : mm_lk mm_m33.1 9 = some (9, .iconst 0, 10, []) := rfl
theorem k33_10 : mm_lk mm_m33.1 10 = some (10, .istore 4, 12, []) := rfl
theorem k33_12 : mm_lk mm_m33.1 12 = some (12, .iload 4, 14, []) := rfl
theorem k33_14 : mm_lk mm_m33.1 14 = some (14, .bipush 32, 16, []) := rfl
theorem k33_16 : mm_lk mm_m33.1 16 = some (16, .if_icmp .ge 27, 19, [43]) := rfl
theorem k33_19 : mm_lk mm_m33.1 19 = some (19, .iload_n 3, 20, []) := rfl
theorem k33_20 : mm_lk mm_m33.1 20 = some (20, .ifCond .eq 23, 23, [43]) := rfl
theorem k33_23 : mm_lk mm_m33.1 23 = some (23, .aload_n 0, 24, []) := rfl
theorem k33_24 : mm_lk mm_m33.1 24 = some (24, .iload_n 3, 25, []) := rfl
theorem k33_25 : mm_lk mm_m33.1 25 = some (25, .invokevirtual 70, 28, [0, 32, 2, 5, 732, 734, 23, 134]) := rfl
theorem k33_28 : mm_lk mm_m33.1 28 = some (28, .iload_n 2, 29, []) := rfl
theorem k33_29 : mm_lk mm_m33.1 29 = some (29, .iconst (-1), 30, []) := rfl
theorem k33_30 : mm_lk mm_m33.1 30 = some (30, .ixor, 31, []) := rfl
theorem k33_31 : mm_lk mm_m33.1 31 = some (31, .iand, 32, []) := rfl
theorem k33_32 : mm_lk mm_m33.1 32 = some (32, .istore_n 3, 33, []) := rfl
theorem k33_33 : mm_lk mm_m33.1 33 = some (33, .iload_n 2, 34, []) := rfl
theorem k33_34 : mm_lk mm_m33.1 34 = some (34, .iload_n 3, 35, []) := rfl
theorem k33_35 : mm_lk mm_m33.1 35 = some (35, .ior, 36, []) := rfl
theorem k33_36 : mm_lk mm_m33.1 36 = some (36, .istore_n 2, 37, []) := rfl
theorem k33_37 : mm_lk mm_m33.1 37 = some (37, .iinc 4 1, 40, []) := rfl
theorem k33_40 : mm_lk mm_m33.1 40 = some (40, .goto (-28), 43, [12]) := rfl
theorem k33_43 : mm_lk mm_m33.1 43 = some (43, .iload_n 2, 44, []) := rfl
theorem k33_44 : mm_lk mm_m33.1 44 = some (44, .ireturn, 45, []) := rfl
theorem k34_0 : mm_lk mm_m34.1 0 = some (0, .aload_n 0, 1, []) := rfl
theorem k34_1 : mm_lk mm_m34.1 1 = some (1, .getfield 21, 4, [0, 5, 1, 232]) := rfl
theorem k34_4 : mm_lk mm_m34.1 4 = some (4, .iload_n 1, 5, []) := rfl
theorem k34_5 : mm_lk mm_m34.1 5 = some (5, .invokestatic 73, 8, [6, 160, 1, 721, 722, 132, 0]) := rfl
theorem k34_8 : mm_lk mm_m34.1 8 = some (8, .iand, 9, []) := rfl
theorem k34_9 : mm_lk mm_m34.1 9 = some (9, .istore_n 3, 10, []) := rfl
theorem k34_10 : mm_lk mm_m34.1 10 = some (10, .iconst 0, 11, []) := rfl
theorem k34_11 : mm_lk mm_m34.1 11 = some (11, .istore 4, 13, []) := rfl
theorem k34_13 : mm_lk mm_m34.1 13 = some (13, .iload 4, 15, []) := rfl
theorem k34_15 : mm_lk mm_m34.1 15 = some (15, .bipush 32, 17, []) := rfl
theorem k34_17 : mm_lk mm_m34.1 17 = some (17, .if_icmp .ge 28, 20, [45]) := rfl
theorem k34_20 : mm_lk mm_m34.1 20 = some (20, .iload_n 3, 21, []) := rfl
theorem k34_21 : mm_lk mm_m34.1 21 = some (21, .iload_n 2, 22, []) := rfl
theorem k34_22 : mm_lk mm_m34.1 22 = some (22, .invokestatic 60, 25, [6, 159, 2, 714, 715, 132, 0]) := rfl
theorem k34_25 : mm_lk mm_m34.1 25 = some (25, .ifCond .eq 6, 28, [31]) := rfl
theorem k34_28 : mm_lk mm_m34.1 28 = some (28, .iload 4, 30, []) := rfl
theorem k34_30 : mm_lk mm_m34.1 30 = some (30, .ireturn, 31, []) := rfl
theorem k34_31 : mm_lk mm_m34.1 31 = some (31, .iload_n 3, 32, []) := rfl
theorem k34_32 : mm_lk mm_m34.1 32 = some (32, .aload_n 0, 33, []) := rfl
theorem k34_33 : mm_lk mm_m34.1 33 = some (33, .iload_n 3, 34, []) := rfl
theorem k34_34 : mm_lk mm_m34.1 34 = some (34, .invokevirtual 70, 37, [0, 32, 2, 5, 732, 734, 23, 134]) := rfl
theorem k34_37 : mm_lk mm_m34.1 37 = some (37, .ior, 38, []) := rfl
theorem k34_38 : mm_lk mm_m34.1 38 = some (38, .istore_n 3, 39, []) := rfl
theorem k34_39 : mm_lk mm_m34.1 39 = some (39, .iinc 4 1, 42, []) := rfl
theorem k34_42 : mm_lk mm_m34.1 42 = some (42, .goto (-29), 45, [13]) := rfl
theorem k34_45 : mm_lk mm_m34.1 45 = some (45, .iconst (-1), 46, []) := rfl
theorem k34_46 : mm_lk mm_m34.1 46 = some (46, .ireturn, 47, []) := rfl
theorem k35_0 : mm_lk mm_m35.1 0 = some (0, .iconst 0, 1, []) := rfl
theorem k35_1 : mm_lk mm_m35.1 1 = some (1, .istore_n 3, 2, []) := rfl
theorem k35_2 : mm_lk mm_m35.1 2 = some (2, .iconst 0, 3, []) := rfl
theorem k35_3 : mm_lk mm_m35.1 3 = some (3, .istore 4, 5, []) := rfl
theorem k35_5 : mm_lk mm_m35.1 5 = some (5, .iload 4, 7, []) := rfl
theorem k35_7 : mm_lk mm_m35.1 7 = some (7, .bipush 32, 9, []) := rfl
theorem k35_9 : mm_lk mm_m35.1 9 = some (9, .if_icmp .ge 43, 12, [52]) := rfl
theorem k35_12 : mm_lk mm_m35.1 12 = some (12, .aload_n 0, 13, []) := rfl
theorem k35_13 : mm_lk mm_m35.1 13 = some (13, .getfield 21, 16, [0, 5, 1, 232]) := rfl
theorem k35_16 : mm_lk mm_m35.1 16 = some (16, .iload 4, 18, []) := rfl
theorem k35_18 : mm_lk mm_m35.1 18 = some (18, .invokestatic 60, 21, [6, 159, 2, 714, 715, 132, 0]) := rfl
theorem k35_21 : mm_lk mm_m35.1 21 = some (21, .ifCond .eq 25, 24, [46]) := rfl
theorem k35_24 : mm_lk mm_m35.1 24 = some (24, .aload_n 0, 25, []) := rfl
theorem k35_25 : mm_lk mm_m35.1 25 = some (25, .iload_n 1, 26, []) := rfl
theorem k35_26 : mm_lk mm_m35.1 26 = some (26, .iload 4, 28, []) := rfl
theorem k35_28 : mm_lk mm_m35.1 28 = some (28, .invokevirtual 64, 31, [0, 29, 3, 5, 717, 718, 719, 134]) := rfl
theorem k35_31 : mm_lk mm_m35.1 31 = some (31, .iload_n 2, 32, []) := rfl
theorem k35_32 : mm_lk mm_m35.1 32 = some (32, .iconst (-1), 33, []) := rfl
theorem k35_33 : mm_lk mm_m35.1 33 = some (33, .ixor, 34, []) := rfl
theorem k35_34 : mm_lk mm_m35.1 34 = some (34, .iand, 35, []) := rfl
theorem k35_35 : mm_lk mm_m35.1 35 = some (35, .ifCond .ne 11, 38, [46]) := rfl
theorem k35_38 : mm_lk mm_m35.1 38 = some (38, .iload_n 3, 39, []) := rfl
theorem k35_39 : mm_lk mm_m35.1 39 = some (39, .iload 4, 41, []) := rfl
theorem k35_41 : mm_lk mm_m35.1 41 = some (41, .invokestatic 73, 44, [6, 160, 1, 721, 722, 132, 0]) := rfl
theorem k35_44 : mm_lk mm_m35.1 44 = some (44, .ior, 45, []) := rfl
theorem k35_45 : mm_lk mm_m35.1 45 = some (45, .istore_n 3, 46, []) := rfl
theorem k35_46 : mm_lk mm_m35.1 46 = some (46, .iinc 4 1, 49, []) := rfl
theorem k35_49 : mm_lk mm_m35.1 49 = some (49, .goto (-44), 52, [5]) := rfl
theorem k35_52 : mm_lk mm_m35.1 52 = some (52, .iload_n 3, 53, []) := rfl
theorem k35_53 : mm_lk mm_m35.1 53 = some (53, .ireturn, 54, []) := rfl
theorem k36_0 : mm_lk mm_m36.1 0 = some (0, .aload_n 0, 1, []) := rfl
theorem k36_1 : mm_lk mm_m36.1 1 = some (1, .getfield 21, 4, [0, 5, 1, 232]) := rfl
theorem k36_4 : mm_lk mm_m36.1 4 = some (4, .istore_n 2, 5, []) := rfl
theorem k36_5 : mm_lk mm_m36.1 5 = some (5, .iconst 0, 6, []) := rfl
theorem k36_6 : mm_lk mm_m36.1 6 = some (6, .istore_n 3, 7, []) := rfl
theorem k36_7 : mm_lk mm_m36.1 7 = some (7, .iload_n 3, 8, []) := rfl
theorem k36_8 : mm_lk mm_m36.1 8 = some (8, .aload_n 0, 9, []) := rfl
theorem k36_9 : mm_lk mm_m36.1 9 = some (9, .getfield 33, 12, [0, 5, 2, 237]) := rfl
theorem k36_12 : mm_lk mm_m36.1 12 = some (12, .if_icmp .ge 18, 15, [30]) := rfl
theorem k36_15 : mm_lk mm_m36.1 15 = some (15, .iload_n 2, 16, []) := rfl
theorem k36_16 : mm_lk mm_m36.1 16 = some (16, .aload_n 0, 17, []) := rfl
theorem k36_17 : mm_lk mm_m36.1 17 = some (17, .iload_n 3, 18, []) := rfl
theorem k36_18 : mm_lk mm_m36.1 18 = some (18, .iload_n 1, 19, []) := rfl
theorem k36_19 : mm_lk mm_m36.1 19 = some (19, .invokevirtual 76, 22, [0, 35, 3, 5, 710, 711, 712, 134]) := rfl
theorem k36_22 : mm_lk mm_m36.1 22 = some (22, .iand, 23, []) := rfl
theorem k36_23 : mm_lk mm_m36.1 23 = some (23, .istore_n 2, 24, []) := rfl
theorem k36_24 : mm_lk mm_m36.1 24 = some (24, .iinc 3 1, 27, []) := rfl
theorem k36_27 : mm_lk mm_m36.1 27 = some (27, .goto (-20), 30, [7]) := rfl
theorem k36_30 : mm_lk mm_m36.1 30 = some (30, .iload_n 2, 31, []) := rfl
theorem k36_31 : mm_lk mm_m36.1 31 = some (31, .ireturn, 32, []) := rfl
theorem k37_0 : mm_lk mm_m37.1 0 = some (0, .iload_n 1, 1, []) := rfl
theorem k37_1 : mm_lk mm_m37.1 1 = some (1, .tableswitch 69 1 4 #[31, 40, 47, 63], 32, [70, 32, 41, 48, 64]) := rfl
theorem k37_32 : mm_lk mm_m37.1 32 = some (32, .aload_n 0, 33, []) := rfl
theorem k37_33 : mm_lk mm_m37.1 33 = some (33, .getfield 21, 36, [0, 5, 1, 232]) := rfl
theorem k37_36 : mm_lk mm_m37.1 36 = some (36, .iload_n 3, 37, []) := rfl
theorem k37_37 : mm_lk mm_m37.1 37 = some (37, .iconst (-1), 38, []) := rfl
theorem k37_38 : mm_lk mm_m37.1 38 = some (38, .ixor, 39, []) := rfl
theorem k37_39 : mm_lk mm_m37.1 39 = some (39, .iand, 40, []) := rfl
theorem k37_40 : mm_lk mm_m37.1 40 = some (40, .ireturn, 41, []) := rfl
theorem k37_41 : mm_lk mm_m37.1 41 = some (41, .aload_n 0, 42, []) := rfl
theorem k37_42 : mm_lk mm_m37.1 42 = some (42, .iload_n 2, 43, []) := rfl
theorem k37_43 : mm_lk mm_m37.1 43 = some (43, .iload_n 3, 44, []) := rfl
theorem k37_44 : mm_lk mm_m37.1 44 = some (44, .invokevirtual 76, 47, [0, 35, 3, 5, 710, 711, 712, 134]) := rfl
theorem k37_47 : mm_lk mm_m37.1 47 = some (47, .ireturn, 48, []) := rfl
theorem k37_48 : mm_lk mm_m37.1 48 = some (48, .aload_n 0, 49, []) := rfl
theorem k37_49 : mm_lk mm_m37.1 49 = some (49, .getfield 21, 52, [0, 5, 1, 232]) := rfl
theorem k37_52 : mm_lk mm_m37.1 52 = some (52, .aload_n 0, 53, []) := rfl
theorem k37_53 : mm_lk mm_m37.1 53 = some (53, .iload_n 2, 54, []) := rfl
theorem k37_54 : mm_lk mm_m37.1 54 = some (54, .iload_n 3, 55, []) := rfl
theorem k37_55 : mm_lk mm_m37.1 55 = some (55, .iconst (-1), 56, []) := rfl
theorem k37_56 : mm_lk mm_m37.1 56 = some (56, .ixor, 57, []) := rfl
theorem k37_57 : mm_lk mm_m37.1 57 = some (57, .invokevirtual 76, 60, [0, 35, 3, 5, 710, 711, 712, 134]) := rfl
theorem k37_60 : mm_lk mm_m37.1 60 = some (60, .iconst (-1), 61, []) := rfl
theorem k37_61 : mm_lk mm_m37.1 61 = some (61, .ixor, 62, []) := rfl
theorem k37_62 : mm_lk mm_m37.1 62 = some (62, .iand, 63, []) := rfl
theorem k37_63 : mm_lk mm_m37.1 63 = some (63, .ireturn, 64, []) := rfl
theorem k37_64 : mm_lk mm_m37.1 64 = some (64, .aload_n 0, 65, []) := rfl
theorem k37_65 : mm_lk mm_m37.1 65 = some (65, .iload_n 3, 66, []) := rfl
theorem k37_66 : mm_lk mm_m37.1 66 = some (66, .invokevirtual 79, 69, [0, 36, 2, 5, 724, 725, 726, 134]) := rfl
theorem k37_69 : mm_lk mm_m37.1 69 = some (69, .ireturn, 70, []) := rfl
theorem k37_70 : mm_lk mm_m37.1 70 = some (70, .aload_n 0, 71, []) := rfl
theorem k37_71 : mm_lk mm_m37.1 71 = some (71, .getfield 21, 74, [0, 5, 1, 232]) := rfl
theorem k37_74 : mm_lk mm_m37.1 74 = some (74, .aload_n 0, 75, []) := rfl
theorem k37_75 : mm_lk mm_m37.1 75 = some (75, .iload_n 3, 76, []) := rfl
theorem k37_76 : mm_lk mm_m37.1 76 = some (76, .iconst (-1), 77, []) := rfl
theorem k37_77 : mm_lk mm_m37.1 77 = some (77, .ixor, 78, []) := rfl
theorem k37_78 : mm_lk mm_m37.1 78 = some (78, .invokevirtual 82, 81, [0, 33, 2, 5, 728, 729, 730, 134]) := rfl
theorem k37_81 : mm_lk mm_m37.1 81 = some (81, .iconst (-1), 82, []) := rfl
theorem k37_82 : mm_lk mm_m37.1 82 = some (82, .ixor, 83, []) := rfl
theorem k37_83 : mm_lk mm_m37.1 83 = some (83, .iand, 84, []) := rfl
theorem k37_84 : mm_lk mm_m37.1 84 = some (84, .ireturn, 85, []) := rfl
theorem k38_0 : mm_lk mm_m38.1 0 = some (0, .iconst 0, 1, []) := rfl
theorem k38_1 : mm_lk mm_m38.1 1 = some (1, .istore_n 3, 2, []) := rfl
theorem k38_2 : mm_lk mm_m38.1 2 = some (2, .iconst 0, 3, []) := rfl
theorem k38_3 : mm_lk mm_m38.1 3 = some (3, .istore 4, 5, []) := rfl
theorem k38_5 : mm_lk mm_m38.1 5 = some (5, .iload 4, 7, []) := rfl
theorem k38_7 : mm_lk mm_m38.1 7 = some (7, .aload_n 0, 8, []) := rfl
theorem k38_8 : mm_lk mm_m38.1 8 = some (8, .getfield 33, 11, [0, 5, 2, 237]) := rfl
theorem k38_11 : mm_lk mm_m38.1 11 = some (11, .if_icmp .ge 31, 14, [42]) := rfl
theorem k38_14 : mm_lk mm_m38.1 14 = some (14, .aload_n 0, 15, []) := rfl
theorem k38_15 : mm_lk mm_m38.1 15 = some (15, .iload 4, 17, []) := rfl
theorem k38_17 : mm_lk mm_m38.1 17 = some (17, .iload_n 1, 18, []) := rfl
theorem k38_18 : mm_lk mm_m38.1 18 = some (18, .invokevirtual 64, 21, [0, 29, 3, 5, 717, 718, 719, 134]) := rfl
theorem k38_21 : mm_lk mm_m38.1 21 = some (21, .iload_n 2, 22, []) := rfl
theorem k38_22 : mm_lk mm_m38.1 22 = some (22, .iconst (-1), 23, []) := rfl
theorem k38_23 : mm_lk mm_m38.1 23 = some (23, .ixor, 24, []) := rfl
theorem k38_24 : mm_lk mm_m38.1 24 = some (24, .iand, 25, []) := rfl
theorem k38_25 : mm_lk mm_m38.1 25 = some (25, .ifCond .ne 11, 28, [36]) := rfl
theorem k38_28 : mm_lk mm_m38.1 28 = some (28, .iload_n 3, 29, []) := rfl
theorem k38_29 : mm_lk mm_m38.1 29 = some (29, .iload 4, 31, []) := rfl
theorem k38_31 : mm_lk mm_m38.1 31 = some (31, .invokestatic 73, 34, [6, 160, 1, 721, 722, 132, 0]) := rfl
theorem k38_34 : mm_lk mm_m38.1 34 = some (34, .ior, 35, []) := rfl
theorem k38_35 : mm_lk mm_m38.1 35 = some (35, .istore_n 3, 36, []) := rfl
theorem k38_36 : mm_lk mm_m38.1 36 = some (36, .iinc 4 1, 39, []) := rfl
theorem k38_39 : mm_lk mm_m38.1 39 = some (39, .goto (-34), 42, [5]) := rfl
theorem k38_42 : mm_lk mm_m38.1 42 = some (42, .iload_n 3, 43, []) := rfl
theorem k38_43 : mm_lk mm_m38.1 43 = some (43, .ireturn, 44, []) := rfl
theorem k39_0 : mm_lk mm_m39.1 0 = some (0, .aload_n 0, 1, []) := rfl
theorem k39_1 : mm_lk mm_m39.1 1 = some (1, .iload_n 1, 2, []) := rfl
theorem k39_2 : mm_lk mm_m39.1 2 = some (2, .iload_n 2, 3, []) := rfl
theorem k39_3 : mm_lk mm_m39.1 3 = some (3, .invokevirtual 85, 6, [0, 38, 3, 5, 921, 910, 911, 134]) := rfl
theorem k39_6 : mm_lk mm_m39.1 6 = some (6, .aload_n 0, 7, []) := rfl
theorem k39_7 : mm_lk mm_m39.1 7 = some (7, .iload_n 1, 8, []) := rfl
theorem k39_8 : mm_lk mm_m39.1 8 = some (8, .iload_n 2, 9, []) := rfl
theorem k39_9 : mm_lk mm_m39.1 9 = some (9, .iconst (-1), 10, []) := rfl
theorem k39_10 : mm_lk mm_m39.1 10 = some (10, .ixor, 11, []) := rfl
theorem k39_11 : mm_lk mm_m39.1 11 = some (11, .invokevirtual 85, 14, [0, 38, 3, 5, 921, 910, 911, 134]) := rfl
theorem k39_14 : mm_lk mm_m39.1 14 = some (14, .ior, 15, []) := rfl
theorem k39_15 : mm_lk mm_m39.1 15 = some (15, .ireturn, 16, []) := rfl
theorem k40_0 : mm_lk mm_m40.1 0 = some (0, .iconst 0, 1, []) := rfl
theorem k40_1 : mm_lk mm_m40.1 1 = some (1, .istore_n 3, 2, []) := rfl
theorem k40_2 : mm_lk mm_m40.1 2 = some (2, .iconst 0, 3, []) := rfl
theorem k40_3 : mm_lk mm_m40.1 3 = some (3, .istore 4, 5, []) := rfl
theorem k40_5 : mm_lk mm_m40.1 5 = some (5, .iload 4, 7, []) := rfl
theorem k40_7 : mm_lk mm_m40.1 7 = some (7, .bipush 32, 9, []) := rfl
theorem k40_9 : mm_lk mm_m40.1 9 = some (9, .if_icmp .ge 40, 12, [49]) := rfl
theorem k40_12 : mm_lk mm_m40.1 12 = some (12, .aload_n 0, 13, []) := rfl
theorem k40_13 : mm_lk mm_m40.1 13 = some (13, .getfield 21, 16, [0, 5, 1, 232]) := rfl
theorem k40_16 : mm_lk mm_m40.1 16 = some (16, .iload 4, 18, []) := rfl
theorem k40_18 : mm_lk mm_m40.1 18 = some (18, .invokestatic 60, 21, [6, 159, 2, 714, 715, 132, 0]) := rfl
theorem k40_21 : mm_lk mm_m40.1 21 = some (21, .ifCond .eq 22, 24, [43]) := rfl
theorem k40_24 : mm_lk mm_m40.1 24 = some (24, .aload_n 0, 25, []) := rfl
theorem k40_25 : mm_lk mm_m40.1 25 = some (25, .iload 4, 27, []) := rfl
theorem k40_27 : mm_lk mm_m40.1 27 = some (27, .iload_n 2, 28, []) := rfl
theorem k40_28 : mm_lk mm_m40.1 28 = some (28, .invokevirtual 88, 31, [0, 39, 3, 5, 1558, 918, 919, 134]) := rfl
theorem k40_31 : mm_lk mm_m40.1 31 = some (31, .iload_n 1, 32, []) := rfl
theorem k40_32 : mm_lk mm_m40.1 32 = some (32, .if_icmp .ne 11, 35, [43]) := rfl
theorem k40_35 : mm_lk mm_m40.1 35 = some (35, .iload_n 3, 36, []) := rfl
theorem k40_36 : mm_lk mm_m40.1 36 = some (36, .iload 4, 38, []) := rfl
theorem k40_38 : mm_lk mm_m40.1 38 = some (38, .invokestatic 73, 41, [6, 160, 1, 721, 722, 132, 0]) := rfl
theorem k40_41 : mm_lk mm_m40.1 41 = some (41, .ior, 42, []) := rfl
theorem k40_42 : mm_lk mm_m40.1 42 = some (42, .istore_n 3, 43, []) := rfl
theorem k40_43 : mm_lk mm_m40.1 43 = some (43, .iinc 4 1, 46, []) := rfl
theorem k40_46 : mm_lk mm_m40.1 46 = some (46, .goto (-41), 49, [5]) := rfl
theorem k40_49 : mm_lk mm_m40.1 49 = some (49, .iload_n 3, 50, []) := rfl
theorem k40_50 : mm_lk mm_m40.1 50 = some (50, .ireturn, 51, []) := rfl
theorem k43_0 : mm_lk mm_m43.1 0 = some (0, .aload_n 0, 1, []) := rfl
theorem k43_1 : mm_lk mm_m43.1 1 = some (1, .iconst 0, 2, []) := rfl
theorem k43_2 : mm_lk mm_m43.1 2 = some (2, .putfield 24, 5, [0, 6, 4, 789]) := rfl
theorem k43_5 : mm_lk mm_m43.1 5 = some (5, .iconst 0, 6, []) := rfl
theorem k43_6 : mm_lk mm_m43.1 6 = some (6, .istore_n 1, 7, []) := rfl
theorem k43_7 : mm_lk mm_m43.1 7 = some (7, .iload_n 1, 8, []) := rfl
theorem k43_8 : mm_lk mm_m43.1 8 = some (8, .bipush 7, 10, []) := rfl
theorem k43_10 : mm_lk mm_m43.1 10 = some (10, .if_icmp .ge 18, 13, [28]) := rfl
theorem k43_13 : mm_lk mm_m43.1 13 = some (13, .aload_n 0, 14, []) := rfl
theorem k43_14 : mm_lk mm_m43.1 14 = some (14, .getfield 21, 17, [0, 6, 3, 787]) := rfl
theorem k43_17 : mm_lk mm_m43.1 17 = some (17, .iload_n 1, 18, []) := rfl
theorem k43_18 : mm_lk mm_m43.1 18 = some (18, .iconst 0, 19, []) := rfl
theorem k43_19 : mm_lk mm_m43.1 19 = some (19, .invokestatic 28, 22, [6, 157, 3, 839, 449, 132, 0]) := rfl
theorem k43_22 : mm_lk mm_m43.1 22 = some (22, .iinc 1 1, 25, []) := rfl
theorem k43_25 : mm_lk mm_m43.1 25 = some (25, .goto (-18), 28, [7]) := rfl
theorem k43_28 : mm_lk mm_m43.1 28 = some (28, .return_, 29, []) := rfl
theorem k44_0 : mm_lk mm_m44.1 0 = some (0, .aload_n 1, 1, []) := rfl
theorem k44_1 : mm_lk mm_m44.1 1 = some (1, .getfield 9, 4, [0, 6, 0, 784]) := rfl
theorem k44_4 : mm_lk mm_m44.1 4 = some (4, .aload_n 0, 5, []) := rfl
theorem k44_5 : mm_lk mm_m44.1 5 = some (5, .getfield 9, 8, [0, 6, 0, 784]) := rfl
theorem k44_8 : mm_lk mm_m44.1 8 = some (8, .invokestatic 32, 11, [6, 158, 2, 1034, 1019, 132, 0]) := rfl
theorem k44_11 : mm_lk mm_m44.1 11 = some (11, .aload_n 1, 12, []) := rfl
theorem k44_12 : mm_lk mm_m44.1 12 = some (12, .getfield 15, 15, [0, 6, 1, 785]) := rfl
theorem k44_15 : mm_lk mm_m44.1 15 = some (15, .aload_n 0, 16, []) := rfl
theorem k44_16 : mm_lk mm_m44.1 16 = some (16, .getfield 15, 19, [0, 6, 1, 785]) := rfl
theorem k44_19 : mm_lk mm_m44.1 19 = some (19, .invokestatic 32, 22, [6, 158, 2, 1034, 1019, 132, 0]) := rfl
theorem k44_22 : mm_lk mm_m44.1 22 = some (22, .aload_n 1, 23, []) := rfl
theorem k44_23 : mm_lk mm_m44.1 23 = some (23, .getfield 18, 26, [0, 6, 2, 786]) := rfl
theorem k44_26 : mm_lk mm_m44.1 26 = some (26, .aload_n 0, 27, []) := rfl
theorem k44_27 : mm_lk mm_m44.1 27 = some (27, .getfield 18, 30, [0, 6, 2, 786]) := rfl
theorem k44_30 : mm_lk mm_m44.1 30 = some (30, .invokestatic 32, 33, [6, 158, 2, 1034, 1019, 132, 0]) := rfl
theorem k44_33 : mm_lk mm_m44.1 33 = some (33, .aload_n 1, 34, []) := rfl
theorem k44_34 : mm_lk mm_m44.1 34 = some (34, .getfield 21, 37, [0, 6, 3, 787]) := rfl
theorem k44_37 : mm_lk mm_m44.1 37 = some (37, .aload_n 0, 38, []) := rfl
theorem k44_38 : mm_lk mm_m44.1 38 = some (38, .getfield 21, 41, [0, 6, 3, 787]) := rfl
theorem k44_41 : mm_lk mm_m44.1 41 = some (41, .invokestatic 32, 44, [6, 158, 2, 1034, 1019, 132, 0]) := rfl
theorem k44_44 : mm_lk mm_m44.1 44 = some (44, .aload_n 0, 45, []) := rfl
theorem k44_45 : mm_lk mm_m44.1 45 = some (45, .aload_n 1, 46, []) := rfl
theorem k44_46 : mm_lk mm_m44.1 46 = some (46, .getfield 24, 49, [0, 6, 4, 789]) := rfl
theorem k44_49 : mm_lk mm_m44.1 49 = some (49, .putfield 24, 52, [0, 6, 4, 789]) := rfl
theorem k44_52 : mm_lk mm_m44.1 52 = some (52, .return_, 53, []) := rfl
theorem k46_0 : mm_lk mm_m46.1 0 = some (0, .iload_n 1, 1, []) := rfl
theorem k46_1 : mm_lk mm_m46.1 1 = some (1, .ifCond .lt 11, 4, [12]) := rfl
theorem k46_4 : mm_lk mm_m46.1 4 = some (4, .iload_n 1, 5, []) := rfl
theorem k46_5 : mm_lk mm_m46.1 5 = some (5, .aload_n 0, 6, []) := rfl
theorem k46_6 : mm_lk mm_m46.1 6 = some (6, .getfield 24, 9, [0, 6, 4, 789]) := rfl
theorem k46_9 : mm_lk mm_m46.1 9 = some (9, .if_icmp .lt 5, 12, [14]) := rfl
theorem k46_12 : mm_lk mm_m46.1 12 = some (12, .iconst (-1), 13, []) := rfl
theorem k46_13 : mm_lk mm_m46.1 13 = some (13, .ireturn, 14, []) := rfl
theorem k46_14 : mm_lk mm_m46.1 14 = some (14, .iload_n 2, 15, []) := rfl
theorem k46_15 : mm_lk mm_m46.1 15 = some (15, .ifCond .ne 10, 18, [25]) := rfl
theorem k46_18 : mm_lk mm_m46.1 18 = some (18, .aload_n 0, 19, []) := rfl
theorem k46_19 : mm_lk mm_m46.1 19 = some (19, .getfield 9, 22, [0, 6, 0, 784]) := rfl
theorem k46_22 : mm_lk mm_m46.1 22 = some (22, .goto 19, 25, [41]) := rfl
theorem k46_25 : mm_lk mm_m46.1 25 = some (25, .iload_n 2, 26, []) := rfl
theorem k46_26 : mm_lk mm_m46.1 26 = some (26, .iconst 1, 27, []) := rfl
theorem k46_27 : mm_lk mm_m46.1 27 = some (27, .if_icmp .ne 10, 30, [37]) := rfl
theorem k46_30 : mm_lk mm_m46.1 30 = some (30, .aload_n 0, 31, []) := rfl
theorem k46_31 : mm_lk mm_m46.1 31 = some (31, .getfield 15, 34, [0, 6, 1, 785]) := rfl
theorem k46_34 : mm_lk mm_m46.1 34 = some (34, .goto 7, 37, [41]) := rfl
theorem k46_37 : mm_lk mm_m46.1 37 = some (37, .aload_n 0, 38, []) := rfl
theorem k46_38 : mm_lk mm_m46.1 38 = some (38, .getfield 18, 41, [0, 6, 2, 786]) := rfl
theorem k46_41 : mm_lk mm_m46.1 41 = some (41, .iload_n 1, 42, []) := rfl
theorem k46_42 : mm_lk mm_m46.1 42 = some (42, .invokestatic 46, 45, [6, 156, 2, 1052, 568, 132, 0]) := rfl
theorem k46_45 : mm_lk mm_m46.1 45 = some (45, .ireturn, 46, []) := rfl
theorem k49_0 : mm_lk mm_m49.1 0 = some (0, .aload_n 0, 1, []) := rfl
theorem k49_1 : mm_lk mm_m49.1 1 = some (1, .getfield 21, 4, [0, 7, 1, 471]) := rfl
theorem k49_4 : mm_lk mm_m49.1 4 = some (4, .aload_n 0, 5, []) := rfl
theorem k49_5 : mm_lk mm_m49.1 5 = some (5, .getfield 15, 8, [0, 7, 0, 470]) := rfl
theorem k49_8 : mm_lk mm_m49.1 8 = some (8, .arraylength, 9, []) := rfl
theorem k49_9 : mm_lk mm_m49.1 9 = some (9, .if_icmp .lt 7, 12, [16]) := rfl
theorem k49_12 : mm_lk mm_m49.1 12 = some (12, .iconst 1, 13, []) := rfl
theorem k49_13 : mm_lk mm_m49.1 13 = some (13, .goto 4, 16, [17]) := rfl
theorem k49_16 : mm_lk mm_m49.1 16 = some (16, .iconst 0, 17, []) := rfl
theorem k49_17 : mm_lk mm_m49.1 17 = some (17, .ireturn, 18, []) := rfl
theorem k52_0 : mm_lk mm_m52.1 0 = some (0, .iload_n 2, 1, []) := rfl
theorem k52_1 : mm_lk mm_m52.1 1 = some (1, .ifCond .lt 9, 4, [10]) := rfl
theorem k52_4 : mm_lk mm_m52.1 4 = some (4, .iload_n 2, 5, []) := rfl
theorem k52_5 : mm_lk mm_m52.1 5 = some (5, .bipush 6, 7, []) := rfl
theorem k52_7 : mm_lk mm_m52.1 7 = some (7, .if_icmp .lt 5, 10, [12]) := rfl
theorem k52_10 : mm_lk mm_m52.1 10 = some (10, .iconst (-1), 11, []) := rfl
theorem k52_11 : mm_lk mm_m52.1 11 = some (11, .ireturn, 12, []) := rfl
theorem k52_12 : mm_lk mm_m52.1 12 = some (12, .aload_n 0, 13, []) := rfl
theorem k52_13 : mm_lk mm_m52.1 13 = some (13, .getfield 15, 16, [0, 7, 0, 470]) := rfl
theorem k52_16 : mm_lk mm_m52.1 16 = some (16, .iload_n 1, 17, []) := rfl
theorem k52_17 : mm_lk mm_m52.1 17 = some (17, .invokestatic 29, 20, [6, 156, 2, 1395, 568, 132, 0]) := rfl
theorem k52_20 : mm_lk mm_m52.1 20 = some (20, .iconst 5, 21, []) := rfl
theorem k52_21 : mm_lk mm_m52.1 21 = some (21, .iload_n 2, 22, []) := rfl
theorem k52_22 : mm_lk mm_m52.1 22 = some (22, .imul, 23, []) := rfl
theorem k52_23 : mm_lk mm_m52.1 23 = some (23, .iushr, 24, []) := rfl
theorem k52_24 : mm_lk mm_m52.1 24 = some (24, .bipush 31, 26, []) := rfl
theorem k52_26 : mm_lk mm_m52.1 26 = some (26, .iand, 27, []) := rfl
theorem k52_27 : mm_lk mm_m52.1 27 = some (27, .istore_n 3, 28, []) := rfl
theorem k52_28 : mm_lk mm_m52.1 28 = some (28, .iload_n 3, 29, []) := rfl
theorem k52_29 : mm_lk mm_m52.1 29 = some (29, .ifCond .ne 7, 32, [36]) := rfl
theorem k52_32 : mm_lk mm_m52.1 32 = some (32, .iconst (-1), 33, []) := rfl
theorem k52_33 : mm_lk mm_m52.1 33 = some (33, .goto 7, 36, [40]) := rfl
theorem k52_36 : mm_lk mm_m52.1 36 = some (36, .iload_n 3, 37, []) := rfl
theorem k52_37 : mm_lk mm_m52.1 37 = some (37, .bipush 96, 39, []) := rfl
theorem k52_39 : mm_lk mm_m52.1 39 = some (39, .iadd, 40, []) := rfl
theorem k52_40 : mm_lk mm_m52.1 40 = some (40, .ireturn, 41, []) := rfl
theorem k65_0 : mm_lk mm_m65.1 0 = some (0, .aload_n 0, 1, []) := rfl
theorem k65_1 : mm_lk mm_m65.1 1 = some (1, .iconst 0, 2, []) := rfl
theorem k65_2 : mm_lk mm_m65.1 2 = some (2, .putfield 50, 5, [0, 11, 10, 195]) := rfl
theorem k65_5 : mm_lk mm_m65.1 5 = some (5, .aload_n 0, 6, []) := rfl
theorem k65_6 : mm_lk mm_m65.1 6 = some (6, .iconst (-1), 7, []) := rfl
theorem k65_7 : mm_lk mm_m65.1 7 = some (7, .putfield 24, 10, [0, 11, 11, 197]) := rfl
theorem k65_10 : mm_lk mm_m65.1 10 = some (10, .aload_n 0, 11, []) := rfl
theorem k65_11 : mm_lk mm_m65.1 11 = some (11, .iconst 0, 12, []) := rfl
theorem k65_12 : mm_lk mm_m65.1 12 = some (12, .putfield 53, 15, [0, 11, 5, 184]) := rfl
theorem k65_15 : mm_lk mm_m65.1 15 = some (15, .iconst 0, 16, []) := rfl
theorem k65_16 : mm_lk mm_m65.1 16 = some (16, .istore_n 1, 17, []) := rfl
theorem k65_17 : mm_lk mm_m65.1 17 = some (17, .iconst 0, 18, []) := rfl
theorem k65_18 : mm_lk mm_m65.1 18 = some (18, .istore_n 2, 19, []) := rfl
theorem k65_19 : mm_lk mm_m65.1 19 = some (19, .iload_n 2, 20, []) := rfl
theorem k65_20 : mm_lk mm_m65.1 20 = some (20, .sipush 600, 23, []) := rfl
theorem k65_23 : mm_lk mm_m65.1 23 = some (23, .if_icmp .ge 23, 26, [46]) := rfl
theorem k65_26 : mm_lk mm_m65.1 26 = some (26, .iload_n 1, 27, []) := rfl
theorem k65_27 : mm_lk mm_m65.1 27 = some (27, .aload_n 0, 28, []) := rfl
theorem k65_28 : mm_lk mm_m65.1 28 = some (28, .getfield 40, 31, [0, 11, 4, 183]) := rfl
theorem k65_31 : mm_lk mm_m65.1 31 = some (31, .if_icmp .ge 15, 34, [46]) := rfl
theorem k65_34 : mm_lk mm_m65.1 34 = some (34, .aload_n 0, 35, []) := rfl
theorem k65_35 : mm_lk mm_m65.1 35 = some (35, .iload_n 1, 36, []) := rfl
theorem k65_36 : mm_lk mm_m65.1 36 = some (36, .invokevirtual 56, 39, [0, 67, 2, 11, 524, 526, 6, 133]) := rfl
theorem k65_39 : mm_lk mm_m65.1 39 = some (39, .istore_n 1, 40, []) := rfl
theorem k65_40 : mm_lk mm_m65.1 40 = some (40, .iinc 2 1, 43, []) := rfl
theorem k65_43 : mm_lk mm_m65.1 43 = some (43, .goto (-24), 46, [19]) := rfl
theorem k65_46 : mm_lk mm_m65.1 46 = some (46, .aload_n 0, 47, []) := rfl
theorem k65_47 : mm_lk mm_m65.1 47 = some (47, .sipush 267, 50, []) := rfl
theorem k65_50 : mm_lk mm_m65.1 50 = some (50, .aload_n 0, 51, []) := rfl
theorem k65_51 : mm_lk mm_m65.1 51 = some (51, .getfield 40, 54, [0, 11, 4, 183]) := rfl
theorem k65_54 : mm_lk mm_m65.1 54 = some (54, .iconst 0, 55, []) := rfl
theorem k65_55 : mm_lk mm_m65.1 55 = some (55, .invokevirtual 60, 58, [0, 73, 4, 11, 536, 538, 9, 133]) := rfl
theorem k65_58 : mm_lk mm_m65.1 58 = some (58, .aload_n 0, 59, []) := rfl
theorem k65_59 : mm_lk mm_m65.1 59 = some (59, .iconst (-1), 60, []) := rfl
theorem k65_60 : mm_lk mm_m65.1 60 = some (60, .putfield 64, 63, [0, 11, 6, 185]) := rfl
theorem k65_63 : mm_lk mm_m65.1 63 = some (63, .aload_n 0, 64, []) := rfl
theorem k65_64 : mm_lk mm_m65.1 64 = some (64, .invokevirtual 67, 67, [0, 74, 1, 11, 563, 564, 565, 133]) := rfl
theorem k65_67 : mm_lk mm_m65.1 67 = some (67, .return_, 68, []) := rfl
theorem k67_0 : mm_lk mm_m67.1 0 = some (0, .aload_n 0, 1, []) := rfl
theorem k67_1 : mm_lk mm_m67.1 1 = some (1, .iload_n 1, 2, []) := rfl
theorem k67_2 : mm_lk mm_m67.1 2 = some (2, .invokevirtual 70, 5, [0, 72, 2, 11, 528, 530, 7, 133]) := rfl
theorem k67_5 : mm_lk mm_m67.1 5 = some (5, .bipush 32, 7, []) := rfl
theorem k67_7 : mm_lk mm_m67.1 7 = some (7, .if_icmp .ne 7, 10, [14]) := rfl
theorem k67_10 : mm_lk mm_m67.1 10 = some (10, .iload_n 1, 11, []) := rfl
theorem k67_11 : mm_lk mm_m67.1 11 = some (11, .iconst 1, 12, []) := rfl
theorem k67_12 : mm_lk mm_m67.1 12 = some (12, .iadd, 13, []) := rfl
theorem k67_13 : mm_lk mm_m67.1 13 = some (13, .ireturn, 14, []) := rfl
theorem k67_14 : mm_lk mm_m67.1 14 = some (14, .iconst 0, 15, []) := rfl
theorem k67_15 : mm_lk mm_m67.1 15 = some (15, .istore_n 2, 16, []) := rfl
theorem k67_16 : mm_lk mm_m67.1 16 = some (16, .iload_n 1, 17, []) := rfl
theorem k67_17 : mm_lk mm_m67.1 17 = some (17, .iload_n 2, 18, []) := rfl
theorem k67_18 : mm_lk mm_m67.1 18 = some (18, .iadd, 19, []) := rfl
theorem k67_19 : mm_lk mm_m67.1 19 = some (19, .aload_n 0, 20, []) := rfl
theorem k67_20 : mm_lk mm_m67.1 20 = some (20, .getfield 40, 23, [0, 11, 4, 183]) := rfl
theorem k67_23 : mm_lk mm_m67.1 23 = some (23, .if_icmp .ge 19, 26, [42]) := rfl
theorem k67_26 : mm_lk mm_m67.1 26 = some (26, .aload_n 0, 27, []) := rfl
theorem k67_27 : mm_lk mm_m67.1 27 = some (27, .iload_n 1, 28, []) := rfl
theorem k67_28 : mm_lk mm_m67.1 28 = some (28, .iload_n 2, 29, []) := rfl
theorem k67_29 : mm_lk mm_m67.1 29 = some (29, .iadd, 30, []) := rfl
theorem k67_30 : mm_lk mm_m67.1 30 = some (30, .invokevirtual 73, 33, [0, 71, 2, 11, 532, 534, 8, 133]) := rfl
theorem k67_33 : mm_lk mm_m67.1 33 = some (33, .ifCond .eq 9, 36, [42]) := rfl
theorem k67_36 : mm_lk mm_m67.1 36 = some (36, .iinc 2 1, 39, []) := rfl
theorem k67_39 : mm_lk mm_m67.1 39 = some (39, .goto (-23), 42, [16]) := rfl
theorem k67_42 : mm_lk mm_m67.1 42 = some (42, .iload_n 2, 43, []) := rfl
theorem k67_43 : mm_lk mm_m67.1 43 = some (43, .ifCond .ne 18, 46, [61]) := rfl
theorem k67_46 : mm_lk mm_m67.1 46 = some (46, .aload_n 0, 47, []) := rfl
theorem k67_47 : mm_lk mm_m67.1 47 = some (47, .aload_n 0, 48, []) := rfl
theorem k67_48 : mm_lk mm_m67.1 48 = some (48, .iload_n 1, 49, []) := rfl
theorem k67_49 : mm_lk mm_m67.1 49 = some (49, .invokevirtual 70, 52, [0, 72, 2, 11, 528, 530, 7, 133]) := rfl
theorem k67_52 : mm_lk mm_m67.1 52 = some (52, .iload_n 1, 53, []) := rfl
theorem k67_53 : mm_lk mm_m67.1 53 = some (53, .iconst 0, 54, []) := rfl
theorem k67_54 : mm_lk mm_m67.1 54 = some (54, .invokevirtual 60, 57, [0, 73, 4, 11, 536, 538, 9, 133]) := rfl
theorem k67_57 : mm_lk mm_m67.1 57 = some (57, .iload_n 1, 58, []) := rfl
theorem k67_58 : mm_lk mm_m67.1 58 = some (58, .iconst 1, 59, []) := rfl
theorem k67_59 : mm_lk mm_m67.1 59 = some (59, .iadd, 60, []) := rfl
theorem k67_60 : mm_lk mm_m67.1 60 = some (60, .ireturn, 61, []) := rfl
theorem k67_61 : mm_lk mm_m67.1 61 = some (61, .iload_n 2, 62, []) := rfl
theorem k67_62 : mm_lk mm_m67.1 62 = some (62, .bipush 6, 64, []) := rfl
theorem k67_64 : mm_lk mm_m67.1 64 = some (64, .if_icmp .le 9, 67, [73]) := rfl
theorem k67_67 : mm_lk mm_m67.1 67 = some (67, .sipush 266, 70, []) := rfl
theorem k67_70 : mm_lk mm_m67.1 70 = some (70, .goto 8, 73, [78]) := rfl
theorem k67_73 : mm_lk mm_m67.1 73 = some (73, .aload_n 0, 74, []) := rfl
theorem k67_74 : mm_lk mm_m67.1 74 = some (74, .iload_n 1, 75, []) := rfl
theorem k67_75 : mm_lk mm_m67.1 75 = some (75, .invokevirtual 77, 78, [0, 68, 2, 11, 540, 542, 10, 133]) := rfl
theorem k67_78 : mm_lk mm_m67.1 78 = some (78, .istore_n 3, 79, []) := rfl
theorem k67_79 : mm_lk mm_m67.1 79 = some (79, .aload_n 0, 80, []) := rfl
theorem k67_80 : mm_lk mm_m67.1 80 = some (80, .iload_n 3, 81, []) := rfl
theorem k67_81 : mm_lk mm_m67.1 81 = some (81, .iload_n 1, 82, []) := rfl
theorem k67_82 : mm_lk mm_m67.1 82 = some (82, .iload_n 3, 83, []) := rfl
theorem k67_83 : mm_lk mm_m67.1 83 = some (83, .sipush 256, 86, []) := rfl
theorem k67_86 : mm_lk mm_m67.1 86 = some (86, .if_icmp .ne 11, 89, [97]) := rfl
theorem k67_89 : mm_lk mm_m67.1 89 = some (89, .aload_n 0, 90, []) := rfl
theorem k67_90 : mm_lk mm_m67.1 90 = some (90, .iload_n 1, 91, []) := rfl
theorem k67_91 : mm_lk mm_m67.1 91 = some (91, .invokevirtual 80, 94, [0, 69, 2, 11, 559, 561, 12, 133]) := rfl
theorem k67_94 : mm_lk mm_m67.1 94 = some (94, .goto 4, 97, [98]) := rfl
theorem k67_97 : mm_lk mm_m67.1 97 = some (97, .iconst 0, 98, []) := rfl
theorem k67_98 : mm_lk mm_m67.1 98 = some (98, .invokevirtual 60, 101, [0, 73, 4, 11, 536, 538, 9, 133]) := rfl
theorem k67_101 : mm_lk mm_m67.1 101 = some (101, .iload_n 1, 102, []) := rfl
theorem k67_102 : mm_lk mm_m67.1 102 = some (102, .iload_n 2, 103, []) := rfl
theorem k67_103 : mm_lk mm_m67.1 103 = some (103, .iadd, 104, []) := rfl
theorem k67_104 : mm_lk mm_m67.1 104 = some (104, .ireturn, 105, []) := rfl
theorem k68_0 : mm_lk mm_m68.1 0 = some (0, .iconst 1, 1, []) := rfl
theorem k68_1 : mm_lk mm_m68.1 1 = some (1, .istore_n 2, 2, []) := rfl
theorem k68_2 : mm_lk mm_m68.1 2 = some (2, .iload_n 2, 3, []) := rfl
theorem k68_3 : mm_lk mm_m68.1 3 = some (3, .bipush 7, 5, []) := rfl
theorem k68_5 : mm_lk mm_m68.1 5 = some (5, .if_icmp .gt 27, 8, [32]) := rfl
theorem k68_8 : mm_lk mm_m68.1 8 = some (8, .aload_n 0, 9, []) := rfl
theorem k68_9 : mm_lk mm_m68.1 9 = some (9, .iload_n 1, 10, []) := rfl
theorem k68_10 : mm_lk mm_m68.1 10 = some (10, .iload_n 2, 11, []) := rfl
theorem k68_11 : mm_lk mm_m68.1 11 = some (11, .invokestatic 83, 14, [6, 167, 1, 544, 545, 132, 0]) := rfl
theorem k68_14 : mm_lk mm_m68.1 14 = some (14, .invokevirtual 87, 17, [0, 70, 3, 11, 554, 556, 11, 133]) := rfl
theorem k68_17 : mm_lk mm_m68.1 17 = some (17, .ifCond .eq 9, 20, [26]) := rfl
theorem k68_20 : mm_lk mm_m68.1 20 = some (20, .sipush 256, 23, []) := rfl
theorem k68_23 : mm_lk mm_m68.1 23 = some (23, .iload_n 2, 24, []) := rfl
theorem k68_24 : mm_lk mm_m68.1 24 = some (24, .iadd, 25, []) := rfl
theorem k68_25 : mm_lk mm_m68.1 25 = some (25, .ireturn, 26, []) := rfl
theorem k68_26 : mm_lk mm_m68.1 26 = some (26, .iinc 2 1, 29, []) := rfl
theorem k68_29 : mm_lk mm_m68.1 29 = some (29, .goto (-27), 32, [2]) := rfl
theorem k68_32 : mm_lk mm_m68.1 32 = some (32, .aload_n 0, 33, []) := rfl
theorem k68_33 : mm_lk mm_m68.1 33 = some (33, .iload_n 1, 34, []) := rfl
theorem k68_34 : mm_lk mm_m68.1 34 = some (34, .ldc 91, 36, [1, 20, 558]) := rfl
theorem k68_36 : mm_lk mm_m68.1 36 = some (36, .invokevirtual 87, 39, [0, 70, 3, 11, 554, 556, 11, 133]) := rfl
theorem k68_39 : mm_lk mm_m68.1 39 = some (39, .ifCond .eq 9, 42, [48]) := rfl
theorem k68_42 : mm_lk mm_m68.1 42 = some (42, .sipush 265, 45, []) := rfl
theorem k68_45 : mm_lk mm_m68.1 45 = some (45, .goto 6, 48, [51]) := rfl
theorem k68_48 : mm_lk mm_m68.1 48 = some (48, .sipush 256, 51, []) := rfl
theorem k68_51 : mm_lk mm_m68.1 51 = some (51, .ireturn, 52, []) := rfl
theorem k69_0 : mm_lk mm_m69.1 0 = some (0, .iconst 0, 1, []) := rfl
theorem k69_1 : mm_lk mm_m69.1 1 = some (1, .istore_n 2, 2, []) := rfl
theorem k69_2 : mm_lk mm_m69.1 2 = some (2, .iconst 0, 3, []) := rfl
theorem k69_3 : mm_lk mm_m69.1 3 = some (3, .istore_n 3, 4, []) := rfl
theorem k69_4 : mm_lk mm_m69.1 4 = some (4, .iload_n 3, 5, []) := rfl
theorem k69_5 : mm_lk mm_m69.1 5 = some (5, .bipush 6, 7, []) := rfl
theorem k69_7 : mm_lk mm_m69.1 7 = some (7, .if_icmp .ge 36, 10, [43]) := rfl
theorem k69_10 : mm_lk mm_m69.1 10 = some (10, .aload_n 0, 11, []) := rfl
theorem k69_11 : mm_lk mm_m69.1 11 = some (11, .iload_n 1, 12, []) := rfl
theorem k69_12 : mm_lk mm_m69.1 12 = some (12, .iload_n 3, 13, []) := rfl
theorem k69_13 : mm_lk mm_m69.1 13 = some (13, .iadd, 14, []) := rfl
theorem k69_14 : mm_lk mm_m69.1 14 = some (14, .invokevirtual 73, 17, [0, 71, 2, 11, 532, 534, 8, 133]) := rfl
theorem k69_17 : mm_lk mm_m69.1 17 = some (17, .ifCond .eq 26, 20, [43]) := rfl
theorem k69_20 : mm_lk mm_m69.1 20 = some (20, .iload_n 2, 21, []) := rfl
theorem k69_21 : mm_lk mm_m69.1 21 = some (21, .aload_n 0, 22, []) := rfl
theorem k69_22 : mm_lk mm_m69.1 22 = some (22, .iload_n 1, 23, []) := rfl
theorem k69_23 : mm_lk mm_m69.1 23 = some (23, .iload_n 3, 24, []) := rfl
theorem k69_24 : mm_lk mm_m69.1 24 = some (24, .iadd, 25, []) := rfl
theorem k69_25 : mm_lk mm_m69.1 25 = some (25, .invokevirtual 70, 28, [0, 72, 2, 11, 528, 530, 7, 133]) := rfl
theorem k69_28 : mm_lk mm_m69.1 28 = some (28, .bipush 96, 30, []) := rfl
theorem k69_30 : mm_lk mm_m69.1 30 = some (30, .isub, 31, []) := rfl
theorem k69_31 : mm_lk mm_m69.1 31 = some (31, .iconst 5, 32, []) := rfl
theorem k69_32 : mm_lk mm_m69.1 32 = some (32, .iload_n 3, 33, []) := rfl
theorem k69_33 : mm_lk mm_m69.1 33 = some (33, .imul, 34, []) := rfl
theorem k69_34 : mm_lk mm_m69.1 34 = some (34, .ishl, 35, []) := rfl
theorem k69_35 : mm_lk mm_m69.1 35 = some (35, .ior, 36, []) := rfl
theorem k69_36 : mm_lk mm_m69.1 36 = some (36, .istore_n 2, 37, []) := rfl
theorem k69_37 : mm_lk mm_m69.1 37 = some (37, .iinc 3 1, 40, []) := rfl
theorem k69_40 : mm_lk mm_m69.1 40 = some (40, .goto (-36), 43, [4]) := rfl
theorem k69_43 : mm_lk mm_m69.1 43 = some (43, .iload_n 2, 44, []) := rfl
theorem k69_44 : mm_lk mm_m69.1 44 = some (44, .ireturn, 45, []) := rfl
theorem k73_0 : mm_lk mm_m73.1 0 = some (0, .aload_n 0, 1, []) := rfl
theorem k73_1 : mm_lk mm_m73.1 1 = some (1, .getfield 15, 4, [0, 11, 1, 179]) := rfl
theorem k73_4 : mm_lk mm_m73.1 4 = some (4, .aload_n 0, 5, []) := rfl
theorem k73_5 : mm_lk mm_m73.1 5 = some (5, .getfield 53, 8, [0, 11, 5, 184]) := rfl
theorem k73_8 : mm_lk mm_m73.1 8 = some (8, .iload_n 1, 9, []) := rfl
theorem k73_9 : mm_lk mm_m73.1 9 = some (9, .invokestatic 46, 12, [6, 157, 3, 448, 449, 132, 0]) := rfl
theorem k73_12 : mm_lk mm_m73.1 12 = some (12, .aload_n 0, 13, []) := rfl
theorem k73_13 : mm_lk mm_m73.1 13 = some (13, .getfield 18, 16, [0, 11, 2, 180]) := rfl
theorem k73_16 : mm_lk mm_m73.1 16 = some (16, .aload_n 0, 17, []) := rfl
theorem k73_17 : mm_lk mm_m73.1 17 = some (17, .getfield 53, 20, [0, 11, 5, 184]) := rfl
theorem k73_20 : mm_lk mm_m73.1 20 = some (20, .iload_n 2, 21, []) := rfl
theorem k73_21 : mm_lk mm_m73.1 21 = some (21, .invokestatic 46, 24, [6, 157, 3, 448, 449, 132, 0]) := rfl
theorem k73_24 : mm_lk mm_m73.1 24 = some (24, .aload_n 0, 25, []) := rfl
theorem k73_25 : mm_lk mm_m73.1 25 = some (25, .getfield 21, 28, [0, 11, 3, 181]) := rfl
theorem k73_28 : mm_lk mm_m73.1 28 = some (28, .aload_n 0, 29, []) := rfl
theorem k73_29 : mm_lk mm_m73.1 29 = some (29, .getfield 53, 32, [0, 11, 5, 184]) := rfl
theorem k73_32 : mm_lk mm_m73.1 32 = some (32, .iload_n 3, 33, []) := rfl
theorem k73_33 : mm_lk mm_m73.1 33 = some (33, .invokestatic 46, 36, [6, 157, 3, 448, 449, 132, 0]) := rfl
theorem k73_36 : mm_lk mm_m73.1 36 = some (36, .aload_n 0, 37, []) := rfl
theorem k73_37 : mm_lk mm_m73.1 37 = some (37, .dup, 38, []) := rfl
theorem k73_38 : mm_lk mm_m73.1 38 = some (38, .getfield 53, 41, [0, 11, 5, 184]) := rfl
theorem k73_41 : mm_lk mm_m73.1 41 = some (41, .iconst 1, 42, []) := rfl
theorem k73_42 : mm_lk mm_m73.1 42 = some (42, .iadd, 43, []) := rfl
theorem k73_43 : mm_lk mm_m73.1 43 = some (43, .putfield 53, 46, [0, 11, 5, 184]) := rfl
theorem k73_46 : mm_lk mm_m73.1 46 = some (46, .return_, 47, []) := rfl
theorem k74_0 : mm_lk mm_m74.1 0 = some (0, .aload_n 0, 1, []) := rfl
theorem k74_1 : mm_lk mm_m74.1 1 = some (1, .aload_n 0, 2, []) := rfl
theorem k74_2 : mm_lk mm_m74.1 2 = some (2, .getfield 64, 5, [0, 11, 6, 185]) := rfl
theorem k74_5 : mm_lk mm_m74.1 5 = some (5, .iconst 1, 6, []) := rfl
theorem k74_6 : mm_lk mm_m74.1 6 = some (6, .iadd, 7, []) := rfl
theorem k74_7 : mm_lk mm_m74.1 7 = some (7, .aload_n 0, 8, []) := rfl
theorem k74_8 : mm_lk mm_m74.1 8 = some (8, .getfield 53, 11, [0, 11, 5, 184]) := rfl
theorem k74_11 : mm_lk mm_m74.1 11 = some (11, .iconst 1, 12, []) := rfl
theorem k74_12 : mm_lk mm_m74.1 12 = some (12, .isub, 13, []) := rfl
theorem k74_13 : mm_lk mm_m74.1 13 = some (13, .invokestatic 34, 16, [12, 407]) := rfl
theorem k74_16 : mm_lk mm_m74.1 16 = some (16, .putfield 64, 19, [0, 11, 6, 185]) := rfl
theorem k74_19 : mm_lk mm_m74.1 19 = some (19, .aload_n 0, 20, []) := rfl
theorem k74_20 : mm_lk mm_m74.1 20 = some (20, .aload_n 0, 21, []) := rfl
theorem k74_21 : mm_lk mm_m74.1 21 = some (21, .getfield 15, 24, [0, 11, 1, 179]) := rfl
theorem k74_24 : mm_lk mm_m74.1 24 = some (24, .aload_n 0, 25, []) := rfl
theorem k74_25 : mm_lk mm_m74.1 25 = some (25, .getfield 64, 28, [0, 11, 6, 185]) := rfl
theorem k74_28 : mm_lk mm_m74.1 28 = some (28, .invokestatic 93, 31, [6, 156, 2, 567, 568, 132, 0]) := rfl
theorem k74_31 : mm_lk mm_m74.1 31 = some (31, .putfield 97, 34, [0, 11, 7, 189]) := rfl
theorem k74_34 : mm_lk mm_m74.1 34 = some (34, .aload_n 0, 35, []) := rfl
theorem k74_35 : mm_lk mm_m74.1 35 = some (35, .aload_n 0, 36, []) := rfl
theorem k74_36 : mm_lk mm_m74.1 36 = some (36, .getfield 18, 39, [0, 11, 2, 180]) := rfl
theorem k74_39 : mm_lk mm_m74.1 39 = some (39, .aload_n 0, 40, []) := rfl
theorem k74_40 : mm_lk mm_m74.1 40 = some (40, .getfield 64, 43, [0, 11, 6, 185]) := rfl
theorem k74_43 : mm_lk mm_m74.1 43 = some (43, .invokestatic 93, 46, [6, 156, 2, 567, 568, 132, 0]) := rfl
theorem k74_46 : mm_lk mm_m74.1 46 = some (46, .putfield 100, 49, [0, 11, 8, 193]) := rfl
theorem k74_49 : mm_lk mm_m74.1 49 = some (49, .aload_n 0, 50, []) := rfl
theorem k74_50 : mm_lk mm_m74.1 50 = some (50, .aload_n 0, 51, []) := rfl
theorem k74_51 : mm_lk mm_m74.1 51 = some (51, .getfield 21, 54, [0, 11, 3, 181]) := rfl
theorem k74_54 : mm_lk mm_m74.1 54 = some (54, .aload_n 0, 55, []) := rfl
theorem k74_55 : mm_lk mm_m74.1 55 = some (55, .getfield 64, 58, [0, 11, 6, 185]) := rfl
theorem k74_58 : mm_lk mm_m74.1 58 = some (58, .invokestatic 93, 61, [6, 156, 2, 567, 568, 132, 0]) := rfl
theorem k74_61 : mm_lk mm_m74.1 61 = some (61, .putfield 103, 64, [0, 11, 9, 194]) := rfl
theorem k74_64 : mm_lk mm_m74.1 64 = some (64, .return_, 65, []) := rfl
theorem k75_0 : mm_lk mm_m75.1 0 = some (0, .aload_n 0, 1, []) := rfl
theorem k75_1 : mm_lk mm_m75.1 1 = some (1, .getfield 50, 4, [0, 11, 10, 195]) := rfl
theorem k75_4 : mm_lk mm_m75.1 4 = some (4, .ifCond .ne 13, 7, [17]) := rfl
theorem k75_7 : mm_lk mm_m75.1 7 = some (7, .aload_n 0, 8, []) := rfl
theorem k75_8 : mm_lk mm_m75.1 8 = some (8, .iload_n 1, 9, []) := rfl
theorem k75_9 : mm_lk mm_m75.1 9 = some (9, .putfield 50, 12, [0, 11, 10, 195]) := rfl
theorem k75_12 : mm_lk mm_m75.1 12 = some (12, .aload_n 0, 13, []) := rfl
theorem k75_13 : mm_lk mm_m75.1 13 = some (13, .iload_n 2, 14, []) := rfl
theorem k75_14 : mm_lk mm_m75.1 14 = some (14, .putfield 24, 17, [0, 11, 11, 197]) := rfl
theorem k75_17 : mm_lk mm_m75.1 17 = some (17, .return_, 18, []) := rfl
theorem k76_0 : mm_lk mm_m76.1 0 = some (0, .aload_n 0, 1, []) := rfl
theorem k76_1 : mm_lk mm_m76.1 1 = some (1, .getfield 50, 4, [0, 11, 10, 195]) := rfl
theorem k76_4 : mm_lk mm_m76.1 4 = some (4, .ifCond .eq 7, 7, [11]) := rfl
theorem k76_7 : mm_lk mm_m76.1 7 = some (7, .iconst 1, 8, []) := rfl
theorem k76_8 : mm_lk mm_m76.1 8 = some (8, .goto 4, 11, [12]) := rfl
theorem k76_11 : mm_lk mm_m76.1 11 = some (11, .iconst 0, 12, []) := rfl
theorem k76_12 : mm_lk mm_m76.1 12 = some (12, .ireturn, 13, []) := rfl
theorem k77_0 : mm_lk mm_m77.1 0 = some (0, .aload_n 0, 1, []) := rfl
theorem k77_1 : mm_lk mm_m77.1 1 = some (1, .aload_n 0, 2, []) := rfl
theorem k77_2 : mm_lk mm_m77.1 2 = some (2, .getfield 100, 5, [0, 11, 8, 193]) := rfl
theorem k77_5 : mm_lk mm_m77.1 5 = some (5, .aload_n 1, 6, []) := rfl
theorem k77_6 : mm_lk mm_m77.1 6 = some (6, .invokevirtual 87, 9, [0, 70, 3, 11, 554, 556, 11, 133]) := rfl
theorem k77_9 : mm_lk mm_m77.1 9 = some (9, .ireturn, 10, []) := rfl
theorem k78_0 : mm_lk mm_m78.1 0 = some (0, .aload_n 0, 1, []) := rfl
theorem k78_1 : mm_lk mm_m78.1 1 = some (1, .getfield 97, 4, [0, 11, 7, 189]) := rfl
theorem k78_4 : mm_lk mm_m78.1 4 = some (4, .sipush 256, 7, []) := rfl
theorem k78_7 : mm_lk mm_m78.1 7 = some (7, .if_icmp .ne 7, 10, [14]) := rfl
theorem k78_10 : mm_lk mm_m78.1 10 = some (10, .iconst 1, 11, []) := rfl
theorem k78_11 : mm_lk mm_m78.1 11 = some (11, .goto 4, 14, [15]) := rfl
theorem k78_14 : mm_lk mm_m78.1 14 = some (14, .iconst 0, 15, []) := rfl
theorem k78_15 : mm_lk mm_m78.1 15 = some (15, .ireturn, 16, []) := rfl
theorem k79_0 : mm_lk mm_m79.1 0 = some (0, .aload_n 0, 1, []) := rfl
theorem k79_1 : mm_lk mm_m79.1 1 = some (1, .aload_n 1, 2, []) := rfl
theorem k79_2 : mm_lk mm_m79.1 2 = some (2, .invokevirtual 106, 5, [0, 77, 2, 11, 579, 580, 581, 133]) := rfl
theorem k79_5 : mm_lk mm_m79.1 5 = some (5, .ifCond .eq 10, 8, [15]) := rfl
theorem k79_8 : mm_lk mm_m79.1 8 = some (8, .aload_n 0, 9, []) := rfl
theorem k79_9 : mm_lk mm_m79.1 9 = some (9, .invokevirtual 67, 12, [0, 74, 1, 11, 563, 564, 565, 133]) := rfl
theorem k79_12 : mm_lk mm_m79.1 12 = some (12, .goto 12, 15, [24]) := rfl
theorem k79_15 : mm_lk mm_m79.1 15 = some (15, .aload_n 0, 16, []) := rfl
theorem k79_16 : mm_lk mm_m79.1 16 = some (16, .iconst 1, 17, []) := rfl
theorem k79_17 : mm_lk mm_m79.1 17 = some (17, .aload_n 0, 18, []) := rfl
theorem k79_18 : mm_lk mm_m79.1 18 = some (18, .getfield 100, 21, [0, 11, 8, 193]) := rfl
theorem k79_21 : mm_lk mm_m79.1 21 = some (21, .invokevirtual 110, 24, [0, 75, 3, 11, 583, 584, 585, 133]) := rfl
theorem k79_24 : mm_lk mm_m79.1 24 = some (24, .return_, 25, []) := rfl
theorem k80_0 : mm_lk mm_m80.1 0 = some (0, .aload_n 0, 1, []) := rfl
theorem k80_1 : mm_lk mm_m80.1 1 = some (1, .getfield 97, 4, [0, 11, 7, 189]) := rfl
theorem k80_4 : mm_lk mm_m80.1 4 = some (4, .iload_n 1, 5, []) := rfl
theorem k80_5 : mm_lk mm_m80.1 5 = some (5, .if_icmp .eq 14, 8, [19]) := rfl
theorem k80_8 : mm_lk mm_m80.1 8 = some (8, .aload_n 0, 9, []) := rfl
theorem k80_9 : mm_lk mm_m80.1 9 = some (9, .iconst 1, 10, []) := rfl
theorem k80_10 : mm_lk mm_m80.1 10 = some (10, .aload_n 0, 11, []) := rfl
theorem k80_11 : mm_lk mm_m80.1 11 = some (11, .getfield 100, 14, [0, 11, 8, 193]) := rfl
theorem k80_14 : mm_lk mm_m80.1 14 = some (14, .invokevirtual 110, 17, [0, 75, 3, 11, 583, 584, 585, 133]) := rfl
theorem k80_17 : mm_lk mm_m80.1 17 = some (17, .iconst 0, 18, []) := rfl
theorem k80_18 : mm_lk mm_m80.1 18 = some (18, .ireturn, 19, []) := rfl
theorem k80_19 : mm_lk mm_m80.1 19 = some (19, .aload_n 0, 20, []) := rfl
theorem k80_20 : mm_lk mm_m80.1 20 = some (20, .invokevirtual 67, 23, [0, 74, 1, 11, 563, 564, 565, 133]) := rfl
theorem k80_23 : mm_lk mm_m80.1 23 = some (23, .iconst 1, 24, []) := rfl
theorem k80_24 : mm_lk mm_m80.1 24 = some (24, .ireturn, 25, []) := rfl
theorem k81_0 : mm_lk mm_m81.1 0 = some (0, .aload_n 0, 1, []) := rfl
theorem k81_1 : mm_lk mm_m81.1 1 = some (1, .getfield 97, 4, [0, 11, 7, 189]) := rfl
theorem k81_4 : mm_lk mm_m81.1 4 = some (4, .sipush 267, 7, []) := rfl
theorem k81_7 : mm_lk mm_m81.1 7 = some (7, .if_icmp .eq 12, 10, [19]) := rfl
theorem k81_10 : mm_lk mm_m81.1 10 = some (10, .aload_n 0, 11, []) := rfl
theorem k81_11 : mm_lk mm_m81.1 11 = some (11, .iconst 1, 12, []) := rfl
theorem k81_12 : mm_lk mm_m81.1 12 = some (12, .aload_n 0, 13, []) := rfl
theorem k81_13 : mm_lk mm_m81.1 13 = some (13, .getfield 100, 16, [0, 11, 8, 193]) := rfl
theorem k81_16 : mm_lk mm_m81.1 16 = some (16, .invokevirtual 110, 19, [0, 75, 3, 11, 583, 584, 585, 133]) := rfl
theorem k81_19 : mm_lk mm_m81.1 19 = some (19, .return_, 20, []) := rfl
theorem k83_0 : mm_lk mm_m83.1 0 = some (0, .aload_n 0, 1, []) := rfl
theorem k83_1 : mm_lk mm_m83.1 1 = some (1, .invokevirtual 114, 4, [0, 78, 1, 11, 591, 592, 593, 133]) := rfl
theorem k83_4 : mm_lk mm_m83.1 4 = some (4, .ifCond .ne 14, 7, [18]) := rfl
theorem k83_7 : mm_lk mm_m83.1 7 = some (7, .aload_n 0, 8, []) := rfl
theorem k83_8 : mm_lk mm_m83.1 8 = some (8, .iconst 1, 9, []) := rfl
theorem k83_9 : mm_lk mm_m83.1 9 = some (9, .aload_n 0, 10, []) := rfl
theorem k83_10 : mm_lk mm_m83.1 10 = some (10, .getfield 100, 13, [0, 11, 8, 193]) := rfl
theorem k83_13 : mm_lk mm_m83.1 13 = some (13, .invokevirtual 110, 16, [0, 75, 3, 11, 583, 584, 585, 133]) := rfl
theorem k83_16 : mm_lk mm_m83.1 16 = some (16, .iconst (-1), 17, []) := rfl
theorem k83_17 : mm_lk mm_m83.1 17 = some (17, .ireturn, 18, []) := rfl
theorem k83_18 : mm_lk mm_m83.1 18 = some (18, .aload_n 1, 19, []) := rfl
theorem k83_19 : mm_lk mm_m83.1 19 = some (19, .aload_n 0, 20, []) := rfl
theorem k83_20 : mm_lk mm_m83.1 20 = some (20, .getfield 103, 23, [0, 11, 9, 194]) := rfl
theorem k83_23 : mm_lk mm_m83.1 23 = some (23, .invokevirtual 118, 26, [0, 51, 2, 7, 595, 596, 597, 148]) := rfl
theorem k83_26 : mm_lk mm_m83.1 26 = some (26, .istore_n 2, 27, []) := rfl
theorem k83_27 : mm_lk mm_m83.1 27 = some (27, .iload_n 2, 28, []) := rfl
theorem k83_28 : mm_lk mm_m83.1 28 = some (28, .iconst (-1), 29, []) := rfl
theorem k83_29 : mm_lk mm_m83.1 29 = some (29, .if_icmp .ne 12, 32, [41]) := rfl
theorem k83_32 : mm_lk mm_m83.1 32 = some (32, .aload_n 0, 33, []) := rfl
theorem k83_33 : mm_lk mm_m83.1 33 = some (33, .iconst 2, 34, []) := rfl
theorem k83_34 : mm_lk mm_m83.1 34 = some (34, .aload_n 0, 35, []) := rfl
theorem k83_35 : mm_lk mm_m83.1 35 = some (35, .getfield 100, 38, [0, 11, 8, 193]) := rfl
theorem k83_38 : mm_lk mm_m83.1 38 = some (38, .invokevirtual 110, 41, [0, 75, 3, 11, 583, 584, 585, 133]) := rfl
theorem k83_41 : mm_lk mm_m83.1 41 = some (41, .iload_n 2, 42, []) := rfl
theorem k83_42 : mm_lk mm_m83.1 42 = some (42, .ireturn, 43, []) := rfl
theorem k84_0 : mm_lk mm_m84.1 0 = some (0, .aload_n 0, 1, []) := rfl
theorem k84_1 : mm_lk mm_m84.1 1 = some (1, .aload_n 1, 2, []) := rfl
theorem k84_2 : mm_lk mm_m84.1 2 = some (2, .invokevirtual 130, 5, [0, 83, 2, 11, 670, 671, 672, 133]) := rfl
theorem k84_5 : mm_lk mm_m84.1 5 = some (5, .istore_n 2, 6, []) := rfl
theorem k84_6 : mm_lk mm_m84.1 6 = some (6, .iload_n 2, 7, []) := rfl
theorem k84_7 : mm_lk mm_m84.1 7 = some (7, .iconst (-1), 8, []) := rfl
theorem k84_8 : mm_lk mm_m84.1 8 = some (8, .if_icmp .eq 7, 11, [15]) := rfl
theorem k84_11 : mm_lk mm_m84.1 11 = some (11, .aload_n 0, 12, []) := rfl
theorem k84_12 : mm_lk mm_m84.1 12 = some (12, .invokevirtual 67, 15, [0, 74, 1, 11, 563, 564, 565, 133]) := rfl
theorem k84_15 : mm_lk mm_m84.1 15 = some (15, .iload_n 2, 16, []) := rfl
theorem k84_16 : mm_lk mm_m84.1 16 = some (16, .ireturn, 17, []) := rfl
theorem k158_0 : mm_lk mm_m158.1 0 = some (0, .aload_n 0, 1, []) := rfl
theorem k158_1 : mm_lk mm_m158.1 1 = some (1, .iconst 0, 2, []) := rfl
theorem k158_2 : mm_lk mm_m158.1 2 = some (2, .aload_n 1, 3, []) := rfl
theorem k158_3 : mm_lk mm_m158.1 3 = some (3, .iconst 0, 4, []) := rfl
theorem k158_4 : mm_lk mm_m158.1 4 = some (4, .aload_n 0, 5, []) := rfl
theorem k158_5 : mm_lk mm_m158.1 5 = some (5, .arraylength, 6, []) := rfl
theorem k158_6 : mm_lk mm_m158.1 6 = some (6, .aload_n 1, 7, []) := rfl
theorem k158_7 : mm_lk mm_m158.1 7 = some (7, .arraylength, 8, []) := rfl
theorem k158_8 : mm_lk mm_m158.1 8 = some (8, .invokestatic 352, 11, [12, 1021]) := rfl
theorem k158_11 : mm_lk mm_m158.1 11 = some (11, .invokestatic 368, 14, [10, 1022]) := rfl
theorem k158_14 : mm_lk mm_m158.1 14 = some (14, .return_, 15, []) := rfl
theorem k167_0 : mm_lk mm_m167.1 0 = some (0, .iload_n 0, 1, []) := rfl
theorem k167_1 : mm_lk mm_m167.1 1 = some (1, .tableswitch 63 1 6 #[39, 43, 47, 51, 55, 59], 40, [64, 40, 44, 48, 52, 56, 60]) := rfl
theorem k167_40 : mm_lk mm_m167.1 40 = some (40, .ldc_w 374, 43, [1, 6, 547]) := rfl
theorem k167_43 : mm_lk mm_m167.1 43 = some (43, .areturn, 44, []) := rfl
theorem k167_44 : mm_lk mm_m167.1 44 = some (44, .ldc_w 376, 47, [1, 8, 548]) := rfl
theorem k167_47 : mm_lk mm_m167.1 47 = some (47, .areturn, 48, []) := rfl
theorem k167_48 : mm_lk mm_m167.1 48 = some (48, .ldc_w 378, 51, [1, 10, 549]) := rfl
theorem k167_51 : mm_lk mm_m167.1 51 = some (51, .areturn, 52, []) := rfl
theorem k167_52 : mm_lk mm_m167.1 52 = some (52, .ldc_w 380, 55, [1, 12, 550]) := rfl
theorem k167_55 : mm_lk mm_m167.1 55 = some (55, .areturn, 56, []) := rfl
theorem k167_56 : mm_lk mm_m167.1 56 = some (56, .ldc_w 382, 59, [1, 14, 551]) := rfl
theorem k167_59 : mm_lk mm_m167.1 59 = some (59, .areturn, 60, []) := rfl
theorem k167_60 : mm_lk mm_m167.1 60 = some (60, .ldc_w 384, 63, [1, 16, 552]) := rfl
theorem k167_63 : mm_lk mm_m167.1 63 = some (63, .areturn, 64, []) := rfl
theorem k167_64 : mm_lk mm_m167.1 64 = some (64, .ldc_w 386, 67, [1, 18, 553]) := rfl
theorem k167_67 : mm_lk mm_m167.1 67 = some (67, .areturn, 68, []) := rfl
theorem k168_0 : mm_lk mm_m168.1 0 = some (0, .iload_n 0, 1, []) := rfl
theorem k168_1 : mm_lk mm_m168.1 1 = some (1, .tableswitch 47 0 3 #[31, 35, 39, 43], 32, [48, 32, 36, 40, 44]) := rfl
theorem k168_32 : mm_lk mm_m168.1 32 = some (32, .ldc_w 388, 35, [1, 36, 1516]) := rfl
theorem k168_35 : mm_lk mm_m168.1 35 = some (35, .areturn, 36, []) := rfl
theorem k168_36 : mm_lk mm_m168.1 36 = some (36, .ldc_w 390, 39, [1, 38, 1517]) := rfl
theorem k168_39 : mm_lk mm_m168.1 39 = some (39, .areturn, 40, []) := rfl
theorem k168_40 : mm_lk mm_m168.1 40 = some (40, .ldc_w 392, 43, [1, 40, 1518]) := rfl
theorem k168_43 : mm_lk mm_m168.1 43 = some (43, .areturn, 44, []) := rfl
theorem k168_44 : mm_lk mm_m168.1 44 = some (44, .ldc_w 394, 47, [1, 42, 1519]) := rfl
theorem k168_47 : mm_lk mm_m168.1 47 = some (47, .areturn, 48, []) := rfl
theorem k168_48 : mm_lk mm_m168.1 48 = some (48, .ldc_w 396, 51, [1, 44, 1520]) := rfl
theorem k168_51 : mm_lk mm_m168.1 51 = some (51, .areturn, 52, []) := rfl
