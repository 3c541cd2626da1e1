/-! ===== code, row by row (by program) ===== -/
/-- WhoKnows$Knowledge.begin(LWhoKnows$Scene;)V -/
def mm_m26 : mm_M := (mm_c26, 4, 0, [])
set_option maxRecDepth 20000 in
theorem P26 : mm_P 26 = some mm_m26 := rfl
/-- WhoKnows$Knowledge.leftCount()I -/
def mm_m28 : mm_M := (mm_c28, 1, 1, [])
set_option maxRecDepth 20000 in
theorem P28 : mm_P 28 = some mm_m28 := rfl
/-- WhoKnows$Knowledge.sumOfAlike(I)I -/
def mm_m31 : mm_M := (mm_c31, 4, 1, [])
set_option maxRecDepth 20000 in
theorem P31 : mm_P 31 = some mm_m31 := rfl
/-- WhoKnows$Knowledge.tellApart(II)I -/
def mm_m41 : mm_M := (mm_c41, 8, 1, [])
set_option maxRecDepth 20000 in
theorem P41 : mm_P 41 = some mm_m41 := rfl
/-- WhoKnows$Log.add(IIII)V -/
def mm_m45 : mm_M := (mm_c45, 5, 0, [])
set_option maxRecDepth 20000 in
theorem P45 : mm_P 45 = some mm_m45 := rfl
/-- WhoKnows$Log.pushAhead([II)V -/
def mm_m47 : mm_M := (mm_c47, 3, 0, [])
set_option maxRecDepth 20000 in
theorem P47 : mm_P 47 = some mm_m47 := rfl
/-- WhoKnows$State.questionTruth()I -/
def mm_m89 : mm_M := (mm_c89, 1, 1, [])
set_option maxRecDepth 20000 in
theorem P89 : mm_P 89 = some mm_m89 := rfl
/-- WhoKnows$State.refusal(II)I -/
def mm_m90 : mm_M := (mm_c90, 3, 1, [])
set_option maxRecDepth 20000 in
theorem P90 : mm_P 90 = some mm_m90 := rfl
/-- WhoKnows$State.leftAfter(II)I -/
def mm_m91 : mm_M := (mm_c91, 3, 1, [])
set_option maxRecDepth 20000 in
theorem P91 : mm_P 91 = some mm_m91 := rfl
/-- WhoKnows$State.tell(II)V -/
def mm_m92 : mm_M := (mm_c92, 3, 0, [])
set_option maxRecDepth 20000 in
theorem P92 : mm_P 92 = some mm_m92 := rfl
/-- WhoKnows$State.tellApart(III)I -/
def mm_m93 : mm_M := (mm_c93, 5, 1, [])
set_option maxRecDepth 20000 in
theorem P93 : mm_P 93 = some mm_m93 := rfl
/-- WhoKnows$State.goRound(I)I -/
def mm_m94 : mm_M := (mm_c94, 4, 1, [])
set_option maxRecDepth 20000 in
theorem P94 : mm_P 94 = some mm_m94 := rfl
/-- WhoKnows$State.carryOut(LWhoKnows$Order;)Z -/
def mm_m95 : mm_M := (mm_c95, 4, 2, [])
set_option maxRecDepth 20000 in
theorem P95 : mm_P 95 = some mm_m95 := rfl
/-- WhoKnows$State.leave(III)V -/
def mm_m96 : mm_M := (mm_c96, 5, 0, [])
set_option maxRecDepth 20000 in
theorem P96 : mm_P 96 = some mm_m96 := rfl
/-- WhoKnows.errorCode()I -/
def mm_m103 : mm_M := (mm_c103, 1, 1, [])
set_option maxRecDepth 20000 in
theorem P103 : mm_P 103 = some mm_m103 := rfl
/-- WhoKnows.errorPosition()I -/
def mm_m104 : mm_M := (mm_c104, 1, 1, [])
set_option maxRecDepth 20000 in
theorem P104 : mm_P 104 = some mm_m104 := rfl
/-- WhoKnows.size(I)I -/
def mm_m105 : mm_M := (mm_c105, 2, 1, [])
set_option maxRecDepth 20000 in
theorem P105 : mm_P 105 = some mm_m105 := rfl
/-- WhoKnows.letter(ZII)I -/
def mm_m106 : mm_M := (mm_c106, 5, 1, [])
set_option maxRecDepth 20000 in
theorem P106 : mm_P 106 = some mm_m106 := rfl
/-- WhoKnows.sees(I)I -/
def mm_m107 : mm_M := (mm_c107, 2, 1, [])
set_option maxRecDepth 20000 in
theorem P107 : mm_P 107 = some mm_m107 := rfl
/-- WhoKnows.worlds()I -/
def mm_m108 : mm_M := (mm_c108, 1, 1, [])
set_option maxRecDepth 20000 in
theorem P108 : mm_P 108 = some mm_m108 := rfl
/-- WhoKnows.alike(II)I -/
def mm_m109 : mm_M := (mm_c109, 3, 1, [])
set_option maxRecDepth 20000 in
theorem P109 : mm_P 109 = some mm_m109 := rfl
/-- WhoKnows.kinds(I)I -/
def mm_m110 : mm_M := (mm_c110, 4, 1, [])
set_option maxRecDepth 20000 in
theorem P110 : mm_P 110 = some mm_m110 := rfl
/-- WhoKnows.doubts(I)I -/
def mm_m111 : mm_M := (mm_c111, 2, 1, [])
set_option maxRecDepth 20000 in
theorem P111 : mm_P 111 = some mm_m111 := rfl
/-- WhoKnows.reach(I)I -/
def mm_m112 : mm_M := (mm_c112, 2, 1, [])
set_option maxRecDepth 20000 in
theorem P112 : mm_P 112 = some mm_m112 := rfl
/-- WhoKnows.steps(II)I -/
def mm_m113 : mm_M := (mm_c113, 3, 1, [])
set_option maxRecDepth 20000 in
theorem P113 : mm_P 113 = some mm_m113 := rfl
/-- WhoKnows.holds(I)Z -/
def mm_m114 : mm_M := (mm_c114, 2, 2, [])
set_option maxRecDepth 20000 in
theorem P114 : mm_P 114 = some mm_m114 := rfl
/-- WhoKnows.truth()I -/
def mm_m115 : mm_M := (mm_c115, 1, 1, [])
set_option maxRecDepth 20000 in
theorem P115 : mm_P 115 = some mm_m115 := rfl
/-- WhoKnows.who()I -/
def mm_m116 : mm_M := (mm_c116, 1, 1, [])
set_option maxRecDepth 20000 in
theorem P116 : mm_P 116 = some mm_m116 := rfl
/-- WhoKnows.whether()I -/
def mm_m117 : mm_M := (mm_c117, 1, 1, [])
set_option maxRecDepth 20000 in
theorem P117 : mm_P 117 = some mm_m117 := rfl
/-- WhoKnows.isCommon()Z -/
def mm_m118 : mm_M := (mm_c118, 1, 2, [])
set_option maxRecDepth 20000 in
theorem P118 : mm_P 118 = some mm_m118 := rfl
/-- WhoKnows.level()I -/
def mm_m119 : mm_M := (mm_c119, 4, 1, [])
set_option maxRecDepth 20000 in
theorem P119 : mm_P 119 = some mm_m119 := rfl
/-- WhoKnows.unlike()I -/
def mm_m120 : mm_M := (mm_c120, 6, 1, [])
set_option maxRecDepth 20000 in
theorem P120 : mm_P 120 = some mm_m120 := rfl
/-- WhoKnows.knowsFact(II)I -/
def mm_m121 : mm_M := (mm_c121, 5, 1, [])
set_option maxRecDepth 20000 in
theorem P121 : mm_P 121 = some mm_m121 := rfl
/-- WhoKnows.knowers()I -/
def mm_m122 : mm_M := (mm_c122, 1, 1, [])
set_option maxRecDepth 20000 in
theorem P122 : mm_P 122 = some mm_m122 := rfl
/-- WhoKnows.wouldLeave()I -/
def mm_m123 : mm_M := (mm_c123, 1, 1, [])
set_option maxRecDepth 20000 in
theorem P123 : mm_P 123 = some mm_m123 := rfl
/-- WhoKnows.wouldSay(I)I -/
def mm_m124 : mm_M := (mm_c124, 2, 1, [])
set_option maxRecDepth 20000 in
theorem P124 : mm_P 124 = some mm_m124 := rfl
/-- WhoKnows.wouldKnow(I)I -/
def mm_m125 : mm_M := (mm_c125, 2, 1, [])
set_option maxRecDepth 20000 in
theorem P125 : mm_P 125 = some mm_m125 := rfl
/-- WhoKnows.roundsTo(I)I -/
def mm_m126 : mm_M := (mm_c126, 6, 1, [])
set_option maxRecDepth 20000 in
theorem P126 : mm_P 126 = some mm_m126 := rfl
/-- WhoKnows.bestFact()I -/
def mm_m127 : mm_M := (mm_c127, 5, 1, [])
set_option maxRecDepth 20000 in
theorem P127 : mm_P 127 = some mm_m127 := rfl
/-- WhoKnows.leastShown(I)I -/
def mm_m128 : mm_M := (mm_c128, 6, 1, [])
set_option maxRecDepth 20000 in
theorem P128 : mm_P 128 = some mm_m128 := rfl
/-- WhoKnows.log(II)I -/
def mm_m129 : mm_M := (mm_c129, 3, 1, [])
set_option maxRecDepth 20000 in
theorem P129 : mm_P 129 = some mm_m129 := rfl
/-- WhoKnows.account(I)I -/
def mm_m130 : mm_M := (mm_c130, 2, 1, [])
set_option maxRecDepth 20000 in
theorem P130 : mm_P 130 = some mm_m130 := rfl
/-- WhoKnows.gap()I -/
def mm_m131 : mm_M := (mm_c131, 2, 1, [])
set_option maxRecDepth 20000 in
theorem P131 : mm_P 131 = some mm_m131 := rfl
/-- WhoKnows.needPerson(I)V -/
def mm_m146 : mm_M := (mm_c146, 2, 0, [])
set_option maxRecDepth 20000 in
theorem P146 : mm_P 146 = some mm_m146 := rfl
/-- WhoKnows.needFact(I)V -/
def mm_m147 : mm_M := (mm_c147, 2, 0, [])
set_option maxRecDepth 20000 in
theorem P147 : mm_P 147 = some mm_m147 := rfl
/-- WhoKnows.needWorld(I)V -/
def mm_m148 : mm_M := (mm_c148, 2, 0, [])
set_option maxRecDepth 20000 in
theorem P148 : mm_P 148 = some mm_m148 := rfl
/-- WhoKnows.needPersons(I)V -/
def mm_m149 : mm_M := (mm_c149, 2, 0, [])
set_option maxRecDepth 20000 in
theorem P149 : mm_P 149 = some mm_m149 := rfl
/-- WhoKnows.foretell(II)I -/
def mm_m153 : mm_M := (mm_c153, 4, 1, [])
set_option maxRecDepth 20000 in
theorem P153 : mm_P 153 = some mm_m153 := rfl
/-- java/lang/Integer.bitCount(I)I -/
def mm_m360 : mm_M := (mm_c360, 1, 1, [])
set_option maxRecDepth 20000 in
theorem P360 : mm_P 360 = some mm_m360 := rfl
theorem k26_0 : mm_lk mm_m26.1 0 = some (0, .aload_n 0, 1, []) := rfl
theorem k26_1 : mm_lk mm_m26.1 1 = some (1, .aload_n 1, 2, []) := rfl
theorem k26_2 : mm_lk mm_m26.1 2 = some (2, .getfield 15, 5, [1, 10, 4, 500, 0]) := rfl
theorem k26_5 : mm_lk mm_m26.1 5 = some (5, .putfield 21, 8, [0, 5, 1, 232]) := rfl
theorem k26_8 : mm_lk mm_m26.1 8 = some (8, .aload_n 0, 9, []) := rfl
theorem k26_9 : mm_lk mm_m26.1 9 = some (9, .aload_n 1, 10, []) := rfl
theorem k26_10 : mm_lk mm_m26.1 10 = some (10, .getfield 24, 13, [1, 10, 1, 488, 0]) := rfl
theorem k26_13 : mm_lk mm_m26.1 13 = some (13, .getfield 28, 16, [1, 7, 1, 472, 0]) := rfl
theorem k26_16 : mm_lk mm_m26.1 16 = some (16, .putfield 33, 19, [0, 5, 2, 237]) := rfl
theorem k26_19 : mm_lk mm_m26.1 19 = some (19, .iconst 0, 20, []) := rfl
theorem k26_20 : mm_lk mm_m26.1 20 = some (20, .istore_n 2, 21, []) := rfl
theorem k26_21 : mm_lk mm_m26.1 21 = some (21, .iload_n 2, 22, []) := rfl
theorem k26_22 : mm_lk mm_m26.1 22 = some (22, .aload_n 0, 23, []) := rfl
theorem k26_23 : mm_lk mm_m26.1 23 = some (23, .getfield 33, 26, [0, 5, 2, 237]) := rfl
theorem k26_26 : mm_lk mm_m26.1 26 = some (26, .if_icmp .ge 48, 29, [74]) := rfl
theorem k26_29 : mm_lk mm_m26.1 29 = some (29, .iconst 0, 30, []) := rfl
theorem k26_30 : mm_lk mm_m26.1 30 = some (30, .istore_n 3, 31, []) := rfl
theorem k26_31 : mm_lk mm_m26.1 31 = some (31, .iload_n 3, 32, []) := rfl
theorem k26_32 : mm_lk mm_m26.1 32 = some (32, .bipush 32, 34, []) := rfl
theorem k26_34 : mm_lk mm_m26.1 34 = some (34, .if_icmp .ge 34, 37, [68]) := rfl
theorem k26_37 : mm_lk mm_m26.1 37 = some (37, .aload_n 0, 38, []) := rfl
theorem k26_38 : mm_lk mm_m26.1 38 = some (38, .getfield 9, 41, [0, 5, 0, 231]) := rfl
theorem k26_41 : mm_lk mm_m26.1 41 = some (41, .iload_n 2, 42, []) := rfl
theorem k26_42 : mm_lk mm_m26.1 42 = some (42, .bipush 32, 44, []) := rfl
theorem k26_44 : mm_lk mm_m26.1 44 = some (44, .imul, 45, []) := rfl
theorem k26_45 : mm_lk mm_m26.1 45 = some (45, .iload_n 3, 46, []) := rfl
theorem k26_46 : mm_lk mm_m26.1 46 = some (46, .iadd, 47, []) := rfl
theorem k26_47 : mm_lk mm_m26.1 47 = some (47, .iload_n 3, 48, []) := rfl
theorem k26_48 : mm_lk mm_m26.1 48 = some (48, .aload_n 1, 49, []) := rfl
theorem k26_49 : mm_lk mm_m26.1 49 = some (49, .getfield 35, 52, [1, 10, 2, 495, 0]) := rfl
theorem k26_52 : mm_lk mm_m26.1 52 = some (52, .iload_n 2, 53, []) := rfl
theorem k26_53 : mm_lk mm_m26.1 53 = some (53, .invokestatic 38, 56, [6, 156, 2, 827, 568, 132, 0]) := rfl
theorem k26_56 : mm_lk mm_m26.1 56 = some (56, .invokestatic 42, 59, [6, 163, 2, 828, 829, 132, 0]) := rfl
theorem k26_59 : mm_lk mm_m26.1 59 = some (59, .invokestatic 46, 62, [6, 157, 3, 832, 449, 132, 0]) := rfl
theorem k26_62 : mm_lk mm_m26.1 62 = some (62, .iinc 3 1, 65, []) := rfl
theorem k26_65 : mm_lk mm_m26.1 65 = some (65, .goto (-34), 68, [31]) := rfl
theorem k26_68 : mm_lk mm_m26.1 68 = some (68, .iinc 2 1, 71, []) := rfl
theorem k26_71 : mm_lk mm_m26.1 71 = some (71, .goto (-50), 74, [21]) := rfl
theorem k26_74 : mm_lk mm_m26.1 74 = some (74, .return_, 75, []) := rfl
theorem k28_0 : mm_lk mm_m28.1 0 = some (0, .aload_n 0, 1, []) := rfl
theorem k28_1 : mm_lk mm_m28.1 1 = some (1, .getfield 21, 4, [0, 5, 1, 232]) := rfl
theorem k28_4 : mm_lk mm_m28.1 4 = some (4, .invokestatic 54, 7, [1, 360, 1, 981, 962, 157]) := rfl
theorem k28_7 : mm_lk mm_m28.1 7 = some (7, .ireturn, 8, []) := rfl
theorem k31_0 : mm_lk mm_m31.1 0 = some (0, .iconst 0, 1, []) := rfl
theorem k31_1 : mm_lk mm_m31.1 1 = some (1, .istore_n 2, 2, []) := rfl
theorem k31_2 : mm_lk mm_m31.1 2 = some (2, .iconst 0, 3, []) := rfl
theorem k31_3 : mm_lk mm_m31.1 3 = some (3, .istore_n 3, 4, []) := rfl
theorem k31_4 : mm_lk mm_m31.1 4 = some (4, .iload_n 3, 5, []) := rfl
theorem k31_5 : mm_lk mm_m31.1 5 = some (5, .bipush 32, 7, []) := rfl
theorem k31_7 : mm_lk mm_m31.1 7 = some (7, .if_icmp .ge 21, 10, [28]) := rfl
theorem k31_10 : mm_lk mm_m31.1 10 = some (10, .iload_n 2, 11, []) := rfl
theorem k31_11 : mm_lk mm_m31.1 11 = some (11, .aload_n 0, 12, []) := rfl
theorem k31_12 : mm_lk mm_m31.1 12 = some (12, .iload_n 1, 13, []) := rfl
theorem k31_13 : mm_lk mm_m31.1 13 = some (13, .iload_n 3, 14, []) := rfl
theorem k31_14 : mm_lk mm_m31.1 14 = some (14, .invokevirtual 64, 17, [0, 29, 3, 5, 717, 718, 719, 134]) := rfl
theorem k31_17 : mm_lk mm_m31.1 17 = some (17, .invokestatic 54, 20, [1, 360, 1, 981, 962, 157]) := rfl
theorem k31_20 : mm_lk mm_m31.1 20 = some (20, .iadd, 21, []) := rfl
theorem k31_21 : mm_lk mm_m31.1 21 = some (21, .istore_n 2, 22, []) := rfl
theorem k31_22 : mm_lk mm_m31.1 22 = some (22, .iinc 3 1, 25, []) := rfl
theorem k31_25 : mm_lk mm_m31.1 25 = some (25, .goto (-21), 28, [4]) := rfl
theorem k31_28 : mm_lk mm_m31.1 28 = some (28, .iload_n 2, 29, []) := rfl
theorem k31_29 : mm_lk mm_m31.1 29 = some (29, .ireturn, 30, []) := rfl
theorem k41_0 : mm_lk mm_m41.1 0 = some (0, .iconst 0, 1, []) := rfl
theorem k41_1 : mm_lk mm_m41.1 1 = some (1, .istore_n 3, 2, []) := rfl
theorem k41_2 : mm_lk mm_m41.1 2 = some (2, .iconst 0, 3, []) := rfl
theorem k41_3 : mm_lk mm_m41.1 3 = some (3, .istore 4, 5, []) := rfl
theorem k41_5 : mm_lk mm_m41.1 5 = some (5, .iload 4, 7, []) := rfl
theorem k41_7 : mm_lk mm_m41.1 7 = some (7, .aload_n 0, 8, []) := rfl
theorem k41_8 : mm_lk mm_m41.1 8 = some (8, .getfield 33, 11, [0, 5, 2, 237]) := rfl
theorem k41_11 : mm_lk mm_m41.1 11 = some (11, .if_icmp .ge 108, 14, [119]) := rfl
theorem k41_14 : mm_lk mm_m41.1 14 = some (14, .iconst 0, 15, []) := rfl
theorem k41_15 : mm_lk mm_m41.1 15 = some (15, .istore 5, 17, []) := rfl
theorem k41_17 : mm_lk mm_m41.1 17 = some (17, .iload 5, 19, []) := rfl
theorem k41_19 : mm_lk mm_m41.1 19 = some (19, .bipush 32, 21, []) := rfl
theorem k41_21 : mm_lk mm_m41.1 21 = some (21, .if_icmp .ge 92, 24, [113]) := rfl
theorem k41_24 : mm_lk mm_m41.1 24 = some (24, .iload_n 1, 25, []) := rfl
theorem k41_25 : mm_lk mm_m41.1 25 = some (25, .iload 4, 27, []) := rfl
theorem k41_27 : mm_lk mm_m41.1 27 = some (27, .invokestatic 60, 30, [6, 159, 2, 714, 715, 132, 0]) := rfl
theorem k41_30 : mm_lk mm_m41.1 30 = some (30, .ifCond .eq 83, 33, [113]) := rfl
theorem k41_33 : mm_lk mm_m41.1 33 = some (33, .iload 4, 35, []) := rfl
theorem k41_35 : mm_lk mm_m41.1 35 = some (35, .bipush 32, 37, []) := rfl
theorem k41_37 : mm_lk mm_m41.1 37 = some (37, .imul, 38, []) := rfl
theorem k41_38 : mm_lk mm_m41.1 38 = some (38, .iload 5, 40, []) := rfl
theorem k41_40 : mm_lk mm_m41.1 40 = some (40, .iadd, 41, []) := rfl
theorem k41_41 : mm_lk mm_m41.1 41 = some (41, .istore 6, 43, []) := rfl
theorem k41_43 : mm_lk mm_m41.1 43 = some (43, .aload_n 0, 44, []) := rfl
theorem k41_44 : mm_lk mm_m41.1 44 = some (44, .iload 4, 46, []) := rfl
theorem k41_46 : mm_lk mm_m41.1 46 = some (46, .iload 5, 48, []) := rfl
theorem k41_48 : mm_lk mm_m41.1 48 = some (48, .invokevirtual 64, 51, [0, 29, 3, 5, 717, 718, 719, 134]) := rfl
theorem k41_51 : mm_lk mm_m41.1 51 = some (51, .istore 7, 53, []) := rfl
theorem k41_53 : mm_lk mm_m41.1 53 = some (53, .aload_n 0, 54, []) := rfl
theorem k41_54 : mm_lk mm_m41.1 54 = some (54, .getfield 9, 57, [0, 5, 0, 231]) := rfl
theorem k41_57 : mm_lk mm_m41.1 57 = some (57, .iload 6, 59, []) := rfl
theorem k41_59 : mm_lk mm_m41.1 59 = some (59, .aload_n 0, 60, []) := rfl
theorem k41_60 : mm_lk mm_m41.1 60 = some (60, .getfield 9, 63, [0, 5, 0, 231]) := rfl
theorem k41_63 : mm_lk mm_m41.1 63 = some (63, .iload 6, 65, []) := rfl
theorem k41_65 : mm_lk mm_m41.1 65 = some (65, .invokestatic 38, 68, [6, 156, 2, 827, 568, 132, 0]) := rfl
theorem k41_68 : mm_lk mm_m41.1 68 = some (68, .iload_n 2, 69, []) := rfl
theorem k41_69 : mm_lk mm_m41.1 69 = some (69, .iload 5, 71, []) := rfl
theorem k41_71 : mm_lk mm_m41.1 71 = some (71, .invokestatic 60, 74, [6, 159, 2, 714, 715, 132, 0]) := rfl
theorem k41_74 : mm_lk mm_m41.1 74 = some (74, .ifCond .eq 7, 77, [81]) := rfl
theorem k41_77 : mm_lk mm_m41.1 77 = some (77, .iload_n 2, 78, []) := rfl
theorem k41_78 : mm_lk mm_m41.1 78 = some (78, .goto 6, 81, [84]) := rfl
theorem k41_81 : mm_lk mm_m41.1 81 = some (81, .iload_n 2, 82, []) := rfl
theorem k41_82 : mm_lk mm_m41.1 82 = some (82, .iconst (-1), 83, []) := rfl
theorem k41_83 : mm_lk mm_m41.1 83 = some (83, .ixor, 84, []) := rfl
theorem k41_84 : mm_lk mm_m41.1 84 = some (84, .iand, 85, []) := rfl
theorem k41_85 : mm_lk mm_m41.1 85 = some (85, .invokestatic 46, 88, [6, 157, 3, 832, 449, 132, 0]) := rfl
theorem k41_88 : mm_lk mm_m41.1 88 = some (88, .iload_n 3, 89, []) := rfl
theorem k41_89 : mm_lk mm_m41.1 89 = some (89, .iload 7, 91, []) := rfl
theorem k41_91 : mm_lk mm_m41.1 91 = some (91, .aload_n 0, 92, []) := rfl
theorem k41_92 : mm_lk mm_m41.1 92 = some (92, .iload 4, 94, []) := rfl
theorem k41_94 : mm_lk mm_m41.1 94 = some (94, .iload 5, 96, []) := rfl
theorem k41_96 : mm_lk mm_m41.1 96 = some (96, .invokevirtual 64, 99, [0, 29, 3, 5, 717, 718, 719, 134]) := rfl
theorem k41_99 : mm_lk mm_m41.1 99 = some (99, .iconst (-1), 100, []) := rfl
theorem k41_100 : mm_lk mm_m41.1 100 = some (100, .ixor, 101, []) := rfl
theorem k41_101 : mm_lk mm_m41.1 101 = some (101, .iand, 102, []) := rfl
theorem k41_102 : mm_lk mm_m41.1 102 = some (102, .invokestatic 54, 105, [1, 360, 1, 981, 962, 157]) := rfl
theorem k41_105 : mm_lk mm_m41.1 105 = some (105, .iadd, 106, []) := rfl
theorem k41_106 : mm_lk mm_m41.1 106 = some (106, .istore_n 3, 107, []) := rfl
theorem k41_107 : mm_lk mm_m41.1 107 = some (107, .iinc 5 1, 110, []) := rfl
theorem k41_110 : mm_lk mm_m41.1 110 = some (110, .goto (-93), 113, [17]) := rfl
theorem k41_113 : mm_lk mm_m41.1 113 = some (113, .iinc 4 1, 116, []) := rfl
theorem k41_116 : mm_lk mm_m41.1 116 = some (116, .goto (-111), 119, [5]) := rfl
theorem k41_119 : mm_lk mm_m41.1 119 = some (119, .iload_n 3, 120, []) := rfl
theorem k41_120 : mm_lk mm_m41.1 120 = some (120, .iconst 2, 121, []) := rfl
theorem k41_121 : mm_lk mm_m41.1 121 = some (121, .idiv, 122, []) := rfl
theorem k41_122 : mm_lk mm_m41.1 122 = some (122, .ireturn, 123, []) := rfl
theorem k45_0 : mm_lk mm_m45.1 0 = some (0, .aload_n 0, 1, []) := rfl
theorem k45_1 : mm_lk mm_m45.1 1 = some (1, .getfield 9, 4, [0, 6, 0, 784]) := rfl
theorem k45_4 : mm_lk mm_m45.1 4 = some (4, .iload_n 1, 5, []) := rfl
theorem k45_5 : mm_lk mm_m45.1 5 = some (5, .invokestatic 36, 8, [1, 47, 2, 1048, 1049, 150]) := rfl
theorem k45_8 : mm_lk mm_m45.1 8 = some (8, .aload_n 0, 9, []) := rfl
theorem k45_9 : mm_lk mm_m45.1 9 = some (9, .getfield 15, 12, [0, 6, 1, 785]) := rfl
theorem k45_12 : mm_lk mm_m45.1 12 = some (12, .iload_n 2, 13, []) := rfl
theorem k45_13 : mm_lk mm_m45.1 13 = some (13, .invokestatic 36, 16, [1, 47, 2, 1048, 1049, 150]) := rfl
theorem k45_16 : mm_lk mm_m45.1 16 = some (16, .aload_n 0, 17, []) := rfl
theorem k45_17 : mm_lk mm_m45.1 17 = some (17, .getfield 18, 20, [0, 6, 2, 786]) := rfl
theorem k45_20 : mm_lk mm_m45.1 20 = some (20, .iload_n 3, 21, []) := rfl
theorem k45_21 : mm_lk mm_m45.1 21 = some (21, .invokestatic 36, 24, [1, 47, 2, 1048, 1049, 150]) := rfl
theorem k45_24 : mm_lk mm_m45.1 24 = some (24, .aload_n 0, 25, []) := rfl
theorem k45_25 : mm_lk mm_m45.1 25 = some (25, .aload_n 0, 26, []) := rfl
theorem k45_26 : mm_lk mm_m45.1 26 = some (26, .getfield 24, 29, [0, 6, 4, 789]) := rfl
theorem k45_29 : mm_lk mm_m45.1 29 = some (29, .iconst 1, 30, []) := rfl
theorem k45_30 : mm_lk mm_m45.1 30 = some (30, .iadd, 31, []) := rfl
theorem k45_31 : mm_lk mm_m45.1 31 = some (31, .bipush 20, 33, []) := rfl
theorem k45_33 : mm_lk mm_m45.1 33 = some (33, .invokestatic 40, 36, [12, 1051]) := rfl
theorem k45_36 : mm_lk mm_m45.1 36 = some (36, .putfield 24, 39, [0, 6, 4, 789]) := rfl
theorem k45_39 : mm_lk mm_m45.1 39 = some (39, .aload_n 0, 40, []) := rfl
theorem k45_40 : mm_lk mm_m45.1 40 = some (40, .getfield 21, 43, [0, 6, 3, 787]) := rfl
theorem k45_43 : mm_lk mm_m45.1 43 = some (43, .iload_n 1, 44, []) := rfl
theorem k45_44 : mm_lk mm_m45.1 44 = some (44, .aload_n 0, 45, []) := rfl
theorem k45_45 : mm_lk mm_m45.1 45 = some (45, .getfield 21, 48, [0, 6, 3, 787]) := rfl
theorem k45_48 : mm_lk mm_m45.1 48 = some (48, .iload_n 1, 49, []) := rfl
theorem k45_49 : mm_lk mm_m45.1 49 = some (49, .invokestatic 46, 52, [6, 156, 2, 1052, 568, 132, 0]) := rfl
theorem k45_52 : mm_lk mm_m45.1 52 = some (52, .iconst 1, 53, []) := rfl
theorem k45_53 : mm_lk mm_m45.1 53 = some (53, .iadd, 54, []) := rfl
theorem k45_54 : mm_lk mm_m45.1 54 = some (54, .invokestatic 28, 57, [6, 157, 3, 839, 449, 132, 0]) := rfl
theorem k45_57 : mm_lk mm_m45.1 57 = some (57, .aload_n 0, 58, []) := rfl
theorem k45_58 : mm_lk mm_m45.1 58 = some (58, .getfield 21, 61, [0, 6, 3, 787]) := rfl
theorem k45_61 : mm_lk mm_m45.1 61 = some (61, .iconst 5, 62, []) := rfl
theorem k45_62 : mm_lk mm_m45.1 62 = some (62, .aload_n 0, 63, []) := rfl
theorem k45_63 : mm_lk mm_m45.1 63 = some (63, .getfield 21, 66, [0, 6, 3, 787]) := rfl
theorem k45_66 : mm_lk mm_m45.1 66 = some (66, .iconst 5, 67, []) := rfl
theorem k45_67 : mm_lk mm_m45.1 67 = some (67, .invokestatic 46, 70, [6, 156, 2, 1052, 568, 132, 0]) := rfl
theorem k45_70 : mm_lk mm_m45.1 70 = some (70, .iload_n 3, 71, []) := rfl
theorem k45_71 : mm_lk mm_m45.1 71 = some (71, .invokestatic 50, 74, [1, 360, 1, 1053, 962, 157]) := rfl
theorem k45_74 : mm_lk mm_m45.1 74 = some (74, .iadd, 75, []) := rfl
theorem k45_75 : mm_lk mm_m45.1 75 = some (75, .invokestatic 28, 78, [6, 157, 3, 839, 449, 132, 0]) := rfl
theorem k45_78 : mm_lk mm_m45.1 78 = some (78, .aload_n 0, 79, []) := rfl
theorem k45_79 : mm_lk mm_m45.1 79 = some (79, .getfield 21, 82, [0, 6, 3, 787]) := rfl
theorem k45_82 : mm_lk mm_m45.1 82 = some (82, .bipush 6, 84, []) := rfl
theorem k45_84 : mm_lk mm_m45.1 84 = some (84, .aload_n 0, 85, []) := rfl
theorem k45_85 : mm_lk mm_m45.1 85 = some (85, .getfield 21, 88, [0, 6, 3, 787]) := rfl
theorem k45_88 : mm_lk mm_m45.1 88 = some (88, .bipush 6, 90, []) := rfl
theorem k45_90 : mm_lk mm_m45.1 90 = some (90, .invokestatic 46, 93, [6, 156, 2, 1052, 568, 132, 0]) := rfl
theorem k45_93 : mm_lk mm_m45.1 93 = some (93, .iload 4, 95, []) := rfl
theorem k45_95 : mm_lk mm_m45.1 95 = some (95, .iadd, 96, []) := rfl
theorem k45_96 : mm_lk mm_m45.1 96 = some (96, .invokestatic 28, 99, [6, 157, 3, 839, 449, 132, 0]) := rfl
theorem k45_99 : mm_lk mm_m45.1 99 = some (99, .return_, 100, []) := rfl
theorem k47_0 : mm_lk mm_m47.1 0 = some (0, .aload_n 0, 1, []) := rfl
theorem k47_1 : mm_lk mm_m47.1 1 = some (1, .arraylength, 2, []) := rfl
theorem k47_2 : mm_lk mm_m47.1 2 = some (2, .iconst 1, 3, []) := rfl
theorem k47_3 : mm_lk mm_m47.1 3 = some (3, .isub, 4, []) := rfl
theorem k47_4 : mm_lk mm_m47.1 4 = some (4, .istore_n 2, 5, []) := rfl
theorem k47_5 : mm_lk mm_m47.1 5 = some (5, .iload_n 2, 6, []) := rfl
theorem k47_6 : mm_lk mm_m47.1 6 = some (6, .ifCond .le 17, 9, [23]) := rfl
theorem k47_9 : mm_lk mm_m47.1 9 = some (9, .aload_n 0, 10, []) := rfl
theorem k47_10 : mm_lk mm_m47.1 10 = some (10, .iload_n 2, 11, []) := rfl
theorem k47_11 : mm_lk mm_m47.1 11 = some (11, .aload_n 0, 12, []) := rfl
theorem k47_12 : mm_lk mm_m47.1 12 = some (12, .iload_n 2, 13, []) := rfl
theorem k47_13 : mm_lk mm_m47.1 13 = some (13, .iconst 1, 14, []) := rfl
theorem k47_14 : mm_lk mm_m47.1 14 = some (14, .isub, 15, []) := rfl
theorem k47_15 : mm_lk mm_m47.1 15 = some (15, .iaload, 16, []) := rfl
theorem k47_16 : mm_lk mm_m47.1 16 = some (16, .iastore, 17, []) := rfl
theorem k47_17 : mm_lk mm_m47.1 17 = some (17, .iinc 2 (-1), 20, []) := rfl
theorem k47_20 : mm_lk mm_m47.1 20 = some (20, .goto (-15), 23, [5]) := rfl
theorem k47_23 : mm_lk mm_m47.1 23 = some (23, .aload_n 0, 24, []) := rfl
theorem k47_24 : mm_lk mm_m47.1 24 = some (24, .iconst 0, 25, []) := rfl
theorem k47_25 : mm_lk mm_m47.1 25 = some (25, .iload_n 1, 26, []) := rfl
theorem k47_26 : mm_lk mm_m47.1 26 = some (26, .invokestatic 28, 29, [6, 157, 3, 839, 449, 132, 0]) := rfl
theorem k47_29 : mm_lk mm_m47.1 29 = some (29, .return_, 30, []) := rfl
theorem k89_0 : mm_lk mm_m89.1 0 = some (0, .aload_n 0, 1, []) := rfl
theorem k89_1 : mm_lk mm_m89.1 1 = some (1, .getfield 21, 4, [0, 12, 1, 804]) := rfl
theorem k89_4 : mm_lk mm_m89.1 4 = some (4, .aload_n 0, 5, []) := rfl
theorem k89_5 : mm_lk mm_m89.1 5 = some (5, .getfield 12, 8, [0, 12, 0, 802]) := rfl
theorem k89_8 : mm_lk mm_m89.1 8 = some (8, .invokevirtual 58, 11, [0, 11, 2, 3, 904, 699, 700, 135]) := rfl
theorem k89_11 : mm_lk mm_m89.1 11 = some (11, .ireturn, 12, []) := rfl
theorem k90_0 : mm_lk mm_m90.1 0 = some (0, .iload_n 2, 1, []) := rfl
theorem k90_1 : mm_lk mm_m90.1 1 = some (1, .aload_n 0, 2, []) := rfl
theorem k90_2 : mm_lk mm_m90.1 2 = some (2, .getfield 32, 5, [0, 12, 3, 808]) := rfl
theorem k90_5 : mm_lk mm_m90.1 5 = some (5, .getfield 62, 8, [1, 10, 5, 505, 0]) := rfl
theorem k90_8 : mm_lk mm_m90.1 8 = some (8, .invokestatic 68, 11, [6, 159, 2, 954, 715, 132, 0]) := rfl
theorem k90_11 : mm_lk mm_m90.1 11 = some (11, .ifCond .ne 5, 14, [16]) := rfl
theorem k90_14 : mm_lk mm_m90.1 14 = some (14, .iconst 1, 15, []) := rfl
theorem k90_15 : mm_lk mm_m90.1 15 = some (15, .ireturn, 16, []) := rfl
theorem k90_16 : mm_lk mm_m90.1 16 = some (16, .aload_n 0, 17, []) := rfl
theorem k90_17 : mm_lk mm_m90.1 17 = some (17, .iload_n 1, 18, []) := rfl
theorem k90_18 : mm_lk mm_m90.1 18 = some (18, .iload_n 2, 19, []) := rfl
theorem k90_19 : mm_lk mm_m90.1 19 = some (19, .invokevirtual 72, 22, [0, 91, 3, 12, 955, 956, 957, 149]) := rfl
theorem k90_22 : mm_lk mm_m90.1 22 = some (22, .aload_n 0, 23, []) := rfl
theorem k90_23 : mm_lk mm_m90.1 23 = some (23, .getfield 32, 26, [0, 12, 3, 808]) := rfl
theorem k90_26 : mm_lk mm_m90.1 26 = some (26, .getfield 62, 29, [1, 10, 5, 505, 0]) := rfl
theorem k90_29 : mm_lk mm_m90.1 29 = some (29, .invokestatic 68, 32, [6, 159, 2, 954, 715, 132, 0]) := rfl
theorem k90_32 : mm_lk mm_m90.1 32 = some (32, .ifCond .eq 7, 35, [39]) := rfl
theorem k90_35 : mm_lk mm_m90.1 35 = some (35, .iconst 0, 36, []) := rfl
theorem k90_36 : mm_lk mm_m90.1 36 = some (36, .goto 4, 39, [40]) := rfl
theorem k90_39 : mm_lk mm_m90.1 39 = some (39, .iconst 2, 40, []) := rfl
theorem k90_40 : mm_lk mm_m90.1 40 = some (40, .ireturn, 41, []) := rfl
theorem k91_0 : mm_lk mm_m91.1 0 = some (0, .iload_n 1, 1, []) := rfl
theorem k91_1 : mm_lk mm_m91.1 1 = some (1, .iconst (-1), 2, []) := rfl
theorem k91_2 : mm_lk mm_m91.1 2 = some (2, .if_icmp .ne 7, 5, [9]) := rfl
theorem k91_5 : mm_lk mm_m91.1 5 = some (5, .iload_n 2, 6, []) := rfl
theorem k91_6 : mm_lk mm_m91.1 6 = some (6, .goto 12, 9, [18]) := rfl
theorem k91_9 : mm_lk mm_m91.1 9 = some (9, .aload_n 0, 10, []) := rfl
theorem k91_10 : mm_lk mm_m91.1 10 = some (10, .getfield 12, 13, [0, 12, 0, 802]) := rfl
theorem k91_13 : mm_lk mm_m91.1 13 = some (13, .iload_n 1, 14, []) := rfl
theorem k91_14 : mm_lk mm_m91.1 14 = some (14, .iload_n 2, 15, []) := rfl
theorem k91_15 : mm_lk mm_m91.1 15 = some (15, .invokevirtual 76, 18, [0, 35, 3, 5, 959, 711, 712, 134]) := rfl
theorem k91_18 : mm_lk mm_m91.1 18 = some (18, .ireturn, 19, []) := rfl
theorem k92_0 : mm_lk mm_m92.1 0 = some (0, .aload_n 0, 1, []) := rfl
theorem k92_1 : mm_lk mm_m92.1 1 = some (1, .iload_n 1, 2, []) := rfl
theorem k92_2 : mm_lk mm_m92.1 2 = some (2, .iconst (-1), 3, []) := rfl
theorem k92_3 : mm_lk mm_m92.1 3 = some (3, .if_icmp .ne 7, 6, [10]) := rfl
theorem k92_6 : mm_lk mm_m92.1 6 = some (6, .iconst 0, 7, []) := rfl
theorem k92_7 : mm_lk mm_m92.1 7 = some (7, .goto 4, 10, [11]) := rfl
theorem k92_10 : mm_lk mm_m92.1 10 = some (10, .iconst 1, 11, []) := rfl
theorem k92_11 : mm_lk mm_m92.1 11 = some (11, .iload_n 1, 12, []) := rfl
theorem k92_12 : mm_lk mm_m92.1 12 = some (12, .invokestatic 79, 15, [6, 160, 1, 1039, 722, 132, 0]) := rfl
theorem k92_15 : mm_lk mm_m92.1 15 = some (15, .aload_n 0, 16, []) := rfl
theorem k92_16 : mm_lk mm_m92.1 16 = some (16, .iload_n 1, 17, []) := rfl
theorem k92_17 : mm_lk mm_m92.1 17 = some (17, .iload_n 2, 18, []) := rfl
theorem k92_18 : mm_lk mm_m92.1 18 = some (18, .invokevirtual 72, 21, [0, 91, 3, 12, 955, 956, 957, 149]) := rfl
theorem k92_21 : mm_lk mm_m92.1 21 = some (21, .invokevirtual 83, 24, [0, 96, 4, 12, 1040, 1042, 30, 149]) := rfl
theorem k92_24 : mm_lk mm_m92.1 24 = some (24, .return_, 25, []) := rfl
theorem k93_0 : mm_lk mm_m93.1 0 = some (0, .aload_n 0, 1, []) := rfl
theorem k93_1 : mm_lk mm_m93.1 1 = some (1, .getfield 12, 4, [0, 12, 0, 802]) := rfl
theorem k93_4 : mm_lk mm_m93.1 4 = some (4, .iload_n 2, 5, []) := rfl
theorem k93_5 : mm_lk mm_m93.1 5 = some (5, .iload_n 3, 6, []) := rfl
theorem k93_6 : mm_lk mm_m93.1 6 = some (6, .invokevirtual 87, 9, [0, 41, 3, 5, 1563, 1564, 1565, 134]) := rfl
theorem k93_9 : mm_lk mm_m93.1 9 = some (9, .istore 4, 11, []) := rfl
theorem k93_11 : mm_lk mm_m93.1 11 = some (11, .aload_n 0, 12, []) := rfl
theorem k93_12 : mm_lk mm_m93.1 12 = some (12, .getfield 28, 15, [0, 12, 2, 806]) := rfl
theorem k93_15 : mm_lk mm_m93.1 15 = some (15, .iload_n 1, 16, []) := rfl
theorem k93_16 : mm_lk mm_m93.1 16 = some (16, .iload_n 2, 17, []) := rfl
theorem k93_17 : mm_lk mm_m93.1 17 = some (17, .iconst 0, 18, []) := rfl
theorem k93_18 : mm_lk mm_m93.1 18 = some (18, .iload 4, 20, []) := rfl
theorem k93_20 : mm_lk mm_m93.1 20 = some (20, .invokevirtual 90, 23, [0, 45, 5, 6, 1044, 1045, 1046, 150]) := rfl
theorem k93_23 : mm_lk mm_m93.1 23 = some (23, .iload 4, 25, []) := rfl
theorem k93_25 : mm_lk mm_m93.1 25 = some (25, .ireturn, 26, []) := rfl
theorem k94_0 : mm_lk mm_m94.1 0 = some (0, .getstatic 93, 3, [1, 4, 1551, 0]) := rfl
theorem k94_3 : mm_lk mm_m94.1 3 = some (3, .iload_n 1, 4, []) := rfl
theorem k94_4 : mm_lk mm_m94.1 4 = some (4, .invokestatic 97, 7, [6, 156, 2, 1552, 568, 132, 0]) := rfl
theorem k94_7 : mm_lk mm_m94.1 7 = some (7, .istore_n 2, 8, []) := rfl
theorem k94_8 : mm_lk mm_m94.1 8 = some (8, .aload_n 0, 9, []) := rfl
theorem k94_9 : mm_lk mm_m94.1 9 = some (9, .getfield 12, 12, [0, 12, 0, 802]) := rfl
theorem k94_12 : mm_lk mm_m94.1 12 = some (12, .aload_n 0, 13, []) := rfl
theorem k94_13 : mm_lk mm_m94.1 13 = some (13, .getfield 32, 16, [0, 12, 3, 808]) := rfl
theorem k94_16 : mm_lk mm_m94.1 16 = some (16, .getfield 62, 19, [1, 10, 5, 505, 0]) := rfl
theorem k94_19 : mm_lk mm_m94.1 19 = some (19, .iload_n 2, 20, []) := rfl
theorem k94_20 : mm_lk mm_m94.1 20 = some (20, .invokevirtual 101, 23, [0, 39, 3, 5, 1553, 918, 919, 134]) := rfl
theorem k94_23 : mm_lk mm_m94.1 23 = some (23, .istore_n 3, 24, []) := rfl
theorem k94_24 : mm_lk mm_m94.1 24 = some (24, .aload_n 0, 25, []) := rfl
theorem k94_25 : mm_lk mm_m94.1 25 = some (25, .iconst 4, 26, []) := rfl
theorem k94_26 : mm_lk mm_m94.1 26 = some (26, .iconst 0, 27, []) := rfl
theorem k94_27 : mm_lk mm_m94.1 27 = some (27, .aload_n 0, 28, []) := rfl
theorem k94_28 : mm_lk mm_m94.1 28 = some (28, .getfield 12, 31, [0, 12, 0, 802]) := rfl
theorem k94_31 : mm_lk mm_m94.1 31 = some (31, .iload_n 3, 32, []) := rfl
theorem k94_32 : mm_lk mm_m94.1 32 = some (32, .iload_n 2, 33, []) := rfl
theorem k94_33 : mm_lk mm_m94.1 33 = some (33, .invokevirtual 104, 36, [0, 40, 3, 5, 1554, 1555, 1556, 134]) := rfl
theorem k94_36 : mm_lk mm_m94.1 36 = some (36, .invokevirtual 83, 39, [0, 96, 4, 12, 1040, 1042, 30, 149]) := rfl
theorem k94_39 : mm_lk mm_m94.1 39 = some (39, .iload_n 3, 40, []) := rfl
theorem k94_40 : mm_lk mm_m94.1 40 = some (40, .ireturn, 41, []) := rfl
theorem k95_0 : mm_lk mm_m95.1 0 = some (0, .aload_n 1, 1, []) := rfl
theorem k95_1 : mm_lk mm_m95.1 1 = some (1, .ifnonnull 5, 4, [6]) := rfl
theorem k95_4 : mm_lk mm_m95.1 4 = some (4, .iconst 0, 5, []) := rfl
theorem k95_5 : mm_lk mm_m95.1 5 = some (5, .ireturn, 6, []) := rfl
theorem k95_6 : mm_lk mm_m95.1 6 = some (6, .aload_n 1, 7, []) := rfl
theorem k95_7 : mm_lk mm_m95.1 7 = some (7, .getfield 107, 10, [1, 8, 1, 328, 0]) := rfl
theorem k95_10 : mm_lk mm_m95.1 10 = some (10, .iconst 4, 11, []) := rfl
theorem k95_11 : mm_lk mm_m95.1 11 = some (11, .if_icmp .ne 14, 14, [25]) := rfl
theorem k95_14 : mm_lk mm_m95.1 14 = some (14, .aload_n 0, 15, []) := rfl
theorem k95_15 : mm_lk mm_m95.1 15 = some (15, .aload_n 1, 16, []) := rfl
theorem k95_16 : mm_lk mm_m95.1 16 = some (16, .getfield 112, 19, [1, 8, 4, 334, 0]) := rfl
theorem k95_19 : mm_lk mm_m95.1 19 = some (19, .invokevirtual 115, 22, [0, 94, 2, 12, 1547, 1548, 1549, 149]) := rfl
theorem k95_22 : mm_lk mm_m95.1 22 = some (22, .pop, 23, []) := rfl
theorem k95_23 : mm_lk mm_m95.1 23 = some (23, .iconst 1, 24, []) := rfl
theorem k95_24 : mm_lk mm_m95.1 24 = some (24, .ireturn, 25, []) := rfl
theorem k95_25 : mm_lk mm_m95.1 25 = some (25, .aload_n 1, 26, []) := rfl
theorem k95_26 : mm_lk mm_m95.1 26 = some (26, .getfield 107, 29, [1, 8, 1, 328, 0]) := rfl
theorem k95_29 : mm_lk mm_m95.1 29 = some (29, .iconst 3, 30, []) := rfl
theorem k95_30 : mm_lk mm_m95.1 30 = some (30, .if_icmp .ne 25, 33, [55]) := rfl
theorem k95_33 : mm_lk mm_m95.1 33 = some (33, .aload_n 0, 34, []) := rfl
theorem k95_34 : mm_lk mm_m95.1 34 = some (34, .iconst 3, 35, []) := rfl
theorem k95_35 : mm_lk mm_m95.1 35 = some (35, .aload_n 1, 36, []) := rfl
theorem k95_36 : mm_lk mm_m95.1 36 = some (36, .getfield 118, 39, [1, 8, 3, 332, 0]) := rfl
theorem k95_39 : mm_lk mm_m95.1 39 = some (39, .getstatic 93, 42, [1, 4, 1551, 0]) := rfl
theorem k95_42 : mm_lk mm_m95.1 42 = some (42, .aload_n 1, 43, []) := rfl
theorem k95_43 : mm_lk mm_m95.1 43 = some (43, .getfield 112, 46, [1, 8, 4, 334, 0]) := rfl
theorem k95_46 : mm_lk mm_m95.1 46 = some (46, .invokestatic 97, 49, [6, 156, 2, 1552, 568, 132, 0]) := rfl
theorem k95_49 : mm_lk mm_m95.1 49 = some (49, .invokevirtual 121, 52, [0, 93, 4, 12, 1559, 1560, 1561, 149]) := rfl
theorem k95_52 : mm_lk mm_m95.1 52 = some (52, .pop, 53, []) := rfl
theorem k95_53 : mm_lk mm_m95.1 53 = some (53, .iconst 1, 54, []) := rfl
theorem k95_54 : mm_lk mm_m95.1 54 = some (54, .ireturn, 55, []) := rfl
theorem k95_55 : mm_lk mm_m95.1 55 = some (55, .aload_n 1, 56, []) := rfl
theorem k95_56 : mm_lk mm_m95.1 56 = some (56, .getfield 124, 59, [1, 8, 0, 326, 0]) := rfl
theorem k95_59 : mm_lk mm_m95.1 59 = some (59, .aload_n 0, 60, []) := rfl
theorem k95_60 : mm_lk mm_m95.1 60 = some (60, .getfield 12, 63, [0, 12, 0, 802]) := rfl
theorem k95_63 : mm_lk mm_m95.1 63 = some (63, .invokevirtual 58, 66, [0, 11, 2, 3, 904, 699, 700, 135]) := rfl
theorem k95_66 : mm_lk mm_m95.1 66 = some (66, .istore_n 2, 67, []) := rfl
theorem k95_67 : mm_lk mm_m95.1 67 = some (67, .aload_n 1, 68, []) := rfl
theorem k95_68 : mm_lk mm_m95.1 68 = some (68, .getfield 107, 71, [1, 8, 1, 328, 0]) := rfl
theorem k95_71 : mm_lk mm_m95.1 71 = some (71, .iconst 2, 72, []) := rfl
theorem k95_72 : mm_lk mm_m95.1 72 = some (72, .if_icmp .ne 16, 75, [88]) := rfl
theorem k95_75 : mm_lk mm_m95.1 75 = some (75, .aload_n 0, 76, []) := rfl
theorem k95_76 : mm_lk mm_m95.1 76 = some (76, .iconst 2, 77, []) := rfl
theorem k95_77 : mm_lk mm_m95.1 77 = some (77, .aload_n 1, 78, []) := rfl
theorem k95_78 : mm_lk mm_m95.1 78 = some (78, .getfield 118, 81, [1, 8, 3, 332, 0]) := rfl
theorem k95_81 : mm_lk mm_m95.1 81 = some (81, .iload_n 2, 82, []) := rfl
theorem k95_82 : mm_lk mm_m95.1 82 = some (82, .invokevirtual 121, 85, [0, 93, 4, 12, 1559, 1560, 1561, 149]) := rfl
theorem k95_85 : mm_lk mm_m95.1 85 = some (85, .pop, 86, []) := rfl
theorem k95_86 : mm_lk mm_m95.1 86 = some (86, .iconst 1, 87, []) := rfl
theorem k95_87 : mm_lk mm_m95.1 87 = some (87, .ireturn, 88, []) := rfl
theorem k95_88 : mm_lk mm_m95.1 88 = some (88, .aload_n 0, 89, []) := rfl
theorem k95_89 : mm_lk mm_m95.1 89 = some (89, .aload_n 1, 90, []) := rfl
theorem k95_90 : mm_lk mm_m95.1 90 = some (90, .getfield 127, 93, [1, 8, 2, 330, 0]) := rfl
theorem k95_93 : mm_lk mm_m95.1 93 = some (93, .iload_n 2, 94, []) := rfl
theorem k95_94 : mm_lk mm_m95.1 94 = some (94, .invokevirtual 130, 97, [0, 90, 3, 12, 1567, 951, 952, 149]) := rfl
theorem k95_97 : mm_lk mm_m95.1 97 = some (97, .ifCond .ne 7, 100, [104]) := rfl
theorem k95_100 : mm_lk mm_m95.1 100 = some (100, .iconst 1, 101, []) := rfl
theorem k95_101 : mm_lk mm_m95.1 101 = some (101, .goto 4, 104, [105]) := rfl
theorem k95_104 : mm_lk mm_m95.1 104 = some (104, .iconst 0, 105, []) := rfl
theorem k95_105 : mm_lk mm_m95.1 105 = some (105, .istore_n 3, 106, []) := rfl
theorem k95_106 : mm_lk mm_m95.1 106 = some (106, .iload_n 3, 107, []) := rfl
theorem k95_107 : mm_lk mm_m95.1 107 = some (107, .ifCond .eq 12, 110, [119]) := rfl
theorem k95_110 : mm_lk mm_m95.1 110 = some (110, .aload_n 0, 111, []) := rfl
theorem k95_111 : mm_lk mm_m95.1 111 = some (111, .aload_n 1, 112, []) := rfl
theorem k95_112 : mm_lk mm_m95.1 112 = some (112, .getfield 127, 115, [1, 8, 2, 330, 0]) := rfl
theorem k95_115 : mm_lk mm_m95.1 115 = some (115, .iload_n 2, 116, []) := rfl
theorem k95_116 : mm_lk mm_m95.1 116 = some (116, .invokevirtual 133, 119, [0, 92, 3, 12, 1568, 1036, 1037, 149]) := rfl
theorem k95_119 : mm_lk mm_m95.1 119 = some (119, .iload_n 3, 120, []) := rfl
theorem k95_120 : mm_lk mm_m95.1 120 = some (120, .ireturn, 121, []) := rfl
theorem k96_0 : mm_lk mm_m96.1 0 = some (0, .aload_n 0, 1, []) := rfl
theorem k96_1 : mm_lk mm_m96.1 1 = some (1, .getfield 12, 4, [0, 12, 0, 802]) := rfl
theorem k96_4 : mm_lk mm_m96.1 4 = some (4, .getfield 136, 7, [1, 5, 1, 235, 0]) := rfl
theorem k96_7 : mm_lk mm_m96.1 7 = some (7, .iload_n 3, 8, []) := rfl
theorem k96_8 : mm_lk mm_m96.1 8 = some (8, .iconst (-1), 9, []) := rfl
theorem k96_9 : mm_lk mm_m96.1 9 = some (9, .ixor, 10, []) := rfl
theorem k96_10 : mm_lk mm_m96.1 10 = some (10, .iand, 11, []) := rfl
theorem k96_11 : mm_lk mm_m96.1 11 = some (11, .istore 4, 13, []) := rfl
theorem k96_13 : mm_lk mm_m96.1 13 = some (13, .aload_n 0, 14, []) := rfl
theorem k96_14 : mm_lk mm_m96.1 14 = some (14, .getfield 12, 17, [0, 12, 0, 802]) := rfl
theorem k96_17 : mm_lk mm_m96.1 17 = some (17, .iload_n 3, 18, []) := rfl
theorem k96_18 : mm_lk mm_m96.1 18 = some (18, .putfield 136, 21, [1, 5, 1, 235, 0]) := rfl
theorem k96_21 : mm_lk mm_m96.1 21 = some (21, .aload_n 0, 22, []) := rfl
theorem k96_22 : mm_lk mm_m96.1 22 = some (22, .getfield 28, 25, [0, 12, 2, 806]) := rfl
theorem k96_25 : mm_lk mm_m96.1 25 = some (25, .iload_n 1, 26, []) := rfl
theorem k96_26 : mm_lk mm_m96.1 26 = some (26, .iload_n 2, 27, []) := rfl
theorem k96_27 : mm_lk mm_m96.1 27 = some (27, .iload 4, 29, []) := rfl
theorem k96_29 : mm_lk mm_m96.1 29 = some (29, .iconst 0, 30, []) := rfl
theorem k96_30 : mm_lk mm_m96.1 30 = some (30, .invokevirtual 90, 33, [0, 45, 5, 6, 1044, 1045, 1046, 150]) := rfl
theorem k96_33 : mm_lk mm_m96.1 33 = some (33, .return_, 34, []) := rfl
theorem k103_0 : mm_lk mm_m103.1 0 = some (0, .aload_n 0, 1, []) := rfl
theorem k103_1 : mm_lk mm_m103.1 1 = some (1, .getfield 10, 4, [0, 13, 0, 841]) := rfl
theorem k103_4 : mm_lk mm_m103.1 4 = some (4, .getfield 161, 7, [1, 11, 10, 196, 0]) := rfl
theorem k103_7 : mm_lk mm_m103.1 7 = some (7, .ireturn, 8, []) := rfl
theorem k104_0 : mm_lk mm_m104.1 0 = some (0, .aload_n 0, 1, []) := rfl
theorem k104_1 : mm_lk mm_m104.1 1 = some (1, .getfield 10, 4, [0, 13, 0, 841]) := rfl
theorem k104_4 : mm_lk mm_m104.1 4 = some (4, .getfield 164, 7, [1, 11, 11, 198, 0]) := rfl
theorem k104_7 : mm_lk mm_m104.1 7 = some (7, .ireturn, 8, []) := rfl
theorem k105_0 : mm_lk mm_m105.1 0 = some (0, .iload_n 1, 1, []) := rfl
theorem k105_1 : mm_lk mm_m105.1 1 = some (1, .tableswitch 168 0 9 #[55, 69, 83, 94, 108, 119, 130, 141, 152, 163], 56, [169, 56, 70, 84, 95, 109, 120, 131, 142, 153, 164]) := rfl
theorem k105_56 : mm_lk mm_m105.1 56 = some (56, .aload_n 0, 57, []) := rfl
theorem k105_57 : mm_lk mm_m105.1 57 = some (57, .getfield 87, 60, [0, 13, 8, 849]) := rfl
theorem k105_60 : mm_lk mm_m105.1 60 = some (60, .getfield 125, 63, [1, 12, 3, 809, 0]) := rfl
theorem k105_63 : mm_lk mm_m105.1 63 = some (63, .getfield 167, 66, [1, 10, 0, 486, 0]) := rfl
theorem k105_66 : mm_lk mm_m105.1 66 = some (66, .getfield 173, 69, [1, 7, 1, 474, 0]) := rfl
theorem k105_69 : mm_lk mm_m105.1 69 = some (69, .ireturn, 70, []) := rfl
theorem k105_70 : mm_lk mm_m105.1 70 = some (70, .aload_n 0, 71, []) := rfl
theorem k105_71 : mm_lk mm_m105.1 71 = some (71, .getfield 87, 74, [0, 13, 8, 849]) := rfl
theorem k105_74 : mm_lk mm_m105.1 74 = some (74, .getfield 125, 77, [1, 12, 3, 809, 0]) := rfl
theorem k105_77 : mm_lk mm_m105.1 77 = some (77, .getfield 176, 80, [1, 10, 1, 493, 0]) := rfl
theorem k105_80 : mm_lk mm_m105.1 80 = some (80, .getfield 173, 83, [1, 7, 1, 474, 0]) := rfl
theorem k105_83 : mm_lk mm_m105.1 83 = some (83, .ireturn, 84, []) := rfl
theorem k105_84 : mm_lk mm_m105.1 84 = some (84, .aload_n 0, 85, []) := rfl
theorem k105_85 : mm_lk mm_m105.1 85 = some (85, .getfield 87, 88, [0, 13, 8, 849]) := rfl
theorem k105_88 : mm_lk mm_m105.1 88 = some (88, .getfield 118, 91, [1, 12, 0, 803, 0]) := rfl
theorem k105_91 : mm_lk mm_m105.1 91 = some (91, .invokevirtual 121, 94, [0, 28, 1, 5, 977, 978, 979, 134]) := rfl
theorem k105_94 : mm_lk mm_m105.1 94 = some (94, .ireturn, 95, []) := rfl
theorem k105_95 : mm_lk mm_m105.1 95 = some (95, .aload_n 0, 96, []) := rfl
theorem k105_96 : mm_lk mm_m105.1 96 = some (96, .getfield 87, 99, [0, 13, 8, 849]) := rfl
theorem k105_99 : mm_lk mm_m105.1 99 = some (99, .getfield 125, 102, [1, 12, 3, 809, 0]) := rfl
theorem k105_102 : mm_lk mm_m105.1 102 = some (102, .getfield 179, 105, [1, 10, 4, 502, 0]) := rfl
theorem k105_105 : mm_lk mm_m105.1 105 = some (105, .invokestatic 182, 108, [1, 360, 1, 961, 962, 157]) := rfl
theorem k105_108 : mm_lk mm_m105.1 108 = some (108, .ireturn, 109, []) := rfl
theorem k105_109 : mm_lk mm_m105.1 109 = some (109, .aload_n 0, 110, []) := rfl
theorem k105_110 : mm_lk mm_m105.1 110 = some (110, .getfield 87, 113, [0, 13, 8, 849]) := rfl
theorem k105_113 : mm_lk mm_m105.1 113 = some (113, .getfield 125, 116, [1, 12, 3, 809, 0]) := rfl
theorem k105_116 : mm_lk mm_m105.1 116 = some (116, .getfield 188, 119, [1, 10, 5, 506, 0]) := rfl
theorem k105_119 : mm_lk mm_m105.1 119 = some (119, .ireturn, 120, []) := rfl
theorem k105_120 : mm_lk mm_m105.1 120 = some (120, .aload_n 0, 121, []) := rfl
theorem k105_121 : mm_lk mm_m105.1 121 = some (121, .getfield 87, 124, [0, 13, 8, 849]) := rfl
theorem k105_124 : mm_lk mm_m105.1 124 = some (124, .getfield 153, 127, [1, 12, 1, 805, 0]) := rfl
theorem k105_127 : mm_lk mm_m105.1 127 = some (127, .getfield 160, 130, [1, 3, 3, 255, 0]) := rfl
theorem k105_130 : mm_lk mm_m105.1 130 = some (130, .ireturn, 131, []) := rfl
theorem k105_131 : mm_lk mm_m105.1 131 = some (131, .aload_n 0, 132, []) := rfl
theorem k105_132 : mm_lk mm_m105.1 132 = some (132, .getfield 87, 135, [0, 13, 8, 849]) := rfl
theorem k105_135 : mm_lk mm_m105.1 135 = some (135, .getfield 153, 138, [1, 12, 1, 805, 0]) := rfl
theorem k105_138 : mm_lk mm_m105.1 138 = some (138, .invokevirtual 191, 141, [0, 12, 1, 3, 1587, 1588, 1589, 135]) := rfl
theorem k105_141 : mm_lk mm_m105.1 141 = some (141, .ireturn, 142, []) := rfl
theorem k105_142 : mm_lk mm_m105.1 142 = some (142, .aload_n 0, 143, []) := rfl
theorem k105_143 : mm_lk mm_m105.1 143 = some (143, .getfield 87, 146, [0, 13, 8, 849]) := rfl
theorem k105_146 : mm_lk mm_m105.1 146 = some (146, .getfield 125, 149, [1, 12, 3, 809, 0]) := rfl
theorem k105_149 : mm_lk mm_m105.1 149 = some (149, .getfield 194, 152, [1, 10, 3, 499, 0]) := rfl
theorem k105_152 : mm_lk mm_m105.1 152 = some (152, .ireturn, 153, []) := rfl
theorem k105_153 : mm_lk mm_m105.1 153 = some (153, .aload_n 0, 154, []) := rfl
theorem k105_154 : mm_lk mm_m105.1 154 = some (154, .getfield 87, 157, [0, 13, 8, 849]) := rfl
theorem k105_157 : mm_lk mm_m105.1 157 = some (157, .getfield 197, 160, [1, 12, 2, 807, 0]) := rfl
theorem k105_160 : mm_lk mm_m105.1 160 = some (160, .getfield 201, 163, [1, 6, 4, 790, 0]) := rfl
theorem k105_163 : mm_lk mm_m105.1 163 = some (163, .ireturn, 164, []) := rfl
theorem k105_164 : mm_lk mm_m105.1 164 = some (164, .aload_n 0, 165, []) := rfl
theorem k105_165 : mm_lk mm_m105.1 165 = some (165, .getfield 204, 168, [0, 13, 12, 853]) := rfl
theorem k105_168 : mm_lk mm_m105.1 168 = some (168, .ireturn, 169, []) := rfl
theorem k105_169 : mm_lk mm_m105.1 169 = some (169, .new 112, 172, [1, 15, 1480, 114]) := rfl
theorem k106_0 : mm_lk mm_m106.1 0 = some (0, .iload_n 1, 1, []) := rfl
theorem k106_1 : mm_lk mm_m106.1 1 = some (1, .ifCond .eq 16, 4, [17]) := rfl
theorem k106_4 : mm_lk mm_m106.1 4 = some (4, .aload_n 0, 5, []) := rfl
theorem k106_5 : mm_lk mm_m106.1 5 = some (5, .getfield 87, 8, [0, 13, 8, 849]) := rfl
theorem k106_8 : mm_lk mm_m106.1 8 = some (8, .getfield 125, 11, [1, 12, 3, 809, 0]) := rfl
theorem k106_11 : mm_lk mm_m106.1 11 = some (11, .getfield 176, 14, [1, 10, 1, 493, 0]) := rfl
theorem k106_14 : mm_lk mm_m106.1 14 = some (14, .goto 13, 17, [27]) := rfl
theorem k106_17 : mm_lk mm_m106.1 17 = some (17, .aload_n 0, 18, []) := rfl
theorem k106_18 : mm_lk mm_m106.1 18 = some (18, .getfield 87, 21, [0, 13, 8, 849]) := rfl
theorem k106_21 : mm_lk mm_m106.1 21 = some (21, .getfield 125, 24, [1, 12, 3, 809, 0]) := rfl
theorem k106_24 : mm_lk mm_m106.1 24 = some (24, .getfield 167, 27, [1, 10, 0, 486, 0]) := rfl
theorem k106_27 : mm_lk mm_m106.1 27 = some (27, .astore 4, 29, []) := rfl
theorem k106_29 : mm_lk mm_m106.1 29 = some (29, .iload_n 2, 30, []) := rfl
theorem k106_30 : mm_lk mm_m106.1 30 = some (30, .ifCond .lt 12, 33, [42]) := rfl
theorem k106_33 : mm_lk mm_m106.1 33 = some (33, .iload_n 2, 34, []) := rfl
theorem k106_34 : mm_lk mm_m106.1 34 = some (34, .aload 4, 36, []) := rfl
theorem k106_36 : mm_lk mm_m106.1 36 = some (36, .getfield 173, 39, [1, 7, 1, 474, 0]) := rfl
theorem k106_39 : mm_lk mm_m106.1 39 = some (39, .if_icmp .lt 11, 42, [50]) := rfl
theorem k106_42 : mm_lk mm_m106.1 42 = some (42, .new 207, 45, [1, 16, 1600, 209]) := rfl
theorem k106_50 : mm_lk mm_m106.1 50 = some (50, .aload 4, 52, []) := rfl
theorem k106_52 : mm_lk mm_m106.1 52 = some (52, .iload_n 2, 53, []) := rfl
theorem k106_53 : mm_lk mm_m106.1 53 = some (53, .iload_n 3, 54, []) := rfl
theorem k106_54 : mm_lk mm_m106.1 54 = some (54, .invokevirtual 210, 57, [0, 52, 3, 7, 1615, 1392, 1393, 148]) := rfl
theorem k106_57 : mm_lk mm_m106.1 57 = some (57, .ireturn, 58, []) := rfl
theorem k107_0 : mm_lk mm_m107.1 0 = some (0, .aload_n 0, 1, []) := rfl
theorem k107_1 : mm_lk mm_m107.1 1 = some (1, .iload_n 1, 2, []) := rfl
theorem k107_2 : mm_lk mm_m107.1 2 = some (2, .invokevirtual 214, 5, [0, 146, 2, 13, 1623, 1625, 38, 132]) := rfl
theorem k107_5 : mm_lk mm_m107.1 5 = some (5, .aload_n 0, 6, []) := rfl
theorem k107_6 : mm_lk mm_m107.1 6 = some (6, .getfield 87, 9, [0, 13, 8, 849]) := rfl
theorem k107_9 : mm_lk mm_m107.1 9 = some (9, .getfield 125, 12, [1, 12, 3, 809, 0]) := rfl
theorem k107_12 : mm_lk mm_m107.1 12 = some (12, .getfield 217, 15, [1, 10, 2, 497, 0]) := rfl
theorem k107_15 : mm_lk mm_m107.1 15 = some (15, .iload_n 1, 16, []) := rfl
theorem k107_16 : mm_lk mm_m107.1 16 = some (16, .invokestatic 220, 19, [1, 156, 2, 976, 568, 132]) := rfl
theorem k107_19 : mm_lk mm_m107.1 19 = some (19, .ireturn, 20, []) := rfl
theorem k108_0 : mm_lk mm_m108.1 0 = some (0, .aload_n 0, 1, []) := rfl
theorem k108_1 : mm_lk mm_m108.1 1 = some (1, .getfield 87, 4, [0, 13, 8, 849]) := rfl
theorem k108_4 : mm_lk mm_m108.1 4 = some (4, .getfield 118, 7, [1, 12, 0, 803, 0]) := rfl
theorem k108_7 : mm_lk mm_m108.1 7 = some (7, .getfield 224, 10, [1, 5, 1, 236, 0]) := rfl
theorem k108_10 : mm_lk mm_m108.1 10 = some (10, .ireturn, 11, []) := rfl
theorem k109_0 : mm_lk mm_m109.1 0 = some (0, .aload_n 0, 1, []) := rfl
theorem k109_1 : mm_lk mm_m109.1 1 = some (1, .iload_n 1, 2, []) := rfl
theorem k109_2 : mm_lk mm_m109.1 2 = some (2, .invokevirtual 214, 5, [0, 146, 2, 13, 1623, 1625, 38, 132]) := rfl
theorem k109_5 : mm_lk mm_m109.1 5 = some (5, .aload_n 0, 6, []) := rfl
theorem k109_6 : mm_lk mm_m109.1 6 = some (6, .iload_n 2, 7, []) := rfl
theorem k109_7 : mm_lk mm_m109.1 7 = some (7, .invokevirtual 227, 10, [0, 148, 2, 13, 1634, 1636, 39, 132]) := rfl
theorem k109_10 : mm_lk mm_m109.1 10 = some (10, .aload_n 0, 11, []) := rfl
theorem k109_11 : mm_lk mm_m109.1 11 = some (11, .getfield 87, 14, [0, 13, 8, 849]) := rfl
theorem k109_14 : mm_lk mm_m109.1 14 = some (14, .getfield 118, 17, [1, 12, 0, 803, 0]) := rfl
theorem k109_17 : mm_lk mm_m109.1 17 = some (17, .iload_n 1, 18, []) := rfl
theorem k109_18 : mm_lk mm_m109.1 18 = some (18, .iload_n 2, 19, []) := rfl
theorem k109_19 : mm_lk mm_m109.1 19 = some (19, .invokevirtual 230, 22, [0, 29, 3, 5, 1638, 718, 719, 134]) := rfl
theorem k109_22 : mm_lk mm_m109.1 22 = some (22, .ireturn, 23, []) := rfl
theorem k110_0 : mm_lk mm_m110.1 0 = some (0, .aload_n 0, 1, []) := rfl
theorem k110_1 : mm_lk mm_m110.1 1 = some (1, .iload_n 1, 2, []) := rfl
theorem k110_2 : mm_lk mm_m110.1 2 = some (2, .invokevirtual 214, 5, [0, 146, 2, 13, 1623, 1625, 38, 132]) := rfl
theorem k110_5 : mm_lk mm_m110.1 5 = some (5, .iconst 0, 6, []) := rfl
theorem k110_6 : mm_lk mm_m110.1 6 = some (6, .istore_n 2, 7, []) := rfl
theorem k110_7 : mm_lk mm_m110.1 7 = some (7, .iconst 0, 8, []) := rfl
theorem k110_8 : mm_lk mm_m110.1 8 = some (8, .istore_n 3, 9, []) := rfl
theorem k110_9 : mm_lk mm_m110.1 9 = some (9, .iload_n 3, 10, []) := rfl
theorem k110_10 : mm_lk mm_m110.1 10 = some (10, .bipush 32, 12, []) := rfl
theorem k110_12 : mm_lk mm_m110.1 12 = some (12, .if_icmp .ge 27, 15, [39]) := rfl
theorem k110_15 : mm_lk mm_m110.1 15 = some (15, .aload_n 0, 16, []) := rfl
theorem k110_16 : mm_lk mm_m110.1 16 = some (16, .getfield 87, 19, [0, 13, 8, 849]) := rfl
theorem k110_19 : mm_lk mm_m110.1 19 = some (19, .getfield 118, 22, [1, 12, 0, 803, 0]) := rfl
theorem k110_22 : mm_lk mm_m110.1 22 = some (22, .iload_n 1, 23, []) := rfl
theorem k110_23 : mm_lk mm_m110.1 23 = some (23, .iload_n 3, 24, []) := rfl
theorem k110_24 : mm_lk mm_m110.1 24 = some (24, .invokevirtual 233, 27, [0, 30, 3, 5, 1646, 1647, 1648, 134]) := rfl
theorem k110_27 : mm_lk mm_m110.1 27 = some (27, .ifCond .eq 6, 30, [33]) := rfl
theorem k110_30 : mm_lk mm_m110.1 30 = some (30, .iinc 2 1, 33, []) := rfl
theorem k110_33 : mm_lk mm_m110.1 33 = some (33, .iinc 3 1, 36, []) := rfl
theorem k110_36 : mm_lk mm_m110.1 36 = some (36, .goto (-27), 39, [9]) := rfl
theorem k110_39 : mm_lk mm_m110.1 39 = some (39, .iload_n 2, 40, []) := rfl
theorem k110_40 : mm_lk mm_m110.1 40 = some (40, .ireturn, 41, []) := rfl
theorem k111_0 : mm_lk mm_m111.1 0 = some (0, .aload_n 0, 1, []) := rfl
theorem k111_1 : mm_lk mm_m111.1 1 = some (1, .iload_n 1, 2, []) := rfl
theorem k111_2 : mm_lk mm_m111.1 2 = some (2, .invokevirtual 214, 5, [0, 146, 2, 13, 1623, 1625, 38, 132]) := rfl
theorem k111_5 : mm_lk mm_m111.1 5 = some (5, .aload_n 0, 6, []) := rfl
theorem k111_6 : mm_lk mm_m111.1 6 = some (6, .getfield 87, 9, [0, 13, 8, 849]) := rfl
theorem k111_9 : mm_lk mm_m111.1 9 = some (9, .getfield 118, 12, [1, 12, 0, 803, 0]) := rfl
theorem k111_12 : mm_lk mm_m111.1 12 = some (12, .iload_n 1, 13, []) := rfl
theorem k111_13 : mm_lk mm_m111.1 13 = some (13, .invokevirtual 237, 16, [0, 31, 2, 5, 990, 991, 992, 134]) := rfl
theorem k111_16 : mm_lk mm_m111.1 16 = some (16, .aload_n 0, 17, []) := rfl
theorem k111_17 : mm_lk mm_m111.1 17 = some (17, .getfield 87, 20, [0, 13, 8, 849]) := rfl
theorem k111_20 : mm_lk mm_m111.1 20 = some (20, .getfield 118, 23, [1, 12, 0, 803, 0]) := rfl
theorem k111_23 : mm_lk mm_m111.1 23 = some (23, .invokevirtual 121, 26, [0, 28, 1, 5, 977, 978, 979, 134]) := rfl
theorem k111_26 : mm_lk mm_m111.1 26 = some (26, .isub, 27, []) := rfl
theorem k111_27 : mm_lk mm_m111.1 27 = some (27, .iconst 2, 28, []) := rfl
theorem k111_28 : mm_lk mm_m111.1 28 = some (28, .idiv, 29, []) := rfl
theorem k111_29 : mm_lk mm_m111.1 29 = some (29, .ireturn, 30, []) := rfl
theorem k112_0 : mm_lk mm_m112.1 0 = some (0, .aload_n 0, 1, []) := rfl
theorem k112_1 : mm_lk mm_m112.1 1 = some (1, .iload_n 1, 2, []) := rfl
theorem k112_2 : mm_lk mm_m112.1 2 = some (2, .invokevirtual 227, 5, [0, 148, 2, 13, 1634, 1636, 39, 132]) := rfl
theorem k112_5 : mm_lk mm_m112.1 5 = some (5, .aload_n 0, 6, []) := rfl
theorem k112_6 : mm_lk mm_m112.1 6 = some (6, .getfield 87, 9, [0, 13, 8, 849]) := rfl
theorem k112_9 : mm_lk mm_m112.1 9 = some (9, .getfield 118, 12, [1, 12, 0, 803, 0]) := rfl
theorem k112_12 : mm_lk mm_m112.1 12 = some (12, .iload_n 1, 13, []) := rfl
theorem k112_13 : mm_lk mm_m112.1 13 = some (13, .invokestatic 240, 16, [1, 160, 1, 926, 722, 132]) := rfl
theorem k112_16 : mm_lk mm_m112.1 16 = some (16, .invokevirtual 243, 19, [0, 33, 2, 5, 927, 729, 730, 134]) := rfl
theorem k112_19 : mm_lk mm_m112.1 19 = some (19, .ireturn, 20, []) := rfl
theorem k113_0 : mm_lk mm_m113.1 0 = some (0, .aload_n 0, 1, []) := rfl
theorem k113_1 : mm_lk mm_m113.1 1 = some (1, .iload_n 1, 2, []) := rfl
theorem k113_2 : mm_lk mm_m113.1 2 = some (2, .invokevirtual 227, 5, [0, 148, 2, 13, 1634, 1636, 39, 132]) := rfl
theorem k113_5 : mm_lk mm_m113.1 5 = some (5, .aload_n 0, 6, []) := rfl
theorem k113_6 : mm_lk mm_m113.1 6 = some (6, .iload_n 2, 7, []) := rfl
theorem k113_7 : mm_lk mm_m113.1 7 = some (7, .invokevirtual 227, 10, [0, 148, 2, 13, 1634, 1636, 39, 132]) := rfl
theorem k113_10 : mm_lk mm_m113.1 10 = some (10, .aload_n 0, 11, []) := rfl
theorem k113_11 : mm_lk mm_m113.1 11 = some (11, .getfield 87, 14, [0, 13, 8, 849]) := rfl
theorem k113_14 : mm_lk mm_m113.1 14 = some (14, .getfield 118, 17, [1, 12, 0, 803, 0]) := rfl
theorem k113_17 : mm_lk mm_m113.1 17 = some (17, .iload_n 1, 18, []) := rfl
theorem k113_18 : mm_lk mm_m113.1 18 = some (18, .iload_n 2, 19, []) := rfl
theorem k113_19 : mm_lk mm_m113.1 19 = some (19, .invokevirtual 246, 22, [0, 34, 3, 5, 1672, 1673, 1674, 134]) := rfl
theorem k113_22 : mm_lk mm_m113.1 22 = some (22, .ireturn, 23, []) := rfl
theorem k114_0 : mm_lk mm_m114.1 0 = some (0, .aload_n 0, 1, []) := rfl
theorem k114_1 : mm_lk mm_m114.1 1 = some (1, .iload_n 1, 2, []) := rfl
theorem k114_2 : mm_lk mm_m114.1 2 = some (2, .invokevirtual 227, 5, [0, 148, 2, 13, 1634, 1636, 39, 132]) := rfl
theorem k114_5 : mm_lk mm_m114.1 5 = some (5, .aload_n 0, 6, []) := rfl
theorem k114_6 : mm_lk mm_m114.1 6 = some (6, .getfield 87, 9, [0, 13, 8, 849]) := rfl
theorem k114_9 : mm_lk mm_m114.1 9 = some (9, .invokevirtual 249, 12, [0, 89, 1, 12, 900, 901, 902, 149]) := rfl
theorem k114_12 : mm_lk mm_m114.1 12 = some (12, .iload_n 1, 13, []) := rfl
theorem k114_13 : mm_lk mm_m114.1 13 = some (13, .invokestatic 252, 16, [1, 159, 2, 763, 715, 132]) := rfl
theorem k114_16 : mm_lk mm_m114.1 16 = some (16, .ireturn, 17, []) := rfl
theorem k115_0 : mm_lk mm_m115.1 0 = some (0, .aload_n 0, 1, []) := rfl
theorem k115_1 : mm_lk mm_m115.1 1 = some (1, .getfield 87, 4, [0, 13, 8, 849]) := rfl
theorem k115_4 : mm_lk mm_m115.1 4 = some (4, .invokevirtual 249, 7, [0, 89, 1, 12, 900, 901, 902, 149]) := rfl
theorem k115_7 : mm_lk mm_m115.1 7 = some (7, .ireturn, 8, []) := rfl
theorem k116_0 : mm_lk mm_m116.1 0 = some (0, .aload_n 0, 1, []) := rfl
theorem k116_1 : mm_lk mm_m116.1 1 = some (1, .getfield 87, 4, [0, 13, 8, 849]) := rfl
theorem k116_4 : mm_lk mm_m116.1 4 = some (4, .getfield 118, 7, [1, 12, 0, 803, 0]) := rfl
theorem k116_7 : mm_lk mm_m116.1 7 = some (7, .aload_n 0, 8, []) := rfl
theorem k116_8 : mm_lk mm_m116.1 8 = some (8, .getfield 87, 11, [0, 13, 8, 849]) := rfl
theorem k116_11 : mm_lk mm_m116.1 11 = some (11, .getfield 125, 14, [1, 12, 3, 809, 0]) := rfl
theorem k116_14 : mm_lk mm_m116.1 14 = some (14, .getfield 188, 17, [1, 10, 5, 506, 0]) := rfl
theorem k116_17 : mm_lk mm_m116.1 17 = some (17, .aload_n 0, 18, []) := rfl
theorem k116_18 : mm_lk mm_m116.1 18 = some (18, .getfield 87, 21, [0, 13, 8, 849]) := rfl
theorem k116_21 : mm_lk mm_m116.1 21 = some (21, .invokevirtual 249, 24, [0, 89, 1, 12, 900, 901, 902, 149]) := rfl
theorem k116_24 : mm_lk mm_m116.1 24 = some (24, .invokevirtual 255, 27, [0, 38, 3, 5, 909, 910, 911, 134]) := rfl
theorem k116_27 : mm_lk mm_m116.1 27 = some (27, .ireturn, 28, []) := rfl
theorem k117_0 : mm_lk mm_m117.1 0 = some (0, .aload_n 0, 1, []) := rfl
theorem k117_1 : mm_lk mm_m117.1 1 = some (1, .getfield 87, 4, [0, 13, 8, 849]) := rfl
theorem k117_4 : mm_lk mm_m117.1 4 = some (4, .getfield 118, 7, [1, 12, 0, 803, 0]) := rfl
theorem k117_7 : mm_lk mm_m117.1 7 = some (7, .aload_n 0, 8, []) := rfl
theorem k117_8 : mm_lk mm_m117.1 8 = some (8, .getfield 87, 11, [0, 13, 8, 849]) := rfl
theorem k117_11 : mm_lk mm_m117.1 11 = some (11, .getfield 125, 14, [1, 12, 3, 809, 0]) := rfl
theorem k117_14 : mm_lk mm_m117.1 14 = some (14, .getfield 188, 17, [1, 10, 5, 506, 0]) := rfl
theorem k117_17 : mm_lk mm_m117.1 17 = some (17, .aload_n 0, 18, []) := rfl
theorem k117_18 : mm_lk mm_m117.1 18 = some (18, .getfield 87, 21, [0, 13, 8, 849]) := rfl
theorem k117_21 : mm_lk mm_m117.1 21 = some (21, .invokevirtual 249, 24, [0, 89, 1, 12, 900, 901, 902, 149]) := rfl
theorem k117_24 : mm_lk mm_m117.1 24 = some (24, .invokevirtual 258, 27, [0, 39, 3, 5, 917, 918, 919, 134]) := rfl
theorem k117_27 : mm_lk mm_m117.1 27 = some (27, .ireturn, 28, []) := rfl
theorem k118_0 : mm_lk mm_m118.1 0 = some (0, .aload_n 0, 1, []) := rfl
theorem k118_1 : mm_lk mm_m118.1 1 = some (1, .getfield 87, 4, [0, 13, 8, 849]) := rfl
theorem k118_4 : mm_lk mm_m118.1 4 = some (4, .getfield 118, 7, [1, 12, 0, 803, 0]) := rfl
theorem k118_7 : mm_lk mm_m118.1 7 = some (7, .aload_n 0, 8, []) := rfl
theorem k118_8 : mm_lk mm_m118.1 8 = some (8, .getfield 87, 11, [0, 13, 8, 849]) := rfl
theorem k118_11 : mm_lk mm_m118.1 11 = some (11, .getfield 125, 14, [1, 12, 3, 809, 0]) := rfl
theorem k118_14 : mm_lk mm_m118.1 14 = some (14, .getfield 188, 17, [1, 10, 5, 506, 0]) := rfl
theorem k118_17 : mm_lk mm_m118.1 17 = some (17, .invokestatic 240, 20, [1, 160, 1, 926, 722, 132]) := rfl
theorem k118_20 : mm_lk mm_m118.1 20 = some (20, .invokevirtual 243, 23, [0, 33, 2, 5, 927, 729, 730, 134]) := rfl
theorem k118_23 : mm_lk mm_m118.1 23 = some (23, .aload_n 0, 24, []) := rfl
theorem k118_24 : mm_lk mm_m118.1 24 = some (24, .getfield 87, 27, [0, 13, 8, 849]) := rfl
theorem k118_27 : mm_lk mm_m118.1 27 = some (27, .invokevirtual 249, 30, [0, 89, 1, 12, 900, 901, 902, 149]) := rfl
theorem k118_30 : mm_lk mm_m118.1 30 = some (30, .iconst (-1), 31, []) := rfl
theorem k118_31 : mm_lk mm_m118.1 31 = some (31, .ixor, 32, []) := rfl
theorem k118_32 : mm_lk mm_m118.1 32 = some (32, .iand, 33, []) := rfl
theorem k118_33 : mm_lk mm_m118.1 33 = some (33, .ifCond .ne 7, 36, [40]) := rfl
theorem k118_36 : mm_lk mm_m118.1 36 = some (36, .iconst 1, 37, []) := rfl
theorem k118_37 : mm_lk mm_m118.1 37 = some (37, .goto 4, 40, [41]) := rfl
theorem k118_40 : mm_lk mm_m118.1 40 = some (40, .iconst 0, 41, []) := rfl
theorem k118_41 : mm_lk mm_m118.1 41 = some (41, .ireturn, 42, []) := rfl
theorem k119_0 : mm_lk mm_m119.1 0 = some (0, .aload_n 0, 1, []) := rfl
theorem k119_1 : mm_lk mm_m119.1 1 = some (1, .getfield 87, 4, [0, 13, 8, 849]) := rfl
theorem k119_4 : mm_lk mm_m119.1 4 = some (4, .invokevirtual 249, 7, [0, 89, 1, 12, 900, 901, 902, 149]) := rfl
theorem k119_7 : mm_lk mm_m119.1 7 = some (7, .istore_n 1, 8, []) := rfl
theorem k119_8 : mm_lk mm_m119.1 8 = some (8, .iload_n 1, 9, []) := rfl
theorem k119_9 : mm_lk mm_m119.1 9 = some (9, .aload_n 0, 10, []) := rfl
theorem k119_10 : mm_lk mm_m119.1 10 = some (10, .getfield 87, 13, [0, 13, 8, 849]) := rfl
theorem k119_13 : mm_lk mm_m119.1 13 = some (13, .getfield 125, 16, [1, 12, 3, 809, 0]) := rfl
theorem k119_16 : mm_lk mm_m119.1 16 = some (16, .getfield 188, 19, [1, 10, 5, 506, 0]) := rfl
theorem k119_19 : mm_lk mm_m119.1 19 = some (19, .invokestatic 252, 22, [1, 159, 2, 763, 715, 132]) := rfl
theorem k119_22 : mm_lk mm_m119.1 22 = some (22, .ifCond .ne 5, 25, [27]) := rfl
theorem k119_25 : mm_lk mm_m119.1 25 = some (25, .iconst (-1), 26, []) := rfl
theorem k119_26 : mm_lk mm_m119.1 26 = some (26, .ireturn, 27, []) := rfl
theorem k119_27 : mm_lk mm_m119.1 27 = some (27, .iconst 0, 28, []) := rfl
theorem k119_28 : mm_lk mm_m119.1 28 = some (28, .istore_n 2, 29, []) := rfl
theorem k119_29 : mm_lk mm_m119.1 29 = some (29, .iload_n 2, 30, []) := rfl
theorem k119_30 : mm_lk mm_m119.1 30 = some (30, .bipush 32, 32, []) := rfl
theorem k119_32 : mm_lk mm_m119.1 32 = some (32, .if_icmp .gt 50, 35, [82]) := rfl
theorem k119_35 : mm_lk mm_m119.1 35 = some (35, .aload_n 0, 36, []) := rfl
theorem k119_36 : mm_lk mm_m119.1 36 = some (36, .getfield 87, 39, [0, 13, 8, 849]) := rfl
theorem k119_39 : mm_lk mm_m119.1 39 = some (39, .getfield 118, 42, [1, 12, 0, 803, 0]) := rfl
theorem k119_42 : mm_lk mm_m119.1 42 = some (42, .iload_n 1, 43, []) := rfl
theorem k119_43 : mm_lk mm_m119.1 43 = some (43, .invokevirtual 261, 46, [0, 36, 2, 5, 932, 725, 726, 134]) := rfl
theorem k119_46 : mm_lk mm_m119.1 46 = some (46, .istore_n 3, 47, []) := rfl
theorem k119_47 : mm_lk mm_m119.1 47 = some (47, .iload_n 3, 48, []) := rfl
theorem k119_48 : mm_lk mm_m119.1 48 = some (48, .iload_n 1, 49, []) := rfl
theorem k119_49 : mm_lk mm_m119.1 49 = some (49, .if_icmp .ne 6, 52, [55]) := rfl
theorem k119_52 : mm_lk mm_m119.1 52 = some (52, .bipush 99, 54, []) := rfl
theorem k119_54 : mm_lk mm_m119.1 54 = some (54, .ireturn, 55, []) := rfl
theorem k119_55 : mm_lk mm_m119.1 55 = some (55, .iload_n 3, 56, []) := rfl
theorem k119_56 : mm_lk mm_m119.1 56 = some (56, .aload_n 0, 57, []) := rfl
theorem k119_57 : mm_lk mm_m119.1 57 = some (57, .getfield 87, 60, [0, 13, 8, 849]) := rfl
theorem k119_60 : mm_lk mm_m119.1 60 = some (60, .getfield 125, 63, [1, 12, 3, 809, 0]) := rfl
theorem k119_63 : mm_lk mm_m119.1 63 = some (63, .getfield 188, 66, [1, 10, 5, 506, 0]) := rfl
theorem k119_66 : mm_lk mm_m119.1 66 = some (66, .invokestatic 252, 69, [1, 159, 2, 763, 715, 132]) := rfl
theorem k119_69 : mm_lk mm_m119.1 69 = some (69, .ifCond .ne 5, 72, [74]) := rfl
theorem k119_72 : mm_lk mm_m119.1 72 = some (72, .iload_n 2, 73, []) := rfl
theorem k119_73 : mm_lk mm_m119.1 73 = some (73, .ireturn, 74, []) := rfl
theorem k119_74 : mm_lk mm_m119.1 74 = some (74, .iload_n 3, 75, []) := rfl
theorem k119_75 : mm_lk mm_m119.1 75 = some (75, .istore_n 1, 76, []) := rfl
theorem k119_76 : mm_lk mm_m119.1 76 = some (76, .iinc 2 1, 79, []) := rfl
theorem k119_79 : mm_lk mm_m119.1 79 = some (79, .goto (-50), 82, [29]) := rfl
theorem k119_82 : mm_lk mm_m119.1 82 = some (82, .bipush 99, 84, []) := rfl
theorem k119_84 : mm_lk mm_m119.1 84 = some (84, .ireturn, 85, []) := rfl
theorem k120_0 : mm_lk mm_m120.1 0 = some (0, .aload_n 0, 1, []) := rfl
theorem k120_1 : mm_lk mm_m120.1 1 = some (1, .getfield 87, 4, [0, 13, 8, 849]) := rfl
theorem k120_4 : mm_lk mm_m120.1 4 = some (4, .invokevirtual 249, 7, [0, 89, 1, 12, 900, 901, 902, 149]) := rfl
theorem k120_7 : mm_lk mm_m120.1 7 = some (7, .istore_n 1, 8, []) := rfl
theorem k120_8 : mm_lk mm_m120.1 8 = some (8, .iload_n 1, 9, []) := rfl
theorem k120_9 : mm_lk mm_m120.1 9 = some (9, .istore_n 2, 10, []) := rfl
theorem k120_10 : mm_lk mm_m120.1 10 = some (10, .iconst 1, 11, []) := rfl
theorem k120_11 : mm_lk mm_m120.1 11 = some (11, .istore_n 3, 12, []) := rfl
theorem k120_12 : mm_lk mm_m120.1 12 = some (12, .iconst 0, 13, []) := rfl
theorem k120_13 : mm_lk mm_m120.1 13 = some (13, .istore 4, 15, []) := rfl
theorem k120_15 : mm_lk mm_m120.1 15 = some (15, .iload 4, 17, []) := rfl
theorem k120_17 : mm_lk mm_m120.1 17 = some (17, .bipush 32, 19, []) := rfl
theorem k120_19 : mm_lk mm_m120.1 19 = some (19, .if_icmp .gt 41, 22, [60]) := rfl
theorem k120_22 : mm_lk mm_m120.1 22 = some (22, .iload_n 3, 23, []) := rfl
theorem k120_23 : mm_lk mm_m120.1 23 = some (23, .ifCond .eq 37, 26, [60]) := rfl
theorem k120_26 : mm_lk mm_m120.1 26 = some (26, .aload_n 0, 27, []) := rfl
theorem k120_27 : mm_lk mm_m120.1 27 = some (27, .getfield 87, 30, [0, 13, 8, 849]) := rfl
theorem k120_30 : mm_lk mm_m120.1 30 = some (30, .getfield 118, 33, [1, 12, 0, 803, 0]) := rfl
theorem k120_33 : mm_lk mm_m120.1 33 = some (33, .iload_n 2, 34, []) := rfl
theorem k120_34 : mm_lk mm_m120.1 34 = some (34, .invokevirtual 261, 37, [0, 36, 2, 5, 932, 725, 726, 134]) := rfl
theorem k120_37 : mm_lk mm_m120.1 37 = some (37, .istore 5, 39, []) := rfl
theorem k120_39 : mm_lk mm_m120.1 39 = some (39, .iload 5, 41, []) := rfl
theorem k120_41 : mm_lk mm_m120.1 41 = some (41, .iload_n 2, 42, []) := rfl
theorem k120_42 : mm_lk mm_m120.1 42 = some (42, .if_icmp .eq 7, 45, [49]) := rfl
theorem k120_45 : mm_lk mm_m120.1 45 = some (45, .iconst 1, 46, []) := rfl
theorem k120_46 : mm_lk mm_m120.1 46 = some (46, .goto 4, 49, [50]) := rfl
theorem k120_49 : mm_lk mm_m120.1 49 = some (49, .iconst 0, 50, []) := rfl
theorem k120_50 : mm_lk mm_m120.1 50 = some (50, .istore_n 3, 51, []) := rfl
theorem k120_51 : mm_lk mm_m120.1 51 = some (51, .iload 5, 53, []) := rfl
theorem k120_53 : mm_lk mm_m120.1 53 = some (53, .istore_n 2, 54, []) := rfl
theorem k120_54 : mm_lk mm_m120.1 54 = some (54, .iinc 4 1, 57, []) := rfl
theorem k120_57 : mm_lk mm_m120.1 57 = some (57, .goto (-42), 60, [15]) := rfl
theorem k120_60 : mm_lk mm_m120.1 60 = some (60, .iload_n 2, 61, []) := rfl
theorem k120_61 : mm_lk mm_m120.1 61 = some (61, .aload_n 0, 62, []) := rfl
theorem k120_62 : mm_lk mm_m120.1 62 = some (62, .getfield 87, 65, [0, 13, 8, 849]) := rfl
theorem k120_65 : mm_lk mm_m120.1 65 = some (65, .getfield 118, 68, [1, 12, 0, 803, 0]) := rfl
theorem k120_68 : mm_lk mm_m120.1 68 = some (68, .iconst 5, 69, []) := rfl
theorem k120_69 : mm_lk mm_m120.1 69 = some (69, .iconst 0, 70, []) := rfl
theorem k120_70 : mm_lk mm_m120.1 70 = some (70, .iload_n 1, 71, []) := rfl
theorem k120_71 : mm_lk mm_m120.1 71 = some (71, .invokevirtual 264, 74, [0, 37, 4, 5, 937, 707, 708, 134]) := rfl
theorem k120_74 : mm_lk mm_m120.1 74 = some (74, .ixor, 75, []) := rfl
theorem k120_75 : mm_lk mm_m120.1 75 = some (75, .ireturn, 76, []) := rfl
theorem k121_0 : mm_lk mm_m121.1 0 = some (0, .aload_n 0, 1, []) := rfl
theorem k121_1 : mm_lk mm_m121.1 1 = some (1, .iload_n 1, 2, []) := rfl
theorem k121_2 : mm_lk mm_m121.1 2 = some (2, .invokevirtual 214, 5, [0, 146, 2, 13, 1623, 1625, 38, 132]) := rfl
theorem k121_5 : mm_lk mm_m121.1 5 = some (5, .aload_n 0, 6, []) := rfl
theorem k121_6 : mm_lk mm_m121.1 6 = some (6, .iload_n 2, 7, []) := rfl
theorem k121_7 : mm_lk mm_m121.1 7 = some (7, .invokevirtual 268, 10, [0, 147, 2, 13, 1690, 1692, 40, 132]) := rfl
theorem k121_10 : mm_lk mm_m121.1 10 = some (10, .aload_n 0, 11, []) := rfl
theorem k121_11 : mm_lk mm_m121.1 11 = some (11, .getfield 87, 14, [0, 13, 8, 849]) := rfl
theorem k121_14 : mm_lk mm_m121.1 14 = some (14, .getfield 118, 17, [1, 12, 0, 803, 0]) := rfl
theorem k121_17 : mm_lk mm_m121.1 17 = some (17, .iload_n 1, 18, []) := rfl
theorem k121_18 : mm_lk mm_m121.1 18 = some (18, .aload_n 0, 19, []) := rfl
theorem k121_19 : mm_lk mm_m121.1 19 = some (19, .getfield 87, 22, [0, 13, 8, 849]) := rfl
theorem k121_22 : mm_lk mm_m121.1 22 = some (22, .getfield 125, 25, [1, 12, 3, 809, 0]) := rfl
theorem k121_25 : mm_lk mm_m121.1 25 = some (25, .getfield 188, 28, [1, 10, 5, 506, 0]) := rfl
theorem k121_28 : mm_lk mm_m121.1 28 = some (28, .invokevirtual 230, 31, [0, 29, 3, 5, 1638, 718, 719, 134]) := rfl
theorem k121_31 : mm_lk mm_m121.1 31 = some (31, .istore_n 3, 32, []) := rfl
theorem k121_32 : mm_lk mm_m121.1 32 = some (32, .getstatic 271, 35, [0, 4, 831]) := rfl
theorem k121_35 : mm_lk mm_m121.1 35 = some (35, .iload_n 2, 36, []) := rfl
theorem k121_36 : mm_lk mm_m121.1 36 = some (36, .invokestatic 220, 39, [1, 156, 2, 976, 568, 132]) := rfl
theorem k121_39 : mm_lk mm_m121.1 39 = some (39, .istore 4, 41, []) := rfl
theorem k121_41 : mm_lk mm_m121.1 41 = some (41, .iload_n 3, 42, []) := rfl
theorem k121_42 : mm_lk mm_m121.1 42 = some (42, .iload 4, 44, []) := rfl
theorem k121_44 : mm_lk mm_m121.1 44 = some (44, .iconst (-1), 45, []) := rfl
theorem k121_45 : mm_lk mm_m121.1 45 = some (45, .ixor, 46, []) := rfl
theorem k121_46 : mm_lk mm_m121.1 46 = some (46, .iand, 47, []) := rfl
theorem k121_47 : mm_lk mm_m121.1 47 = some (47, .ifCond .ne 5, 50, [52]) := rfl
theorem k121_50 : mm_lk mm_m121.1 50 = some (50, .iconst 1, 51, []) := rfl
theorem k121_51 : mm_lk mm_m121.1 51 = some (51, .ireturn, 52, []) := rfl
theorem k121_52 : mm_lk mm_m121.1 52 = some (52, .iload_n 3, 53, []) := rfl
theorem k121_53 : mm_lk mm_m121.1 53 = some (53, .iload 4, 55, []) := rfl
theorem k121_55 : mm_lk mm_m121.1 55 = some (55, .iand, 56, []) := rfl
theorem k121_56 : mm_lk mm_m121.1 56 = some (56, .ifCond .ne 7, 59, [63]) := rfl
theorem k121_59 : mm_lk mm_m121.1 59 = some (59, .iconst 0, 60, []) := rfl
theorem k121_60 : mm_lk mm_m121.1 60 = some (60, .goto 4, 63, [64]) := rfl
theorem k121_63 : mm_lk mm_m121.1 63 = some (63, .iconst (-1), 64, []) := rfl
theorem k121_64 : mm_lk mm_m121.1 64 = some (64, .ireturn, 65, []) := rfl
theorem k122_0 : mm_lk mm_m122.1 0 = some (0, .aload_n 0, 1, []) := rfl
theorem k122_1 : mm_lk mm_m122.1 1 = some (1, .getfield 87, 4, [0, 13, 8, 849]) := rfl
theorem k122_4 : mm_lk mm_m122.1 4 = some (4, .getfield 118, 7, [1, 12, 0, 803, 0]) := rfl
theorem k122_7 : mm_lk mm_m122.1 7 = some (7, .aload_n 0, 8, []) := rfl
theorem k122_8 : mm_lk mm_m122.1 8 = some (8, .getfield 87, 11, [0, 13, 8, 849]) := rfl
theorem k122_11 : mm_lk mm_m122.1 11 = some (11, .getfield 125, 14, [1, 12, 3, 809, 0]) := rfl
theorem k122_14 : mm_lk mm_m122.1 14 = some (14, .getfield 188, 17, [1, 10, 5, 506, 0]) := rfl
theorem k122_17 : mm_lk mm_m122.1 17 = some (17, .aload_n 0, 18, []) := rfl
theorem k122_18 : mm_lk mm_m122.1 18 = some (18, .getfield 87, 21, [0, 13, 8, 849]) := rfl
theorem k122_21 : mm_lk mm_m122.1 21 = some (21, .getfield 125, 24, [1, 12, 3, 809, 0]) := rfl
theorem k122_24 : mm_lk mm_m122.1 24 = some (24, .getfield 188, 27, [1, 10, 5, 506, 0]) := rfl
theorem k122_27 : mm_lk mm_m122.1 27 = some (27, .invokestatic 240, 30, [1, 160, 1, 926, 722, 132]) := rfl
theorem k122_30 : mm_lk mm_m122.1 30 = some (30, .invokevirtual 255, 33, [0, 38, 3, 5, 909, 910, 911, 134]) := rfl
theorem k122_33 : mm_lk mm_m122.1 33 = some (33, .ireturn, 34, []) := rfl
theorem k123_0 : mm_lk mm_m123.1 0 = some (0, .aload_n 0, 1, []) := rfl
theorem k123_1 : mm_lk mm_m123.1 1 = some (1, .iconst (-1), 2, []) := rfl
theorem k123_2 : mm_lk mm_m123.1 2 = some (2, .aload_n 0, 3, []) := rfl
theorem k123_3 : mm_lk mm_m123.1 3 = some (3, .getfield 87, 6, [0, 13, 8, 849]) := rfl
theorem k123_6 : mm_lk mm_m123.1 6 = some (6, .invokevirtual 249, 9, [0, 89, 1, 12, 900, 901, 902, 149]) := rfl
theorem k123_9 : mm_lk mm_m123.1 9 = some (9, .invokevirtual 274, 12, [0, 153, 3, 13, 946, 948, 26, 132]) := rfl
theorem k123_12 : mm_lk mm_m123.1 12 = some (12, .ireturn, 13, []) := rfl
theorem k124_0 : mm_lk mm_m124.1 0 = some (0, .aload_n 0, 1, []) := rfl
theorem k124_1 : mm_lk mm_m124.1 1 = some (1, .iload_n 1, 2, []) := rfl
theorem k124_2 : mm_lk mm_m124.1 2 = some (2, .invokevirtual 214, 5, [0, 146, 2, 13, 1623, 1625, 38, 132]) := rfl
theorem k124_5 : mm_lk mm_m124.1 5 = some (5, .aload_n 0, 6, []) := rfl
theorem k124_6 : mm_lk mm_m124.1 6 = some (6, .iload_n 1, 7, []) := rfl
theorem k124_7 : mm_lk mm_m124.1 7 = some (7, .aload_n 0, 8, []) := rfl
theorem k124_8 : mm_lk mm_m124.1 8 = some (8, .getfield 87, 11, [0, 13, 8, 849]) := rfl
theorem k124_11 : mm_lk mm_m124.1 11 = some (11, .invokevirtual 249, 14, [0, 89, 1, 12, 900, 901, 902, 149]) := rfl
theorem k124_14 : mm_lk mm_m124.1 14 = some (14, .invokevirtual 274, 17, [0, 153, 3, 13, 946, 948, 26, 132]) := rfl
theorem k124_17 : mm_lk mm_m124.1 17 = some (17, .ireturn, 18, []) := rfl
theorem k125_0 : mm_lk mm_m125.1 0 = some (0, .aload_n 0, 1, []) := rfl
theorem k125_1 : mm_lk mm_m125.1 1 = some (1, .iload_n 1, 2, []) := rfl
theorem k125_2 : mm_lk mm_m125.1 2 = some (2, .invokevirtual 277, 5, [0, 149, 2, 13, 1708, 1710, 41, 132]) := rfl
theorem k125_5 : mm_lk mm_m125.1 5 = some (5, .aload_n 0, 6, []) := rfl
theorem k125_6 : mm_lk mm_m125.1 6 = some (6, .getfield 19, 9, [0, 13, 5, 846]) := rfl
theorem k125_9 : mm_lk mm_m125.1 9 = some (9, .aload_n 0, 10, []) := rfl
theorem k125_10 : mm_lk mm_m125.1 10 = some (10, .getfield 87, 13, [0, 13, 8, 849]) := rfl
theorem k125_13 : mm_lk mm_m125.1 13 = some (13, .getfield 118, 16, [1, 12, 0, 803, 0]) := rfl
theorem k125_16 : mm_lk mm_m125.1 16 = some (16, .invokevirtual 280, 19, [0, 27, 2, 5, 1713, 1015, 1016, 134]) := rfl
theorem k125_19 : mm_lk mm_m125.1 19 = some (19, .aload_n 0, 20, []) := rfl
theorem k125_20 : mm_lk mm_m125.1 20 = some (20, .getfield 19, 23, [0, 13, 5, 846]) := rfl
theorem k125_23 : mm_lk mm_m125.1 23 = some (23, .iload_n 1, 24, []) := rfl
theorem k125_24 : mm_lk mm_m125.1 24 = some (24, .aload_n 0, 25, []) := rfl
theorem k125_25 : mm_lk mm_m125.1 25 = some (25, .getfield 87, 28, [0, 13, 8, 849]) := rfl
theorem k125_28 : mm_lk mm_m125.1 28 = some (28, .invokevirtual 249, 31, [0, 89, 1, 12, 900, 901, 902, 149]) := rfl
theorem k125_31 : mm_lk mm_m125.1 31 = some (31, .invokevirtual 283, 34, [0, 41, 3, 5, 1714, 1564, 1565, 134]) := rfl
theorem k125_34 : mm_lk mm_m125.1 34 = some (34, .pop, 35, []) := rfl
theorem k125_35 : mm_lk mm_m125.1 35 = some (35, .aload_n 0, 36, []) := rfl
theorem k125_36 : mm_lk mm_m125.1 36 = some (36, .getfield 19, 39, [0, 13, 5, 846]) := rfl
theorem k125_39 : mm_lk mm_m125.1 39 = some (39, .aload_n 0, 40, []) := rfl
theorem k125_40 : mm_lk mm_m125.1 40 = some (40, .getfield 87, 43, [0, 13, 8, 849]) := rfl
theorem k125_43 : mm_lk mm_m125.1 43 = some (43, .getfield 125, 46, [1, 12, 3, 809, 0]) := rfl
theorem k125_46 : mm_lk mm_m125.1 46 = some (46, .getfield 188, 49, [1, 10, 5, 506, 0]) := rfl
theorem k125_49 : mm_lk mm_m125.1 49 = some (49, .aload_n 0, 50, []) := rfl
theorem k125_50 : mm_lk mm_m125.1 50 = some (50, .getfield 87, 53, [0, 13, 8, 849]) := rfl
theorem k125_53 : mm_lk mm_m125.1 53 = some (53, .getfield 125, 56, [1, 12, 3, 809, 0]) := rfl
theorem k125_56 : mm_lk mm_m125.1 56 = some (56, .getfield 188, 59, [1, 10, 5, 506, 0]) := rfl
theorem k125_59 : mm_lk mm_m125.1 59 = some (59, .invokestatic 240, 62, [1, 160, 1, 926, 722, 132]) := rfl
theorem k125_62 : mm_lk mm_m125.1 62 = some (62, .invokevirtual 255, 65, [0, 38, 3, 5, 909, 910, 911, 134]) := rfl
theorem k125_65 : mm_lk mm_m125.1 65 = some (65, .ireturn, 66, []) := rfl
theorem k126_0 : mm_lk mm_m126.1 0 = some (0, .aload_n 0, 1, []) := rfl
theorem k126_1 : mm_lk mm_m126.1 1 = some (1, .iload_n 1, 2, []) := rfl
theorem k126_2 : mm_lk mm_m126.1 2 = some (2, .invokevirtual 268, 5, [0, 147, 2, 13, 1690, 1692, 40, 132]) := rfl
theorem k126_5 : mm_lk mm_m126.1 5 = some (5, .aload_n 0, 6, []) := rfl
theorem k126_6 : mm_lk mm_m126.1 6 = some (6, .getfield 19, 9, [0, 13, 5, 846]) := rfl
theorem k126_9 : mm_lk mm_m126.1 9 = some (9, .aload_n 0, 10, []) := rfl
theorem k126_10 : mm_lk mm_m126.1 10 = some (10, .getfield 87, 13, [0, 13, 8, 849]) := rfl
theorem k126_13 : mm_lk mm_m126.1 13 = some (13, .getfield 118, 16, [1, 12, 0, 803, 0]) := rfl
theorem k126_16 : mm_lk mm_m126.1 16 = some (16, .invokevirtual 280, 19, [0, 27, 2, 5, 1713, 1015, 1016, 134]) := rfl
theorem k126_19 : mm_lk mm_m126.1 19 = some (19, .aload_n 0, 20, []) := rfl
theorem k126_20 : mm_lk mm_m126.1 20 = some (20, .getfield 87, 23, [0, 13, 8, 849]) := rfl
theorem k126_23 : mm_lk mm_m126.1 23 = some (23, .getfield 125, 26, [1, 12, 3, 809, 0]) := rfl
theorem k126_26 : mm_lk mm_m126.1 26 = some (26, .getfield 176, 29, [1, 10, 1, 493, 0]) := rfl
theorem k126_29 : mm_lk mm_m126.1 29 = some (29, .getfield 173, 32, [1, 7, 1, 474, 0]) := rfl
theorem k126_32 : mm_lk mm_m126.1 32 = some (32, .invokestatic 286, 35, [1, 161, 1, 1712, 614, 132]) := rfl
theorem k126_35 : mm_lk mm_m126.1 35 = some (35, .istore_n 2, 36, []) := rfl
theorem k126_36 : mm_lk mm_m126.1 36 = some (36, .iconst 0, 37, []) := rfl
theorem k126_37 : mm_lk mm_m126.1 37 = some (37, .istore_n 3, 38, []) := rfl
theorem k126_38 : mm_lk mm_m126.1 38 = some (38, .iload_n 3, 39, []) := rfl
theorem k126_39 : mm_lk mm_m126.1 39 = some (39, .bipush 32, 41, []) := rfl
theorem k126_41 : mm_lk mm_m126.1 41 = some (41, .if_icmp .gt 84, 44, [125]) := rfl
theorem k126_44 : mm_lk mm_m126.1 44 = some (44, .aload_n 0, 45, []) := rfl
theorem k126_45 : mm_lk mm_m126.1 45 = some (45, .getfield 19, 48, [0, 13, 5, 846]) := rfl
theorem k126_48 : mm_lk mm_m126.1 48 = some (48, .aload_n 0, 49, []) := rfl
theorem k126_49 : mm_lk mm_m126.1 49 = some (49, .getfield 87, 52, [0, 13, 8, 849]) := rfl
theorem k126_52 : mm_lk mm_m126.1 52 = some (52, .getfield 125, 55, [1, 12, 3, 809, 0]) := rfl
theorem k126_55 : mm_lk mm_m126.1 55 = some (55, .getfield 188, 58, [1, 10, 5, 506, 0]) := rfl
theorem k126_58 : mm_lk mm_m126.1 58 = some (58, .getstatic 271, 61, [0, 4, 831]) := rfl
theorem k126_61 : mm_lk mm_m126.1 61 = some (61, .iload_n 1, 62, []) := rfl
theorem k126_62 : mm_lk mm_m126.1 62 = some (62, .invokestatic 220, 65, [1, 156, 2, 976, 568, 132]) := rfl
theorem k126_65 : mm_lk mm_m126.1 65 = some (65, .invokevirtual 258, 68, [0, 39, 3, 5, 917, 918, 919, 134]) := rfl
theorem k126_68 : mm_lk mm_m126.1 68 = some (68, .istore 4, 70, []) := rfl
theorem k126_70 : mm_lk mm_m126.1 70 = some (70, .iload 4, 72, []) := rfl
theorem k126_72 : mm_lk mm_m126.1 72 = some (72, .iload_n 2, 73, []) := rfl
theorem k126_73 : mm_lk mm_m126.1 73 = some (73, .if_icmp .ne 5, 76, [78]) := rfl
theorem k126_76 : mm_lk mm_m126.1 76 = some (76, .iload_n 3, 77, []) := rfl
theorem k126_77 : mm_lk mm_m126.1 77 = some (77, .ireturn, 78, []) := rfl
theorem k126_78 : mm_lk mm_m126.1 78 = some (78, .aload_n 0, 79, []) := rfl
theorem k126_79 : mm_lk mm_m126.1 79 = some (79, .getfield 19, 82, [0, 13, 5, 846]) := rfl
theorem k126_82 : mm_lk mm_m126.1 82 = some (82, .iload 4, 84, []) := rfl
theorem k126_84 : mm_lk mm_m126.1 84 = some (84, .getstatic 271, 87, [0, 4, 831]) := rfl
theorem k126_87 : mm_lk mm_m126.1 87 = some (87, .iload_n 1, 88, []) := rfl
theorem k126_88 : mm_lk mm_m126.1 88 = some (88, .invokestatic 220, 91, [1, 156, 2, 976, 568, 132]) := rfl
theorem k126_91 : mm_lk mm_m126.1 91 = some (91, .invokevirtual 289, 94, [0, 40, 3, 5, 1722, 1555, 1556, 134]) := rfl
theorem k126_94 : mm_lk mm_m126.1 94 = some (94, .istore 5, 96, []) := rfl
theorem k126_96 : mm_lk mm_m126.1 96 = some (96, .iload 5, 98, []) := rfl
theorem k126_98 : mm_lk mm_m126.1 98 = some (98, .aload_n 0, 99, []) := rfl
theorem k126_99 : mm_lk mm_m126.1 99 = some (99, .getfield 19, 102, [0, 13, 5, 846]) := rfl
theorem k126_102 : mm_lk mm_m126.1 102 = some (102, .getfield 224, 105, [1, 5, 1, 236, 0]) := rfl
theorem k126_105 : mm_lk mm_m126.1 105 = some (105, .if_icmp .ne 5, 108, [110]) := rfl
theorem k126_108 : mm_lk mm_m126.1 108 = some (108, .iconst (-1), 109, []) := rfl
theorem k126_109 : mm_lk mm_m126.1 109 = some (109, .ireturn, 110, []) := rfl
theorem k126_110 : mm_lk mm_m126.1 110 = some (110, .aload_n 0, 111, []) := rfl
theorem k126_111 : mm_lk mm_m126.1 111 = some (111, .getfield 19, 114, [0, 13, 5, 846]) := rfl
theorem k126_114 : mm_lk mm_m126.1 114 = some (114, .iload 5, 116, []) := rfl
theorem k126_116 : mm_lk mm_m126.1 116 = some (116, .putfield 224, 119, [1, 5, 1, 236, 0]) := rfl
theorem k126_119 : mm_lk mm_m126.1 119 = some (119, .iinc 3 1, 122, []) := rfl
theorem k126_122 : mm_lk mm_m126.1 122 = some (122, .goto (-84), 125, [38]) := rfl
theorem k126_125 : mm_lk mm_m126.1 125 = some (125, .iconst (-1), 126, []) := rfl
theorem k126_126 : mm_lk mm_m126.1 126 = some (126, .ireturn, 127, []) := rfl
theorem k127_0 : mm_lk mm_m127.1 0 = some (0, .iconst 0, 1, []) := rfl
theorem k127_1 : mm_lk mm_m127.1 1 = some (1, .istore_n 1, 2, []) := rfl
theorem k127_2 : mm_lk mm_m127.1 2 = some (2, .bipush 33, 4, []) := rfl
theorem k127_4 : mm_lk mm_m127.1 4 = some (4, .istore_n 2, 5, []) := rfl
theorem k127_5 : mm_lk mm_m127.1 5 = some (5, .iconst 0, 6, []) := rfl
theorem k127_6 : mm_lk mm_m127.1 6 = some (6, .istore_n 3, 7, []) := rfl
theorem k127_7 : mm_lk mm_m127.1 7 = some (7, .iload_n 3, 8, []) := rfl
theorem k127_8 : mm_lk mm_m127.1 8 = some (8, .aload_n 0, 9, []) := rfl
theorem k127_9 : mm_lk mm_m127.1 9 = some (9, .getfield 87, 12, [0, 13, 8, 849]) := rfl
theorem k127_12 : mm_lk mm_m127.1 12 = some (12, .getfield 125, 15, [1, 12, 3, 809, 0]) := rfl
theorem k127_15 : mm_lk mm_m127.1 15 = some (15, .getfield 167, 18, [1, 10, 0, 486, 0]) := rfl
theorem k127_18 : mm_lk mm_m127.1 18 = some (18, .getfield 173, 21, [1, 7, 1, 474, 0]) := rfl
theorem k127_21 : mm_lk mm_m127.1 21 = some (21, .if_icmp .ge 56, 24, [77]) := rfl
theorem k127_24 : mm_lk mm_m127.1 24 = some (24, .aload_n 0, 25, []) := rfl
theorem k127_25 : mm_lk mm_m127.1 25 = some (25, .getfield 87, 28, [0, 13, 8, 849]) := rfl
theorem k127_28 : mm_lk mm_m127.1 28 = some (28, .getfield 118, 31, [1, 12, 0, 803, 0]) := rfl
theorem k127_31 : mm_lk mm_m127.1 31 = some (31, .getfield 224, 34, [1, 5, 1, 236, 0]) := rfl
theorem k127_34 : mm_lk mm_m127.1 34 = some (34, .aload_n 0, 35, []) := rfl
theorem k127_35 : mm_lk mm_m127.1 35 = some (35, .getfield 87, 38, [0, 13, 8, 849]) := rfl
theorem k127_38 : mm_lk mm_m127.1 38 = some (38, .getfield 125, 41, [1, 12, 3, 809, 0]) := rfl
theorem k127_41 : mm_lk mm_m127.1 41 = some (41, .getfield 188, 44, [1, 10, 5, 506, 0]) := rfl
theorem k127_44 : mm_lk mm_m127.1 44 = some (44, .iload_n 3, 45, []) := rfl
theorem k127_45 : mm_lk mm_m127.1 45 = some (45, .invokestatic 240, 48, [1, 160, 1, 926, 722, 132]) := rfl
theorem k127_48 : mm_lk mm_m127.1 48 = some (48, .invokestatic 292, 51, [1, 163, 2, 971, 829, 132]) := rfl
theorem k127_51 : mm_lk mm_m127.1 51 = some (51, .iand, 52, []) := rfl
theorem k127_52 : mm_lk mm_m127.1 52 = some (52, .istore 4, 54, []) := rfl
theorem k127_54 : mm_lk mm_m127.1 54 = some (54, .iload 4, 56, []) := rfl
theorem k127_56 : mm_lk mm_m127.1 56 = some (56, .invokestatic 182, 59, [1, 360, 1, 961, 962, 157]) := rfl
theorem k127_59 : mm_lk mm_m127.1 59 = some (59, .iload_n 2, 60, []) := rfl
theorem k127_60 : mm_lk mm_m127.1 60 = some (60, .if_icmp .ge 11, 63, [71]) := rfl
theorem k127_63 : mm_lk mm_m127.1 63 = some (63, .iload_n 3, 64, []) := rfl
theorem k127_64 : mm_lk mm_m127.1 64 = some (64, .istore_n 1, 65, []) := rfl
theorem k127_65 : mm_lk mm_m127.1 65 = some (65, .iload 4, 67, []) := rfl
theorem k127_67 : mm_lk mm_m127.1 67 = some (67, .invokestatic 182, 70, [1, 360, 1, 961, 962, 157]) := rfl
theorem k127_70 : mm_lk mm_m127.1 70 = some (70, .istore_n 2, 71, []) := rfl
theorem k127_71 : mm_lk mm_m127.1 71 = some (71, .iinc 3 1, 74, []) := rfl
theorem k127_74 : mm_lk mm_m127.1 74 = some (74, .goto (-67), 77, [7]) := rfl
theorem k127_77 : mm_lk mm_m127.1 77 = some (77, .iload_n 1, 78, []) := rfl
theorem k127_78 : mm_lk mm_m127.1 78 = some (78, .ireturn, 79, []) := rfl
theorem k128_0 : mm_lk mm_m128.1 0 = some (0, .aload_n 0, 1, []) := rfl
theorem k128_1 : mm_lk mm_m128.1 1 = some (1, .iload_n 1, 2, []) := rfl
theorem k128_2 : mm_lk mm_m128.1 2 = some (2, .invokevirtual 214, 5, [0, 146, 2, 13, 1623, 1625, 38, 132]) := rfl
theorem k128_5 : mm_lk mm_m128.1 5 = some (5, .aload_n 0, 6, []) := rfl
theorem k128_6 : mm_lk mm_m128.1 6 = some (6, .getfield 87, 9, [0, 13, 8, 849]) := rfl
theorem k128_9 : mm_lk mm_m128.1 9 = some (9, .getfield 118, 12, [1, 12, 0, 803, 0]) := rfl
theorem k128_12 : mm_lk mm_m128.1 12 = some (12, .iload_n 1, 13, []) := rfl
theorem k128_13 : mm_lk mm_m128.1 13 = some (13, .aload_n 0, 14, []) := rfl
theorem k128_14 : mm_lk mm_m128.1 14 = some (14, .getfield 87, 17, [0, 13, 8, 849]) := rfl
theorem k128_17 : mm_lk mm_m128.1 17 = some (17, .getfield 125, 20, [1, 12, 3, 809, 0]) := rfl
theorem k128_20 : mm_lk mm_m128.1 20 = some (20, .getfield 188, 23, [1, 10, 5, 506, 0]) := rfl
theorem k128_23 : mm_lk mm_m128.1 23 = some (23, .invokevirtual 230, 26, [0, 29, 3, 5, 1638, 718, 719, 134]) := rfl
theorem k128_26 : mm_lk mm_m128.1 26 = some (26, .istore_n 2, 27, []) := rfl
theorem k128_27 : mm_lk mm_m128.1 27 = some (27, .aload_n 0, 28, []) := rfl
theorem k128_28 : mm_lk mm_m128.1 28 = some (28, .getfield 87, 31, [0, 13, 8, 849]) := rfl
theorem k128_31 : mm_lk mm_m128.1 31 = some (31, .getfield 125, 34, [1, 12, 3, 809, 0]) := rfl
theorem k128_34 : mm_lk mm_m128.1 34 = some (34, .getfield 167, 37, [1, 10, 0, 486, 0]) := rfl
theorem k128_37 : mm_lk mm_m128.1 37 = some (37, .getfield 173, 40, [1, 7, 1, 474, 0]) := rfl
theorem k128_40 : mm_lk mm_m128.1 40 = some (40, .invokestatic 286, 43, [1, 161, 1, 1712, 614, 132]) := rfl
theorem k128_43 : mm_lk mm_m128.1 43 = some (43, .istore_n 3, 44, []) := rfl
theorem k128_44 : mm_lk mm_m128.1 44 = some (44, .iload_n 3, 45, []) := rfl
theorem k128_45 : mm_lk mm_m128.1 45 = some (45, .istore 4, 47, []) := rfl
theorem k128_47 : mm_lk mm_m128.1 47 = some (47, .iload 4, 49, []) := rfl
theorem k128_49 : mm_lk mm_m128.1 49 = some (49, .ifCond .lt 69, 52, [118]) := rfl
theorem k128_52 : mm_lk mm_m128.1 52 = some (52, .iload_n 2, 53, []) := rfl
theorem k128_53 : mm_lk mm_m128.1 53 = some (53, .aload_n 0, 54, []) := rfl
theorem k128_54 : mm_lk mm_m128.1 54 = some (54, .getfield 87, 57, [0, 13, 8, 849]) := rfl
theorem k128_57 : mm_lk mm_m128.1 57 = some (57, .getfield 125, 60, [1, 12, 3, 809, 0]) := rfl
theorem k128_60 : mm_lk mm_m128.1 60 = some (60, .getfield 188, 63, [1, 10, 5, 506, 0]) := rfl
theorem k128_63 : mm_lk mm_m128.1 63 = some (63, .iload 4, 65, []) := rfl
theorem k128_65 : mm_lk mm_m128.1 65 = some (65, .invokestatic 292, 68, [1, 163, 2, 971, 829, 132]) := rfl
theorem k128_68 : mm_lk mm_m128.1 68 = some (68, .iand, 69, []) := rfl
theorem k128_69 : mm_lk mm_m128.1 69 = some (69, .aload_n 0, 70, []) := rfl
theorem k128_70 : mm_lk mm_m128.1 70 = some (70, .getfield 87, 73, [0, 13, 8, 849]) := rfl
theorem k128_73 : mm_lk mm_m128.1 73 = some (73, .getfield 125, 76, [1, 12, 3, 809, 0]) := rfl
theorem k128_76 : mm_lk mm_m128.1 76 = some (76, .getfield 188, 79, [1, 10, 5, 506, 0]) := rfl
theorem k128_79 : mm_lk mm_m128.1 79 = some (79, .invokestatic 240, 82, [1, 160, 1, 926, 722, 132]) := rfl
theorem k128_82 : mm_lk mm_m128.1 82 = some (82, .if_icmp .ne 7, 85, [89]) := rfl
theorem k128_85 : mm_lk mm_m128.1 85 = some (85, .iconst 1, 86, []) := rfl
theorem k128_86 : mm_lk mm_m128.1 86 = some (86, .goto 4, 89, [90]) := rfl
theorem k128_89 : mm_lk mm_m128.1 89 = some (89, .iconst 0, 90, []) := rfl
theorem k128_90 : mm_lk mm_m128.1 90 = some (90, .istore 5, 92, []) := rfl
theorem k128_92 : mm_lk mm_m128.1 92 = some (92, .iload 5, 94, []) := rfl
theorem k128_94 : mm_lk mm_m128.1 94 = some (94, .ifCond .eq 18, 97, [112]) := rfl
theorem k128_97 : mm_lk mm_m128.1 97 = some (97, .iload 4, 99, []) := rfl
theorem k128_99 : mm_lk mm_m128.1 99 = some (99, .invokestatic 182, 102, [1, 360, 1, 961, 962, 157]) := rfl
theorem k128_102 : mm_lk mm_m128.1 102 = some (102, .iload_n 3, 103, []) := rfl
theorem k128_103 : mm_lk mm_m128.1 103 = some (103, .invokestatic 182, 106, [1, 360, 1, 961, 962, 157]) := rfl
theorem k128_106 : mm_lk mm_m128.1 106 = some (106, .if_icmp .gt 6, 109, [112]) := rfl
theorem k128_109 : mm_lk mm_m128.1 109 = some (109, .iload 4, 111, []) := rfl
theorem k128_111 : mm_lk mm_m128.1 111 = some (111, .istore_n 3, 112, []) := rfl
theorem k128_112 : mm_lk mm_m128.1 112 = some (112, .iinc 4 (-1), 115, []) := rfl
theorem k128_115 : mm_lk mm_m128.1 115 = some (115, .goto (-68), 118, [47]) := rfl
theorem k128_118 : mm_lk mm_m128.1 118 = some (118, .iload_n 3, 119, []) := rfl
theorem k128_119 : mm_lk mm_m128.1 119 = some (119, .ireturn, 120, []) := rfl
theorem k129_0 : mm_lk mm_m129.1 0 = some (0, .iload_n 2, 1, []) := rfl
theorem k129_1 : mm_lk mm_m129.1 1 = some (1, .ifCond .lt 8, 4, [9]) := rfl
theorem k129_4 : mm_lk mm_m129.1 4 = some (4, .iload_n 2, 5, []) := rfl
theorem k129_5 : mm_lk mm_m129.1 5 = some (5, .iconst 2, 6, []) := rfl
theorem k129_6 : mm_lk mm_m129.1 6 = some (6, .if_icmp .le 11, 9, [17]) := rfl
theorem k129_9 : mm_lk mm_m129.1 9 = some (9, .new 112, 12, [1, 15, 1480, 114]) := rfl
theorem k129_17 : mm_lk mm_m129.1 17 = some (17, .aload_n 0, 18, []) := rfl
theorem k129_18 : mm_lk mm_m129.1 18 = some (18, .getfield 87, 21, [0, 13, 8, 849]) := rfl
theorem k129_21 : mm_lk mm_m129.1 21 = some (21, .getfield 197, 24, [1, 12, 2, 807, 0]) := rfl
theorem k129_24 : mm_lk mm_m129.1 24 = some (24, .iload_n 1, 25, []) := rfl
theorem k129_25 : mm_lk mm_m129.1 25 = some (25, .iload_n 2, 26, []) := rfl
theorem k129_26 : mm_lk mm_m129.1 26 = some (26, .invokevirtual 295, 29, [0, 46, 3, 6, 1737, 1738, 1739, 150]) := rfl
theorem k129_29 : mm_lk mm_m129.1 29 = some (29, .ireturn, 30, []) := rfl
theorem k130_0 : mm_lk mm_m130.1 0 = some (0, .iload_n 1, 1, []) := rfl
theorem k130_1 : mm_lk mm_m130.1 1 = some (1, .ifCond .lt 9, 4, [10]) := rfl
theorem k130_4 : mm_lk mm_m130.1 4 = some (4, .iload_n 1, 5, []) := rfl
theorem k130_5 : mm_lk mm_m130.1 5 = some (5, .bipush 7, 7, []) := rfl
theorem k130_7 : mm_lk mm_m130.1 7 = some (7, .if_icmp .lt 11, 10, [18]) := rfl
theorem k130_10 : mm_lk mm_m130.1 10 = some (10, .new 112, 13, [1, 15, 1480, 114]) := rfl
theorem k130_18 : mm_lk mm_m130.1 18 = some (18, .aload_n 0, 19, []) := rfl
theorem k130_19 : mm_lk mm_m130.1 19 = some (19, .getfield 87, 22, [0, 13, 8, 849]) := rfl
theorem k130_22 : mm_lk mm_m130.1 22 = some (22, .getfield 197, 25, [1, 12, 2, 807, 0]) := rfl
theorem k130_25 : mm_lk mm_m130.1 25 = some (25, .getfield 298, 28, [1, 6, 3, 788, 0]) := rfl
theorem k130_28 : mm_lk mm_m130.1 28 = some (28, .iload_n 1, 29, []) := rfl
theorem k130_29 : mm_lk mm_m130.1 29 = some (29, .invokestatic 220, 32, [1, 156, 2, 976, 568, 132]) := rfl
theorem k130_32 : mm_lk mm_m130.1 32 = some (32, .ireturn, 33, []) := rfl
theorem k131_0 : mm_lk mm_m131.1 0 = some (0, .aload_n 0, 1, []) := rfl
theorem k131_1 : mm_lk mm_m131.1 1 = some (1, .getfield 87, 4, [0, 13, 8, 849]) := rfl
theorem k131_4 : mm_lk mm_m131.1 4 = some (4, .getfield 197, 7, [1, 12, 2, 807, 0]) := rfl
theorem k131_7 : mm_lk mm_m131.1 7 = some (7, .getfield 298, 10, [1, 6, 3, 788, 0]) := rfl
theorem k131_10 : mm_lk mm_m131.1 10 = some (10, .iconst 5, 11, []) := rfl
theorem k131_11 : mm_lk mm_m131.1 11 = some (11, .invokestatic 220, 14, [1, 156, 2, 976, 568, 132]) := rfl
theorem k131_14 : mm_lk mm_m131.1 14 = some (14, .istore_n 1, 15, []) := rfl
theorem k131_15 : mm_lk mm_m131.1 15 = some (15, .aload_n 0, 16, []) := rfl
theorem k131_16 : mm_lk mm_m131.1 16 = some (16, .getfield 87, 19, [0, 13, 8, 849]) := rfl
theorem k131_19 : mm_lk mm_m131.1 19 = some (19, .getfield 125, 22, [1, 12, 3, 809, 0]) := rfl
theorem k131_22 : mm_lk mm_m131.1 22 = some (22, .getfield 179, 25, [1, 10, 4, 502, 0]) := rfl
theorem k131_25 : mm_lk mm_m131.1 25 = some (25, .invokestatic 182, 28, [1, 360, 1, 961, 962, 157]) := rfl
theorem k131_28 : mm_lk mm_m131.1 28 = some (28, .aload_n 0, 29, []) := rfl
theorem k131_29 : mm_lk mm_m131.1 29 = some (29, .getfield 87, 32, [0, 13, 8, 849]) := rfl
theorem k131_32 : mm_lk mm_m131.1 32 = some (32, .getfield 118, 35, [1, 12, 0, 803, 0]) := rfl
theorem k131_35 : mm_lk mm_m131.1 35 = some (35, .invokevirtual 121, 38, [0, 28, 1, 5, 977, 978, 979, 134]) := rfl
theorem k131_38 : mm_lk mm_m131.1 38 = some (38, .isub, 39, []) := rfl
theorem k131_39 : mm_lk mm_m131.1 39 = some (39, .iload_n 1, 40, []) := rfl
theorem k131_40 : mm_lk mm_m131.1 40 = some (40, .isub, 41, []) := rfl
theorem k131_41 : mm_lk mm_m131.1 41 = some (41, .ireturn, 42, []) := rfl
theorem k146_0 : mm_lk mm_m146.1 0 = some (0, .iload_n 1, 1, []) := rfl
theorem k146_1 : mm_lk mm_m146.1 1 = some (1, .ifCond .lt 20, 4, [21]) := rfl
theorem k146_4 : mm_lk mm_m146.1 4 = some (4, .iload_n 1, 5, []) := rfl
theorem k146_5 : mm_lk mm_m146.1 5 = some (5, .aload_n 0, 6, []) := rfl
theorem k146_6 : mm_lk mm_m146.1 6 = some (6, .getfield 87, 9, [0, 13, 8, 849]) := rfl
theorem k146_9 : mm_lk mm_m146.1 9 = some (9, .getfield 125, 12, [1, 12, 3, 809, 0]) := rfl
theorem k146_12 : mm_lk mm_m146.1 12 = some (12, .getfield 176, 15, [1, 10, 1, 493, 0]) := rfl
theorem k146_15 : mm_lk mm_m146.1 15 = some (15, .getfield 173, 18, [1, 7, 1, 474, 0]) := rfl
theorem k146_18 : mm_lk mm_m146.1 18 = some (18, .if_icmp .lt 11, 21, [29]) := rfl
theorem k146_21 : mm_lk mm_m146.1 21 = some (21, .new 207, 24, [1, 16, 1600, 209]) := rfl
theorem k146_29 : mm_lk mm_m146.1 29 = some (29, .return_, 30, []) := rfl
theorem k147_0 : mm_lk mm_m147.1 0 = some (0, .iload_n 1, 1, []) := rfl
theorem k147_1 : mm_lk mm_m147.1 1 = some (1, .ifCond .lt 20, 4, [21]) := rfl
theorem k147_4 : mm_lk mm_m147.1 4 = some (4, .iload_n 1, 5, []) := rfl
theorem k147_5 : mm_lk mm_m147.1 5 = some (5, .aload_n 0, 6, []) := rfl
theorem k147_6 : mm_lk mm_m147.1 6 = some (6, .getfield 87, 9, [0, 13, 8, 849]) := rfl
theorem k147_9 : mm_lk mm_m147.1 9 = some (9, .getfield 125, 12, [1, 12, 3, 809, 0]) := rfl
theorem k147_12 : mm_lk mm_m147.1 12 = some (12, .getfield 167, 15, [1, 10, 0, 486, 0]) := rfl
theorem k147_15 : mm_lk mm_m147.1 15 = some (15, .getfield 173, 18, [1, 7, 1, 474, 0]) := rfl
theorem k147_18 : mm_lk mm_m147.1 18 = some (18, .if_icmp .lt 11, 21, [29]) := rfl
theorem k147_21 : mm_lk mm_m147.1 21 = some (21, .new 207, 24, [1, 16, 1600, 209]) := rfl
theorem k147_29 : mm_lk mm_m147.1 29 = some (29, .return_, 30, []) := rfl
theorem k148_0 : mm_lk mm_m148.1 0 = some (0, .iload_n 1, 1, []) := rfl
theorem k148_1 : mm_lk mm_m148.1 1 = some (1, .ifCond .lt 22, 4, [23]) := rfl
theorem k148_4 : mm_lk mm_m148.1 4 = some (4, .iload_n 1, 5, []) := rfl
theorem k148_5 : mm_lk mm_m148.1 5 = some (5, .iconst 1, 6, []) := rfl
theorem k148_6 : mm_lk mm_m148.1 6 = some (6, .aload_n 0, 7, []) := rfl
theorem k148_7 : mm_lk mm_m148.1 7 = some (7, .getfield 87, 10, [0, 13, 8, 849]) := rfl
theorem k148_10 : mm_lk mm_m148.1 10 = some (10, .getfield 125, 13, [1, 12, 3, 809, 0]) := rfl
theorem k148_13 : mm_lk mm_m148.1 13 = some (13, .getfield 167, 16, [1, 10, 0, 486, 0]) := rfl
theorem k148_16 : mm_lk mm_m148.1 16 = some (16, .getfield 173, 19, [1, 7, 1, 474, 0]) := rfl
theorem k148_19 : mm_lk mm_m148.1 19 = some (19, .ishl, 20, []) := rfl
theorem k148_20 : mm_lk mm_m148.1 20 = some (20, .if_icmp .lt 11, 23, [31]) := rfl
theorem k148_23 : mm_lk mm_m148.1 23 = some (23, .new 207, 26, [1, 16, 1600, 209]) := rfl
theorem k148_31 : mm_lk mm_m148.1 31 = some (31, .return_, 32, []) := rfl
theorem k149_0 : mm_lk mm_m149.1 0 = some (0, .iload_n 1, 1, []) := rfl
theorem k149_1 : mm_lk mm_m149.1 1 = some (1, .aload_n 0, 2, []) := rfl
theorem k149_2 : mm_lk mm_m149.1 2 = some (2, .getfield 87, 5, [0, 13, 8, 849]) := rfl
theorem k149_5 : mm_lk mm_m149.1 5 = some (5, .getfield 125, 8, [1, 12, 3, 809, 0]) := rfl
theorem k149_8 : mm_lk mm_m149.1 8 = some (8, .getfield 176, 11, [1, 10, 1, 493, 0]) := rfl
theorem k149_11 : mm_lk mm_m149.1 11 = some (11, .getfield 173, 14, [1, 7, 1, 474, 0]) := rfl
theorem k149_14 : mm_lk mm_m149.1 14 = some (14, .invokestatic 286, 17, [1, 161, 1, 1712, 614, 132]) := rfl
theorem k149_17 : mm_lk mm_m149.1 17 = some (17, .iconst (-1), 18, []) := rfl
theorem k149_18 : mm_lk mm_m149.1 18 = some (18, .ixor, 19, []) := rfl
theorem k149_19 : mm_lk mm_m149.1 19 = some (19, .iand, 20, []) := rfl
theorem k149_20 : mm_lk mm_m149.1 20 = some (20, .ifCond .eq 11, 23, [31]) := rfl
theorem k149_23 : mm_lk mm_m149.1 23 = some (23, .new 112, 26, [1, 15, 1480, 114]) := rfl
theorem k149_31 : mm_lk mm_m149.1 31 = some (31, .return_, 32, []) := rfl
theorem k153_0 : mm_lk mm_m153.1 0 = some (0, .aload_n 0, 1, []) := rfl
theorem k153_1 : mm_lk mm_m153.1 1 = some (1, .getfield 87, 4, [0, 13, 8, 849]) := rfl
theorem k153_4 : mm_lk mm_m153.1 4 = some (4, .iload_n 1, 5, []) := rfl
theorem k153_5 : mm_lk mm_m153.1 5 = some (5, .iload_n 2, 6, []) := rfl
theorem k153_6 : mm_lk mm_m153.1 6 = some (6, .invokevirtual 357, 9, [0, 90, 3, 12, 950, 951, 952, 149]) := rfl
theorem k153_9 : mm_lk mm_m153.1 9 = some (9, .istore_n 3, 10, []) := rfl
theorem k153_10 : mm_lk mm_m153.1 10 = some (10, .iload_n 3, 11, []) := rfl
theorem k153_11 : mm_lk mm_m153.1 11 = some (11, .ifCond .eq 8, 14, [19]) := rfl
theorem k153_14 : mm_lk mm_m153.1 14 = some (14, .iload_n 3, 15, []) := rfl
theorem k153_15 : mm_lk mm_m153.1 15 = some (15, .ineg, 16, []) := rfl
theorem k153_16 : mm_lk mm_m153.1 16 = some (16, .goto 15, 19, [31]) := rfl
theorem k153_19 : mm_lk mm_m153.1 19 = some (19, .aload_n 0, 20, []) := rfl
theorem k153_20 : mm_lk mm_m153.1 20 = some (20, .getfield 87, 23, [0, 13, 8, 849]) := rfl
theorem k153_23 : mm_lk mm_m153.1 23 = some (23, .iload_n 1, 24, []) := rfl
theorem k153_24 : mm_lk mm_m153.1 24 = some (24, .iload_n 2, 25, []) := rfl
theorem k153_25 : mm_lk mm_m153.1 25 = some (25, .invokevirtual 360, 28, [0, 91, 3, 12, 960, 956, 957, 149]) := rfl
theorem k153_28 : mm_lk mm_m153.1 28 = some (28, .invokestatic 182, 31, [1, 360, 1, 961, 962, 157]) := rfl
theorem k153_31 : mm_lk mm_m153.1 31 = some (31, .ireturn, 32, []) := rfl
theorem k360_0 : mm_lk mm_m360.1 0 = some (0, .iload_n 0, 1, []) := rfl
theorem k360_1 : mm_lk mm_m360.1 1 = some (1, .iload_n 0, 2, []) := rfl
theorem k360_2 : mm_lk mm_m360.1 2 = some (2, .iconst 1, 3, []) := rfl
theorem k360_3 : mm_lk mm_m360.1 3 = some (3, .iushr, 4, []) := rfl
theorem k360_4 : mm_lk mm_m360.1 4 = some (4, .ldc_w 265, 7, [0, 1431655765, 964]) := rfl
theorem k360_7 : mm_lk mm_m360.1 7 = some (7, .iand, 8, []) := rfl
theorem k360_8 : mm_lk mm_m360.1 8 = some (8, .isub, 9, []) := rfl
theorem k360_9 : mm_lk mm_m360.1 9 = some (9, .istore_n 0, 10, []) := rfl
theorem k360_10 : mm_lk mm_m360.1 10 = some (10, .iload_n 0, 11, []) := rfl
theorem k360_11 : mm_lk mm_m360.1 11 = some (11, .ldc_w 266, 14, [0, 858993459, 965]) := rfl
theorem k360_14 : mm_lk mm_m360.1 14 = some (14, .iand, 15, []) := rfl
theorem k360_15 : mm_lk mm_m360.1 15 = some (15, .iload_n 0, 16, []) := rfl
theorem k360_16 : mm_lk mm_m360.1 16 = some (16, .iconst 2, 17, []) := rfl
theorem k360_17 : mm_lk mm_m360.1 17 = some (17, .iushr, 18, []) := rfl
theorem k360_18 : mm_lk mm_m360.1 18 = some (18, .ldc_w 266, 21, [0, 858993459, 965]) := rfl
theorem k360_21 : mm_lk mm_m360.1 21 = some (21, .iand, 22, []) := rfl
theorem k360_22 : mm_lk mm_m360.1 22 = some (22, .iadd, 23, []) := rfl
theorem k360_23 : mm_lk mm_m360.1 23 = some (23, .istore_n 0, 24, []) := rfl
theorem k360_24 : mm_lk mm_m360.1 24 = some (24, .iload_n 0, 25, []) := rfl
theorem k360_25 : mm_lk mm_m360.1 25 = some (25, .iload_n 0, 26, []) := rfl
theorem k360_26 : mm_lk mm_m360.1 26 = some (26, .iconst 4, 27, []) := rfl
theorem k360_27 : mm_lk mm_m360.1 27 = some (27, .iushr, 28, []) := rfl
theorem k360_28 : mm_lk mm_m360.1 28 = some (28, .iadd, 29, []) := rfl
theorem k360_29 : mm_lk mm_m360.1 29 = some (29, .ldc_w 267, 32, [0, 252645135, 966]) := rfl
theorem k360_32 : mm_lk mm_m360.1 32 = some (32, .iand, 33, []) := rfl
theorem k360_33 : mm_lk mm_m360.1 33 = some (33, .istore_n 0, 34, []) := rfl
theorem k360_34 : mm_lk mm_m360.1 34 = some (34, .iload_n 0, 35, []) := rfl
theorem k360_35 : mm_lk mm_m360.1 35 = some (35, .iload_n 0, 36, []) := rfl
theorem k360_36 : mm_lk mm_m360.1 36 = some (36, .bipush 8, 38, []) := rfl
theorem k360_38 : mm_lk mm_m360.1 38 = some (38, .iushr, 39, []) := rfl
theorem k360_39 : mm_lk mm_m360.1 39 = some (39, .iadd, 40, []) := rfl
theorem k360_40 : mm_lk mm_m360.1 40 = some (40, .istore_n 0, 41, []) := rfl
theorem k360_41 : mm_lk mm_m360.1 41 = some (41, .iload_n 0, 42, []) := rfl
theorem k360_42 : mm_lk mm_m360.1 42 = some (42, .iload_n 0, 43, []) := rfl
theorem k360_43 : mm_lk mm_m360.1 43 = some (43, .bipush 16, 45, []) := rfl
theorem k360_45 : mm_lk mm_m360.1 45 = some (45, .iushr, 46, []) := rfl
theorem k360_46 : mm_lk mm_m360.1 46 = some (46, .iadd, 47, []) := rfl
theorem k360_47 : mm_lk mm_m360.1 47 = some (47, .istore_n 0, 48, []) := rfl
theorem k360_48 : mm_lk mm_m360.1 48 = some (48, .iload_n 0, 49, []) := rfl
theorem k360_49 : mm_lk mm_m360.1 49 = some (49, .bipush 63, 51, []) := rfl
theorem k360_51 : mm_lk mm_m360.1 51 = some (51, .iand, 52, []) := rfl
theorem k360_52 : mm_lk mm_m360.1 52 = some (52, .ireturn, 53, []) := rfl
