/-! ===== code, row by row (by program) ===== -/
/-- WhoKnows$Formula.writeTo(Ljava/lang/StringBuilder;LWhoKnows$Scene;[I)V -/
def mm_m13 : mm_M := (mm_c13, 7, 0, [])
set_option maxRecDepth 20000 in
theorem P13 : mm_P 13 = some mm_m13 := rfl
/-- WhoKnows.writeQuestion()I -/
def mm_m141 : mm_M := (mm_c141, 1, 1, [])
set_option maxRecDepth 20000 in
theorem P141 : mm_P 141 = some mm_m141 := rfl
theorem k13_0 : mm_lk mm_m13.1 0 = some (0, .aload_n 0, 1, []) := rfl
theorem k13_1 : mm_lk mm_m13.1 1 = some (1, .invokevirtual 62, 4, [0, 15, 1, 3, 1378, 1380, 32, 135]) := rfl
theorem k13_4 : mm_lk mm_m13.1 4 = some (4, .aload_n 3, 5, []) := rfl
theorem k13_5 : mm_lk mm_m13.1 5 = some (5, .iconst 0, 6, []) := rfl
theorem k13_6 : mm_lk mm_m13.1 6 = some (6, .aload_n 0, 7, []) := rfl
theorem k13_7 : mm_lk mm_m13.1 7 = some (7, .getfield 21, 10, [0, 3, 3, 254]) := rfl
theorem k13_10 : mm_lk mm_m13.1 10 = some (10, .iconst 1, 11, []) := rfl
theorem k13_11 : mm_lk mm_m13.1 11 = some (11, .isub, 12, []) := rfl
theorem k13_12 : mm_lk mm_m13.1 12 = some (12, .invokestatic 25, 15, [6, 157, 3, 679, 449, 132, 0]) := rfl
theorem k13_15 : mm_lk mm_m13.1 15 = some (15, .iconst 1, 16, []) := rfl
theorem k13_16 : mm_lk mm_m13.1 16 = some (16, .istore 4, 18, []) := rfl
theorem k13_18 : mm_lk mm_m13.1 18 = some (18, .iconst 0, 19, []) := rfl
theorem k13_19 : mm_lk mm_m13.1 19 = some (19, .istore 5, 21, []) := rfl
theorem k13_21 : mm_lk mm_m13.1 21 = some (21, .iload 5, 23, []) := rfl
theorem k13_23 : mm_lk mm_m13.1 23 = some (23, .sipush 240, 26, []) := rfl
theorem k13_26 : mm_lk mm_m13.1 26 = some (26, .if_icmp .ge 213, 29, [239]) := rfl
theorem k13_29 : mm_lk mm_m13.1 29 = some (29, .iload 4, 31, []) := rfl
theorem k13_31 : mm_lk mm_m13.1 31 = some (31, .ifCond .le 208, 34, [239]) := rfl
theorem k13_34 : mm_lk mm_m13.1 34 = some (34, .iinc 4 (-1), 37, []) := rfl
theorem k13_37 : mm_lk mm_m13.1 37 = some (37, .aload_n 3, 38, []) := rfl
theorem k13_38 : mm_lk mm_m13.1 38 = some (38, .iload 4, 40, []) := rfl
theorem k13_40 : mm_lk mm_m13.1 40 = some (40, .invokestatic 39, 43, [6, 156, 2, 702, 568, 132, 0]) := rfl
theorem k13_43 : mm_lk mm_m13.1 43 = some (43, .istore 6, 45, []) := rfl
theorem k13_45 : mm_lk mm_m13.1 45 = some (45, .iload 6, 47, []) := rfl
theorem k13_47 : mm_lk mm_m13.1 47 = some (47, .ifCond .ge 36, 50, [83]) := rfl
theorem k13_50 : mm_lk mm_m13.1 50 = some (50, .aload_n 1, 51, []) := rfl
theorem k13_51 : mm_lk mm_m13.1 51 = some (51, .iload 6, 53, []) := rfl
theorem k13_53 : mm_lk mm_m13.1 53 = some (53, .iconst (-1), 54, []) := rfl
theorem k13_54 : mm_lk mm_m13.1 54 = some (54, .if_icmp .ne 8, 57, [62]) := rfl
theorem k13_57 : mm_lk mm_m13.1 57 = some (57, .ldc 65, 59, [1, 30, 1383]) := rfl
theorem k13_59 : mm_lk mm_m13.1 59 = some (59, .goto 17, 62, [76]) := rfl
theorem k13_62 : mm_lk mm_m13.1 62 = some (62, .iload 6, 64, []) := rfl
theorem k13_64 : mm_lk mm_m13.1 64 = some (64, .bipush (-2), 66, []) := rfl
theorem k13_66 : mm_lk mm_m13.1 66 = some (66, .if_icmp .ne 8, 69, [74]) := rfl
theorem k13_69 : mm_lk mm_m13.1 69 = some (69, .ldc 67, 71, [1, 32, 1384]) := rfl
theorem k13_71 : mm_lk mm_m13.1 71 = some (71, .goto 5, 74, [76]) := rfl
theorem k13_74 : mm_lk mm_m13.1 74 = some (74, .ldc 69, 76, [1, 34, 1385]) := rfl
theorem k13_76 : mm_lk mm_m13.1 76 = some (76, .invokevirtual 71, 79, [0, 372, 2, 1, 1386, 1074, 1075, 141]) := rfl
theorem k13_79 : mm_lk mm_m13.1 79 = some (79, .pop, 80, []) := rfl
theorem k13_80 : mm_lk mm_m13.1 80 = some (80, .goto 153, 83, [233]) := rfl
theorem k13_83 : mm_lk mm_m13.1 83 = some (83, .aload_n 0, 84, []) := rfl
theorem k13_84 : mm_lk mm_m13.1 84 = some (84, .getfield 9, 87, [0, 3, 0, 251]) := rfl
theorem k13_87 : mm_lk mm_m13.1 87 = some (87, .iload 6, 89, []) := rfl
theorem k13_89 : mm_lk mm_m13.1 89 = some (89, .invokestatic 39, 92, [6, 156, 2, 702, 568, 132, 0]) := rfl
theorem k13_92 : mm_lk mm_m13.1 92 = some (92, .ifCond .ne 23, 95, [115]) := rfl
theorem k13_95 : mm_lk mm_m13.1 95 = some (95, .aload_n 2, 96, []) := rfl
theorem k13_96 : mm_lk mm_m13.1 96 = some (96, .getfield 77, 99, [1, 10, 0, 485, 0]) := rfl
theorem k13_99 : mm_lk mm_m13.1 99 = some (99, .aload_n 1, 100, []) := rfl
theorem k13_100 : mm_lk mm_m13.1 100 = some (100, .aload_n 0, 101, []) := rfl
theorem k13_101 : mm_lk mm_m13.1 101 = some (101, .getfield 15, 104, [0, 3, 1, 252]) := rfl
theorem k13_104 : mm_lk mm_m13.1 104 = some (104, .iload 6, 106, []) := rfl
theorem k13_106 : mm_lk mm_m13.1 106 = some (106, .invokestatic 39, 109, [6, 156, 2, 702, 568, 132, 0]) := rfl
theorem k13_109 : mm_lk mm_m13.1 109 = some (109, .invokevirtual 83, 112, [0, 53, 3, 7, 1387, 1388, 1389, 148]) := rfl
theorem k13_112 : mm_lk mm_m13.1 112 = some (112, .goto 121, 115, [233]) := rfl
theorem k13_115 : mm_lk mm_m13.1 115 = some (115, .aload_n 0, 116, []) := rfl
theorem k13_116 : mm_lk mm_m13.1 116 = some (116, .getfield 9, 119, [0, 3, 0, 251]) := rfl
theorem k13_119 : mm_lk mm_m13.1 119 = some (119, .iload 6, 121, []) := rfl
theorem k13_121 : mm_lk mm_m13.1 121 = some (121, .invokestatic 39, 124, [6, 156, 2, 702, 568, 132, 0]) := rfl
theorem k13_124 : mm_lk mm_m13.1 124 = some (124, .invokestatic 51, 127, [6, 165, 1, 705, 682, 132, 0]) := rfl
theorem k13_127 : mm_lk mm_m13.1 127 = some (127, .ifCond .eq 85, 130, [212]) := rfl
theorem k13_130 : mm_lk mm_m13.1 130 = some (130, .aload_n 1, 131, []) := rfl
theorem k13_131 : mm_lk mm_m13.1 131 = some (131, .bipush 40, 133, []) := rfl
theorem k13_133 : mm_lk mm_m13.1 133 = some (133, .invokevirtual 89, 136, [0, 373, 2, 1, 1409, 1397, 1398, 141]) := rfl
theorem k13_136 : mm_lk mm_m13.1 136 = some (136, .pop, 137, []) := rfl
theorem k13_137 : mm_lk mm_m13.1 137 = some (137, .aload_n 3, 138, []) := rfl
theorem k13_138 : mm_lk mm_m13.1 138 = some (138, .iload 4, 140, []) := rfl
theorem k13_140 : mm_lk mm_m13.1 140 = some (140, .bipush (-3), 142, []) := rfl
theorem k13_142 : mm_lk mm_m13.1 142 = some (142, .invokestatic 25, 145, [6, 157, 3, 679, 449, 132, 0]) := rfl
theorem k13_145 : mm_lk mm_m13.1 145 = some (145, .aload_n 3, 146, []) := rfl
theorem k13_146 : mm_lk mm_m13.1 146 = some (146, .iload 4, 148, []) := rfl
theorem k13_148 : mm_lk mm_m13.1 148 = some (148, .iconst 1, 149, []) := rfl
theorem k13_149 : mm_lk mm_m13.1 149 = some (149, .iadd, 150, []) := rfl
theorem k13_150 : mm_lk mm_m13.1 150 = some (150, .iload 6, 152, []) := rfl
theorem k13_152 : mm_lk mm_m13.1 152 = some (152, .iconst 1, 153, []) := rfl
theorem k13_153 : mm_lk mm_m13.1 153 = some (153, .isub, 154, []) := rfl
theorem k13_154 : mm_lk mm_m13.1 154 = some (154, .invokestatic 25, 157, [6, 157, 3, 679, 449, 132, 0]) := rfl
theorem k13_157 : mm_lk mm_m13.1 157 = some (157, .aload_n 3, 158, []) := rfl
theorem k13_158 : mm_lk mm_m13.1 158 = some (158, .iload 4, 160, []) := rfl
theorem k13_160 : mm_lk mm_m13.1 160 = some (160, .iconst 2, 161, []) := rfl
theorem k13_161 : mm_lk mm_m13.1 161 = some (161, .iadd, 162, []) := rfl
theorem k13_162 : mm_lk mm_m13.1 162 = some (162, .aload_n 0, 163, []) := rfl
theorem k13_163 : mm_lk mm_m13.1 163 = some (163, .getfield 9, 166, [0, 3, 0, 251]) := rfl
theorem k13_166 : mm_lk mm_m13.1 166 = some (166, .iload 6, 168, []) := rfl
theorem k13_168 : mm_lk mm_m13.1 168 = some (168, .invokestatic 39, 171, [6, 156, 2, 702, 568, 132, 0]) := rfl
theorem k13_171 : mm_lk mm_m13.1 171 = some (171, .bipush 6, 173, []) := rfl
theorem k13_173 : mm_lk mm_m13.1 173 = some (173, .if_icmp .ne 7, 176, [180]) := rfl
theorem k13_176 : mm_lk mm_m13.1 176 = some (176, .iconst (-1), 177, []) := rfl
theorem k13_177 : mm_lk mm_m13.1 177 = some (177, .goto 5, 180, [182]) := rfl
theorem k13_180 : mm_lk mm_m13.1 180 = some (180, .bipush (-2), 182, []) := rfl
theorem k13_182 : mm_lk mm_m13.1 182 = some (182, .invokestatic 25, 185, [6, 157, 3, 679, 449, 132, 0]) := rfl
theorem k13_185 : mm_lk mm_m13.1 185 = some (185, .aload_n 3, 186, []) := rfl
theorem k13_186 : mm_lk mm_m13.1 186 = some (186, .iload 4, 188, []) := rfl
theorem k13_188 : mm_lk mm_m13.1 188 = some (188, .iconst 3, 189, []) := rfl
theorem k13_189 : mm_lk mm_m13.1 189 = some (189, .iadd, 190, []) := rfl
theorem k13_190 : mm_lk mm_m13.1 190 = some (190, .aload_n 0, 191, []) := rfl
theorem k13_191 : mm_lk mm_m13.1 191 = some (191, .getfield 18, 194, [0, 3, 2, 253]) := rfl
theorem k13_194 : mm_lk mm_m13.1 194 = some (194, .iload 6, 196, []) := rfl
theorem k13_196 : mm_lk mm_m13.1 196 = some (196, .iconst 1, 197, []) := rfl
theorem k13_197 : mm_lk mm_m13.1 197 = some (197, .isub, 198, []) := rfl
theorem k13_198 : mm_lk mm_m13.1 198 = some (198, .invokestatic 39, 201, [6, 156, 2, 702, 568, 132, 0]) := rfl
theorem k13_201 : mm_lk mm_m13.1 201 = some (201, .iconst 1, 202, []) := rfl
theorem k13_202 : mm_lk mm_m13.1 202 = some (202, .isub, 203, []) := rfl
theorem k13_203 : mm_lk mm_m13.1 203 = some (203, .invokestatic 25, 206, [6, 157, 3, 679, 449, 132, 0]) := rfl
theorem k13_206 : mm_lk mm_m13.1 206 = some (206, .iinc 4 4, 209, []) := rfl
theorem k13_209 : mm_lk mm_m13.1 209 = some (209, .goto 24, 212, [233]) := rfl
theorem k13_212 : mm_lk mm_m13.1 212 = some (212, .aload_n 0, 213, []) := rfl
theorem k13_213 : mm_lk mm_m13.1 213 = some (213, .aload_n 1, 214, []) := rfl
theorem k13_214 : mm_lk mm_m13.1 214 = some (214, .aload_n 2, 215, []) := rfl
theorem k13_215 : mm_lk mm_m13.1 215 = some (215, .iload 6, 217, []) := rfl
theorem k13_217 : mm_lk mm_m13.1 217 = some (217, .invokevirtual 92, 220, [0, 14, 4, 3, 1410, 1412, 33, 135]) := rfl
theorem k13_220 : mm_lk mm_m13.1 220 = some (220, .aload_n 3, 221, []) := rfl
theorem k13_221 : mm_lk mm_m13.1 221 = some (221, .iload 4, 223, []) := rfl
theorem k13_223 : mm_lk mm_m13.1 223 = some (223, .iload 6, 225, []) := rfl
theorem k13_225 : mm_lk mm_m13.1 225 = some (225, .iconst 1, 226, []) := rfl
theorem k13_226 : mm_lk mm_m13.1 226 = some (226, .isub, 227, []) := rfl
theorem k13_227 : mm_lk mm_m13.1 227 = some (227, .invokestatic 25, 230, [6, 157, 3, 679, 449, 132, 0]) := rfl
theorem k13_230 : mm_lk mm_m13.1 230 = some (230, .iinc 4 1, 233, []) := rfl
theorem k13_233 : mm_lk mm_m13.1 233 = some (233, .iinc 5 1, 236, []) := rfl
theorem k13_236 : mm_lk mm_m13.1 236 = some (236, .goto (-215), 239, [21]) := rfl
theorem k13_239 : mm_lk mm_m13.1 239 = some (239, .return_, 240, []) := rfl
theorem k141_0 : mm_lk mm_m141.1 0 = some (0, .aload_n 0, 1, []) := rfl
theorem k141_1 : mm_lk mm_m141.1 1 = some (1, .getfield 64, 4, [0, 13, 7, 848]) := rfl
theorem k141_4 : mm_lk mm_m141.1 4 = some (4, .iconst 0, 5, []) := rfl
theorem k141_5 : mm_lk mm_m141.1 5 = some (5, .invokevirtual 309, 8, [0, 377, 2, 1, 1058, 1059, 1060, 141]) := rfl
theorem k141_8 : mm_lk mm_m141.1 8 = some (8, .aload_n 0, 9, []) := rfl
theorem k141_9 : mm_lk mm_m141.1 9 = some (9, .getfield 87, 12, [0, 13, 8, 849]) := rfl
theorem k141_12 : mm_lk mm_m141.1 12 = some (12, .getfield 153, 15, [1, 12, 1, 805, 0]) := rfl
theorem k141_15 : mm_lk mm_m141.1 15 = some (15, .aload_n 0, 16, []) := rfl
theorem k141_16 : mm_lk mm_m141.1 16 = some (16, .getfield 64, 19, [0, 13, 7, 848]) := rfl
theorem k141_19 : mm_lk mm_m141.1 19 = some (19, .aload_n 0, 20, []) := rfl
theorem k141_20 : mm_lk mm_m141.1 20 = some (20, .getfield 87, 23, [0, 13, 8, 849]) := rfl
theorem k141_23 : mm_lk mm_m141.1 23 = some (23, .getfield 125, 26, [1, 12, 3, 809, 0]) := rfl
theorem k141_26 : mm_lk mm_m141.1 26 = some (26, .aload_n 0, 27, []) := rfl
theorem k141_27 : mm_lk mm_m141.1 27 = some (27, .getfield 57, 30, [0, 13, 6, 847]) := rfl
theorem k141_30 : mm_lk mm_m141.1 30 = some (30, .invokevirtual 331, 33, [0, 13, 4, 3, 1374, 1375, 1376, 135]) := rfl
theorem k141_33 : mm_lk mm_m141.1 33 = some (33, .aload_n 0, 34, []) := rfl
theorem k141_34 : mm_lk mm_m141.1 34 = some (34, .getfield 64, 37, [0, 13, 7, 848]) := rfl
theorem k141_37 : mm_lk mm_m141.1 37 = some (37, .invokevirtual 325, 40, [0, 378, 1, 1, 1416, 1215, 2511, 141]) := rfl
theorem k141_40 : mm_lk mm_m141.1 40 = some (40, .ireturn, 41, []) := rfl
