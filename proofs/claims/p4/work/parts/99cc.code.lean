/-! ===== code, row by row (by program) ===== -/
/-- WhoKnowsModel.depthOf([II)I -/
def mm_m197 : mm_M := (mm_c197, 7, 1, [])
set_option maxRecDepth 20000 in
theorem P197 : mm_P 197 = some mm_m197 := rfl
/-- WhoKnowsModel.size(I)I -/
def mm_m256 : mm_M := (mm_c256, 2, 1, [])
set_option maxRecDepth 20000 in
theorem P256 : mm_P 256 = some mm_m256 := rfl
/-- WhoKnowsModel.letter(ZII)I -/
def mm_m257 : mm_M := (mm_c257, 5, 1, [])
set_option maxRecDepth 20000 in
theorem P257 : mm_P 257 = some mm_m257 := rfl
/-- WhoKnowsModel.meanAlike()D -/
def mm_m291 : mm_M := (mm_c291, 4, 7, [])
set_option maxRecDepth 20000 in
theorem P291 : mm_P 291 = some mm_m291 := rfl
/-- WhoKnowsModel.outputByte(I)I -/
def mm_m310 : mm_M := (mm_c310, 2, 1, [])
set_option maxRecDepth 20000 in
theorem P310 : mm_P 310 = some mm_m310 := rfl
theorem k197_0 : mm_lk mm_m197.1 0 = some (0, .aload_n 0, 1, []) := rfl
theorem k197_1 : mm_lk mm_m197.1 1 = some (1, .getfield 25, 4, [0, 14, 8, 1836]) := rfl
theorem k197_4 : mm_lk mm_m197.1 4 = some (4, .astore_n 3, 5, []) := rfl
theorem k197_5 : mm_lk mm_m197.1 5 = some (5, .iconst 0, 6, []) := rfl
theorem k197_6 : mm_lk mm_m197.1 6 = some (6, .istore 4, 8, []) := rfl
theorem k197_8 : mm_lk mm_m197.1 8 = some (8, .iload 4, 10, []) := rfl
theorem k197_10 : mm_lk mm_m197.1 10 = some (10, .aload_n 1, 11, []) := rfl
theorem k197_11 : mm_lk mm_m197.1 11 = some (11, .iload_n 2, 12, []) := rfl
theorem k197_12 : mm_lk mm_m197.1 12 = some (12, .iaload, 13, []) := rfl
theorem k197_13 : mm_lk mm_m197.1 13 = some (13, .if_icmp .ge 111, 16, [124]) := rfl
theorem k197_16 : mm_lk mm_m197.1 16 = some (16, .iload_n 2, 17, []) := rfl
theorem k197_17 : mm_lk mm_m197.1 17 = some (17, .iconst 1, 18, []) := rfl
theorem k197_18 : mm_lk mm_m197.1 18 = some (18, .iadd, 19, []) := rfl
theorem k197_19 : mm_lk mm_m197.1 19 = some (19, .iconst 4, 20, []) := rfl
theorem k197_20 : mm_lk mm_m197.1 20 = some (20, .iload 4, 22, []) := rfl
theorem k197_22 : mm_lk mm_m197.1 22 = some (22, .imul, 23, []) := rfl
theorem k197_23 : mm_lk mm_m197.1 23 = some (23, .iadd, 24, []) := rfl
theorem k197_24 : mm_lk mm_m197.1 24 = some (24, .istore 5, 26, []) := rfl
theorem k197_26 : mm_lk mm_m197.1 26 = some (26, .aload_n 1, 27, []) := rfl
theorem k197_27 : mm_lk mm_m197.1 27 = some (27, .iload 5, 29, []) := rfl
theorem k197_29 : mm_lk mm_m197.1 29 = some (29, .iaload, 30, []) := rfl
theorem k197_30 : mm_lk mm_m197.1 30 = some (30, .istore 6, 32, []) := rfl
theorem k197_32 : mm_lk mm_m197.1 32 = some (32, .iload 6, 34, []) := rfl
theorem k197_34 : mm_lk mm_m197.1 34 = some (34, .ifCond .ne 11, 37, [45]) := rfl
theorem k197_37 : mm_lk mm_m197.1 37 = some (37, .aload_n 3, 38, []) := rfl
theorem k197_38 : mm_lk mm_m197.1 38 = some (38, .iload 4, 40, []) := rfl
theorem k197_40 : mm_lk mm_m197.1 40 = some (40, .iconst 0, 41, []) := rfl
theorem k197_41 : mm_lk mm_m197.1 41 = some (41, .iastore, 42, []) := rfl
theorem k197_42 : mm_lk mm_m197.1 42 = some (42, .goto 76, 45, [118]) := rfl
theorem k197_45 : mm_lk mm_m197.1 45 = some (45, .iload 6, 47, []) := rfl
theorem k197_47 : mm_lk mm_m197.1 47 = some (47, .iconst 1, 48, []) := rfl
theorem k197_48 : mm_lk mm_m197.1 48 = some (48, .if_icmp .ne 18, 51, [66]) := rfl
theorem k197_51 : mm_lk mm_m197.1 51 = some (51, .aload_n 3, 52, []) := rfl
theorem k197_52 : mm_lk mm_m197.1 52 = some (52, .iload 4, 54, []) := rfl
theorem k197_54 : mm_lk mm_m197.1 54 = some (54, .aload_n 3, 55, []) := rfl
theorem k197_55 : mm_lk mm_m197.1 55 = some (55, .aload_n 1, 56, []) := rfl
theorem k197_56 : mm_lk mm_m197.1 56 = some (56, .iload 5, 58, []) := rfl
theorem k197_58 : mm_lk mm_m197.1 58 = some (58, .iconst 1, 59, []) := rfl
theorem k197_59 : mm_lk mm_m197.1 59 = some (59, .iadd, 60, []) := rfl
theorem k197_60 : mm_lk mm_m197.1 60 = some (60, .iaload, 61, []) := rfl
theorem k197_61 : mm_lk mm_m197.1 61 = some (61, .iaload, 62, []) := rfl
theorem k197_62 : mm_lk mm_m197.1 62 = some (62, .iastore, 63, []) := rfl
theorem k197_63 : mm_lk mm_m197.1 63 = some (63, .goto 55, 66, [118]) := rfl
theorem k197_66 : mm_lk mm_m197.1 66 = some (66, .iload 6, 68, []) := rfl
theorem k197_68 : mm_lk mm_m197.1 68 = some (68, .iconst 2, 69, []) := rfl
theorem k197_69 : mm_lk mm_m197.1 69 = some (69, .if_icmp .eq 9, 72, [78]) := rfl
theorem k197_72 : mm_lk mm_m197.1 72 = some (72, .iload 6, 74, []) := rfl
theorem k197_74 : mm_lk mm_m197.1 74 = some (74, .iconst 3, 75, []) := rfl
theorem k197_75 : mm_lk mm_m197.1 75 = some (75, .if_icmp .ne 29, 78, [104]) := rfl
theorem k197_78 : mm_lk mm_m197.1 78 = some (78, .aload_n 3, 79, []) := rfl
theorem k197_79 : mm_lk mm_m197.1 79 = some (79, .iload 4, 81, []) := rfl
theorem k197_81 : mm_lk mm_m197.1 81 = some (81, .aload_n 3, 82, []) := rfl
theorem k197_82 : mm_lk mm_m197.1 82 = some (82, .aload_n 1, 83, []) := rfl
theorem k197_83 : mm_lk mm_m197.1 83 = some (83, .iload 5, 85, []) := rfl
theorem k197_85 : mm_lk mm_m197.1 85 = some (85, .iconst 1, 86, []) := rfl
theorem k197_86 : mm_lk mm_m197.1 86 = some (86, .iadd, 87, []) := rfl
theorem k197_87 : mm_lk mm_m197.1 87 = some (87, .iaload, 88, []) := rfl
theorem k197_88 : mm_lk mm_m197.1 88 = some (88, .iaload, 89, []) := rfl
theorem k197_89 : mm_lk mm_m197.1 89 = some (89, .aload_n 3, 90, []) := rfl
theorem k197_90 : mm_lk mm_m197.1 90 = some (90, .aload_n 1, 91, []) := rfl
theorem k197_91 : mm_lk mm_m197.1 91 = some (91, .iload 5, 93, []) := rfl
theorem k197_93 : mm_lk mm_m197.1 93 = some (93, .iconst 2, 94, []) := rfl
theorem k197_94 : mm_lk mm_m197.1 94 = some (94, .iadd, 95, []) := rfl
theorem k197_95 : mm_lk mm_m197.1 95 = some (95, .iaload, 96, []) := rfl
theorem k197_96 : mm_lk mm_m197.1 96 = some (96, .iaload, 97, []) := rfl
theorem k197_97 : mm_lk mm_m197.1 97 = some (97, .invokestatic 111, 100, [11, 2241]) := rfl
theorem k197_100 : mm_lk mm_m197.1 100 = some (100, .iastore, 101, []) := rfl
theorem k197_101 : mm_lk mm_m197.1 101 = some (101, .goto 17, 104, [118]) := rfl
theorem k197_104 : mm_lk mm_m197.1 104 = some (104, .aload_n 3, 105, []) := rfl
theorem k197_105 : mm_lk mm_m197.1 105 = some (105, .iload 4, 107, []) := rfl
theorem k197_107 : mm_lk mm_m197.1 107 = some (107, .aload_n 3, 108, []) := rfl
theorem k197_108 : mm_lk mm_m197.1 108 = some (108, .aload_n 1, 109, []) := rfl
theorem k197_109 : mm_lk mm_m197.1 109 = some (109, .iload 5, 111, []) := rfl
theorem k197_111 : mm_lk mm_m197.1 111 = some (111, .iconst 1, 112, []) := rfl
theorem k197_112 : mm_lk mm_m197.1 112 = some (112, .iadd, 113, []) := rfl
theorem k197_113 : mm_lk mm_m197.1 113 = some (113, .iaload, 114, []) := rfl
theorem k197_114 : mm_lk mm_m197.1 114 = some (114, .iaload, 115, []) := rfl
theorem k197_115 : mm_lk mm_m197.1 115 = some (115, .iconst 1, 116, []) := rfl
theorem k197_116 : mm_lk mm_m197.1 116 = some (116, .iadd, 117, []) := rfl
theorem k197_117 : mm_lk mm_m197.1 117 = some (117, .iastore, 118, []) := rfl
theorem k197_118 : mm_lk mm_m197.1 118 = some (118, .iinc 4 1, 121, []) := rfl
theorem k197_121 : mm_lk mm_m197.1 121 = some (121, .goto (-113), 124, [8]) := rfl
theorem k197_124 : mm_lk mm_m197.1 124 = some (124, .aload_n 3, 125, []) := rfl
theorem k197_125 : mm_lk mm_m197.1 125 = some (125, .aload_n 1, 126, []) := rfl
theorem k197_126 : mm_lk mm_m197.1 126 = some (126, .iload_n 2, 127, []) := rfl
theorem k197_127 : mm_lk mm_m197.1 127 = some (127, .iaload, 128, []) := rfl
theorem k197_128 : mm_lk mm_m197.1 128 = some (128, .iconst 1, 129, []) := rfl
theorem k197_129 : mm_lk mm_m197.1 129 = some (129, .isub, 130, []) := rfl
theorem k197_130 : mm_lk mm_m197.1 130 = some (130, .iaload, 131, []) := rfl
theorem k197_131 : mm_lk mm_m197.1 131 = some (131, .ireturn, 132, []) := rfl
theorem k256_0 : mm_lk mm_m256.1 0 = some (0, .aload_n 0, 1, []) := rfl
theorem k256_1 : mm_lk mm_m256.1 1 = some (1, .iload_n 1, 2, []) := rfl
theorem k256_2 : mm_lk mm_m256.1 2 = some (2, .i2l, 3, []) := rfl
theorem k256_3 : mm_lk mm_m256.1 3 = some (3, .lconst 0, 4, []) := rfl
theorem k256_4 : mm_lk mm_m256.1 4 = some (4, .ldc2_w 379, 7, [9, 2236]) := rfl
theorem k256_7 : mm_lk mm_m256.1 7 = some (7, .invokestatic 59, 10, [1, 171, 3, 1930, 1931, 151]) := rfl
theorem k256_10 : mm_lk mm_m256.1 10 = some (10, .invokevirtual 119, 13, [0, 176, 2, 14, 1918, 1920, 45, 151]) := rfl
theorem k256_13 : mm_lk mm_m256.1 13 = some (13, .ifCond .ne 5, 16, [18]) := rfl
theorem k256_16 : mm_lk mm_m256.1 16 = some (16, .iconst 0, 17, []) := rfl
theorem k256_17 : mm_lk mm_m256.1 17 = some (17, .ireturn, 18, []) := rfl
theorem k256_18 : mm_lk mm_m256.1 18 = some (18, .iload_n 1, 19, []) := rfl
theorem k256_19 : mm_lk mm_m256.1 19 = some (19, .tableswitch 119 0 8 #[49, 54, 59, 69, 76, 83, 92, 104, 111], 68, [138, 68, 73, 78, 88, 95, 102, 111, 123, 130]) := rfl
theorem k256_68 : mm_lk mm_m256.1 68 = some (68, .aload_n 0, 69, []) := rfl
theorem k256_69 : mm_lk mm_m256.1 69 = some (69, .invokevirtual 55, 72, [0, 178, 1, 14, 2002, 2004, 57, 151]) := rfl
theorem k256_72 : mm_lk mm_m256.1 72 = some (72, .ireturn, 73, []) := rfl
theorem k256_73 : mm_lk mm_m256.1 73 = some (73, .aload_n 0, 74, []) := rfl
theorem k256_74 : mm_lk mm_m256.1 74 = some (74, .invokevirtual 63, 77, [0, 179, 1, 14, 1821, 1823, 44, 151]) := rfl
theorem k256_77 : mm_lk mm_m256.1 77 = some (77, .ireturn, 78, []) := rfl
theorem k256_78 : mm_lk mm_m256.1 78 = some (78, .aload_n 0, 79, []) := rfl
theorem k256_79 : mm_lk mm_m256.1 79 = some (79, .getfield 7, 82, [0, 14, 0, 1828]) := rfl
theorem k256_82 : mm_lk mm_m256.1 82 = some (82, .iconst 2, 83, []) := rfl
theorem k256_83 : mm_lk mm_m256.1 83 = some (83, .iaload, 84, []) := rfl
theorem k256_84 : mm_lk mm_m256.1 84 = some (84, .invokestatic 74, 87, [1, 174, 1, 1818, 1819, 151]) := rfl
theorem k256_87 : mm_lk mm_m256.1 87 = some (87, .ireturn, 88, []) := rfl
theorem k256_88 : mm_lk mm_m256.1 88 = some (88, .aload_n 0, 89, []) := rfl
theorem k256_89 : mm_lk mm_m256.1 89 = some (89, .getfield 7, 92, [0, 14, 0, 1828]) := rfl
theorem k256_92 : mm_lk mm_m256.1 92 = some (92, .iconst 3, 93, []) := rfl
theorem k256_93 : mm_lk mm_m256.1 93 = some (93, .iaload, 94, []) := rfl
theorem k256_94 : mm_lk mm_m256.1 94 = some (94, .ireturn, 95, []) := rfl
theorem k256_95 : mm_lk mm_m256.1 95 = some (95, .aload_n 0, 96, []) := rfl
theorem k256_96 : mm_lk mm_m256.1 96 = some (96, .getfield 7, 99, [0, 14, 0, 1828]) := rfl
theorem k256_99 : mm_lk mm_m256.1 99 = some (99, .iconst 4, 100, []) := rfl
theorem k256_100 : mm_lk mm_m256.1 100 = some (100, .iaload, 101, []) := rfl
theorem k256_101 : mm_lk mm_m256.1 101 = some (101, .ireturn, 102, []) := rfl
theorem k256_102 : mm_lk mm_m256.1 102 = some (102, .aload_n 0, 103, []) := rfl
theorem k256_103 : mm_lk mm_m256.1 103 = some (103, .getfield 7, 106, [0, 14, 0, 1828]) := rfl
theorem k256_106 : mm_lk mm_m256.1 106 = some (106, .sipush 320, 109, []) := rfl
theorem k256_109 : mm_lk mm_m256.1 109 = some (109, .iaload, 110, []) := rfl
theorem k256_110 : mm_lk mm_m256.1 110 = some (110, .ireturn, 111, []) := rfl
theorem k256_111 : mm_lk mm_m256.1 111 = some (111, .aload_n 0, 112, []) := rfl
theorem k256_112 : mm_lk mm_m256.1 112 = some (112, .aload_n 0, 113, []) := rfl
theorem k256_113 : mm_lk mm_m256.1 113 = some (113, .getfield 7, 116, [0, 14, 0, 1828]) := rfl
theorem k256_116 : mm_lk mm_m256.1 116 = some (116, .sipush 320, 119, []) := rfl
theorem k256_119 : mm_lk mm_m256.1 119 = some (119, .invokevirtual 381, 122, [0, 197, 3, 14, 2237, 2239, 108, 151]) := rfl
theorem k256_122 : mm_lk mm_m256.1 122 = some (122, .ireturn, 123, []) := rfl
theorem k256_123 : mm_lk mm_m256.1 123 = some (123, .aload_n 0, 124, []) := rfl
theorem k256_124 : mm_lk mm_m256.1 124 = some (124, .getfield 7, 127, [0, 14, 0, 1828]) := rfl
theorem k256_127 : mm_lk mm_m256.1 127 = some (127, .iconst 5, 128, []) := rfl
theorem k256_128 : mm_lk mm_m256.1 128 = some (128, .iaload, 129, []) := rfl
theorem k256_129 : mm_lk mm_m256.1 129 = some (129, .ireturn, 130, []) := rfl
theorem k256_130 : mm_lk mm_m256.1 130 = some (130, .aload_n 0, 131, []) := rfl
theorem k256_131 : mm_lk mm_m256.1 131 = some (131, .getfield 7, 134, [0, 14, 0, 1828]) := rfl
theorem k256_134 : mm_lk mm_m256.1 134 = some (134, .bipush 6, 136, []) := rfl
theorem k256_136 : mm_lk mm_m256.1 136 = some (136, .iaload, 137, []) := rfl
theorem k256_137 : mm_lk mm_m256.1 137 = some (137, .ireturn, 138, []) := rfl
theorem k256_138 : mm_lk mm_m256.1 138 = some (138, .aload_n 0, 139, []) := rfl
theorem k256_139 : mm_lk mm_m256.1 139 = some (139, .getfield 305, 142, [0, 14, 5, 1833]) := rfl
theorem k256_142 : mm_lk mm_m256.1 142 = some (142, .ireturn, 143, []) := rfl
theorem k257_0 : mm_lk mm_m257.1 0 = some (0, .aload_n 0, 1, []) := rfl
theorem k257_1 : mm_lk mm_m257.1 1 = some (1, .iload_n 1, 2, []) := rfl
theorem k257_2 : mm_lk mm_m257.1 2 = some (2, .ifCond .eq 11, 5, [13]) := rfl
theorem k257_5 : mm_lk mm_m257.1 5 = some (5, .aload_n 0, 6, []) := rfl
theorem k257_6 : mm_lk mm_m257.1 6 = some (6, .iload_n 2, 7, []) := rfl
theorem k257_7 : mm_lk mm_m257.1 7 = some (7, .invokevirtual 384, 10, [0, 181, 2, 14, 2246, 2248, 109, 151]) := rfl
theorem k257_10 : mm_lk mm_m257.1 10 = some (10, .goto 8, 13, [18]) := rfl
theorem k257_13 : mm_lk mm_m257.1 13 = some (13, .aload_n 0, 14, []) := rfl
theorem k257_14 : mm_lk mm_m257.1 14 = some (14, .iload_n 2, 15, []) := rfl
theorem k257_15 : mm_lk mm_m257.1 15 = some (15, .invokevirtual 387, 18, [0, 180, 2, 14, 2250, 2252, 110, 151]) := rfl
theorem k257_18 : mm_lk mm_m257.1 18 = some (18, .invokevirtual 119, 21, [0, 176, 2, 14, 1918, 1920, 45, 151]) := rfl
theorem k257_21 : mm_lk mm_m257.1 21 = some (21, .ifCond .ne 5, 24, [26]) := rfl
theorem k257_24 : mm_lk mm_m257.1 24 = some (24, .iconst 0, 25, []) := rfl
theorem k257_25 : mm_lk mm_m257.1 25 = some (25, .ireturn, 26, []) := rfl
theorem k257_26 : mm_lk mm_m257.1 26 = some (26, .iload_n 1, 27, []) := rfl
theorem k257_27 : mm_lk mm_m257.1 27 = some (27, .ifCond .eq 8, 30, [35]) := rfl
theorem k257_30 : mm_lk mm_m257.1 30 = some (30, .bipush 115, 32, []) := rfl
theorem k257_32 : mm_lk mm_m257.1 32 = some (32, .goto 5, 35, [37]) := rfl
theorem k257_35 : mm_lk mm_m257.1 35 = some (35, .bipush 80, 37, []) := rfl
theorem k257_37 : mm_lk mm_m257.1 37 = some (37, .bipush 7, 39, []) := rfl
theorem k257_39 : mm_lk mm_m257.1 39 = some (39, .iload_n 2, 40, []) := rfl
theorem k257_40 : mm_lk mm_m257.1 40 = some (40, .imul, 41, []) := rfl
theorem k257_41 : mm_lk mm_m257.1 41 = some (41, .iadd, 42, []) := rfl
theorem k257_42 : mm_lk mm_m257.1 42 = some (42, .istore 4, 44, []) := rfl
theorem k257_44 : mm_lk mm_m257.1 44 = some (44, .iload_n 3, 45, []) := rfl
theorem k257_45 : mm_lk mm_m257.1 45 = some (45, .i2l, 46, []) := rfl
theorem k257_46 : mm_lk mm_m257.1 46 = some (46, .lconst 0, 47, []) := rfl
theorem k257_47 : mm_lk mm_m257.1 47 = some (47, .aload_n 0, 48, []) := rfl
theorem k257_48 : mm_lk mm_m257.1 48 = some (48, .getfield 7, 51, [0, 14, 0, 1828]) := rfl
theorem k257_51 : mm_lk mm_m257.1 51 = some (51, .iload 4, 53, []) := rfl
theorem k257_53 : mm_lk mm_m257.1 53 = some (53, .iaload, 54, []) := rfl
theorem k257_54 : mm_lk mm_m257.1 54 = some (54, .iconst 1, 55, []) := rfl
theorem k257_55 : mm_lk mm_m257.1 55 = some (55, .isub, 56, []) := rfl
theorem k257_56 : mm_lk mm_m257.1 56 = some (56, .i2l, 57, []) := rfl
theorem k257_57 : mm_lk mm_m257.1 57 = some (57, .invokestatic 59, 60, [1, 171, 3, 1930, 1931, 151]) := rfl
theorem k257_60 : mm_lk mm_m257.1 60 = some (60, .ifCond .eq 17, 63, [77]) := rfl
theorem k257_63 : mm_lk mm_m257.1 63 = some (63, .aload_n 0, 64, []) := rfl
theorem k257_64 : mm_lk mm_m257.1 64 = some (64, .getfield 7, 67, [0, 14, 0, 1828]) := rfl
theorem k257_67 : mm_lk mm_m257.1 67 = some (67, .iload 4, 69, []) := rfl
theorem k257_69 : mm_lk mm_m257.1 69 = some (69, .iconst 1, 70, []) := rfl
theorem k257_70 : mm_lk mm_m257.1 70 = some (70, .iadd, 71, []) := rfl
theorem k257_71 : mm_lk mm_m257.1 71 = some (71, .iload_n 3, 72, []) := rfl
theorem k257_72 : mm_lk mm_m257.1 72 = some (72, .iadd, 73, []) := rfl
theorem k257_73 : mm_lk mm_m257.1 73 = some (73, .iaload, 74, []) := rfl
theorem k257_74 : mm_lk mm_m257.1 74 = some (74, .goto 4, 77, [78]) := rfl
theorem k257_77 : mm_lk mm_m257.1 77 = some (77, .iconst (-1), 78, []) := rfl
theorem k257_78 : mm_lk mm_m257.1 78 = some (78, .ireturn, 79, []) := rfl
theorem k291_0 : mm_lk mm_m291.1 0 = some (0, .aload_n 0, 1, []) := rfl
theorem k291_1 : mm_lk mm_m291.1 1 = some (1, .iconst 0, 2, []) := rfl
theorem k291_2 : mm_lk mm_m291.1 2 = some (2, .putfield 48, 5, [0, 14, 6, 1834]) := rfl
theorem k291_5 : mm_lk mm_m291.1 5 = some (5, .iconst 0, 6, []) := rfl
theorem k291_6 : mm_lk mm_m291.1 6 = some (6, .istore_n 1, 7, []) := rfl
theorem k291_7 : mm_lk mm_m291.1 7 = some (7, .iconst 0, 8, []) := rfl
theorem k291_8 : mm_lk mm_m291.1 8 = some (8, .istore_n 2, 9, []) := rfl
theorem k291_9 : mm_lk mm_m291.1 9 = some (9, .iload_n 2, 10, []) := rfl
theorem k291_10 : mm_lk mm_m291.1 10 = some (10, .aload_n 0, 11, []) := rfl
theorem k291_11 : mm_lk mm_m291.1 11 = some (11, .invokevirtual 63, 14, [0, 179, 1, 14, 1821, 1823, 44, 151]) := rfl
theorem k291_14 : mm_lk mm_m291.1 14 = some (14, .if_icmp .ge 35, 17, [49]) := rfl
theorem k291_17 : mm_lk mm_m291.1 17 = some (17, .iconst 0, 18, []) := rfl
theorem k291_18 : mm_lk mm_m291.1 18 = some (18, .istore_n 3, 19, []) := rfl
theorem k291_19 : mm_lk mm_m291.1 19 = some (19, .iload_n 3, 20, []) := rfl
theorem k291_20 : mm_lk mm_m291.1 20 = some (20, .bipush 32, 22, []) := rfl
theorem k291_22 : mm_lk mm_m291.1 22 = some (22, .if_icmp .ge 21, 25, [43]) := rfl
theorem k291_25 : mm_lk mm_m291.1 25 = some (25, .iload_n 1, 26, []) := rfl
theorem k291_26 : mm_lk mm_m291.1 26 = some (26, .aload_n 0, 27, []) := rfl
theorem k291_27 : mm_lk mm_m291.1 27 = some (27, .iload_n 2, 28, []) := rfl
theorem k291_28 : mm_lk mm_m291.1 28 = some (28, .iload_n 3, 29, []) := rfl
theorem k291_29 : mm_lk mm_m291.1 29 = some (29, .invokevirtual 78, 32, [0, 186, 3, 14, 2105, 2107, 81, 151]) := rfl
theorem k291_32 : mm_lk mm_m291.1 32 = some (32, .invokestatic 74, 35, [1, 174, 1, 1818, 1819, 151]) := rfl
theorem k291_35 : mm_lk mm_m291.1 35 = some (35, .iadd, 36, []) := rfl
theorem k291_36 : mm_lk mm_m291.1 36 = some (36, .istore_n 1, 37, []) := rfl
theorem k291_37 : mm_lk mm_m291.1 37 = some (37, .iinc 3 1, 40, []) := rfl
theorem k291_40 : mm_lk mm_m291.1 40 = some (40, .goto (-21), 43, [19]) := rfl
theorem k291_43 : mm_lk mm_m291.1 43 = some (43, .iinc 2 1, 46, []) := rfl
theorem k291_46 : mm_lk mm_m291.1 46 = some (46, .goto (-37), 49, [9]) := rfl
theorem k291_49 : mm_lk mm_m291.1 49 = some (49, .iload_n 1, 50, []) := rfl
theorem k291_50 : mm_lk mm_m291.1 50 = some (50, .i2d, 51, []) := rfl
theorem k291_51 : mm_lk mm_m291.1 51 = some (51, .aload_n 0, 52, []) := rfl
theorem k291_52 : mm_lk mm_m291.1 52 = some (52, .getfield 7, 55, [0, 14, 0, 1828]) := rfl
theorem k291_55 : mm_lk mm_m291.1 55 = some (55, .iconst 2, 56, []) := rfl
theorem k291_56 : mm_lk mm_m291.1 56 = some (56, .iaload, 57, []) := rfl
theorem k291_57 : mm_lk mm_m291.1 57 = some (57, .invokestatic 74, 60, [1, 174, 1, 1818, 1819, 151]) := rfl
theorem k291_60 : mm_lk mm_m291.1 60 = some (60, .aload_n 0, 61, []) := rfl
theorem k291_61 : mm_lk mm_m291.1 61 = some (61, .invokevirtual 63, 64, [0, 179, 1, 14, 1821, 1823, 44, 151]) := rfl
theorem k291_64 : mm_lk mm_m291.1 64 = some (64, .imul, 65, []) := rfl
theorem k291_65 : mm_lk mm_m291.1 65 = some (65, .i2d, 66, []) := rfl
theorem k291_66 : mm_lk mm_m291.1 66 = some (66, .ddiv, 67, []) := rfl
theorem k291_67 : mm_lk mm_m291.1 67 = some (67, .dreturn, 68, []) := rfl
theorem k310_0 : mm_lk mm_m310.1 0 = some (0, .aload_n 0, 1, []) := rfl
theorem k310_1 : mm_lk mm_m310.1 1 = some (1, .iconst 0, 2, []) := rfl
theorem k310_2 : mm_lk mm_m310.1 2 = some (2, .putfield 48, 5, [0, 14, 6, 1834]) := rfl
theorem k310_5 : mm_lk mm_m310.1 5 = some (5, .iload_n 1, 6, []) := rfl
theorem k310_6 : mm_lk mm_m310.1 6 = some (6, .i2l, 7, []) := rfl
theorem k310_7 : mm_lk mm_m310.1 7 = some (7, .lconst 0, 8, []) := rfl
theorem k310_8 : mm_lk mm_m310.1 8 = some (8, .aload_n 0, 9, []) := rfl
theorem k310_9 : mm_lk mm_m310.1 9 = some (9, .getfield 428, 12, [0, 14, 26, 1854]) := rfl
theorem k310_12 : mm_lk mm_m310.1 12 = some (12, .iconst 1, 13, []) := rfl
theorem k310_13 : mm_lk mm_m310.1 13 = some (13, .isub, 14, []) := rfl
theorem k310_14 : mm_lk mm_m310.1 14 = some (14, .i2l, 15, []) := rfl
theorem k310_15 : mm_lk mm_m310.1 15 = some (15, .invokestatic 59, 18, [1, 171, 3, 1930, 1931, 151]) := rfl
theorem k310_18 : mm_lk mm_m310.1 18 = some (18, .ifCond .eq 12, 21, [30]) := rfl
theorem k310_21 : mm_lk mm_m310.1 21 = some (21, .aload_n 0, 22, []) := rfl
theorem k310_22 : mm_lk mm_m310.1 22 = some (22, .getfield 41, 25, [0, 14, 25, 1853]) := rfl
theorem k310_25 : mm_lk mm_m310.1 25 = some (25, .iload_n 1, 26, []) := rfl
theorem k310_26 : mm_lk mm_m310.1 26 = some (26, .iaload, 27, []) := rfl
theorem k310_27 : mm_lk mm_m310.1 27 = some (27, .goto 4, 30, [31]) := rfl
theorem k310_30 : mm_lk mm_m310.1 30 = some (30, .iconst (-1), 31, []) := rfl
theorem k310_31 : mm_lk mm_m310.1 31 = some (31, .ireturn, 32, []) := rfl
