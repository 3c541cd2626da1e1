/-! ===== code, row by row (by program) ===== -/
/-- WhoKnowsModel.begins(I)V -/
def mm_m187 : mm_M := (mm_c187, 6, 0, [])
set_option maxRecDepth 20000 in
theorem P187 : mm_P 187 = some mm_m187 := rfl
/-- WhoKnowsModel.asked([II)I -/
def mm_m195 : mm_M := (mm_c195, 6, 1, [])
set_option maxRecDepth 20000 in
theorem P195 : mm_P 195 = some mm_m195 := rfl
/-- WhoKnowsModel.question()I -/
def mm_m196 : mm_M := (mm_c196, 1, 1, [])
set_option maxRecDepth 20000 in
theorem P196 : mm_P 196 = some mm_m196 := rfl
theorem k187_0 : mm_lk mm_m187.1 0 = some (0, .aload_n 0, 1, []) := rfl
theorem k187_1 : mm_lk mm_m187.1 1 = some (1, .getfield 7, 4, [0, 14, 0, 1828]) := rfl
theorem k187_4 : mm_lk mm_m187.1 4 = some (4, .iconst 2, 5, []) := rfl
theorem k187_5 : mm_lk mm_m187.1 5 = some (5, .iload_n 1, 6, []) := rfl
theorem k187_6 : mm_lk mm_m187.1 6 = some (6, .iastore, 7, []) := rfl
theorem k187_7 : mm_lk mm_m187.1 7 = some (7, .aload_n 0, 8, []) := rfl
theorem k187_8 : mm_lk mm_m187.1 8 = some (8, .getfield 7, 11, [0, 14, 0, 1828]) := rfl
theorem k187_11 : mm_lk mm_m187.1 11 = some (11, .iconst 3, 12, []) := rfl
theorem k187_12 : mm_lk mm_m187.1 12 = some (12, .iload_n 1, 13, []) := rfl
theorem k187_13 : mm_lk mm_m187.1 13 = some (13, .invokestatic 74, 16, [1, 174, 1, 1818, 1819, 151]) := rfl
theorem k187_16 : mm_lk mm_m187.1 16 = some (16, .iastore, 17, []) := rfl
theorem k187_17 : mm_lk mm_m187.1 17 = some (17, .iconst 0, 18, []) := rfl
theorem k187_18 : mm_lk mm_m187.1 18 = some (18, .istore_n 2, 19, []) := rfl
theorem k187_19 : mm_lk mm_m187.1 19 = some (19, .iload_n 2, 20, []) := rfl
theorem k187_20 : mm_lk mm_m187.1 20 = some (20, .aload_n 0, 21, []) := rfl
theorem k187_21 : mm_lk mm_m187.1 21 = some (21, .invokevirtual 63, 24, [0, 179, 1, 14, 1821, 1823, 44, 151]) := rfl
theorem k187_24 : mm_lk mm_m187.1 24 = some (24, .if_icmp .ge 95, 27, [119]) := rfl
theorem k187_27 : mm_lk mm_m187.1 27 = some (27, .iconst 0, 28, []) := rfl
theorem k187_28 : mm_lk mm_m187.1 28 = some (28, .istore_n 3, 29, []) := rfl
theorem k187_29 : mm_lk mm_m187.1 29 = some (29, .iload_n 3, 30, []) := rfl
theorem k187_30 : mm_lk mm_m187.1 30 = some (30, .bipush 32, 32, []) := rfl
theorem k187_32 : mm_lk mm_m187.1 32 = some (32, .if_icmp .ge 81, 35, [113]) := rfl
theorem k187_35 : mm_lk mm_m187.1 35 = some (35, .iconst 0, 36, []) := rfl
theorem k187_36 : mm_lk mm_m187.1 36 = some (36, .istore 4, 38, []) := rfl
theorem k187_38 : mm_lk mm_m187.1 38 = some (38, .iconst 0, 39, []) := rfl
theorem k187_39 : mm_lk mm_m187.1 39 = some (39, .istore 5, 41, []) := rfl
theorem k187_41 : mm_lk mm_m187.1 41 = some (41, .iload 5, 43, []) := rfl
theorem k187_43 : mm_lk mm_m187.1 43 = some (43, .bipush 32, 45, []) := rfl
theorem k187_45 : mm_lk mm_m187.1 45 = some (45, .if_icmp .ge 43, 48, [88]) := rfl
theorem k187_48 : mm_lk mm_m187.1 48 = some (48, .iload 4, 50, []) := rfl
theorem k187_50 : mm_lk mm_m187.1 50 = some (50, .iload 5, 52, []) := rfl
theorem k187_52 : mm_lk mm_m187.1 52 = some (52, .iload_n 3, 53, []) := rfl
theorem k187_53 : mm_lk mm_m187.1 53 = some (53, .ixor, 54, []) := rfl
theorem k187_54 : mm_lk mm_m187.1 54 = some (54, .aload_n 0, 55, []) := rfl
theorem k187_55 : mm_lk mm_m187.1 55 = some (55, .getfield 7, 58, [0, 14, 0, 1828]) := rfl
theorem k187_58 : mm_lk mm_m187.1 58 = some (58, .sipush 150, 61, []) := rfl
theorem k187_61 : mm_lk mm_m187.1 61 = some (61, .iload_n 2, 62, []) := rfl
theorem k187_62 : mm_lk mm_m187.1 62 = some (62, .iadd, 63, []) := rfl
theorem k187_63 : mm_lk mm_m187.1 63 = some (63, .iaload, 64, []) := rfl
theorem k187_64 : mm_lk mm_m187.1 64 = some (64, .iand, 65, []) := rfl
theorem k187_65 : mm_lk mm_m187.1 65 = some (65, .ifCond .ne 7, 68, [72]) := rfl
theorem k187_68 : mm_lk mm_m187.1 68 = some (68, .iconst 1, 69, []) := rfl
theorem k187_69 : mm_lk mm_m187.1 69 = some (69, .goto 4, 72, [73]) := rfl
theorem k187_72 : mm_lk mm_m187.1 72 = some (72, .iconst 0, 73, []) := rfl
theorem k187_73 : mm_lk mm_m187.1 73 = some (73, .invokestatic 66, 76, [1, 172, 1, 1825, 1826, 151]) := rfl
theorem k187_76 : mm_lk mm_m187.1 76 = some (76, .iload 5, 78, []) := rfl
theorem k187_78 : mm_lk mm_m187.1 78 = some (78, .ishl, 79, []) := rfl
theorem k187_79 : mm_lk mm_m187.1 79 = some (79, .ior, 80, []) := rfl
theorem k187_80 : mm_lk mm_m187.1 80 = some (80, .istore 4, 82, []) := rfl
theorem k187_82 : mm_lk mm_m187.1 82 = some (82, .iinc 5 1, 85, []) := rfl
theorem k187_85 : mm_lk mm_m187.1 85 = some (85, .goto (-44), 88, [41]) := rfl
theorem k187_88 : mm_lk mm_m187.1 88 = some (88, .aload_n 0, 89, []) := rfl
theorem k187_89 : mm_lk mm_m187.1 89 = some (89, .getfield 7, 92, [0, 14, 0, 1828]) := rfl
theorem k187_92 : mm_lk mm_m187.1 92 = some (92, .sipush 160, 95, []) := rfl
theorem k187_95 : mm_lk mm_m187.1 95 = some (95, .bipush 32, 97, []) := rfl
theorem k187_97 : mm_lk mm_m187.1 97 = some (97, .iload_n 2, 98, []) := rfl
theorem k187_98 : mm_lk mm_m187.1 98 = some (98, .imul, 99, []) := rfl
theorem k187_99 : mm_lk mm_m187.1 99 = some (99, .iadd, 100, []) := rfl
theorem k187_100 : mm_lk mm_m187.1 100 = some (100, .iload_n 3, 101, []) := rfl
theorem k187_101 : mm_lk mm_m187.1 101 = some (101, .iadd, 102, []) := rfl
theorem k187_102 : mm_lk mm_m187.1 102 = some (102, .iload 4, 104, []) := rfl
theorem k187_104 : mm_lk mm_m187.1 104 = some (104, .iload_n 1, 105, []) := rfl
theorem k187_105 : mm_lk mm_m187.1 105 = some (105, .iand, 106, []) := rfl
theorem k187_106 : mm_lk mm_m187.1 106 = some (106, .iastore, 107, []) := rfl
theorem k187_107 : mm_lk mm_m187.1 107 = some (107, .iinc 3 1, 110, []) := rfl
theorem k187_110 : mm_lk mm_m187.1 110 = some (110, .goto (-81), 113, [29]) := rfl
theorem k187_113 : mm_lk mm_m187.1 113 = some (113, .iinc 2 1, 116, []) := rfl
theorem k187_116 : mm_lk mm_m187.1 116 = some (116, .goto (-97), 119, [19]) := rfl
theorem k187_119 : mm_lk mm_m187.1 119 = some (119, .aload_n 0, 120, []) := rfl
theorem k187_120 : mm_lk mm_m187.1 120 = some (120, .getfield 7, 123, [0, 14, 0, 1828]) := rfl
theorem k187_123 : mm_lk mm_m187.1 123 = some (123, .sipush 320, 126, []) := rfl
theorem k187_126 : mm_lk mm_m187.1 126 = some (126, .iconst 1, 127, []) := rfl
theorem k187_127 : mm_lk mm_m187.1 127 = some (127, .iastore, 128, []) := rfl
theorem k187_128 : mm_lk mm_m187.1 128 = some (128, .iconst 1, 129, []) := rfl
theorem k187_129 : mm_lk mm_m187.1 129 = some (129, .istore_n 2, 130, []) := rfl
theorem k187_130 : mm_lk mm_m187.1 130 = some (130, .iload_n 2, 131, []) := rfl
theorem k187_131 : mm_lk mm_m187.1 131 = some (131, .iconst 4, 132, []) := rfl
theorem k187_132 : mm_lk mm_m187.1 132 = some (132, .if_icmp .gt 20, 135, [152]) := rfl
theorem k187_135 : mm_lk mm_m187.1 135 = some (135, .aload_n 0, 136, []) := rfl
theorem k187_136 : mm_lk mm_m187.1 136 = some (136, .getfield 7, 139, [0, 14, 0, 1828]) := rfl
theorem k187_139 : mm_lk mm_m187.1 139 = some (139, .sipush 320, 142, []) := rfl
theorem k187_142 : mm_lk mm_m187.1 142 = some (142, .iload_n 2, 143, []) := rfl
theorem k187_143 : mm_lk mm_m187.1 143 = some (143, .iadd, 144, []) := rfl
theorem k187_144 : mm_lk mm_m187.1 144 = some (144, .iconst 0, 145, []) := rfl
theorem k187_145 : mm_lk mm_m187.1 145 = some (145, .iastore, 146, []) := rfl
theorem k187_146 : mm_lk mm_m187.1 146 = some (146, .iinc 2 1, 149, []) := rfl
theorem k187_149 : mm_lk mm_m187.1 149 = some (149, .goto (-19), 152, [130]) := rfl
theorem k187_152 : mm_lk mm_m187.1 152 = some (152, .return_, 153, []) := rfl
theorem k195_0 : mm_lk mm_m195.1 0 = some (0, .aload_n 1, 1, []) := rfl
theorem k195_1 : mm_lk mm_m195.1 1 = some (1, .iload_n 2, 2, []) := rfl
theorem k195_2 : mm_lk mm_m195.1 2 = some (2, .iaload, 3, []) := rfl
theorem k195_3 : mm_lk mm_m195.1 3 = some (3, .istore_n 3, 4, []) := rfl
theorem k195_4 : mm_lk mm_m195.1 4 = some (4, .iconst 0, 5, []) := rfl
theorem k195_5 : mm_lk mm_m195.1 5 = some (5, .istore 4, 7, []) := rfl
theorem k195_7 : mm_lk mm_m195.1 7 = some (7, .iload 4, 9, []) := rfl
theorem k195_9 : mm_lk mm_m195.1 9 = some (9, .iload_n 3, 10, []) := rfl
theorem k195_10 : mm_lk mm_m195.1 10 = some (10, .if_icmp .ge 46, 13, [56]) := rfl
theorem k195_13 : mm_lk mm_m195.1 13 = some (13, .iload_n 2, 14, []) := rfl
theorem k195_14 : mm_lk mm_m195.1 14 = some (14, .iconst 1, 15, []) := rfl
theorem k195_15 : mm_lk mm_m195.1 15 = some (15, .iadd, 16, []) := rfl
theorem k195_16 : mm_lk mm_m195.1 16 = some (16, .iconst 4, 17, []) := rfl
theorem k195_17 : mm_lk mm_m195.1 17 = some (17, .iload 4, 19, []) := rfl
theorem k195_19 : mm_lk mm_m195.1 19 = some (19, .imul, 20, []) := rfl
theorem k195_20 : mm_lk mm_m195.1 20 = some (20, .iadd, 21, []) := rfl
theorem k195_21 : mm_lk mm_m195.1 21 = some (21, .istore 5, 23, []) := rfl
theorem k195_23 : mm_lk mm_m195.1 23 = some (23, .aload_n 0, 24, []) := rfl
theorem k195_24 : mm_lk mm_m195.1 24 = some (24, .getfield 25, 27, [0, 14, 8, 1836]) := rfl
theorem k195_27 : mm_lk mm_m195.1 27 = some (27, .iload 4, 29, []) := rfl
theorem k195_29 : mm_lk mm_m195.1 29 = some (29, .aload_n 0, 30, []) := rfl
theorem k195_30 : mm_lk mm_m195.1 30 = some (30, .aload_n 1, 31, []) := rfl
theorem k195_31 : mm_lk mm_m195.1 31 = some (31, .iload 5, 33, []) := rfl
theorem k195_33 : mm_lk mm_m195.1 33 = some (33, .iaload, 34, []) := rfl
theorem k195_34 : mm_lk mm_m195.1 34 = some (34, .aload_n 1, 35, []) := rfl
theorem k195_35 : mm_lk mm_m195.1 35 = some (35, .iload 5, 37, []) := rfl
theorem k195_37 : mm_lk mm_m195.1 37 = some (37, .iconst 1, 38, []) := rfl
theorem k195_38 : mm_lk mm_m195.1 38 = some (38, .iadd, 39, []) := rfl
theorem k195_39 : mm_lk mm_m195.1 39 = some (39, .iaload, 40, []) := rfl
theorem k195_40 : mm_lk mm_m195.1 40 = some (40, .aload_n 1, 41, []) := rfl
theorem k195_41 : mm_lk mm_m195.1 41 = some (41, .iload 5, 43, []) := rfl
theorem k195_43 : mm_lk mm_m195.1 43 = some (43, .iconst 2, 44, []) := rfl
theorem k195_44 : mm_lk mm_m195.1 44 = some (44, .iadd, 45, []) := rfl
theorem k195_45 : mm_lk mm_m195.1 45 = some (45, .iaload, 46, []) := rfl
theorem k195_46 : mm_lk mm_m195.1 46 = some (46, .invokevirtual 103, 49, [0, 194, 4, 14, 2087, 2089, 78, 151]) := rfl
theorem k195_49 : mm_lk mm_m195.1 49 = some (49, .iastore, 50, []) := rfl
theorem k195_50 : mm_lk mm_m195.1 50 = some (50, .iinc 4 1, 53, []) := rfl
theorem k195_53 : mm_lk mm_m195.1 53 = some (53, .goto (-46), 56, [7]) := rfl
theorem k195_56 : mm_lk mm_m195.1 56 = some (56, .aload_n 0, 57, []) := rfl
theorem k195_57 : mm_lk mm_m195.1 57 = some (57, .getfield 25, 60, [0, 14, 8, 1836]) := rfl
theorem k195_60 : mm_lk mm_m195.1 60 = some (60, .iload_n 3, 61, []) := rfl
theorem k195_61 : mm_lk mm_m195.1 61 = some (61, .iconst 1, 62, []) := rfl
theorem k195_62 : mm_lk mm_m195.1 62 = some (62, .isub, 63, []) := rfl
theorem k195_63 : mm_lk mm_m195.1 63 = some (63, .iaload, 64, []) := rfl
theorem k195_64 : mm_lk mm_m195.1 64 = some (64, .ireturn, 65, []) := rfl
theorem k196_0 : mm_lk mm_m196.1 0 = some (0, .aload_n 0, 1, []) := rfl
theorem k196_1 : mm_lk mm_m196.1 1 = some (1, .aload_n 0, 2, []) := rfl
theorem k196_2 : mm_lk mm_m196.1 2 = some (2, .getfield 7, 5, [0, 14, 0, 1828]) := rfl
theorem k196_5 : mm_lk mm_m196.1 5 = some (5, .sipush 320, 8, []) := rfl
theorem k196_8 : mm_lk mm_m196.1 8 = some (8, .invokevirtual 107, 11, [0, 195, 3, 14, 2083, 2085, 77, 151]) := rfl
theorem k196_11 : mm_lk mm_m196.1 11 = some (11, .ireturn, 12, []) := rfl
