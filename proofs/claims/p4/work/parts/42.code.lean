/-! ===== code, row by row (by program) ===== -/
/-- WhoKnowsModel.bits(I)I -/
def mm_m174 : mm_M := (mm_c174, 3, 1, [])
set_option maxRecDepth 20000 in
theorem P174 : mm_P 174 = some mm_m174 := rfl
/-- WhoKnowsModel.copies([II[II)V -/
def mm_m177 : mm_M := (mm_c177, 5, 0, [])
set_option maxRecDepth 20000 in
theorem P177 : mm_P 177 = some mm_m177 := rfl
/-- WhoKnowsModel.nodeIs(III)I -/
def mm_m194 : mm_M := (mm_c194, 4, 1, [])
set_option maxRecDepth 20000 in
theorem P194 : mm_P 194 = some mm_m194 := rfl
theorem k174_0 : mm_lk mm_m174.1 0 = some (0, .iconst 0, 1, []) := rfl
theorem k174_1 : mm_lk mm_m174.1 1 = some (1, .istore_n 1, 2, []) := rfl
theorem k174_2 : mm_lk mm_m174.1 2 = some (2, .iload_n 0, 3, []) := rfl
theorem k174_3 : mm_lk mm_m174.1 3 = some (3, .istore_n 2, 4, []) := rfl
theorem k174_4 : mm_lk mm_m174.1 4 = some (4, .iload_n 2, 5, []) := rfl
theorem k174_5 : mm_lk mm_m174.1 5 = some (5, .ifCond .eq 15, 8, [20]) := rfl
theorem k174_8 : mm_lk mm_m174.1 8 = some (8, .iinc 1 1, 11, []) := rfl
theorem k174_11 : mm_lk mm_m174.1 11 = some (11, .iload_n 2, 12, []) := rfl
theorem k174_12 : mm_lk mm_m174.1 12 = some (12, .iload_n 2, 13, []) := rfl
theorem k174_13 : mm_lk mm_m174.1 13 = some (13, .iconst 1, 14, []) := rfl
theorem k174_14 : mm_lk mm_m174.1 14 = some (14, .isub, 15, []) := rfl
theorem k174_15 : mm_lk mm_m174.1 15 = some (15, .iand, 16, []) := rfl
theorem k174_16 : mm_lk mm_m174.1 16 = some (16, .istore_n 2, 17, []) := rfl
theorem k174_17 : mm_lk mm_m174.1 17 = some (17, .goto (-13), 20, [4]) := rfl
theorem k174_20 : mm_lk mm_m174.1 20 = some (20, .iload_n 1, 21, []) := rfl
theorem k174_21 : mm_lk mm_m174.1 21 = some (21, .ireturn, 22, []) := rfl
theorem k177_0 : mm_lk mm_m177.1 0 = some (0, .iconst 0, 1, []) := rfl
theorem k177_1 : mm_lk mm_m177.1 1 = some (1, .istore 4, 3, []) := rfl
theorem k177_3 : mm_lk mm_m177.1 3 = some (3, .iload 4, 5, []) := rfl
theorem k177_5 : mm_lk mm_m177.1 5 = some (5, .sipush 564, 8, []) := rfl
theorem k177_8 : mm_lk mm_m177.1 8 = some (8, .if_icmp .ge 21, 11, [29]) := rfl
theorem k177_11 : mm_lk mm_m177.1 11 = some (11, .aload_n 2, 12, []) := rfl
theorem k177_12 : mm_lk mm_m177.1 12 = some (12, .iload_n 3, 13, []) := rfl
theorem k177_13 : mm_lk mm_m177.1 13 = some (13, .iload 4, 15, []) := rfl
theorem k177_15 : mm_lk mm_m177.1 15 = some (15, .iadd, 16, []) := rfl
theorem k177_16 : mm_lk mm_m177.1 16 = some (16, .aload_n 0, 17, []) := rfl
theorem k177_17 : mm_lk mm_m177.1 17 = some (17, .iload_n 1, 18, []) := rfl
theorem k177_18 : mm_lk mm_m177.1 18 = some (18, .iload 4, 20, []) := rfl
theorem k177_20 : mm_lk mm_m177.1 20 = some (20, .iadd, 21, []) := rfl
theorem k177_21 : mm_lk mm_m177.1 21 = some (21, .iaload, 22, []) := rfl
theorem k177_22 : mm_lk mm_m177.1 22 = some (22, .iastore, 23, []) := rfl
theorem k177_23 : mm_lk mm_m177.1 23 = some (23, .iinc 4 1, 26, []) := rfl
theorem k177_26 : mm_lk mm_m177.1 26 = some (26, .goto (-23), 29, [3]) := rfl
theorem k177_29 : mm_lk mm_m177.1 29 = some (29, .return_, 30, []) := rfl
theorem k194_0 : mm_lk mm_m194.1 0 = some (0, .iload_n 1, 1, []) := rfl
theorem k194_1 : mm_lk mm_m194.1 1 = some (1, .tableswitch 134 0 6 #[43, 55, 71, 85, 99, 111, 123], 44, [135, 44, 56, 72, 86, 100, 112, 124]) := rfl
theorem k194_44 : mm_lk mm_m194.1 44 = some (44, .iload_n 2, 45, []) := rfl
theorem k194_45 : mm_lk mm_m194.1 45 = some (45, .invokestatic 91, 48, [1, 184, 1, 2091, 2092, 151]) := rfl
theorem k194_48 : mm_lk mm_m194.1 48 = some (48, .aload_n 0, 49, []) := rfl
theorem k194_49 : mm_lk mm_m194.1 49 = some (49, .getfield 7, 52, [0, 14, 0, 1828]) := rfl
theorem k194_52 : mm_lk mm_m194.1 52 = some (52, .iconst 2, 53, []) := rfl
theorem k194_53 : mm_lk mm_m194.1 53 = some (53, .iaload, 54, []) := rfl
theorem k194_54 : mm_lk mm_m194.1 54 = some (54, .iand, 55, []) := rfl
theorem k194_55 : mm_lk mm_m194.1 55 = some (55, .ireturn, 56, []) := rfl
theorem k194_56 : mm_lk mm_m194.1 56 = some (56, .aload_n 0, 57, []) := rfl
theorem k194_57 : mm_lk mm_m194.1 57 = some (57, .getfield 25, 60, [0, 14, 8, 1836]) := rfl
theorem k194_60 : mm_lk mm_m194.1 60 = some (60, .iload_n 2, 61, []) := rfl
theorem k194_61 : mm_lk mm_m194.1 61 = some (61, .iaload, 62, []) := rfl
theorem k194_62 : mm_lk mm_m194.1 62 = some (62, .iconst (-1), 63, []) := rfl
theorem k194_63 : mm_lk mm_m194.1 63 = some (63, .ixor, 64, []) := rfl
theorem k194_64 : mm_lk mm_m194.1 64 = some (64, .aload_n 0, 65, []) := rfl
theorem k194_65 : mm_lk mm_m194.1 65 = some (65, .getfield 7, 68, [0, 14, 0, 1828]) := rfl
theorem k194_68 : mm_lk mm_m194.1 68 = some (68, .iconst 2, 69, []) := rfl
theorem k194_69 : mm_lk mm_m194.1 69 = some (69, .iaload, 70, []) := rfl
theorem k194_70 : mm_lk mm_m194.1 70 = some (70, .iand, 71, []) := rfl
theorem k194_71 : mm_lk mm_m194.1 71 = some (71, .ireturn, 72, []) := rfl
theorem k194_72 : mm_lk mm_m194.1 72 = some (72, .aload_n 0, 73, []) := rfl
theorem k194_73 : mm_lk mm_m194.1 73 = some (73, .getfield 25, 76, [0, 14, 8, 1836]) := rfl
theorem k194_76 : mm_lk mm_m194.1 76 = some (76, .iload_n 2, 77, []) := rfl
theorem k194_77 : mm_lk mm_m194.1 77 = some (77, .iaload, 78, []) := rfl
theorem k194_78 : mm_lk mm_m194.1 78 = some (78, .aload_n 0, 79, []) := rfl
theorem k194_79 : mm_lk mm_m194.1 79 = some (79, .getfield 25, 82, [0, 14, 8, 1836]) := rfl
theorem k194_82 : mm_lk mm_m194.1 82 = some (82, .iload_n 3, 83, []) := rfl
theorem k194_83 : mm_lk mm_m194.1 83 = some (83, .iaload, 84, []) := rfl
theorem k194_84 : mm_lk mm_m194.1 84 = some (84, .iand, 85, []) := rfl
theorem k194_85 : mm_lk mm_m194.1 85 = some (85, .ireturn, 86, []) := rfl
theorem k194_86 : mm_lk mm_m194.1 86 = some (86, .aload_n 0, 87, []) := rfl
theorem k194_87 : mm_lk mm_m194.1 87 = some (87, .getfield 25, 90, [0, 14, 8, 1836]) := rfl
theorem k194_90 : mm_lk mm_m194.1 90 = some (90, .iload_n 2, 91, []) := rfl
theorem k194_91 : mm_lk mm_m194.1 91 = some (91, .iaload, 92, []) := rfl
theorem k194_92 : mm_lk mm_m194.1 92 = some (92, .aload_n 0, 93, []) := rfl
theorem k194_93 : mm_lk mm_m194.1 93 = some (93, .getfield 25, 96, [0, 14, 8, 1836]) := rfl
theorem k194_96 : mm_lk mm_m194.1 96 = some (96, .iload_n 3, 97, []) := rfl
theorem k194_97 : mm_lk mm_m194.1 97 = some (97, .iaload, 98, []) := rfl
theorem k194_98 : mm_lk mm_m194.1 98 = some (98, .ior, 99, []) := rfl
theorem k194_99 : mm_lk mm_m194.1 99 = some (99, .ireturn, 100, []) := rfl
theorem k194_100 : mm_lk mm_m194.1 100 = some (100, .aload_n 0, 101, []) := rfl
theorem k194_101 : mm_lk mm_m194.1 101 = some (101, .iload_n 3, 102, []) := rfl
theorem k194_102 : mm_lk mm_m194.1 102 = some (102, .aload_n 0, 103, []) := rfl
theorem k194_103 : mm_lk mm_m194.1 103 = some (103, .getfield 25, 106, [0, 14, 8, 1836]) := rfl
theorem k194_106 : mm_lk mm_m194.1 106 = some (106, .iload_n 2, 107, []) := rfl
theorem k194_107 : mm_lk mm_m194.1 107 = some (107, .iaload, 108, []) := rfl
theorem k194_108 : mm_lk mm_m194.1 108 = some (108, .invokevirtual 82, 111, [0, 188, 3, 14, 2097, 2099, 79, 151]) := rfl
theorem k194_111 : mm_lk mm_m194.1 111 = some (111, .ireturn, 112, []) := rfl
theorem k194_112 : mm_lk mm_m194.1 112 = some (112, .aload_n 0, 113, []) := rfl
theorem k194_113 : mm_lk mm_m194.1 113 = some (113, .iload_n 3, 114, []) := rfl
theorem k194_114 : mm_lk mm_m194.1 114 = some (114, .aload_n 0, 115, []) := rfl
theorem k194_115 : mm_lk mm_m194.1 115 = some (115, .getfield 25, 118, [0, 14, 8, 1836]) := rfl
theorem k194_118 : mm_lk mm_m194.1 118 = some (118, .iload_n 2, 119, []) := rfl
theorem k194_119 : mm_lk mm_m194.1 119 = some (119, .iaload, 120, []) := rfl
theorem k194_120 : mm_lk mm_m194.1 120 = some (120, .invokevirtual 94, 123, [0, 189, 3, 14, 2109, 2111, 82, 151]) := rfl
theorem k194_123 : mm_lk mm_m194.1 123 = some (123, .ireturn, 124, []) := rfl
theorem k194_124 : mm_lk mm_m194.1 124 = some (124, .aload_n 0, 125, []) := rfl
theorem k194_125 : mm_lk mm_m194.1 125 = some (125, .aload_n 0, 126, []) := rfl
theorem k194_126 : mm_lk mm_m194.1 126 = some (126, .getfield 25, 129, [0, 14, 8, 1836]) := rfl
theorem k194_129 : mm_lk mm_m194.1 129 = some (129, .iload_n 2, 130, []) := rfl
theorem k194_130 : mm_lk mm_m194.1 130 = some (130, .iaload, 131, []) := rfl
theorem k194_131 : mm_lk mm_m194.1 131 = some (131, .invokevirtual 97, 134, [0, 190, 2, 14, 2113, 2115, 83, 151]) := rfl
theorem k194_134 : mm_lk mm_m194.1 134 = some (134, .ireturn, 135, []) := rfl
theorem k194_135 : mm_lk mm_m194.1 135 = some (135, .aload_n 0, 136, []) := rfl
theorem k194_136 : mm_lk mm_m194.1 136 = some (136, .aload_n 0, 137, []) := rfl
theorem k194_137 : mm_lk mm_m194.1 137 = some (137, .getfield 25, 140, [0, 14, 8, 1836]) := rfl
theorem k194_140 : mm_lk mm_m194.1 140 = some (140, .iload_n 2, 141, []) := rfl
theorem k194_141 : mm_lk mm_m194.1 141 = some (141, .iaload, 142, []) := rfl
theorem k194_142 : mm_lk mm_m194.1 142 = some (142, .invokevirtual 100, 145, [0, 193, 2, 14, 2117, 2119, 84, 151]) := rfl
theorem k194_145 : mm_lk mm_m194.1 145 = some (145, .ireturn, 146, []) := rfl
