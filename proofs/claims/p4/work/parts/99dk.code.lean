/-! ===== code, row by row (by program) ===== -/
/-- WhoKnows.writeWorld(I)I -/
def mm_m139 : mm_M := (mm_c139, 4, 1, [])
set_option maxRecDepth 20000 in
theorem P139 : mm_P 139 = some mm_m139 := rfl
theorem k139_0 : mm_lk mm_m139.1 0 = some (0, .aload_n 0, 1, []) := rfl
theorem k139_1 : mm_lk mm_m139.1 1 = some (1, .iload_n 1, 2, []) := rfl
theorem k139_2 : mm_lk mm_m139.1 2 = some (2, .invokevirtual 227, 5, [0, 148, 2, 13, 1634, 1636, 39, 132]) := rfl
theorem k139_5 : mm_lk mm_m139.1 5 = some (5, .aload_n 0, 6, []) := rfl
theorem k139_6 : mm_lk mm_m139.1 6 = some (6, .getfield 64, 9, [0, 13, 7, 848]) := rfl
theorem k139_9 : mm_lk mm_m139.1 9 = some (9, .iconst 0, 10, []) := rfl
theorem k139_10 : mm_lk mm_m139.1 10 = some (10, .invokevirtual 309, 13, [0, 377, 2, 1, 1058, 1059, 1060, 141]) := rfl
theorem k139_13 : mm_lk mm_m139.1 13 = some (13, .aload_n 0, 14, []) := rfl
theorem k139_14 : mm_lk mm_m139.1 14 = some (14, .getfield 87, 17, [0, 13, 8, 849]) := rfl
theorem k139_17 : mm_lk mm_m139.1 17 = some (17, .getfield 118, 20, [1, 12, 0, 803, 0]) := rfl
theorem k139_20 : mm_lk mm_m139.1 20 = some (20, .getfield 224, 23, [1, 5, 1, 236, 0]) := rfl
theorem k139_23 : mm_lk mm_m139.1 23 = some (23, .iload_n 1, 24, []) := rfl
theorem k139_24 : mm_lk mm_m139.1 24 = some (24, .invokestatic 252, 27, [1, 159, 2, 763, 715, 132]) := rfl
theorem k139_27 : mm_lk mm_m139.1 27 = some (27, .ifCond .ne 14, 30, [41]) := rfl
theorem k139_30 : mm_lk mm_m139.1 30 = some (30, .aload_n 0, 31, []) := rfl
theorem k139_31 : mm_lk mm_m139.1 31 = some (31, .getfield 64, 34, [0, 13, 7, 848]) := rfl
theorem k139_34 : mm_lk mm_m139.1 34 = some (34, .ldc_w 312, 37, [1, 46, 1785]) := rfl
theorem k139_37 : mm_lk mm_m139.1 37 = some (37, .invokevirtual 314, 40, [0, 372, 2, 1, 1786, 1074, 1075, 141]) := rfl
theorem k139_40 : mm_lk mm_m139.1 40 = some (40, .pop, 41, []) := rfl
theorem k139_41 : mm_lk mm_m139.1 41 = some (41, .iload_n 1, 42, []) := rfl
theorem k139_42 : mm_lk mm_m139.1 42 = some (42, .aload_n 0, 43, []) := rfl
theorem k139_43 : mm_lk mm_m139.1 43 = some (43, .getfield 87, 46, [0, 13, 8, 849]) := rfl
theorem k139_46 : mm_lk mm_m139.1 46 = some (46, .getfield 125, 49, [1, 12, 3, 809, 0]) := rfl
theorem k139_49 : mm_lk mm_m139.1 49 = some (49, .getfield 188, 52, [1, 10, 5, 506, 0]) := rfl
theorem k139_52 : mm_lk mm_m139.1 52 = some (52, .if_icmp .ne 13, 55, [65]) := rfl
theorem k139_55 : mm_lk mm_m139.1 55 = some (55, .aload_n 0, 56, []) := rfl
theorem k139_56 : mm_lk mm_m139.1 56 = some (56, .getfield 64, 59, [0, 13, 7, 848]) := rfl
theorem k139_59 : mm_lk mm_m139.1 59 = some (59, .bipush 33, 61, []) := rfl
theorem k139_61 : mm_lk mm_m139.1 61 = some (61, .invokevirtual 318, 64, [0, 373, 2, 1, 1787, 1397, 1398, 141]) := rfl
theorem k139_64 : mm_lk mm_m139.1 64 = some (64, .pop, 65, []) := rfl
theorem k139_65 : mm_lk mm_m139.1 65 = some (65, .iconst 1, 66, []) := rfl
theorem k139_66 : mm_lk mm_m139.1 66 = some (66, .istore_n 2, 67, []) := rfl
theorem k139_67 : mm_lk mm_m139.1 67 = some (67, .iconst 0, 68, []) := rfl
theorem k139_68 : mm_lk mm_m139.1 68 = some (68, .istore_n 3, 69, []) := rfl
theorem k139_69 : mm_lk mm_m139.1 69 = some (69, .iload_n 3, 70, []) := rfl
theorem k139_70 : mm_lk mm_m139.1 70 = some (70, .aload_n 0, 71, []) := rfl
theorem k139_71 : mm_lk mm_m139.1 71 = some (71, .getfield 87, 74, [0, 13, 8, 849]) := rfl
theorem k139_74 : mm_lk mm_m139.1 74 = some (74, .getfield 125, 77, [1, 12, 3, 809, 0]) := rfl
theorem k139_77 : mm_lk mm_m139.1 77 = some (77, .getfield 167, 80, [1, 10, 0, 486, 0]) := rfl
theorem k139_80 : mm_lk mm_m139.1 80 = some (80, .getfield 173, 83, [1, 7, 1, 474, 0]) := rfl
theorem k139_83 : mm_lk mm_m139.1 83 = some (83, .if_icmp .ge 51, 86, [134]) := rfl
theorem k139_86 : mm_lk mm_m139.1 86 = some (86, .iload_n 1, 87, []) := rfl
theorem k139_87 : mm_lk mm_m139.1 87 = some (87, .iload_n 3, 88, []) := rfl
theorem k139_88 : mm_lk mm_m139.1 88 = some (88, .invokestatic 252, 91, [1, 159, 2, 763, 715, 132]) := rfl
theorem k139_91 : mm_lk mm_m139.1 91 = some (91, .ifCond .eq 37, 94, [128]) := rfl
theorem k139_94 : mm_lk mm_m139.1 94 = some (94, .iload_n 2, 95, []) := rfl
theorem k139_95 : mm_lk mm_m139.1 95 = some (95, .ifCond .ne 13, 98, [108]) := rfl
theorem k139_98 : mm_lk mm_m139.1 98 = some (98, .aload_n 0, 99, []) := rfl
theorem k139_99 : mm_lk mm_m139.1 99 = some (99, .getfield 64, 102, [0, 13, 7, 848]) := rfl
theorem k139_102 : mm_lk mm_m139.1 102 = some (102, .bipush 43, 104, []) := rfl
theorem k139_104 : mm_lk mm_m139.1 104 = some (104, .invokevirtual 318, 107, [0, 373, 2, 1, 1787, 1397, 1398, 141]) := rfl
theorem k139_107 : mm_lk mm_m139.1 107 = some (107, .pop, 108, []) := rfl
theorem k139_108 : mm_lk mm_m139.1 108 = some (108, .aload_n 0, 109, []) := rfl
theorem k139_109 : mm_lk mm_m139.1 109 = some (109, .getfield 87, 112, [0, 13, 8, 849]) := rfl
theorem k139_112 : mm_lk mm_m139.1 112 = some (112, .getfield 125, 115, [1, 12, 3, 809, 0]) := rfl
theorem k139_115 : mm_lk mm_m139.1 115 = some (115, .getfield 167, 118, [1, 10, 0, 486, 0]) := rfl
theorem k139_118 : mm_lk mm_m139.1 118 = some (118, .aload_n 0, 119, []) := rfl
theorem k139_119 : mm_lk mm_m139.1 119 = some (119, .getfield 64, 122, [0, 13, 7, 848]) := rfl
theorem k139_122 : mm_lk mm_m139.1 122 = some (122, .iload_n 3, 123, []) := rfl
theorem k139_123 : mm_lk mm_m139.1 123 = some (123, .invokevirtual 321, 126, [0, 53, 3, 7, 1788, 1388, 1389, 148]) := rfl
theorem k139_126 : mm_lk mm_m139.1 126 = some (126, .iconst 0, 127, []) := rfl
theorem k139_127 : mm_lk mm_m139.1 127 = some (127, .istore_n 2, 128, []) := rfl
theorem k139_128 : mm_lk mm_m139.1 128 = some (128, .iinc 3 1, 131, []) := rfl
theorem k139_131 : mm_lk mm_m139.1 131 = some (131, .goto (-62), 134, [69]) := rfl
theorem k139_134 : mm_lk mm_m139.1 134 = some (134, .iload_n 2, 135, []) := rfl
theorem k139_135 : mm_lk mm_m139.1 135 = some (135, .ifCond .eq 13, 138, [148]) := rfl
theorem k139_138 : mm_lk mm_m139.1 138 = some (138, .aload_n 0, 139, []) := rfl
theorem k139_139 : mm_lk mm_m139.1 139 = some (139, .getfield 64, 142, [0, 13, 7, 848]) := rfl
theorem k139_142 : mm_lk mm_m139.1 142 = some (142, .bipush 45, 144, []) := rfl
theorem k139_144 : mm_lk mm_m139.1 144 = some (144, .invokevirtual 318, 147, [0, 373, 2, 1, 1787, 1397, 1398, 141]) := rfl
theorem k139_147 : mm_lk mm_m139.1 147 = some (147, .pop, 148, []) := rfl
theorem k139_148 : mm_lk mm_m139.1 148 = some (148, .aload_n 0, 149, []) := rfl
theorem k139_149 : mm_lk mm_m139.1 149 = some (149, .getfield 64, 152, [0, 13, 7, 848]) := rfl
theorem k139_152 : mm_lk mm_m139.1 152 = some (152, .invokevirtual 325, 155, [0, 378, 1, 1, 1416, 1215, 2511, 141]) := rfl
theorem k139_155 : mm_lk mm_m139.1 155 = some (155, .ireturn, 156, []) := rfl
