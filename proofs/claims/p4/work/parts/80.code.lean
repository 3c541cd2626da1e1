/-! ===== code, row by row (by program) ===== -/
theorem k234_35 : mm_lk mm_m234.1 35 = some (35, .aload_n 0, 36, []) := rfl
theorem k234_36 : mm_lk mm_m234.1 36 = some (36, .getfield 142, 39, [0, 14, 14, 1842]) := rfl
theorem k234_39 : mm_lk mm_m234.1 39 = some (39, .ifCond .eq 4, 42, [43]) := rfl
theorem k234_42 : mm_lk mm_m234.1 42 = some (42, .return_, 43, []) := rfl
theorem k234_43 : mm_lk mm_m234.1 43 = some (43, .aload_n 0, 44, []) := rfl
theorem k234_44 : mm_lk mm_m234.1 44 = some (44, .aload_n 0, 45, []) := rfl
theorem k234_45 : mm_lk mm_m234.1 45 = some (45, .ldc_w 276, 48, [1, 26, 2129]) := rfl
theorem k234_48 : mm_lk mm_m234.1 48 = some (48, .invokevirtual 162, 51, [0, 205, 2, 14, 1961, 1963, 50, 151]) := rfl
theorem k234_51 : mm_lk mm_m234.1 51 = some (51, .iconst 1, 52, []) := rfl
theorem k234_52 : mm_lk mm_m234.1 52 = some (52, .invokevirtual 166, 55, [0, 204, 3, 14, 1977, 1979, 53, 151]) := rfl
theorem k234_55 : mm_lk mm_m234.1 55 = some (55, .aload_n 0, 56, []) := rfl
theorem k234_56 : mm_lk mm_m234.1 56 = some (56, .getfield 142, 59, [0, 14, 14, 1842]) := rfl
theorem k234_59 : mm_lk mm_m234.1 59 = some (59, .ifCond .ne 7, 62, [66]) := rfl
theorem k234_62 : mm_lk mm_m234.1 62 = some (62, .aload_n 0, 63, []) := rfl
theorem k234_63 : mm_lk mm_m234.1 63 = some (63, .invokevirtual 278, 66, [0, 232, 1, 14, 2130, 2132, 87, 151]) := rfl
theorem k234_66 : mm_lk mm_m234.1 66 = some (66, .iconst 0, 67, []) := rfl
theorem k234_67 : mm_lk mm_m234.1 67 = some (67, .istore_n 1, 68, []) := rfl
theorem k234_68 : mm_lk mm_m234.1 68 = some (68, .aload_n 0, 69, []) := rfl
theorem k234_69 : mm_lk mm_m234.1 69 = some (69, .getfield 142, 72, [0, 14, 14, 1842]) := rfl
theorem k234_72 : mm_lk mm_m234.1 72 = some (72, .ifCond .ne 78, 75, [150]) := rfl
theorem k234_75 : mm_lk mm_m234.1 75 = some (75, .iload_n 1, 76, []) := rfl
theorem k234_76 : mm_lk mm_m234.1 76 = some (76, .ifCond .ne 74, 79, [150]) := rfl
theorem k234_79 : mm_lk mm_m234.1 79 = some (79, .aload_n 0, 80, []) := rfl
theorem k234_80 : mm_lk mm_m234.1 80 = some (80, .invokevirtual 151, 83, [0, 202, 1, 14, 1965, 1967, 51, 151]) := rfl
theorem k234_83 : mm_lk mm_m234.1 83 = some (83, .iconst (-1), 84, []) := rfl
theorem k234_84 : mm_lk mm_m234.1 84 = some (84, .if_icmp .eq 66, 87, [150]) := rfl
theorem k234_87 : mm_lk mm_m234.1 87 = some (87, .aload_n 0, 88, []) := rfl
theorem k234_88 : mm_lk mm_m234.1 88 = some (88, .bipush 59, 90, []) := rfl
theorem k234_90 : mm_lk mm_m234.1 90 = some (90, .invokevirtual 229, 93, [0, 207, 2, 14, 2027, 2029, 63, 151]) := rfl
theorem k234_93 : mm_lk mm_m234.1 93 = some (93, .aload_n 0, 94, []) := rfl
theorem k234_94 : mm_lk mm_m234.1 94 = some (94, .ldc_w 276, 97, [1, 26, 2129]) := rfl
theorem k234_97 : mm_lk mm_m234.1 97 = some (97, .invokevirtual 162, 100, [0, 205, 2, 14, 1961, 1963, 50, 151]) := rfl
theorem k234_100 : mm_lk mm_m234.1 100 = some (100, .ifCond .eq 10, 103, [110]) := rfl
theorem k234_103 : mm_lk mm_m234.1 103 = some (103, .aload_n 0, 104, []) := rfl
theorem k234_104 : mm_lk mm_m234.1 104 = some (104, .invokevirtual 278, 107, [0, 232, 1, 14, 2130, 2132, 87, 151]) := rfl
theorem k234_107 : mm_lk mm_m234.1 107 = some (107, .goto (-39), 110, [68]) := rfl
theorem k234_110 : mm_lk mm_m234.1 110 = some (110, .aload_n 0, 111, []) := rfl
theorem k234_111 : mm_lk mm_m234.1 111 = some (111, .aload_n 0, 112, []) := rfl
theorem k234_112 : mm_lk mm_m234.1 112 = some (112, .ldc_w 281, 115, [1, 28, 2138]) := rfl
theorem k234_115 : mm_lk mm_m234.1 115 = some (115, .invokevirtual 162, 118, [0, 205, 2, 14, 1961, 1963, 50, 151]) := rfl
theorem k234_118 : mm_lk mm_m234.1 118 = some (118, .iconst 1, 119, []) := rfl
theorem k234_119 : mm_lk mm_m234.1 119 = some (119, .invokevirtual 166, 122, [0, 204, 3, 14, 1977, 1979, 53, 151]) := rfl
theorem k234_122 : mm_lk mm_m234.1 122 = some (122, .iconst 1, 123, []) := rfl
theorem k234_123 : mm_lk mm_m234.1 123 = some (123, .istore_n 1, 124, []) := rfl
theorem k234_124 : mm_lk mm_m234.1 124 = some (124, .aload_n 0, 125, []) := rfl
theorem k234_125 : mm_lk mm_m234.1 125 = some (125, .getfield 142, 128, [0, 14, 14, 1842]) := rfl
theorem k234_128 : mm_lk mm_m234.1 128 = some (128, .ifCond .eq 4, 131, [132]) := rfl
theorem k234_131 : mm_lk mm_m234.1 131 = some (131, .return_, 132, []) := rfl
theorem k234_132 : mm_lk mm_m234.1 132 = some (132, .aload_n 0, 133, []) := rfl
theorem k234_133 : mm_lk mm_m234.1 133 = some (133, .getfield 7, 136, [0, 14, 0, 1828]) := rfl
theorem k234_136 : mm_lk mm_m234.1 136 = some (136, .iconst 4, 137, []) := rfl
theorem k234_137 : mm_lk mm_m234.1 137 = some (137, .iconst (-1), 138, []) := rfl
theorem k234_138 : mm_lk mm_m234.1 138 = some (138, .iastore, 139, []) := rfl
theorem k234_139 : mm_lk mm_m234.1 139 = some (139, .aload_n 0, 140, []) := rfl
theorem k234_140 : mm_lk mm_m234.1 140 = some (140, .aload_n 0, 141, []) := rfl
theorem k234_141 : mm_lk mm_m234.1 141 = some (141, .getfield 132, 144, [0, 14, 12, 1840]) := rfl
theorem k234_144 : mm_lk mm_m234.1 144 = some (144, .invokevirtual 283, 147, [0, 233, 2, 14, 2139, 2141, 89, 151]) := rfl
theorem k234_147 : mm_lk mm_m234.1 147 = some (147, .goto (-79), 150, [68]) := rfl
theorem k234_150 : mm_lk mm_m234.1 150 = some (150, .aload_n 0, 151, []) := rfl
theorem k234_151 : mm_lk mm_m234.1 151 = some (151, .getfield 142, 154, [0, 14, 14, 1842]) := rfl
theorem k234_154 : mm_lk mm_m234.1 154 = some (154, .ifCond .ne 21, 157, [175]) := rfl
theorem k234_157 : mm_lk mm_m234.1 157 = some (157, .aload_n 0, 158, []) := rfl
theorem k234_158 : mm_lk mm_m234.1 158 = some (158, .aload_n 0, 159, []) := rfl
theorem k234_159 : mm_lk mm_m234.1 159 = some (159, .invokevirtual 151, 162, [0, 202, 1, 14, 1965, 1967, 51, 151]) := rfl
theorem k234_162 : mm_lk mm_m234.1 162 = some (162, .iconst (-1), 163, []) := rfl
theorem k234_163 : mm_lk mm_m234.1 163 = some (163, .if_icmp .ne 7, 166, [170]) := rfl
theorem k234_166 : mm_lk mm_m234.1 166 = some (166, .iconst 1, 167, []) := rfl
theorem k234_167 : mm_lk mm_m234.1 167 = some (167, .goto 4, 170, [171]) := rfl
theorem k234_170 : mm_lk mm_m234.1 170 = some (170, .iconst 0, 171, []) := rfl
theorem k234_171 : mm_lk mm_m234.1 171 = some (171, .iconst 1, 172, []) := rfl
theorem k234_172 : mm_lk mm_m234.1 172 = some (172, .invokevirtual 166, 175, [0, 204, 3, 14, 1977, 1979, 53, 151]) := rfl
theorem k234_175 : mm_lk mm_m234.1 175 = some (175, .return_, 176, []) := rfl
