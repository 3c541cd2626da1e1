/-! ===== code, row by row (by program) ===== -/
/-- WhoKnowsModel.in(JJJ)Z -/
def mm_m171 : mm_M := (mm_c171, 6, 2, [])
set_option maxRecDepth 20000 in
theorem P171 : mm_P 171 = some mm_m171 := rfl
/-- WhoKnowsModel.truth(Z)I -/
def mm_m172 : mm_M := (mm_c172, 1, 1, [])
set_option maxRecDepth 20000 in
theorem P172 : mm_P 172 = some mm_m172 := rfl
/-- WhoKnowsModel.has(II)Z -/
def mm_m173 : mm_M := (mm_c173, 2, 2, [])
set_option maxRecDepth 20000 in
theorem P173 : mm_P 173 = some mm_m173 := rfl
/-- WhoKnowsModel.lowest(I)I -/
def mm_m175 : mm_M := (mm_c175, 2, 1, [])
set_option maxRecDepth 20000 in
theorem P175 : mm_P 175 = some mm_m175 := rfl
/-- WhoKnowsModel.passes(Z)Z -/
def mm_m176 : mm_M := (mm_c176, 2, 2, [])
set_option maxRecDepth 20000 in
theorem P176 : mm_P 176 = some mm_m176 := rfl
/-- WhoKnowsModel.facts()I -/
def mm_m178 : mm_M := (mm_c178, 1, 1, [])
set_option maxRecDepth 20000 in
theorem P178 : mm_P 178 = some mm_m178 := rfl
/-- WhoKnowsModel.persons()I -/
def mm_m179 : mm_M := (mm_c179, 1, 1, [])
set_option maxRecDepth 20000 in
theorem P179 : mm_P 179 = some mm_m179 := rfl
/-- WhoKnowsModel.isFact(I)Z -/
def mm_m180 : mm_M := (mm_c180, 2, 2, [])
set_option maxRecDepth 20000 in
theorem P180 : mm_P 180 = some mm_m180 := rfl
/-- WhoKnowsModel.isPerson(I)Z -/
def mm_m181 : mm_M := (mm_c181, 2, 2, [])
set_option maxRecDepth 20000 in
theorem P181 : mm_P 181 = some mm_m181 := rfl
/-- WhoKnowsModel.isWorld(I)Z -/
def mm_m182 : mm_M := (mm_c182, 2, 2, [])
set_option maxRecDepth 20000 in
theorem P182 : mm_P 182 = some mm_m182 := rfl
/-- WhoKnowsModel.everybody()I -/
def mm_m183 : mm_M := (mm_c183, 1, 1, [])
set_option maxRecDepth 20000 in
theorem P183 : mm_P 183 = some mm_m183 := rfl
/-- WhoKnowsModel.worldsOf(I)I -/
def mm_m184 : mm_M := (mm_c184, 3, 1, [])
set_option maxRecDepth 20000 in
theorem P184 : mm_P 184 = some mm_m184 := rfl
/-- WhoKnowsModel.isLeft(I)Z -/
def mm_m185 : mm_M := (mm_c185, 2, 2, [])
set_option maxRecDepth 20000 in
theorem P185 : mm_P 185 = some mm_m185 := rfl
/-- WhoKnowsModel.alikeTo(II)I -/
def mm_m186 : mm_M := (mm_c186, 3, 1, [])
set_option maxRecDepth 20000 in
theorem P186 : mm_P 186 = some mm_m186 := rfl
/-- WhoKnowsModel.knownBy(II)I -/
def mm_m188 : mm_M := (mm_c188, 5, 1, [])
set_option maxRecDepth 20000 in
theorem P188 : mm_P 188 = some mm_m188 := rfl
/-- WhoKnowsModel.thoughtBy(II)I -/
def mm_m189 : mm_M := (mm_c189, 5, 1, [])
set_option maxRecDepth 20000 in
theorem P189 : mm_P 189 = some mm_m189 := rfl
/-- WhoKnowsModel.knownByAll(I)I -/
def mm_m190 : mm_M := (mm_c190, 4, 1, [])
set_option maxRecDepth 20000 in
theorem P190 : mm_P 190 = some mm_m190 := rfl
/-- WhoKnowsModel.beside(I)I -/
def mm_m191 : mm_M := (mm_c191, 5, 1, [])
set_option maxRecDepth 20000 in
theorem P191 : mm_P 191 = some mm_m191 := rfl
/-- WhoKnowsModel.reachedFrom(I)I -/
def mm_m192 : mm_M := (mm_c192, 4, 1, [])
set_option maxRecDepth 20000 in
theorem P192 : mm_P 192 = some mm_m192 := rfl
/-- WhoKnowsModel.commonOf(I)I -/
def mm_m193 : mm_M := (mm_c193, 4, 1, [])
set_option maxRecDepth 20000 in
theorem P193 : mm_P 193 = some mm_m193 := rfl
theorem k171_0 : mm_lk mm_m171.1 0 = some (0, .lload_n 0, 1, []) := rfl
theorem k171_1 : mm_lk mm_m171.1 1 = some (1, .lload_n 2, 2, []) := rfl
theorem k171_2 : mm_lk mm_m171.1 2 = some (2, .lcmp, 3, []) := rfl
theorem k171_3 : mm_lk mm_m171.1 3 = some (3, .ifCond .lt 14, 6, [17]) := rfl
theorem k171_6 : mm_lk mm_m171.1 6 = some (6, .lload_n 0, 7, []) := rfl
theorem k171_7 : mm_lk mm_m171.1 7 = some (7, .lload 4, 9, []) := rfl
theorem k171_9 : mm_lk mm_m171.1 9 = some (9, .lcmp, 10, []) := rfl
theorem k171_10 : mm_lk mm_m171.1 10 = some (10, .ifCond .gt 7, 13, [17]) := rfl
theorem k171_13 : mm_lk mm_m171.1 13 = some (13, .iconst 1, 14, []) := rfl
theorem k171_14 : mm_lk mm_m171.1 14 = some (14, .goto 4, 17, [18]) := rfl
theorem k171_17 : mm_lk mm_m171.1 17 = some (17, .iconst 0, 18, []) := rfl
theorem k171_18 : mm_lk mm_m171.1 18 = some (18, .ireturn, 19, []) := rfl
theorem k172_0 : mm_lk mm_m172.1 0 = some (0, .iload_n 0, 1, []) := rfl
theorem k172_1 : mm_lk mm_m172.1 1 = some (1, .ifCond .eq 7, 4, [8]) := rfl
theorem k172_4 : mm_lk mm_m172.1 4 = some (4, .iconst 1, 5, []) := rfl
theorem k172_5 : mm_lk mm_m172.1 5 = some (5, .goto 4, 8, [9]) := rfl
theorem k172_8 : mm_lk mm_m172.1 8 = some (8, .iconst 0, 9, []) := rfl
theorem k172_9 : mm_lk mm_m172.1 9 = some (9, .ireturn, 10, []) := rfl
theorem k173_0 : mm_lk mm_m173.1 0 = some (0, .iload_n 0, 1, []) := rfl
theorem k173_1 : mm_lk mm_m173.1 1 = some (1, .iload_n 1, 2, []) := rfl
theorem k173_2 : mm_lk mm_m173.1 2 = some (2, .iushr, 3, []) := rfl
theorem k173_3 : mm_lk mm_m173.1 3 = some (3, .iconst 1, 4, []) := rfl
theorem k173_4 : mm_lk mm_m173.1 4 = some (4, .iand, 5, []) := rfl
theorem k173_5 : mm_lk mm_m173.1 5 = some (5, .iconst 1, 6, []) := rfl
theorem k173_6 : mm_lk mm_m173.1 6 = some (6, .if_icmp .ne 7, 9, [13]) := rfl
theorem k173_9 : mm_lk mm_m173.1 9 = some (9, .iconst 1, 10, []) := rfl
theorem k173_10 : mm_lk mm_m173.1 10 = some (10, .goto 4, 13, [14]) := rfl
theorem k173_13 : mm_lk mm_m173.1 13 = some (13, .iconst 0, 14, []) := rfl
theorem k173_14 : mm_lk mm_m173.1 14 = some (14, .ireturn, 15, []) := rfl
theorem k175_0 : mm_lk mm_m175.1 0 = some (0, .iconst 0, 1, []) := rfl
theorem k175_1 : mm_lk mm_m175.1 1 = some (1, .istore_n 1, 2, []) := rfl
theorem k175_2 : mm_lk mm_m175.1 2 = some (2, .iload_n 1, 3, []) := rfl
theorem k175_3 : mm_lk mm_m175.1 3 = some (3, .bipush 32, 5, []) := rfl
theorem k175_5 : mm_lk mm_m175.1 5 = some (5, .if_icmp .ge 19, 8, [24]) := rfl
theorem k175_8 : mm_lk mm_m175.1 8 = some (8, .iload_n 0, 9, []) := rfl
theorem k175_9 : mm_lk mm_m175.1 9 = some (9, .iload_n 1, 10, []) := rfl
theorem k175_10 : mm_lk mm_m175.1 10 = some (10, .invokestatic 51, 13, [1, 173, 2, 2094, 2095, 151]) := rfl
theorem k175_13 : mm_lk mm_m175.1 13 = some (13, .ifCond .eq 5, 16, [18]) := rfl
theorem k175_16 : mm_lk mm_m175.1 16 = some (16, .iload_n 1, 17, []) := rfl
theorem k175_17 : mm_lk mm_m175.1 17 = some (17, .ireturn, 18, []) := rfl
theorem k175_18 : mm_lk mm_m175.1 18 = some (18, .iinc 1 1, 21, []) := rfl
theorem k175_21 : mm_lk mm_m175.1 21 = some (21, .goto (-19), 24, [2]) := rfl
theorem k175_24 : mm_lk mm_m175.1 24 = some (24, .iconst (-1), 25, []) := rfl
theorem k175_25 : mm_lk mm_m175.1 25 = some (25, .ireturn, 26, []) := rfl
theorem k176_0 : mm_lk mm_m176.1 0 = some (0, .aload_n 0, 1, []) := rfl
theorem k176_1 : mm_lk mm_m176.1 1 = some (1, .iload_n 1, 2, []) := rfl
theorem k176_2 : mm_lk mm_m176.1 2 = some (2, .ifCond .eq 7, 5, [9]) := rfl
theorem k176_5 : mm_lk mm_m176.1 5 = some (5, .iconst 0, 6, []) := rfl
theorem k176_6 : mm_lk mm_m176.1 6 = some (6, .goto 4, 9, [10]) := rfl
theorem k176_9 : mm_lk mm_m176.1 9 = some (9, .iconst 1, 10, []) := rfl
theorem k176_10 : mm_lk mm_m176.1 10 = some (10, .putfield 48, 13, [0, 14, 6, 1834]) := rfl
theorem k176_13 : mm_lk mm_m176.1 13 = some (13, .iload_n 1, 14, []) := rfl
theorem k176_14 : mm_lk mm_m176.1 14 = some (14, .ireturn, 15, []) := rfl
theorem k178_0 : mm_lk mm_m178.1 0 = some (0, .aload_n 0, 1, []) := rfl
theorem k178_1 : mm_lk mm_m178.1 1 = some (1, .getfield 7, 4, [0, 14, 0, 1828]) := rfl
theorem k178_4 : mm_lk mm_m178.1 4 = some (4, .iconst 0, 5, []) := rfl
theorem k178_5 : mm_lk mm_m178.1 5 = some (5, .iaload, 6, []) := rfl
theorem k178_6 : mm_lk mm_m178.1 6 = some (6, .ireturn, 7, []) := rfl
theorem k179_0 : mm_lk mm_m179.1 0 = some (0, .aload_n 0, 1, []) := rfl
theorem k179_1 : mm_lk mm_m179.1 1 = some (1, .getfield 7, 4, [0, 14, 0, 1828]) := rfl
theorem k179_4 : mm_lk mm_m179.1 4 = some (4, .iconst 1, 5, []) := rfl
theorem k179_5 : mm_lk mm_m179.1 5 = some (5, .iaload, 6, []) := rfl
theorem k179_6 : mm_lk mm_m179.1 6 = some (6, .ireturn, 7, []) := rfl
theorem k180_0 : mm_lk mm_m180.1 0 = some (0, .iload_n 1, 1, []) := rfl
theorem k180_1 : mm_lk mm_m180.1 1 = some (1, .i2l, 2, []) := rfl
theorem k180_2 : mm_lk mm_m180.1 2 = some (2, .lconst 0, 3, []) := rfl
theorem k180_3 : mm_lk mm_m180.1 3 = some (3, .aload_n 0, 4, []) := rfl
theorem k180_4 : mm_lk mm_m180.1 4 = some (4, .invokevirtual 55, 7, [0, 178, 1, 14, 2002, 2004, 57, 151]) := rfl
theorem k180_7 : mm_lk mm_m180.1 7 = some (7, .iconst 1, 8, []) := rfl
theorem k180_8 : mm_lk mm_m180.1 8 = some (8, .isub, 9, []) := rfl
theorem k180_9 : mm_lk mm_m180.1 9 = some (9, .i2l, 10, []) := rfl
theorem k180_10 : mm_lk mm_m180.1 10 = some (10, .invokestatic 59, 13, [1, 171, 3, 1930, 1931, 151]) := rfl
theorem k180_13 : mm_lk mm_m180.1 13 = some (13, .ireturn, 14, []) := rfl
theorem k181_0 : mm_lk mm_m181.1 0 = some (0, .iload_n 1, 1, []) := rfl
theorem k181_1 : mm_lk mm_m181.1 1 = some (1, .i2l, 2, []) := rfl
theorem k181_2 : mm_lk mm_m181.1 2 = some (2, .lconst 0, 3, []) := rfl
theorem k181_3 : mm_lk mm_m181.1 3 = some (3, .aload_n 0, 4, []) := rfl
theorem k181_4 : mm_lk mm_m181.1 4 = some (4, .invokevirtual 63, 7, [0, 179, 1, 14, 1821, 1823, 44, 151]) := rfl
theorem k181_7 : mm_lk mm_m181.1 7 = some (7, .iconst 1, 8, []) := rfl
theorem k181_8 : mm_lk mm_m181.1 8 = some (8, .isub, 9, []) := rfl
theorem k181_9 : mm_lk mm_m181.1 9 = some (9, .i2l, 10, []) := rfl
theorem k181_10 : mm_lk mm_m181.1 10 = some (10, .invokestatic 59, 13, [1, 171, 3, 1930, 1931, 151]) := rfl
theorem k181_13 : mm_lk mm_m181.1 13 = some (13, .ireturn, 14, []) := rfl
theorem k182_0 : mm_lk mm_m182.1 0 = some (0, .iload_n 1, 1, []) := rfl
theorem k182_1 : mm_lk mm_m182.1 1 = some (1, .i2l, 2, []) := rfl
theorem k182_2 : mm_lk mm_m182.1 2 = some (2, .lconst 0, 3, []) := rfl
theorem k182_3 : mm_lk mm_m182.1 3 = some (3, .iconst 1, 4, []) := rfl
theorem k182_4 : mm_lk mm_m182.1 4 = some (4, .aload_n 0, 5, []) := rfl
theorem k182_5 : mm_lk mm_m182.1 5 = some (5, .invokevirtual 55, 8, [0, 178, 1, 14, 2002, 2004, 57, 151]) := rfl
theorem k182_8 : mm_lk mm_m182.1 8 = some (8, .ishl, 9, []) := rfl
theorem k182_9 : mm_lk mm_m182.1 9 = some (9, .iconst 1, 10, []) := rfl
theorem k182_10 : mm_lk mm_m182.1 10 = some (10, .isub, 11, []) := rfl
theorem k182_11 : mm_lk mm_m182.1 11 = some (11, .i2l, 12, []) := rfl
theorem k182_12 : mm_lk mm_m182.1 12 = some (12, .invokestatic 59, 15, [1, 171, 3, 1930, 1931, 151]) := rfl
theorem k182_15 : mm_lk mm_m182.1 15 = some (15, .ireturn, 16, []) := rfl
theorem k183_0 : mm_lk mm_m183.1 0 = some (0, .iconst 1, 1, []) := rfl
theorem k183_1 : mm_lk mm_m183.1 1 = some (1, .aload_n 0, 2, []) := rfl
theorem k183_2 : mm_lk mm_m183.1 2 = some (2, .invokevirtual 63, 5, [0, 179, 1, 14, 1821, 1823, 44, 151]) := rfl
theorem k183_5 : mm_lk mm_m183.1 5 = some (5, .ishl, 6, []) := rfl
theorem k183_6 : mm_lk mm_m183.1 6 = some (6, .iconst 1, 7, []) := rfl
theorem k183_7 : mm_lk mm_m183.1 7 = some (7, .isub, 8, []) := rfl
theorem k183_8 : mm_lk mm_m183.1 8 = some (8, .ireturn, 9, []) := rfl
theorem k184_0 : mm_lk mm_m184.1 0 = some (0, .iconst 0, 1, []) := rfl
theorem k184_1 : mm_lk mm_m184.1 1 = some (1, .istore_n 1, 2, []) := rfl
theorem k184_2 : mm_lk mm_m184.1 2 = some (2, .iconst 0, 3, []) := rfl
theorem k184_3 : mm_lk mm_m184.1 3 = some (3, .istore_n 2, 4, []) := rfl
theorem k184_4 : mm_lk mm_m184.1 4 = some (4, .iload_n 2, 5, []) := rfl
theorem k184_5 : mm_lk mm_m184.1 5 = some (5, .bipush 32, 7, []) := rfl
theorem k184_7 : mm_lk mm_m184.1 7 = some (7, .if_icmp .ge 22, 10, [29]) := rfl
theorem k184_10 : mm_lk mm_m184.1 10 = some (10, .iload_n 1, 11, []) := rfl
theorem k184_11 : mm_lk mm_m184.1 11 = some (11, .iload_n 2, 12, []) := rfl
theorem k184_12 : mm_lk mm_m184.1 12 = some (12, .iload_n 0, 13, []) := rfl
theorem k184_13 : mm_lk mm_m184.1 13 = some (13, .invokestatic 51, 16, [1, 173, 2, 2094, 2095, 151]) := rfl
theorem k184_16 : mm_lk mm_m184.1 16 = some (16, .invokestatic 66, 19, [1, 172, 1, 1825, 1826, 151]) := rfl
theorem k184_19 : mm_lk mm_m184.1 19 = some (19, .iload_n 2, 20, []) := rfl
theorem k184_20 : mm_lk mm_m184.1 20 = some (20, .ishl, 21, []) := rfl
theorem k184_21 : mm_lk mm_m184.1 21 = some (21, .ior, 22, []) := rfl
theorem k184_22 : mm_lk mm_m184.1 22 = some (22, .istore_n 1, 23, []) := rfl
theorem k184_23 : mm_lk mm_m184.1 23 = some (23, .iinc 2 1, 26, []) := rfl
theorem k184_26 : mm_lk mm_m184.1 26 = some (26, .goto (-22), 29, [4]) := rfl
theorem k184_29 : mm_lk mm_m184.1 29 = some (29, .iload_n 1, 30, []) := rfl
theorem k184_30 : mm_lk mm_m184.1 30 = some (30, .ireturn, 31, []) := rfl
theorem k185_0 : mm_lk mm_m185.1 0 = some (0, .aload_n 0, 1, []) := rfl
theorem k185_1 : mm_lk mm_m185.1 1 = some (1, .getfield 7, 4, [0, 14, 0, 1828]) := rfl
theorem k185_4 : mm_lk mm_m185.1 4 = some (4, .iconst 2, 5, []) := rfl
theorem k185_5 : mm_lk mm_m185.1 5 = some (5, .iaload, 6, []) := rfl
theorem k185_6 : mm_lk mm_m185.1 6 = some (6, .iload_n 1, 7, []) := rfl
theorem k185_7 : mm_lk mm_m185.1 7 = some (7, .invokestatic 51, 10, [1, 173, 2, 2094, 2095, 151]) := rfl
theorem k185_10 : mm_lk mm_m185.1 10 = some (10, .ireturn, 11, []) := rfl
theorem k186_0 : mm_lk mm_m186.1 0 = some (0, .aload_n 0, 1, []) := rfl
theorem k186_1 : mm_lk mm_m186.1 1 = some (1, .iload_n 2, 2, []) := rfl
theorem k186_2 : mm_lk mm_m186.1 2 = some (2, .invokevirtual 70, 5, [0, 185, 2, 14, 2101, 2103, 80, 151]) := rfl
theorem k186_5 : mm_lk mm_m186.1 5 = some (5, .ifCond .eq 28, 8, [33]) := rfl
theorem k186_8 : mm_lk mm_m186.1 8 = some (8, .aload_n 0, 9, []) := rfl
theorem k186_9 : mm_lk mm_m186.1 9 = some (9, .getfield 7, 12, [0, 14, 0, 1828]) := rfl
theorem k186_12 : mm_lk mm_m186.1 12 = some (12, .sipush 160, 15, []) := rfl
theorem k186_15 : mm_lk mm_m186.1 15 = some (15, .bipush 32, 17, []) := rfl
theorem k186_17 : mm_lk mm_m186.1 17 = some (17, .iload_n 1, 18, []) := rfl
theorem k186_18 : mm_lk mm_m186.1 18 = some (18, .imul, 19, []) := rfl
theorem k186_19 : mm_lk mm_m186.1 19 = some (19, .iadd, 20, []) := rfl
theorem k186_20 : mm_lk mm_m186.1 20 = some (20, .iload_n 2, 21, []) := rfl
theorem k186_21 : mm_lk mm_m186.1 21 = some (21, .iadd, 22, []) := rfl
theorem k186_22 : mm_lk mm_m186.1 22 = some (22, .iaload, 23, []) := rfl
theorem k186_23 : mm_lk mm_m186.1 23 = some (23, .aload_n 0, 24, []) := rfl
theorem k186_24 : mm_lk mm_m186.1 24 = some (24, .getfield 7, 27, [0, 14, 0, 1828]) := rfl
theorem k186_27 : mm_lk mm_m186.1 27 = some (27, .iconst 2, 28, []) := rfl
theorem k186_28 : mm_lk mm_m186.1 28 = some (28, .iaload, 29, []) := rfl
theorem k186_29 : mm_lk mm_m186.1 29 = some (29, .iand, 30, []) := rfl
theorem k186_30 : mm_lk mm_m186.1 30 = some (30, .goto 4, 33, [34]) := rfl
theorem k186_33 : mm_lk mm_m186.1 33 = some (33, .iconst 0, 34, []) := rfl
theorem k186_34 : mm_lk mm_m186.1 34 = some (34, .ireturn, 35, []) := rfl
theorem k188_0 : mm_lk mm_m188.1 0 = some (0, .iconst 0, 1, []) := rfl
theorem k188_1 : mm_lk mm_m188.1 1 = some (1, .istore_n 3, 2, []) := rfl
theorem k188_2 : mm_lk mm_m188.1 2 = some (2, .iconst 0, 3, []) := rfl
theorem k188_3 : mm_lk mm_m188.1 3 = some (3, .istore 4, 5, []) := rfl
theorem k188_5 : mm_lk mm_m188.1 5 = some (5, .iload 4, 7, []) := rfl
theorem k188_7 : mm_lk mm_m188.1 7 = some (7, .bipush 32, 9, []) := rfl
theorem k188_9 : mm_lk mm_m188.1 9 = some (9, .if_icmp .ge 46, 12, [55]) := rfl
theorem k188_12 : mm_lk mm_m188.1 12 = some (12, .iload_n 3, 13, []) := rfl
theorem k188_13 : mm_lk mm_m188.1 13 = some (13, .aload_n 0, 14, []) := rfl
theorem k188_14 : mm_lk mm_m188.1 14 = some (14, .iload 4, 16, []) := rfl
theorem k188_16 : mm_lk mm_m188.1 16 = some (16, .invokevirtual 70, 19, [0, 185, 2, 14, 2101, 2103, 80, 151]) := rfl
theorem k188_19 : mm_lk mm_m188.1 19 = some (19, .ifCond .eq 21, 22, [40]) := rfl
theorem k188_22 : mm_lk mm_m188.1 22 = some (22, .aload_n 0, 23, []) := rfl
theorem k188_23 : mm_lk mm_m188.1 23 = some (23, .iload_n 1, 24, []) := rfl
theorem k188_24 : mm_lk mm_m188.1 24 = some (24, .iload 4, 26, []) := rfl
theorem k188_26 : mm_lk mm_m188.1 26 = some (26, .invokevirtual 78, 29, [0, 186, 3, 14, 2105, 2107, 81, 151]) := rfl
theorem k188_29 : mm_lk mm_m188.1 29 = some (29, .iload_n 2, 30, []) := rfl
theorem k188_30 : mm_lk mm_m188.1 30 = some (30, .iconst (-1), 31, []) := rfl
theorem k188_31 : mm_lk mm_m188.1 31 = some (31, .ixor, 32, []) := rfl
theorem k188_32 : mm_lk mm_m188.1 32 = some (32, .iand, 33, []) := rfl
theorem k188_33 : mm_lk mm_m188.1 33 = some (33, .ifCond .ne 7, 36, [40]) := rfl
theorem k188_36 : mm_lk mm_m188.1 36 = some (36, .iconst 1, 37, []) := rfl
theorem k188_37 : mm_lk mm_m188.1 37 = some (37, .goto 4, 40, [41]) := rfl
theorem k188_40 : mm_lk mm_m188.1 40 = some (40, .iconst 0, 41, []) := rfl
theorem k188_41 : mm_lk mm_m188.1 41 = some (41, .invokestatic 66, 44, [1, 172, 1, 1825, 1826, 151]) := rfl
theorem k188_44 : mm_lk mm_m188.1 44 = some (44, .iload 4, 46, []) := rfl
theorem k188_46 : mm_lk mm_m188.1 46 = some (46, .ishl, 47, []) := rfl
theorem k188_47 : mm_lk mm_m188.1 47 = some (47, .ior, 48, []) := rfl
theorem k188_48 : mm_lk mm_m188.1 48 = some (48, .istore_n 3, 49, []) := rfl
theorem k188_49 : mm_lk mm_m188.1 49 = some (49, .iinc 4 1, 52, []) := rfl
theorem k188_52 : mm_lk mm_m188.1 52 = some (52, .goto (-47), 55, [5]) := rfl
theorem k188_55 : mm_lk mm_m188.1 55 = some (55, .iload_n 3, 56, []) := rfl
theorem k188_56 : mm_lk mm_m188.1 56 = some (56, .ireturn, 57, []) := rfl
theorem k189_0 : mm_lk mm_m189.1 0 = some (0, .iconst 0, 1, []) := rfl
theorem k189_1 : mm_lk mm_m189.1 1 = some (1, .istore_n 3, 2, []) := rfl
theorem k189_2 : mm_lk mm_m189.1 2 = some (2, .iconst 0, 3, []) := rfl
theorem k189_3 : mm_lk mm_m189.1 3 = some (3, .istore 4, 5, []) := rfl
theorem k189_5 : mm_lk mm_m189.1 5 = some (5, .iload 4, 7, []) := rfl
theorem k189_7 : mm_lk mm_m189.1 7 = some (7, .bipush 32, 9, []) := rfl
theorem k189_9 : mm_lk mm_m189.1 9 = some (9, .if_icmp .ge 35, 12, [44]) := rfl
theorem k189_12 : mm_lk mm_m189.1 12 = some (12, .iload_n 3, 13, []) := rfl
theorem k189_13 : mm_lk mm_m189.1 13 = some (13, .aload_n 0, 14, []) := rfl
theorem k189_14 : mm_lk mm_m189.1 14 = some (14, .iload_n 1, 15, []) := rfl
theorem k189_15 : mm_lk mm_m189.1 15 = some (15, .iload 4, 17, []) := rfl
theorem k189_17 : mm_lk mm_m189.1 17 = some (17, .invokevirtual 78, 20, [0, 186, 3, 14, 2105, 2107, 81, 151]) := rfl
theorem k189_20 : mm_lk mm_m189.1 20 = some (20, .iload_n 2, 21, []) := rfl
theorem k189_21 : mm_lk mm_m189.1 21 = some (21, .iand, 22, []) := rfl
theorem k189_22 : mm_lk mm_m189.1 22 = some (22, .ifCond .eq 7, 25, [29]) := rfl
theorem k189_25 : mm_lk mm_m189.1 25 = some (25, .iconst 1, 26, []) := rfl
theorem k189_26 : mm_lk mm_m189.1 26 = some (26, .goto 4, 29, [30]) := rfl
theorem k189_29 : mm_lk mm_m189.1 29 = some (29, .iconst 0, 30, []) := rfl
theorem k189_30 : mm_lk mm_m189.1 30 = some (30, .invokestatic 66, 33, [1, 172, 1, 1825, 1826, 151]) := rfl
theorem k189_33 : mm_lk mm_m189.1 33 = some (33, .iload 4, 35, []) := rfl
theorem k189_35 : mm_lk mm_m189.1 35 = some (35, .ishl, 36, []) := rfl
theorem k189_36 : mm_lk mm_m189.1 36 = some (36, .ior, 37, []) := rfl
theorem k189_37 : mm_lk mm_m189.1 37 = some (37, .istore_n 3, 38, []) := rfl
theorem k189_38 : mm_lk mm_m189.1 38 = some (38, .iinc 4 1, 41, []) := rfl
theorem k189_41 : mm_lk mm_m189.1 41 = some (41, .goto (-36), 44, [5]) := rfl
theorem k189_44 : mm_lk mm_m189.1 44 = some (44, .iload_n 3, 45, []) := rfl
theorem k189_45 : mm_lk mm_m189.1 45 = some (45, .ireturn, 46, []) := rfl
theorem k190_0 : mm_lk mm_m190.1 0 = some (0, .aload_n 0, 1, []) := rfl
theorem k190_1 : mm_lk mm_m190.1 1 = some (1, .getfield 7, 4, [0, 14, 0, 1828]) := rfl
theorem k190_4 : mm_lk mm_m190.1 4 = some (4, .iconst 2, 5, []) := rfl
theorem k190_5 : mm_lk mm_m190.1 5 = some (5, .iaload, 6, []) := rfl
theorem k190_6 : mm_lk mm_m190.1 6 = some (6, .istore_n 2, 7, []) := rfl
theorem k190_7 : mm_lk mm_m190.1 7 = some (7, .iconst 0, 8, []) := rfl
theorem k190_8 : mm_lk mm_m190.1 8 = some (8, .istore_n 3, 9, []) := rfl
theorem k190_9 : mm_lk mm_m190.1 9 = some (9, .iload_n 3, 10, []) := rfl
theorem k190_10 : mm_lk mm_m190.1 10 = some (10, .aload_n 0, 11, []) := rfl
theorem k190_11 : mm_lk mm_m190.1 11 = some (11, .invokevirtual 63, 14, [0, 179, 1, 14, 1821, 1823, 44, 151]) := rfl
theorem k190_14 : mm_lk mm_m190.1 14 = some (14, .if_icmp .ge 18, 17, [32]) := rfl
theorem k190_17 : mm_lk mm_m190.1 17 = some (17, .iload_n 2, 18, []) := rfl
theorem k190_18 : mm_lk mm_m190.1 18 = some (18, .aload_n 0, 19, []) := rfl
theorem k190_19 : mm_lk mm_m190.1 19 = some (19, .iload_n 3, 20, []) := rfl
theorem k190_20 : mm_lk mm_m190.1 20 = some (20, .iload_n 1, 21, []) := rfl
theorem k190_21 : mm_lk mm_m190.1 21 = some (21, .invokevirtual 82, 24, [0, 188, 3, 14, 2097, 2099, 79, 151]) := rfl
theorem k190_24 : mm_lk mm_m190.1 24 = some (24, .iand, 25, []) := rfl
theorem k190_25 : mm_lk mm_m190.1 25 = some (25, .istore_n 2, 26, []) := rfl
theorem k190_26 : mm_lk mm_m190.1 26 = some (26, .iinc 3 1, 29, []) := rfl
theorem k190_29 : mm_lk mm_m190.1 29 = some (29, .goto (-20), 32, [9]) := rfl
theorem k190_32 : mm_lk mm_m190.1 32 = some (32, .iload_n 2, 33, []) := rfl
theorem k190_33 : mm_lk mm_m190.1 33 = some (33, .ireturn, 34, []) := rfl
theorem k191_0 : mm_lk mm_m191.1 0 = some (0, .iload_n 1, 1, []) := rfl
theorem k191_1 : mm_lk mm_m191.1 1 = some (1, .istore_n 2, 2, []) := rfl
theorem k191_2 : mm_lk mm_m191.1 2 = some (2, .iconst 0, 3, []) := rfl
theorem k191_3 : mm_lk mm_m191.1 3 = some (3, .istore_n 3, 4, []) := rfl
theorem k191_4 : mm_lk mm_m191.1 4 = some (4, .iload_n 3, 5, []) := rfl
theorem k191_5 : mm_lk mm_m191.1 5 = some (5, .bipush 32, 7, []) := rfl
theorem k191_7 : mm_lk mm_m191.1 7 = some (7, .if_icmp .ge 48, 10, [55]) := rfl
theorem k191_10 : mm_lk mm_m191.1 10 = some (10, .iload_n 1, 11, []) := rfl
theorem k191_11 : mm_lk mm_m191.1 11 = some (11, .iload_n 3, 12, []) := rfl
theorem k191_12 : mm_lk mm_m191.1 12 = some (12, .invokestatic 51, 15, [1, 173, 2, 2094, 2095, 151]) := rfl
theorem k191_15 : mm_lk mm_m191.1 15 = some (15, .ifCond .ne 6, 18, [21]) := rfl
theorem k191_18 : mm_lk mm_m191.1 18 = some (18, .goto 31, 21, [49]) := rfl
theorem k191_21 : mm_lk mm_m191.1 21 = some (21, .iconst 0, 22, []) := rfl
theorem k191_22 : mm_lk mm_m191.1 22 = some (22, .istore 4, 24, []) := rfl
theorem k191_24 : mm_lk mm_m191.1 24 = some (24, .iload 4, 26, []) := rfl
theorem k191_26 : mm_lk mm_m191.1 26 = some (26, .aload_n 0, 27, []) := rfl
theorem k191_27 : mm_lk mm_m191.1 27 = some (27, .invokevirtual 63, 30, [0, 179, 1, 14, 1821, 1823, 44, 151]) := rfl
theorem k191_30 : mm_lk mm_m191.1 30 = some (30, .if_icmp .ge 19, 33, [49]) := rfl
theorem k191_33 : mm_lk mm_m191.1 33 = some (33, .iload_n 2, 34, []) := rfl
theorem k191_34 : mm_lk mm_m191.1 34 = some (34, .aload_n 0, 35, []) := rfl
theorem k191_35 : mm_lk mm_m191.1 35 = some (35, .iload 4, 37, []) := rfl
theorem k191_37 : mm_lk mm_m191.1 37 = some (37, .iload_n 3, 38, []) := rfl
theorem k191_38 : mm_lk mm_m191.1 38 = some (38, .invokevirtual 78, 41, [0, 186, 3, 14, 2105, 2107, 81, 151]) := rfl
theorem k191_41 : mm_lk mm_m191.1 41 = some (41, .ior, 42, []) := rfl
theorem k191_42 : mm_lk mm_m191.1 42 = some (42, .istore_n 2, 43, []) := rfl
theorem k191_43 : mm_lk mm_m191.1 43 = some (43, .iinc 4 1, 46, []) := rfl
theorem k191_46 : mm_lk mm_m191.1 46 = some (46, .goto (-22), 49, [24]) := rfl
theorem k191_49 : mm_lk mm_m191.1 49 = some (49, .iinc 3 1, 52, []) := rfl
theorem k191_52 : mm_lk mm_m191.1 52 = some (52, .goto (-48), 55, [4]) := rfl
theorem k191_55 : mm_lk mm_m191.1 55 = some (55, .iload_n 2, 56, []) := rfl
theorem k191_56 : mm_lk mm_m191.1 56 = some (56, .ireturn, 57, []) := rfl
theorem k192_0 : mm_lk mm_m192.1 0 = some (0, .aload_n 0, 1, []) := rfl
theorem k192_1 : mm_lk mm_m192.1 1 = some (1, .getfield 7, 4, [0, 14, 0, 1828]) := rfl
theorem k192_4 : mm_lk mm_m192.1 4 = some (4, .iconst 2, 5, []) := rfl
theorem k192_5 : mm_lk mm_m192.1 5 = some (5, .iaload, 6, []) := rfl
theorem k192_6 : mm_lk mm_m192.1 6 = some (6, .iconst 1, 7, []) := rfl
theorem k192_7 : mm_lk mm_m192.1 7 = some (7, .iload_n 1, 8, []) := rfl
theorem k192_8 : mm_lk mm_m192.1 8 = some (8, .ishl, 9, []) := rfl
theorem k192_9 : mm_lk mm_m192.1 9 = some (9, .iand, 10, []) := rfl
theorem k192_10 : mm_lk mm_m192.1 10 = some (10, .istore_n 2, 11, []) := rfl
theorem k192_11 : mm_lk mm_m192.1 11 = some (11, .iconst 0, 12, []) := rfl
theorem k192_12 : mm_lk mm_m192.1 12 = some (12, .istore_n 3, 13, []) := rfl
theorem k192_13 : mm_lk mm_m192.1 13 = some (13, .iload_n 2, 14, []) := rfl
theorem k192_14 : mm_lk mm_m192.1 14 = some (14, .iload_n 3, 15, []) := rfl
theorem k192_15 : mm_lk mm_m192.1 15 = some (15, .if_icmp .eq 14, 18, [29]) := rfl
theorem k192_18 : mm_lk mm_m192.1 18 = some (18, .iload_n 2, 19, []) := rfl
theorem k192_19 : mm_lk mm_m192.1 19 = some (19, .istore_n 3, 20, []) := rfl
theorem k192_20 : mm_lk mm_m192.1 20 = some (20, .aload_n 0, 21, []) := rfl
theorem k192_21 : mm_lk mm_m192.1 21 = some (21, .iload_n 2, 22, []) := rfl
theorem k192_22 : mm_lk mm_m192.1 22 = some (22, .invokevirtual 85, 25, [0, 191, 2, 14, 2125, 2127, 86, 151]) := rfl
theorem k192_25 : mm_lk mm_m192.1 25 = some (25, .istore_n 2, 26, []) := rfl
theorem k192_26 : mm_lk mm_m192.1 26 = some (26, .goto (-13), 29, [13]) := rfl
theorem k192_29 : mm_lk mm_m192.1 29 = some (29, .iload_n 2, 30, []) := rfl
theorem k192_30 : mm_lk mm_m192.1 30 = some (30, .ireturn, 31, []) := rfl
theorem k193_0 : mm_lk mm_m193.1 0 = some (0, .iconst 0, 1, []) := rfl
theorem k193_1 : mm_lk mm_m193.1 1 = some (1, .istore_n 2, 2, []) := rfl
theorem k193_2 : mm_lk mm_m193.1 2 = some (2, .iconst 0, 3, []) := rfl
theorem k193_3 : mm_lk mm_m193.1 3 = some (3, .istore_n 3, 4, []) := rfl
theorem k193_4 : mm_lk mm_m193.1 4 = some (4, .iload_n 3, 5, []) := rfl
theorem k193_5 : mm_lk mm_m193.1 5 = some (5, .bipush 32, 7, []) := rfl
theorem k193_7 : mm_lk mm_m193.1 7 = some (7, .if_icmp .ge 42, 10, [49]) := rfl
theorem k193_10 : mm_lk mm_m193.1 10 = some (10, .iload_n 2, 11, []) := rfl
theorem k193_11 : mm_lk mm_m193.1 11 = some (11, .aload_n 0, 12, []) := rfl
theorem k193_12 : mm_lk mm_m193.1 12 = some (12, .iload_n 3, 13, []) := rfl
theorem k193_13 : mm_lk mm_m193.1 13 = some (13, .invokevirtual 70, 16, [0, 185, 2, 14, 2101, 2103, 80, 151]) := rfl
theorem k193_16 : mm_lk mm_m193.1 16 = some (16, .ifCond .eq 19, 19, [35]) := rfl
theorem k193_19 : mm_lk mm_m193.1 19 = some (19, .aload_n 0, 20, []) := rfl
theorem k193_20 : mm_lk mm_m193.1 20 = some (20, .iload_n 3, 21, []) := rfl
theorem k193_21 : mm_lk mm_m193.1 21 = some (21, .invokevirtual 88, 24, [0, 192, 2, 14, 2121, 2123, 85, 151]) := rfl
theorem k193_24 : mm_lk mm_m193.1 24 = some (24, .iload_n 1, 25, []) := rfl
theorem k193_25 : mm_lk mm_m193.1 25 = some (25, .iconst (-1), 26, []) := rfl
theorem k193_26 : mm_lk mm_m193.1 26 = some (26, .ixor, 27, []) := rfl
theorem k193_27 : mm_lk mm_m193.1 27 = some (27, .iand, 28, []) := rfl
theorem k193_28 : mm_lk mm_m193.1 28 = some (28, .ifCond .ne 7, 31, [35]) := rfl
theorem k193_31 : mm_lk mm_m193.1 31 = some (31, .iconst 1, 32, []) := rfl
theorem k193_32 : mm_lk mm_m193.1 32 = some (32, .goto 4, 35, [36]) := rfl
theorem k193_35 : mm_lk mm_m193.1 35 = some (35, .iconst 0, 36, []) := rfl
theorem k193_36 : mm_lk mm_m193.1 36 = some (36, .invokestatic 66, 39, [1, 172, 1, 1825, 1826, 151]) := rfl
theorem k193_39 : mm_lk mm_m193.1 39 = some (39, .iload_n 3, 40, []) := rfl
theorem k193_40 : mm_lk mm_m193.1 40 = some (40, .ishl, 41, []) := rfl
theorem k193_41 : mm_lk mm_m193.1 41 = some (41, .ior, 42, []) := rfl
theorem k193_42 : mm_lk mm_m193.1 42 = some (42, .istore_n 2, 43, []) := rfl
theorem k193_43 : mm_lk mm_m193.1 43 = some (43, .iinc 3 1, 46, []) := rfl
theorem k193_46 : mm_lk mm_m193.1 46 = some (46, .goto (-42), 49, [4]) := rfl
theorem k193_49 : mm_lk mm_m193.1 49 = some (49, .iload_n 2, 50, []) := rfl
theorem k193_50 : mm_lk mm_m193.1 50 = some (50, .ireturn, 51, []) := rfl
