/-! ===== code, row by row (by program) ===== -/
/-- WhoKnows.outputByte(I)I -/
def mm_m142 : mm_M := (mm_c142, 2, 1, [])
set_option maxRecDepth 20000 in
theorem P142 : mm_P 142 = some mm_m142 := rfl
/-- java/lang/AbstractStringBuilder.charAt(I)C -/
def mm_m348 : mm_M := (mm_c348, 5, 3, [])
set_option maxRecDepth 20000 in
theorem P348 : mm_P 348 = some mm_m348 := rfl
/-- java/lang/StringBuilder.charAt(I)C -/
def mm_m376 : mm_M := (mm_c376, 2, 3, [])
set_option maxRecDepth 20000 in
theorem P376 : mm_P 376 = some mm_m376 := rfl
theorem k142_0 : mm_lk mm_m142.1 0 = some (0, .iload_n 1, 1, []) := rfl
theorem k142_1 : mm_lk mm_m142.1 1 = some (1, .ifCond .lt 25, 4, [26]) := rfl
theorem k142_4 : mm_lk mm_m142.1 4 = some (4, .iload_n 1, 5, []) := rfl
theorem k142_5 : mm_lk mm_m142.1 5 = some (5, .aload_n 0, 6, []) := rfl
theorem k142_6 : mm_lk mm_m142.1 6 = some (6, .getfield 64, 9, [0, 13, 7, 848]) := rfl
theorem k142_9 : mm_lk mm_m142.1 9 = some (9, .invokevirtual 325, 12, [0, 378, 1, 1, 1416, 1215, 2511, 141]) := rfl
theorem k142_12 : mm_lk mm_m142.1 12 = some (12, .if_icmp .ge 14, 15, [26]) := rfl
theorem k142_15 : mm_lk mm_m142.1 15 = some (15, .aload_n 0, 16, []) := rfl
theorem k142_16 : mm_lk mm_m142.1 16 = some (16, .getfield 64, 19, [0, 13, 7, 848]) := rfl
theorem k142_19 : mm_lk mm_m142.1 19 = some (19, .iload_n 1, 20, []) := rfl
theorem k142_20 : mm_lk mm_m142.1 20 = some (20, .invokevirtual 334, 23, [0, 376, 2, 1, 1421, 1422, 1423, 141]) := rfl
theorem k142_23 : mm_lk mm_m142.1 23 = some (23, .goto 4, 26, [27]) := rfl
theorem k142_26 : mm_lk mm_m142.1 26 = some (26, .iconst (-1), 27, []) := rfl
theorem k142_27 : mm_lk mm_m142.1 27 = some (27, .ireturn, 28, []) := rfl
theorem k348_0 : mm_lk mm_m348.1 0 = some (0, .aload_n 0, 1, []) := rfl
theorem k348_1 : mm_lk mm_m348.1 1 = some (1, .getfield 22, 4, [0, 1, 1, 379]) := rfl
theorem k348_4 : mm_lk mm_m348.1 4 = some (4, .istore_n 2, 5, []) := rfl
theorem k348_5 : mm_lk mm_m348.1 5 = some (5, .aload_n 0, 6, []) := rfl
theorem k348_6 : mm_lk mm_m348.1 6 = some (6, .getfield 15, 9, [0, 1, 0, 378]) := rfl
theorem k348_9 : mm_lk mm_m348.1 9 = some (9, .astore_n 3, 10, []) := rfl
theorem k348_10 : mm_lk mm_m348.1 10 = some (10, .aload_n 0, 11, []) := rfl
theorem k348_11 : mm_lk mm_m348.1 11 = some (11, .getfield 79, 14, [0, 1, 3, 382]) := rfl
theorem k348_14 : mm_lk mm_m348.1 14 = some (14, .aload_n 3, 15, []) := rfl
theorem k348_15 : mm_lk mm_m348.1 15 = some (15, .arraylength, 16, []) := rfl
theorem k348_16 : mm_lk mm_m348.1 16 = some (16, .iload_n 2, 17, []) := rfl
theorem k348_17 : mm_lk mm_m348.1 17 = some (17, .ishr, 18, []) := rfl
theorem k348_18 : mm_lk mm_m348.1 18 = some (18, .invokestatic 138, 21, [12, 1428]) := rfl
theorem k348_21 : mm_lk mm_m348.1 21 = some (21, .istore 4, 23, []) := rfl
theorem k348_23 : mm_lk mm_m348.1 23 = some (23, .iload_n 1, 24, []) := rfl
theorem k348_24 : mm_lk mm_m348.1 24 = some (24, .iload 4, 26, []) := rfl
theorem k348_26 : mm_lk mm_m348.1 26 = some (26, .invokestatic 144, 29, [1, 368, 2, 1429, 422, 142]) := rfl
theorem k348_29 : mm_lk mm_m348.1 29 = some (29, .iload_n 2, 30, []) := rfl
theorem k348_30 : mm_lk mm_m348.1 30 = some (30, .ifCond .ne 12, 33, [42]) := rfl
theorem k348_33 : mm_lk mm_m348.1 33 = some (33, .aload_n 3, 34, []) := rfl
theorem k348_34 : mm_lk mm_m348.1 34 = some (34, .iload_n 1, 35, []) := rfl
theorem k348_35 : mm_lk mm_m348.1 35 = some (35, .baload, 36, []) := rfl
theorem k348_36 : mm_lk mm_m348.1 36 = some (36, .sipush 255, 39, []) := rfl
theorem k348_39 : mm_lk mm_m348.1 39 = some (39, .iand, 40, []) := rfl
theorem k348_40 : mm_lk mm_m348.1 40 = some (40, .i2c, 41, []) := rfl
theorem k348_41 : mm_lk mm_m348.1 41 = some (41, .ireturn, 42, []) := rfl
theorem k376_0 : mm_lk mm_m376.1 0 = some (0, .aload_n 0, 1, []) := rfl
theorem k376_1 : mm_lk mm_m376.1 1 = some (1, .iload_n 1, 2, []) := rfl
theorem k376_2 : mm_lk mm_m376.1 2 = some (2, .invokespecial 329, 5, [4, 348, 2, 1, 1425, 2512, 391, 1426, 140]) := rfl
theorem k376_5 : mm_lk mm_m376.1 5 = some (5, .ireturn, 6, []) := rfl
