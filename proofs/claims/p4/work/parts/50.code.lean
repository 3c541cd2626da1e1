/-! ===== code, row by row (by program) ===== -/
/-- WhoKnowsModel.takes(Ljava/lang/String;)Z -/
def mm_m206 : mm_M := (mm_c206, 3, 2, [])
set_option maxRecDepth 20000 in
theorem P206 : mm_P 206 = some mm_m206 := rfl
/-- WhoKnowsModel.sign(C)V -/
def mm_m207 : mm_M := (mm_c207, 2, 0, [])
set_option maxRecDepth 20000 in
theorem P207 : mm_P 207 = some mm_m207 := rfl
/-- WhoKnowsModel.isOwnWord()Z -/
def mm_m208 : mm_M := (mm_c208, 1, 2, [])
set_option maxRecDepth 20000 in
theorem P208 : mm_P 208 = some mm_m208 := rfl
/-- WhoKnowsModel.isWord()Z -/
def mm_m209 : mm_M := (mm_c209, 2, 2, [])
set_option maxRecDepth 20000 in
theorem P209 : mm_P 209 = some mm_m209 := rfl
theorem k206_0 : mm_lk mm_m206.1 0 = some (0, .aload_n 0, 1, []) := rfl
theorem k206_1 : mm_lk mm_m206.1 1 = some (1, .aload_n 1, 2, []) := rfl
theorem k206_2 : mm_lk mm_m206.1 2 = some (2, .invokevirtual 162, 5, [0, 205, 2, 14, 1961, 1963, 50, 151]) := rfl
theorem k206_5 : mm_lk mm_m206.1 5 = some (5, .istore_n 2, 6, []) := rfl
theorem k206_6 : mm_lk mm_m206.1 6 = some (6, .iload_n 2, 7, []) := rfl
theorem k206_7 : mm_lk mm_m206.1 7 = some (7, .ifCond .eq 16, 10, [23]) := rfl
theorem k206_10 : mm_lk mm_m206.1 10 = some (10, .aload_n 0, 11, []) := rfl
theorem k206_11 : mm_lk mm_m206.1 11 = some (11, .aload_n 0, 12, []) := rfl
theorem k206_12 : mm_lk mm_m206.1 12 = some (12, .getfield 132, 15, [0, 14, 12, 1840]) := rfl
theorem k206_15 : mm_lk mm_m206.1 15 = some (15, .aload_n 0, 16, []) := rfl
theorem k206_16 : mm_lk mm_m206.1 16 = some (16, .getfield 135, 19, [0, 14, 13, 1841]) := rfl
theorem k206_19 : mm_lk mm_m206.1 19 = some (19, .iadd, 20, []) := rfl
theorem k206_20 : mm_lk mm_m206.1 20 = some (20, .putfield 126, 23, [0, 14, 11, 1839]) := rfl
theorem k206_23 : mm_lk mm_m206.1 23 = some (23, .iload_n 2, 24, []) := rfl
theorem k206_24 : mm_lk mm_m206.1 24 = some (24, .ireturn, 25, []) := rfl
theorem k207_0 : mm_lk mm_m207.1 0 = some (0, .aload_n 0, 1, []) := rfl
theorem k207_1 : mm_lk mm_m207.1 1 = some (1, .getfield 142, 4, [0, 14, 14, 1842]) := rfl
theorem k207_4 : mm_lk mm_m207.1 4 = some (4, .ifCond .eq 4, 7, [8]) := rfl
theorem k207_7 : mm_lk mm_m207.1 7 = some (7, .return_, 8, []) := rfl
theorem k207_8 : mm_lk mm_m207.1 8 = some (8, .aload_n 0, 9, []) := rfl
theorem k207_9 : mm_lk mm_m207.1 9 = some (9, .aload_n 0, 10, []) := rfl
theorem k207_10 : mm_lk mm_m207.1 10 = some (10, .invokevirtual 151, 13, [0, 202, 1, 14, 1965, 1967, 51, 151]) := rfl
theorem k207_13 : mm_lk mm_m207.1 13 = some (13, .iload_n 1, 14, []) := rfl
theorem k207_14 : mm_lk mm_m207.1 14 = some (14, .if_icmp .ne 7, 17, [21]) := rfl
theorem k207_17 : mm_lk mm_m207.1 17 = some (17, .iconst 1, 18, []) := rfl
theorem k207_18 : mm_lk mm_m207.1 18 = some (18, .goto 4, 21, [22]) := rfl
theorem k207_21 : mm_lk mm_m207.1 21 = some (21, .iconst 0, 22, []) := rfl
theorem k207_22 : mm_lk mm_m207.1 22 = some (22, .iconst 1, 23, []) := rfl
theorem k207_23 : mm_lk mm_m207.1 23 = some (23, .invokevirtual 166, 26, [0, 204, 3, 14, 1977, 1979, 53, 151]) := rfl
theorem k207_26 : mm_lk mm_m207.1 26 = some (26, .aload_n 0, 27, []) := rfl
theorem k207_27 : mm_lk mm_m207.1 27 = some (27, .dup, 28, []) := rfl
theorem k207_28 : mm_lk mm_m207.1 28 = some (28, .getfield 126, 31, [0, 14, 11, 1839]) := rfl
theorem k207_31 : mm_lk mm_m207.1 31 = some (31, .iconst 1, 32, []) := rfl
theorem k207_32 : mm_lk mm_m207.1 32 = some (32, .iadd, 33, []) := rfl
theorem k207_33 : mm_lk mm_m207.1 33 = some (33, .putfield 126, 36, [0, 14, 11, 1839]) := rfl
theorem k207_36 : mm_lk mm_m207.1 36 = some (36, .return_, 37, []) := rfl
theorem k208_0 : mm_lk mm_m208.1 0 = some (0, .aload_n 0, 1, []) := rfl
theorem k208_1 : mm_lk mm_m208.1 1 = some (1, .ldc 170, 3, [1, 6, 1994]) := rfl
theorem k208_3 : mm_lk mm_m208.1 3 = some (3, .invokevirtual 162, 6, [0, 205, 2, 14, 1961, 1963, 50, 151]) := rfl
theorem k208_6 : mm_lk mm_m208.1 6 = some (6, .ifCond .ne 66, 9, [72]) := rfl
theorem k208_9 : mm_lk mm_m208.1 9 = some (9, .aload_n 0, 10, []) := rfl
theorem k208_10 : mm_lk mm_m208.1 10 = some (10, .ldc 172, 12, [1, 16, 1995]) := rfl
theorem k208_12 : mm_lk mm_m208.1 12 = some (12, .invokevirtual 162, 15, [0, 205, 2, 14, 1961, 1963, 50, 151]) := rfl
theorem k208_15 : mm_lk mm_m208.1 15 = some (15, .ifCond .ne 57, 18, [72]) := rfl
theorem k208_18 : mm_lk mm_m208.1 18 = some (18, .aload_n 0, 19, []) := rfl
theorem k208_19 : mm_lk mm_m208.1 19 = some (19, .ldc 174, 21, [1, 18, 1996]) := rfl
theorem k208_21 : mm_lk mm_m208.1 21 = some (21, .invokevirtual 162, 24, [0, 205, 2, 14, 1961, 1963, 50, 151]) := rfl
theorem k208_24 : mm_lk mm_m208.1 24 = some (24, .ifCond .ne 48, 27, [72]) := rfl
theorem k208_27 : mm_lk mm_m208.1 27 = some (27, .aload_n 0, 28, []) := rfl
theorem k208_28 : mm_lk mm_m208.1 28 = some (28, .ldc 176, 30, [1, 8, 1997]) := rfl
theorem k208_30 : mm_lk mm_m208.1 30 = some (30, .invokevirtual 162, 33, [0, 205, 2, 14, 1961, 1963, 50, 151]) := rfl
theorem k208_33 : mm_lk mm_m208.1 33 = some (33, .ifCond .ne 39, 36, [72]) := rfl
theorem k208_36 : mm_lk mm_m208.1 36 = some (36, .aload_n 0, 37, []) := rfl
theorem k208_37 : mm_lk mm_m208.1 37 = some (37, .ldc 178, 39, [1, 10, 1998]) := rfl
theorem k208_39 : mm_lk mm_m208.1 39 = some (39, .invokevirtual 162, 42, [0, 205, 2, 14, 1961, 1963, 50, 151]) := rfl
theorem k208_42 : mm_lk mm_m208.1 42 = some (42, .ifCond .ne 30, 45, [72]) := rfl
theorem k208_45 : mm_lk mm_m208.1 45 = some (45, .aload_n 0, 46, []) := rfl
theorem k208_46 : mm_lk mm_m208.1 46 = some (46, .ldc 180, 48, [1, 12, 1999]) := rfl
theorem k208_48 : mm_lk mm_m208.1 48 = some (48, .invokevirtual 162, 51, [0, 205, 2, 14, 1961, 1963, 50, 151]) := rfl
theorem k208_51 : mm_lk mm_m208.1 51 = some (51, .ifCond .ne 21, 54, [72]) := rfl
theorem k208_54 : mm_lk mm_m208.1 54 = some (54, .aload_n 0, 55, []) := rfl
theorem k208_55 : mm_lk mm_m208.1 55 = some (55, .ldc 182, 57, [1, 14, 2000]) := rfl
theorem k208_57 : mm_lk mm_m208.1 57 = some (57, .invokevirtual 162, 60, [0, 205, 2, 14, 1961, 1963, 50, 151]) := rfl
theorem k208_60 : mm_lk mm_m208.1 60 = some (60, .ifCond .ne 12, 63, [72]) := rfl
theorem k208_63 : mm_lk mm_m208.1 63 = some (63, .aload_n 0, 64, []) := rfl
theorem k208_64 : mm_lk mm_m208.1 64 = some (64, .ldc 184, 66, [1, 20, 2001]) := rfl
theorem k208_66 : mm_lk mm_m208.1 66 = some (66, .invokevirtual 162, 69, [0, 205, 2, 14, 1961, 1963, 50, 151]) := rfl
theorem k208_69 : mm_lk mm_m208.1 69 = some (69, .ifCond .eq 7, 72, [76]) := rfl
theorem k208_72 : mm_lk mm_m208.1 72 = some (72, .iconst 1, 73, []) := rfl
theorem k208_73 : mm_lk mm_m208.1 73 = some (73, .goto 4, 76, [77]) := rfl
theorem k208_76 : mm_lk mm_m208.1 76 = some (76, .iconst 0, 77, []) := rfl
theorem k208_77 : mm_lk mm_m208.1 77 = some (77, .ireturn, 78, []) := rfl
theorem k209_0 : mm_lk mm_m209.1 0 = some (0, .aload_n 0, 1, []) := rfl
theorem k209_1 : mm_lk mm_m209.1 1 = some (1, .invokevirtual 151, 4, [0, 202, 1, 14, 1965, 1967, 51, 151]) := rfl
theorem k209_4 : mm_lk mm_m209.1 4 = some (4, .istore_n 1, 5, []) := rfl
theorem k209_5 : mm_lk mm_m209.1 5 = some (5, .aload_n 0, 6, []) := rfl
theorem k209_6 : mm_lk mm_m209.1 6 = some (6, .getfield 142, 9, [0, 14, 14, 1842]) := rfl
theorem k209_9 : mm_lk mm_m209.1 9 = some (9, .ifCond .ne 14, 12, [23]) := rfl
theorem k209_12 : mm_lk mm_m209.1 12 = some (12, .aload_n 0, 13, []) := rfl
theorem k209_13 : mm_lk mm_m209.1 13 = some (13, .getfield 135, 16, [0, 14, 13, 1841]) := rfl
theorem k209_16 : mm_lk mm_m209.1 16 = some (16, .ifCond .le 7, 19, [23]) := rfl
theorem k209_19 : mm_lk mm_m209.1 19 = some (19, .iconst 1, 20, []) := rfl
theorem k209_20 : mm_lk mm_m209.1 20 = some (20, .goto 4, 23, [24]) := rfl
theorem k209_23 : mm_lk mm_m209.1 23 = some (23, .iconst 0, 24, []) := rfl
theorem k209_24 : mm_lk mm_m209.1 24 = some (24, .ireturn, 25, []) := rfl
