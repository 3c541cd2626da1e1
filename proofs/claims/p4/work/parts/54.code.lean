/-! ===== code, row by row (by program) ===== -/
/-- WhoKnowsModel.known(Z)I -/
def mm_m212 : mm_M := (mm_c212, 3, 1, [])
set_option maxRecDepth 20000 in
theorem P212 : mm_P 212 = some mm_m212 := rfl
/-- WhoKnowsModel.laysName(I)V -/
def mm_m213 : mm_M := (mm_c213, 3, 0, [])
set_option maxRecDepth 20000 in
theorem P213 : mm_P 213 = some mm_m213 := rfl
/-- WhoKnowsModel.startsText()V -/
def mm_m214 : mm_M := (mm_c214, 1, 0, [])
set_option maxRecDepth 20000 in
theorem P214 : mm_P 214 = some mm_m214 := rfl
/-- WhoKnowsModel.endsText()Z -/
def mm_m215 : mm_M := (mm_c215, 1, 2, [])
set_option maxRecDepth 20000 in
theorem P215 : mm_P 215 = some mm_m215 := rfl
/-- WhoKnowsModel.errorCode()I -/
def mm_m216 : mm_M := (mm_c216, 1, 1, [])
set_option maxRecDepth 20000 in
theorem P216 : mm_P 216 = some mm_m216 := rfl
/-- WhoKnowsModel.errorPosition()I -/
def mm_m217 : mm_M := (mm_c217, 1, 1, [])
set_option maxRecDepth 20000 in
theorem P217 : mm_P 217 = some mm_m217 := rfl
/-- WhoKnowsModel.counts()V -/
def mm_m218 : mm_M := (mm_c218, 1, 0, [])
set_option maxRecDepth 20000 in
theorem P218 : mm_P 218 = some mm_m218 := rfl
theorem k212_0 : mm_lk mm_m212.1 0 = some (0, .aload_n 0, 1, []) := rfl
theorem k212_1 : mm_lk mm_m212.1 1 = some (1, .iload_n 1, 2, []) := rfl
theorem k212_2 : mm_lk mm_m212.1 2 = some (2, .invokevirtual 195, 5, [0, 211, 2, 14, 1985, 1987, 55, 151]) := rfl
theorem k212_5 : mm_lk mm_m212.1 5 = some (5, .istore_n 2, 6, []) := rfl
theorem k212_6 : mm_lk mm_m212.1 6 = some (6, .aload_n 0, 7, []) := rfl
theorem k212_7 : mm_lk mm_m212.1 7 = some (7, .iload_n 2, 8, []) := rfl
theorem k212_8 : mm_lk mm_m212.1 8 = some (8, .iconst (-1), 9, []) := rfl
theorem k212_9 : mm_lk mm_m212.1 9 = some (9, .if_icmp .eq 7, 12, [16]) := rfl
theorem k212_12 : mm_lk mm_m212.1 12 = some (12, .iconst 1, 13, []) := rfl
theorem k212_13 : mm_lk mm_m212.1 13 = some (13, .goto 4, 16, [17]) := rfl
theorem k212_16 : mm_lk mm_m212.1 16 = some (16, .iconst 0, 17, []) := rfl
theorem k212_17 : mm_lk mm_m212.1 17 = some (17, .iconst 2, 18, []) := rfl
theorem k212_18 : mm_lk mm_m212.1 18 = some (18, .invokevirtual 166, 21, [0, 204, 3, 14, 1977, 1979, 53, 151]) := rfl
theorem k212_21 : mm_lk mm_m212.1 21 = some (21, .aload_n 0, 22, []) := rfl
theorem k212_22 : mm_lk mm_m212.1 22 = some (22, .getfield 142, 25, [0, 14, 14, 1842]) := rfl
theorem k212_25 : mm_lk mm_m212.1 25 = some (25, .ifCond .ne 7, 28, [32]) := rfl
theorem k212_28 : mm_lk mm_m212.1 28 = some (28, .iload_n 2, 29, []) := rfl
theorem k212_29 : mm_lk mm_m212.1 29 = some (29, .goto 4, 32, [33]) := rfl
theorem k212_32 : mm_lk mm_m212.1 32 = some (32, .iconst 0, 33, []) := rfl
theorem k212_33 : mm_lk mm_m212.1 33 = some (33, .ireturn, 34, []) := rfl
theorem k213_0 : mm_lk mm_m213.1 0 = some (0, .aload_n 0, 1, []) := rfl
theorem k213_1 : mm_lk mm_m213.1 1 = some (1, .getfield 7, 4, [0, 14, 0, 1828]) := rfl
theorem k213_4 : mm_lk mm_m213.1 4 = some (4, .iload_n 1, 5, []) := rfl
theorem k213_5 : mm_lk mm_m213.1 5 = some (5, .aload_n 0, 6, []) := rfl
theorem k213_6 : mm_lk mm_m213.1 6 = some (6, .getfield 135, 9, [0, 14, 13, 1841]) := rfl
theorem k213_9 : mm_lk mm_m213.1 9 = some (9, .iastore, 10, []) := rfl
theorem k213_10 : mm_lk mm_m213.1 10 = some (10, .iconst 0, 11, []) := rfl
theorem k213_11 : mm_lk mm_m213.1 11 = some (11, .istore_n 2, 12, []) := rfl
theorem k213_12 : mm_lk mm_m213.1 12 = some (12, .iload_n 2, 13, []) := rfl
theorem k213_13 : mm_lk mm_m213.1 13 = some (13, .aload_n 0, 14, []) := rfl
theorem k213_14 : mm_lk mm_m213.1 14 = some (14, .getfield 135, 17, [0, 14, 13, 1841]) := rfl
theorem k213_17 : mm_lk mm_m213.1 17 = some (17, .if_icmp .ge 29, 20, [46]) := rfl
theorem k213_20 : mm_lk mm_m213.1 20 = some (20, .aload_n 0, 21, []) := rfl
theorem k213_21 : mm_lk mm_m213.1 21 = some (21, .getfield 7, 24, [0, 14, 0, 1828]) := rfl
theorem k213_24 : mm_lk mm_m213.1 24 = some (24, .iload_n 1, 25, []) := rfl
theorem k213_25 : mm_lk mm_m213.1 25 = some (25, .iconst 1, 26, []) := rfl
theorem k213_26 : mm_lk mm_m213.1 26 = some (26, .iadd, 27, []) := rfl
theorem k213_27 : mm_lk mm_m213.1 27 = some (27, .iload_n 2, 28, []) := rfl
theorem k213_28 : mm_lk mm_m213.1 28 = some (28, .iadd, 29, []) := rfl
theorem k213_29 : mm_lk mm_m213.1 29 = some (29, .aload_n 0, 30, []) := rfl
theorem k213_30 : mm_lk mm_m213.1 30 = some (30, .aload_n 0, 31, []) := rfl
theorem k213_31 : mm_lk mm_m213.1 31 = some (31, .getfield 132, 34, [0, 14, 12, 1840]) := rfl
theorem k213_34 : mm_lk mm_m213.1 34 = some (34, .iload_n 2, 35, []) := rfl
theorem k213_35 : mm_lk mm_m213.1 35 = some (35, .iadd, 36, []) := rfl
theorem k213_36 : mm_lk mm_m213.1 36 = some (36, .invokevirtual 129, 39, [0, 201, 2, 14, 1969, 1971, 52, 151]) := rfl
theorem k213_39 : mm_lk mm_m213.1 39 = some (39, .iastore, 40, []) := rfl
theorem k213_40 : mm_lk mm_m213.1 40 = some (40, .iinc 2 1, 43, []) := rfl
theorem k213_43 : mm_lk mm_m213.1 43 = some (43, .goto (-31), 46, [12]) := rfl
theorem k213_46 : mm_lk mm_m213.1 46 = some (46, .return_, 47, []) := rfl
theorem k214_0 : mm_lk mm_m214.1 0 = some (0, .aload_n 0, 1, []) := rfl
theorem k214_1 : mm_lk mm_m214.1 1 = some (1, .iconst 0, 2, []) := rfl
theorem k214_2 : mm_lk mm_m214.1 2 = some (2, .putfield 126, 5, [0, 14, 11, 1839]) := rfl
theorem k214_5 : mm_lk mm_m214.1 5 = some (5, .aload_n 0, 6, []) := rfl
theorem k214_6 : mm_lk mm_m214.1 6 = some (6, .iconst 0, 7, []) := rfl
theorem k214_7 : mm_lk mm_m214.1 7 = some (7, .putfield 132, 10, [0, 14, 12, 1840]) := rfl
theorem k214_10 : mm_lk mm_m214.1 10 = some (10, .aload_n 0, 11, []) := rfl
theorem k214_11 : mm_lk mm_m214.1 11 = some (11, .iconst 0, 12, []) := rfl
theorem k214_12 : mm_lk mm_m214.1 12 = some (12, .putfield 142, 15, [0, 14, 14, 1842]) := rfl
theorem k214_15 : mm_lk mm_m214.1 15 = some (15, .aload_n 0, 16, []) := rfl
theorem k214_16 : mm_lk mm_m214.1 16 = some (16, .iconst (-1), 17, []) := rfl
theorem k214_17 : mm_lk mm_m214.1 17 = some (17, .putfield 145, 20, [0, 14, 15, 1843]) := rfl
theorem k214_20 : mm_lk mm_m214.1 20 = some (20, .return_, 21, []) := rfl
theorem k215_0 : mm_lk mm_m215.1 0 = some (0, .aload_n 0, 1, []) := rfl
theorem k215_1 : mm_lk mm_m215.1 1 = some (1, .iconst 0, 2, []) := rfl
theorem k215_2 : mm_lk mm_m215.1 2 = some (2, .putfield 116, 5, [0, 14, 10, 1838]) := rfl
theorem k215_5 : mm_lk mm_m215.1 5 = some (5, .aload_n 0, 6, []) := rfl
theorem k215_6 : mm_lk mm_m215.1 6 = some (6, .aload_n 0, 7, []) := rfl
theorem k215_7 : mm_lk mm_m215.1 7 = some (7, .getfield 142, 10, [0, 14, 14, 1842]) := rfl
theorem k215_10 : mm_lk mm_m215.1 10 = some (10, .putfield 198, 13, [0, 14, 16, 1844]) := rfl
theorem k215_13 : mm_lk mm_m215.1 13 = some (13, .aload_n 0, 14, []) := rfl
theorem k215_14 : mm_lk mm_m215.1 14 = some (14, .aload_n 0, 15, []) := rfl
theorem k215_15 : mm_lk mm_m215.1 15 = some (15, .getfield 145, 18, [0, 14, 15, 1843]) := rfl
theorem k215_18 : mm_lk mm_m215.1 18 = some (18, .putfield 31, 21, [0, 14, 17, 1845]) := rfl
theorem k215_21 : mm_lk mm_m215.1 21 = some (21, .aload_n 0, 22, []) := rfl
theorem k215_22 : mm_lk mm_m215.1 22 = some (22, .getfield 142, 25, [0, 14, 14, 1842]) := rfl
theorem k215_25 : mm_lk mm_m215.1 25 = some (25, .ifCond .ne 7, 28, [32]) := rfl
theorem k215_28 : mm_lk mm_m215.1 28 = some (28, .iconst 1, 29, []) := rfl
theorem k215_29 : mm_lk mm_m215.1 29 = some (29, .goto 4, 32, [33]) := rfl
theorem k215_32 : mm_lk mm_m215.1 32 = some (32, .iconst 0, 33, []) := rfl
theorem k215_33 : mm_lk mm_m215.1 33 = some (33, .ireturn, 34, []) := rfl
theorem k216_0 : mm_lk mm_m216.1 0 = some (0, .aload_n 0, 1, []) := rfl
theorem k216_1 : mm_lk mm_m216.1 1 = some (1, .iconst 0, 2, []) := rfl
theorem k216_2 : mm_lk mm_m216.1 2 = some (2, .putfield 48, 5, [0, 14, 6, 1834]) := rfl
theorem k216_5 : mm_lk mm_m216.1 5 = some (5, .aload_n 0, 6, []) := rfl
theorem k216_6 : mm_lk mm_m216.1 6 = some (6, .getfield 198, 9, [0, 14, 16, 1844]) := rfl
theorem k216_9 : mm_lk mm_m216.1 9 = some (9, .ireturn, 10, []) := rfl
theorem k217_0 : mm_lk mm_m217.1 0 = some (0, .aload_n 0, 1, []) := rfl
theorem k217_1 : mm_lk mm_m217.1 1 = some (1, .iconst 0, 2, []) := rfl
theorem k217_2 : mm_lk mm_m217.1 2 = some (2, .putfield 48, 5, [0, 14, 6, 1834]) := rfl
theorem k217_5 : mm_lk mm_m217.1 5 = some (5, .aload_n 0, 6, []) := rfl
theorem k217_6 : mm_lk mm_m217.1 6 = some (6, .getfield 31, 9, [0, 14, 17, 1845]) := rfl
theorem k217_9 : mm_lk mm_m217.1 9 = some (9, .ireturn, 10, []) := rfl
theorem k218_0 : mm_lk mm_m218.1 0 = some (0, .aload_n 0, 1, []) := rfl
theorem k218_1 : mm_lk mm_m218.1 1 = some (1, .dup, 2, []) := rfl
theorem k218_2 : mm_lk mm_m218.1 2 = some (2, .getfield 201, 5, [0, 14, 20, 1848]) := rfl
theorem k218_5 : mm_lk mm_m218.1 5 = some (5, .iconst 1, 6, []) := rfl
theorem k218_6 : mm_lk mm_m218.1 6 = some (6, .iadd, 7, []) := rfl
theorem k218_7 : mm_lk mm_m218.1 7 = some (7, .putfield 201, 10, [0, 14, 20, 1848]) := rfl
theorem k218_10 : mm_lk mm_m218.1 10 = some (10, .aload_n 0, 11, []) := rfl
theorem k218_11 : mm_lk mm_m218.1 11 = some (11, .aload_n 0, 12, []) := rfl
theorem k218_12 : mm_lk mm_m218.1 12 = some (12, .getfield 201, 15, [0, 14, 20, 1848]) := rfl
theorem k218_15 : mm_lk mm_m218.1 15 = some (15, .bipush 60, 17, []) := rfl
theorem k218_17 : mm_lk mm_m218.1 17 = some (17, .if_icmp .gt 7, 20, [24]) := rfl
theorem k218_20 : mm_lk mm_m218.1 20 = some (20, .iconst 1, 21, []) := rfl
theorem k218_21 : mm_lk mm_m218.1 21 = some (21, .goto 4, 24, [25]) := rfl
theorem k218_24 : mm_lk mm_m218.1 24 = some (24, .iconst 0, 25, []) := rfl
theorem k218_25 : mm_lk mm_m218.1 25 = some (25, .iconst 3, 26, []) := rfl
theorem k218_26 : mm_lk mm_m218.1 26 = some (26, .invokevirtual 166, 29, [0, 204, 3, 14, 1977, 1979, 53, 151]) := rfl
theorem k218_29 : mm_lk mm_m218.1 29 = some (29, .return_, 30, []) := rfl
