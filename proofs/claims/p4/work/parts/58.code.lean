/-! ===== code, row by row (by program) ===== -/
/-- WhoKnowsModel.readsNot()I -/
def mm_m222 : mm_M := (mm_c222, 1, 1, [])
set_option maxRecDepth 20000 in
theorem P222 : mm_P 222 = some mm_m222 := rfl
/-- WhoKnowsModel.readsInner()I -/
def mm_m223 : mm_M := (mm_c223, 2, 1, [])
set_option maxRecDepth 20000 in
theorem P223 : mm_P 223 = some mm_m223 := rfl
theorem k222_0 : mm_lk mm_m222.1 0 = some (0, .aload_n 0, 1, []) := rfl
theorem k222_1 : mm_lk mm_m222.1 1 = some (1, .invokevirtual 211, 4, [0, 218, 1, 14, 2059, 2061, 71, 151]) := rfl
theorem k222_4 : mm_lk mm_m222.1 4 = some (4, .aload_n 0, 5, []) := rfl
theorem k222_5 : mm_lk mm_m222.1 5 = some (5, .getfield 142, 8, [0, 14, 14, 1842]) := rfl
theorem k222_8 : mm_lk mm_m222.1 8 = some (8, .ifCond .eq 5, 11, [13]) := rfl
theorem k222_11 : mm_lk mm_m222.1 11 = some (11, .iconst 0, 12, []) := rfl
theorem k222_12 : mm_lk mm_m222.1 12 = some (12, .ireturn, 13, []) := rfl
theorem k222_13 : mm_lk mm_m222.1 13 = some (13, .aload_n 0, 14, []) := rfl
theorem k222_14 : mm_lk mm_m222.1 14 = some (14, .aload_n 0, 15, []) := rfl
theorem k222_15 : mm_lk mm_m222.1 15 = some (15, .getfield 132, 18, [0, 14, 12, 1840]) := rfl
theorem k222_18 : mm_lk mm_m222.1 18 = some (18, .aload_n 0, 19, []) := rfl
theorem k222_19 : mm_lk mm_m222.1 19 = some (19, .getfield 135, 22, [0, 14, 13, 1841]) := rfl
theorem k222_22 : mm_lk mm_m222.1 22 = some (22, .iadd, 23, []) := rfl
theorem k222_23 : mm_lk mm_m222.1 23 = some (23, .putfield 126, 26, [0, 14, 11, 1839]) := rfl
theorem k222_26 : mm_lk mm_m222.1 26 = some (26, .aload_n 0, 27, []) := rfl
theorem k222_27 : mm_lk mm_m222.1 27 = some (27, .iconst 1, 28, []) := rfl
theorem k222_28 : mm_lk mm_m222.1 28 = some (28, .aload_n 0, 29, []) := rfl
theorem k222_29 : mm_lk mm_m222.1 29 = some (29, .invokevirtual 217, 32, [0, 225, 1, 14, 2047, 2049, 68, 151]) := rfl
theorem k222_32 : mm_lk mm_m222.1 32 = some (32, .iconst 0, 33, []) := rfl
theorem k222_33 : mm_lk mm_m222.1 33 = some (33, .invokevirtual 220, 36, [0, 219, 4, 14, 2063, 2065, 72, 151]) := rfl
theorem k222_36 : mm_lk mm_m222.1 36 = some (36, .ireturn, 37, []) := rfl
theorem k223_0 : mm_lk mm_m223.1 0 = some (0, .aload_n 0, 1, []) := rfl
theorem k223_1 : mm_lk mm_m223.1 1 = some (1, .aload_n 0, 2, []) := rfl
theorem k223_2 : mm_lk mm_m223.1 2 = some (2, .getfield 223, 5, [0, 14, 21, 1849]) := rfl
theorem k223_5 : mm_lk mm_m223.1 5 = some (5, .bipush 8, 7, []) := rfl
theorem k223_7 : mm_lk mm_m223.1 7 = some (7, .if_icmp .ge 7, 10, [14]) := rfl
theorem k223_10 : mm_lk mm_m223.1 10 = some (10, .iconst 1, 11, []) := rfl
theorem k223_11 : mm_lk mm_m223.1 11 = some (11, .goto 4, 14, [15]) := rfl
theorem k223_14 : mm_lk mm_m223.1 14 = some (14, .iconst 0, 15, []) := rfl
theorem k223_15 : mm_lk mm_m223.1 15 = some (15, .iconst 1, 16, []) := rfl
theorem k223_16 : mm_lk mm_m223.1 16 = some (16, .invokevirtual 166, 19, [0, 204, 3, 14, 1977, 1979, 53, 151]) := rfl
theorem k223_19 : mm_lk mm_m223.1 19 = some (19, .aload_n 0, 20, []) := rfl
theorem k223_20 : mm_lk mm_m223.1 20 = some (20, .getfield 142, 23, [0, 14, 14, 1842]) := rfl
theorem k223_23 : mm_lk mm_m223.1 23 = some (23, .ifCond .eq 5, 26, [28]) := rfl
theorem k223_26 : mm_lk mm_m223.1 26 = some (26, .iconst 0, 27, []) := rfl
theorem k223_27 : mm_lk mm_m223.1 27 = some (27, .ireturn, 28, []) := rfl
theorem k223_28 : mm_lk mm_m223.1 28 = some (28, .aload_n 0, 29, []) := rfl
theorem k223_29 : mm_lk mm_m223.1 29 = some (29, .dup, 30, []) := rfl
theorem k223_30 : mm_lk mm_m223.1 30 = some (30, .getfield 126, 33, [0, 14, 11, 1839]) := rfl
theorem k223_33 : mm_lk mm_m223.1 33 = some (33, .iconst 1, 34, []) := rfl
theorem k223_34 : mm_lk mm_m223.1 34 = some (34, .iadd, 35, []) := rfl
theorem k223_35 : mm_lk mm_m223.1 35 = some (35, .putfield 126, 38, [0, 14, 11, 1839]) := rfl
theorem k223_38 : mm_lk mm_m223.1 38 = some (38, .aload_n 0, 39, []) := rfl
theorem k223_39 : mm_lk mm_m223.1 39 = some (39, .dup, 40, []) := rfl
theorem k223_40 : mm_lk mm_m223.1 40 = some (40, .getfield 223, 43, [0, 14, 21, 1849]) := rfl
theorem k223_43 : mm_lk mm_m223.1 43 = some (43, .iconst 1, 44, []) := rfl
theorem k223_44 : mm_lk mm_m223.1 44 = some (44, .iadd, 45, []) := rfl
theorem k223_45 : mm_lk mm_m223.1 45 = some (45, .putfield 223, 48, [0, 14, 21, 1849]) := rfl
theorem k223_48 : mm_lk mm_m223.1 48 = some (48, .aload_n 0, 49, []) := rfl
theorem k223_49 : mm_lk mm_m223.1 49 = some (49, .invokevirtual 226, 52, [0, 227, 1, 14, 2039, 2041, 66, 151]) := rfl
theorem k223_52 : mm_lk mm_m223.1 52 = some (52, .istore_n 1, 53, []) := rfl
theorem k223_53 : mm_lk mm_m223.1 53 = some (53, .aload_n 0, 54, []) := rfl
theorem k223_54 : mm_lk mm_m223.1 54 = some (54, .dup, 55, []) := rfl
theorem k223_55 : mm_lk mm_m223.1 55 = some (55, .getfield 223, 58, [0, 14, 21, 1849]) := rfl
theorem k223_58 : mm_lk mm_m223.1 58 = some (58, .iconst 1, 59, []) := rfl
theorem k223_59 : mm_lk mm_m223.1 59 = some (59, .isub, 60, []) := rfl
theorem k223_60 : mm_lk mm_m223.1 60 = some (60, .putfield 223, 63, [0, 14, 21, 1849]) := rfl
theorem k223_63 : mm_lk mm_m223.1 63 = some (63, .aload_n 0, 64, []) := rfl
theorem k223_64 : mm_lk mm_m223.1 64 = some (64, .bipush 41, 66, []) := rfl
theorem k223_66 : mm_lk mm_m223.1 66 = some (66, .invokevirtual 229, 69, [0, 207, 2, 14, 2027, 2029, 63, 151]) := rfl
theorem k223_69 : mm_lk mm_m223.1 69 = some (69, .iload_n 1, 70, []) := rfl
theorem k223_70 : mm_lk mm_m223.1 70 = some (70, .ireturn, 71, []) := rfl
