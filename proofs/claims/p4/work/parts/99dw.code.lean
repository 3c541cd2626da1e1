/-! ===== code, row by row (by program) ===== -/

section K81
/-! ===== the law, row by row (by program) ===== -/
set_option maxRecDepth 100000 in
theorem KL23 : mm_lk mz_M.1 23 = some (23, .iload 4, 25, []) := rfl
set_option maxRecDepth 100000 in
theorem KL25 : mm_lk mz_M.1 25 = some (25, .aload_n 0, 26, []) := rfl
set_option maxRecDepth 100000 in
theorem KL26 : mm_lk mz_M.1 26 = some (26, .arraylength, 27, []) := rfl
set_option maxRecDepth 100000 in
theorem KL27 : mm_lk mz_M.1 27 = some (27, .bipush 6, 29, []) := rfl
set_option maxRecDepth 100000 in
theorem KL29 : mm_lk mz_M.1 29 = some (29, .isub, 30, []) := rfl
set_option maxRecDepth 100000 in
theorem KL30 : mm_lk mz_M.1 30 = some (30, .if_icmp .gt 1414, 33, [1444]) := rfl
set_option maxRecDepth 100000 in
theorem KL33 : mm_lk mz_M.1 33 = some (33, .aload_n 0, 34, []) := rfl
set_option maxRecDepth 100000 in
theorem KL34 : mm_lk mz_M.1 34 = some (34, .iload 4, 36, []) := rfl
set_option maxRecDepth 100000 in
theorem KL36 : mm_lk mz_M.1 36 = some (36, .iaload, 37, []) := rfl
set_option maxRecDepth 100000 in
theorem KL37 : mm_lk mz_M.1 37 = some (37, .bipush 63, 39, []) := rfl
set_option maxRecDepth 100000 in
theorem KL39 : mm_lk mz_M.1 39 = some (39, .iand, 40, []) := rfl
set_option maxRecDepth 100000 in
theorem KL40 : mm_lk mz_M.1 40 = some (40, .tableswitch 1398 0 47 #[208, 284, 312, 356, 372, 388, 401, 414, 442, 510, 538, 551, 591, 619, 647, 675, 715, 743, 756, 769, 782, 795, 808, 821, 861, 874, 887, 915, 943, 971, 984, 1012, 1052, 1080, 1093, 1110, 1125, 1138, 1166, 1194, 1234, 1262, 1290, 1318, 1331, 1356, 1369, 1382], 248, [1438, 248, 324, 352, 396, 412, 428, 441, 454, 482, 550, 578, 591, 631, 659, 687, 715, 755, 783, 796, 809, 822, 835, 848, 861, 901, 914, 927, 955, 983, 1011, 1024, 1052, 1092, 1120, 1133, 1150, 1165, 1178, 1206, 1234, 1274, 1302, 1330, 1358, 1371, 1396, 1409, 1422]) := rfl
set_option maxRecDepth 100000 in
theorem KL248 : mm_lk mz_M.1 248 = some (248, .aload_n 1, 249, []) := rfl
set_option maxRecDepth 100000 in
theorem KL249 : mm_lk mz_M.1 249 = some (249, .aload_n 0, 250, []) := rfl
set_option maxRecDepth 100000 in
theorem KL250 : mm_lk mz_M.1 250 = some (250, .iload 4, 252, []) := rfl
set_option maxRecDepth 100000 in
theorem KL252 : mm_lk mz_M.1 252 = some (252, .iconst 1, 253, []) := rfl
set_option maxRecDepth 100000 in
theorem KL253 : mm_lk mz_M.1 253 = some (253, .iadd, 254, []) := rfl
set_option maxRecDepth 100000 in
theorem KL254 : mm_lk mz_M.1 254 = some (254, .iaload, 255, []) := rfl
set_option maxRecDepth 100000 in
theorem KL255 : mm_lk mz_M.1 255 = some (255, .aload_n 0, 256, []) := rfl
set_option maxRecDepth 100000 in
theorem KL256 : mm_lk mz_M.1 256 = some (256, .iload 4, 258, []) := rfl
set_option maxRecDepth 100000 in
theorem KL258 : mm_lk mz_M.1 258 = some (258, .iconst 2, 259, []) := rfl
set_option maxRecDepth 100000 in
theorem KL259 : mm_lk mz_M.1 259 = some (259, .iadd, 260, []) := rfl
set_option maxRecDepth 100000 in
theorem KL260 : mm_lk mz_M.1 260 = some (260, .iaload, 261, []) := rfl
set_option maxRecDepth 100000 in
theorem KL261 : mm_lk mz_M.1 261 = some (261, .aload_n 0, 262, []) := rfl
set_option maxRecDepth 100000 in
theorem KL262 : mm_lk mz_M.1 262 = some (262, .iload 4, 264, []) := rfl
set_option maxRecDepth 100000 in
theorem KL264 : mm_lk mz_M.1 264 = some (264, .iconst 3, 265, []) := rfl
set_option maxRecDepth 100000 in
theorem KL265 : mm_lk mz_M.1 265 = some (265, .iadd, 266, []) := rfl
set_option maxRecDepth 100000 in
theorem KL266 : mm_lk mz_M.1 266 = some (266, .iaload, 267, []) := rfl
set_option maxRecDepth 100000 in
theorem KL267 : mm_lk mz_M.1 267 = some (267, .aload_n 0, 268, []) := rfl
set_option maxRecDepth 100000 in
theorem KL268 : mm_lk mz_M.1 268 = some (268, .iload 4, 270, []) := rfl
set_option maxRecDepth 100000 in
theorem KL270 : mm_lk mz_M.1 270 = some (270, .iconst 4, 271, []) := rfl
set_option maxRecDepth 100000 in
theorem KL271 : mm_lk mz_M.1 271 = some (271, .iadd, 272, []) := rfl
set_option maxRecDepth 100000 in
theorem KL272 : mm_lk mz_M.1 272 = some (272, .iaload, 273, []) := rfl
set_option maxRecDepth 100000 in
theorem KL273 : mm_lk mz_M.1 273 = some (273, .aload_n 0, 274, []) := rfl
set_option maxRecDepth 100000 in
theorem KL274 : mm_lk mz_M.1 274 = some (274, .iload 4, 276, []) := rfl
set_option maxRecDepth 100000 in
theorem KL276 : mm_lk mz_M.1 276 = some (276, .iconst 5, 277, []) := rfl
set_option maxRecDepth 100000 in
theorem KL277 : mm_lk mz_M.1 277 = some (277, .iadd, 278, []) := rfl
set_option maxRecDepth 100000 in
theorem KL278 : mm_lk mz_M.1 278 = some (278, .iaload, 279, []) := rfl
set_option maxRecDepth 100000 in
theorem KL279 : mm_lk mz_M.1 279 = some (279, .aload_n 3, 280, []) := rfl
set_option maxRecDepth 100000 in
theorem KL280 : mm_lk mz_M.1 280 = some (280, .invokestatic 109, 283, [8, 314, 7, 1439, 1440, 131]) := rfl
set_option maxRecDepth 100000 in
theorem KL283 : mm_lk mz_M.1 283 = some (283, .istore 5, 285, []) := rfl
set_option maxRecDepth 100000 in
theorem KL285 : mm_lk mz_M.1 285 = some (285, .aload_n 2, 286, []) := rfl
set_option maxRecDepth 100000 in
theorem KL286 : mm_lk mz_M.1 286 = some (286, .aload_n 0, 287, []) := rfl
set_option maxRecDepth 100000 in
theorem KL287 : mm_lk mz_M.1 287 = some (287, .iload 4, 289, []) := rfl
set_option maxRecDepth 100000 in
theorem KL289 : mm_lk mz_M.1 289 = some (289, .iconst 1, 290, []) := rfl
set_option maxRecDepth 100000 in
theorem KL290 : mm_lk mz_M.1 290 = some (290, .iadd, 291, []) := rfl
set_option maxRecDepth 100000 in
theorem KL291 : mm_lk mz_M.1 291 = some (291, .iaload, 292, []) := rfl
set_option maxRecDepth 100000 in
theorem KL292 : mm_lk mz_M.1 292 = some (292, .aload_n 0, 293, []) := rfl
set_option maxRecDepth 100000 in
theorem KL293 : mm_lk mz_M.1 293 = some (293, .iload 4, 295, []) := rfl
set_option maxRecDepth 100000 in
theorem KL295 : mm_lk mz_M.1 295 = some (295, .iconst 2, 296, []) := rfl
set_option maxRecDepth 100000 in
theorem KL296 : mm_lk mz_M.1 296 = some (296, .iadd, 297, []) := rfl
set_option maxRecDepth 100000 in
theorem KL297 : mm_lk mz_M.1 297 = some (297, .iaload, 298, []) := rfl
set_option maxRecDepth 100000 in
theorem KL298 : mm_lk mz_M.1 298 = some (298, .aload_n 0, 299, []) := rfl
set_option maxRecDepth 100000 in
theorem KL299 : mm_lk mz_M.1 299 = some (299, .iload 4, 301, []) := rfl
set_option maxRecDepth 100000 in
theorem KL301 : mm_lk mz_M.1 301 = some (301, .iconst 3, 302, []) := rfl
set_option maxRecDepth 100000 in
theorem KL302 : mm_lk mz_M.1 302 = some (302, .iadd, 303, []) := rfl
set_option maxRecDepth 100000 in
theorem KL303 : mm_lk mz_M.1 303 = some (303, .iaload, 304, []) := rfl
set_option maxRecDepth 100000 in
theorem KL304 : mm_lk mz_M.1 304 = some (304, .aload_n 0, 305, []) := rfl
set_option maxRecDepth 100000 in
theorem KL305 : mm_lk mz_M.1 305 = some (305, .iload 4, 307, []) := rfl
set_option maxRecDepth 100000 in
theorem KL307 : mm_lk mz_M.1 307 = some (307, .iconst 4, 308, []) := rfl
set_option maxRecDepth 100000 in
theorem KL308 : mm_lk mz_M.1 308 = some (308, .iadd, 309, []) := rfl
set_option maxRecDepth 100000 in
theorem KL309 : mm_lk mz_M.1 309 = some (309, .iaload, 310, []) := rfl
set_option maxRecDepth 100000 in
theorem KL310 : mm_lk mz_M.1 310 = some (310, .aload_n 0, 311, []) := rfl
set_option maxRecDepth 100000 in
theorem KL311 : mm_lk mz_M.1 311 = some (311, .iload 4, 313, []) := rfl
set_option maxRecDepth 100000 in
theorem KL313 : mm_lk mz_M.1 313 = some (313, .iconst 5, 314, []) := rfl
set_option maxRecDepth 100000 in
theorem KL314 : mm_lk mz_M.1 314 = some (314, .iadd, 315, []) := rfl
set_option maxRecDepth 100000 in
theorem KL315 : mm_lk mz_M.1 315 = some (315, .iaload, 316, []) := rfl
set_option maxRecDepth 100000 in
theorem KL316 : mm_lk mz_M.1 316 = some (316, .invokevirtual 114, 319, [0, 199, 6, 14, 1914, 1915, 1916, 151]) := rfl
set_option maxRecDepth 100000 in
theorem KL319 : mm_lk mz_M.1 319 = some (319, .istore 6, 321, []) := rfl
set_option maxRecDepth 100000 in
theorem KL321 : mm_lk mz_M.1 321 = some (321, .goto 1117, 324, [1438]) := rfl
set_option maxRecDepth 100000 in
theorem KL324 : mm_lk mz_M.1 324 = some (324, .aload_n 1, 325, []) := rfl
set_option maxRecDepth 100000 in
theorem KL325 : mm_lk mz_M.1 325 = some (325, .aload_n 0, 326, []) := rfl
set_option maxRecDepth 100000 in
theorem KL326 : mm_lk mz_M.1 326 = some (326, .iload 4, 328, []) := rfl
set_option maxRecDepth 100000 in
theorem KL328 : mm_lk mz_M.1 328 = some (328, .iconst 1, 329, []) := rfl
set_option maxRecDepth 100000 in
theorem KL329 : mm_lk mz_M.1 329 = some (329, .iadd, 330, []) := rfl
set_option maxRecDepth 100000 in
theorem KL330 : mm_lk mz_M.1 330 = some (330, .iaload, 331, []) := rfl
set_option maxRecDepth 100000 in
theorem KL331 : mm_lk mz_M.1 331 = some (331, .aload_n 3, 332, []) := rfl
set_option maxRecDepth 100000 in
theorem KL332 : mm_lk mz_M.1 332 = some (332, .invokestatic 115, 335, [8, 315, 3, 1472, 1473, 131]) := rfl
set_option maxRecDepth 100000 in
theorem KL335 : mm_lk mz_M.1 335 = some (335, .istore 5, 337, []) := rfl
set_option maxRecDepth 100000 in
theorem KL337 : mm_lk mz_M.1 337 = some (337, .aload_n 2, 338, []) := rfl
set_option maxRecDepth 100000 in
theorem KL338 : mm_lk mz_M.1 338 = some (338, .aload_n 0, 339, []) := rfl
set_option maxRecDepth 100000 in
theorem KL339 : mm_lk mz_M.1 339 = some (339, .iload 4, 341, []) := rfl
set_option maxRecDepth 100000 in
theorem KL341 : mm_lk mz_M.1 341 = some (341, .iconst 1, 342, []) := rfl
set_option maxRecDepth 100000 in
theorem KL342 : mm_lk mz_M.1 342 = some (342, .iadd, 343, []) := rfl
set_option maxRecDepth 100000 in
theorem KL343 : mm_lk mz_M.1 343 = some (343, .iaload, 344, []) := rfl
set_option maxRecDepth 100000 in
theorem KL344 : mm_lk mz_M.1 344 = some (344, .invokevirtual 118, 347, [0, 200, 2, 14, 1926, 1927, 1928, 151]) := rfl
set_option maxRecDepth 100000 in
theorem KL347 : mm_lk mz_M.1 347 = some (347, .istore 6, 349, []) := rfl
set_option maxRecDepth 100000 in
theorem KL349 : mm_lk mz_M.1 349 = some (349, .goto 1089, 352, [1438]) := rfl
set_option maxRecDepth 100000 in
theorem KL1438 : mm_lk mz_M.1 1438 = some (1438, .iinc 4 6, 1441, []) := rfl
set_option maxRecDepth 100000 in
theorem KL1441 : mm_lk mz_M.1 1441 = some (1441, .goto (-1418), 1444, [23]) := rfl
set_option maxRecDepth 100000 in
theorem KL1444 : mm_lk mz_M.1 1444 = some (1444, .iconst 1, 1445, []) := rfl
set_option maxRecDepth 100000 in
theorem KL1445 : mm_lk mz_M.1 1445 = some (1445, .ireturn, 1446, []) := rfl
end K81
