/-! ===== code, row by row (by program) ===== -/
/-- WhoKnowsLaw.append(LWhoKnows;IIIII[J)I -/
def mm_m314 : mm_M := (mm_c314, 8, 1, [(0, 16, 22, 7, 17)])
set_option maxRecDepth 20000 in
theorem P314 : mm_P 314 = some mm_m314 := rfl
/-- WhoKnowsLaw.truncate(LWhoKnows;I[J)I -/
def mm_m315 : mm_M := (mm_c315, 4, 1, [(0, 9, 14, 3, 15)])
set_option maxRecDepth 20000 in
theorem P315 : mm_P 315 = some mm_m315 := rfl
/-- WhoKnowsLaw.readText(LWhoKnows;[J)I -/
def mm_m316 : mm_M := (mm_c316, 3, 1, [(0, 8, 13, 2, 15)])
set_option maxRecDepth 20000 in
theorem P316 : mm_P 316 = some mm_m316 := rfl
/-- WhoKnowsLaw.runOrders(LWhoKnows;[J)I -/
def mm_m317 : mm_M := (mm_c317, 3, 1, [(0, 8, 13, 2, 15)])
set_option maxRecDepth 20000 in
theorem P317 : mm_P 317 = some mm_m317 := rfl
/-- WhoKnowsLaw.ask(LWhoKnows;[J)I -/
def mm_m318 : mm_M := (mm_c318, 3, 1, [(0, 8, 13, 2, 15)])
set_option maxRecDepth 20000 in
theorem P318 : mm_P 318 = some mm_m318 := rfl
/-- WhoKnowsLaw.size(LWhoKnows;I[J)I -/
def mm_m319 : mm_M := (mm_c319, 4, 1, [(0, 9, 14, 3, 15)])
set_option maxRecDepth 20000 in
theorem P319 : mm_P 319 = some mm_m319 := rfl
/-- WhoKnowsLaw.letter(LWhoKnows;ZII[J)I -/
def mm_m320 : mm_M := (mm_c320, 6, 1, [(0, 12, 18, 5, 16)])
set_option maxRecDepth 20000 in
theorem P320 : mm_P 320 = some mm_m320 := rfl
/-- WhoKnowsLaw.sees(LWhoKnows;I[J)I -/
def mm_m321 : mm_M := (mm_c321, 4, 1, [(0, 9, 14, 3, 16)])
set_option maxRecDepth 20000 in
theorem P321 : mm_P 321 = some mm_m321 := rfl
/-- WhoKnowsLaw.alike(LWhoKnows;II[J)I -/
def mm_m322 : mm_M := (mm_c322, 5, 1, [(0, 10, 16, 4, 16)])
set_option maxRecDepth 20000 in
theorem P322 : mm_P 322 = some mm_m322 := rfl
/-- WhoKnowsLaw.kinds(LWhoKnows;I[J)I -/
def mm_m323 : mm_M := (mm_c323, 4, 1, [(0, 9, 14, 3, 16)])
set_option maxRecDepth 20000 in
theorem P323 : mm_P 323 = some mm_m323 := rfl
/-- WhoKnowsLaw.doubts(LWhoKnows;I[J)I -/
def mm_m324 : mm_M := (mm_c324, 4, 1, [(0, 9, 14, 3, 16)])
set_option maxRecDepth 20000 in
theorem P324 : mm_P 324 = some mm_m324 := rfl
/-- WhoKnowsLaw.reach(LWhoKnows;I[J)I -/
def mm_m325 : mm_M := (mm_c325, 4, 1, [(0, 9, 14, 3, 16)])
set_option maxRecDepth 20000 in
theorem P325 : mm_P 325 = some mm_m325 := rfl
/-- WhoKnowsLaw.steps(LWhoKnows;II[J)I -/
def mm_m326 : mm_M := (mm_c326, 5, 1, [(0, 10, 16, 4, 16)])
set_option maxRecDepth 20000 in
theorem P326 : mm_P 326 = some mm_m326 := rfl
/-- WhoKnowsLaw.holds(LWhoKnows;I[J)I -/
def mm_m327 : mm_M := (mm_c327, 4, 1, [(0, 16, 21, 3, 16)])
set_option maxRecDepth 20000 in
theorem P327 : mm_P 327 = some mm_m327 := rfl
/-- WhoKnowsLaw.knowsFact(LWhoKnows;II[J)I -/
def mm_m328 : mm_M := (mm_c328, 5, 1, [(0, 10, 16, 4, 16)])
set_option maxRecDepth 20000 in
theorem P328 : mm_P 328 = some mm_m328 := rfl
/-- WhoKnowsLaw.wouldSay(LWhoKnows;I[J)I -/
def mm_m329 : mm_M := (mm_c329, 4, 1, [(0, 9, 14, 3, 16)])
set_option maxRecDepth 20000 in
theorem P329 : mm_P 329 = some mm_m329 := rfl
/-- WhoKnowsLaw.wouldKnow(LWhoKnows;I[J)I -/
def mm_m330 : mm_M := (mm_c330, 4, 1, [(0, 9, 14, 3, 15)])
set_option maxRecDepth 20000 in
theorem P330 : mm_P 330 = some mm_m330 := rfl
/-- WhoKnowsLaw.roundsTo(LWhoKnows;I[J)I -/
def mm_m331 : mm_M := (mm_c331, 4, 1, [(0, 9, 14, 3, 16)])
set_option maxRecDepth 20000 in
theorem P331 : mm_P 331 = some mm_m331 := rfl
/-- WhoKnowsLaw.leastShown(LWhoKnows;I[J)I -/
def mm_m332 : mm_M := (mm_c332, 4, 1, [(0, 9, 14, 3, 16)])
set_option maxRecDepth 20000 in
theorem P332 : mm_P 332 = some mm_m332 := rfl
/-- WhoKnowsLaw.log(LWhoKnows;II[J)I -/
def mm_m333 : mm_M := (mm_c333, 5, 1, [(0, 10, 16, 4, 15)])
set_option maxRecDepth 20000 in
theorem P333 : mm_P 333 = some mm_m333 := rfl
/-- WhoKnowsLaw.account(LWhoKnows;I[J)I -/
def mm_m334 : mm_M := (mm_c334, 4, 1, [(0, 9, 14, 3, 15)])
set_option maxRecDepth 20000 in
theorem P334 : mm_P 334 = some mm_m334 := rfl
/-- WhoKnowsLaw.say(LWhoKnows;I[J)I -/
def mm_m335 : mm_M := (mm_c335, 4, 1, [(0, 9, 14, 3, 16)])
set_option maxRecDepth 20000 in
theorem P335 : mm_P 335 = some mm_m335 := rfl
/-- WhoKnowsLaw.whisper(LWhoKnows;I[J)I -/
def mm_m336 : mm_M := (mm_c336, 4, 1, [(0, 9, 14, 3, 15)])
set_option maxRecDepth 20000 in
theorem P336 : mm_P 336 = some mm_m336 := rfl
/-- WhoKnowsLaw.show(LWhoKnows;II[J)I -/
def mm_m337 : mm_M := (mm_c337, 5, 1, [(0, 10, 16, 4, 16)])
set_option maxRecDepth 20000 in
theorem P337 : mm_P 337 = some mm_m337 := rfl
/-- WhoKnowsLaw.round(LWhoKnows;I[J)I -/
def mm_m338 : mm_M := (mm_c338, 4, 1, [(0, 9, 14, 3, 16)])
set_option maxRecDepth 20000 in
theorem P338 : mm_P 338 = some mm_m338 := rfl
/-- WhoKnowsLaw.writeWorld(LWhoKnows;I[J)I -/
def mm_m339 : mm_M := (mm_c339, 4, 1, [(0, 9, 14, 3, 16)])
set_option maxRecDepth 20000 in
theorem P339 : mm_P 339 = some mm_m339 := rfl
/-- WhoKnowsLaw.writeKinds(LWhoKnows;I[J)I -/
def mm_m340 : mm_M := (mm_c340, 4, 1, [(0, 9, 14, 3, 16)])
set_option maxRecDepth 20000 in
theorem P340 : mm_P 340 = some mm_m340 := rfl
/-- WhoKnowsLaw.restore(LWhoKnows;[J)I -/
def mm_m341 : mm_M := (mm_c341, 3, 1, [(0, 8, 13, 2, 17)])
set_option maxRecDepth 20000 in
theorem P341 : mm_P 341 = some mm_m341 := rfl
theorem k314_0 : mm_lk mm_m314.1 0 = some (0, .aload 6, 2, []) := rfl
theorem k314_2 : mm_lk mm_m314.1 2 = some (2, .iconst 0, 3, []) := rfl
theorem k314_3 : mm_lk mm_m314.1 3 = some (3, .aload_n 0, 4, []) := rfl
theorem k314_4 : mm_lk mm_m314.1 4 = some (4, .iload_n 1, 5, []) := rfl
theorem k314_5 : mm_lk mm_m314.1 5 = some (5, .iload_n 2, 6, []) := rfl
theorem k314_6 : mm_lk mm_m314.1 6 = some (6, .iload_n 3, 7, []) := rfl
theorem k314_7 : mm_lk mm_m314.1 7 = some (7, .iload 4, 9, []) := rfl
theorem k314_9 : mm_lk mm_m314.1 9 = some (9, .iload 5, 11, []) := rfl
theorem k314_11 : mm_lk mm_m314.1 11 = some (11, .invokevirtual 7, 14, [0, 98, 6, 13, 1443, 1444, 1445, 132]) := rfl
theorem k314_14 : mm_lk mm_m314.1 14 = some (14, .i2l, 15, []) := rfl
theorem k314_15 : mm_lk mm_m314.1 15 = some (15, .lastore, 16, []) := rfl
theorem k314_16 : mm_lk mm_m314.1 16 = some (16, .goto 7, 19, [23]) := rfl
theorem k314_23 : mm_lk mm_m314.1 23 = some (23, .iconst 0, 24, []) := rfl
theorem k314_24 : mm_lk mm_m314.1 24 = some (24, .ireturn, 25, []) := rfl
theorem k315_0 : mm_lk mm_m315.1 0 = some (0, .aload_n 2, 1, []) := rfl
theorem k315_1 : mm_lk mm_m315.1 1 = some (1, .iconst 0, 2, []) := rfl
theorem k315_2 : mm_lk mm_m315.1 2 = some (2, .aload_n 0, 3, []) := rfl
theorem k315_3 : mm_lk mm_m315.1 3 = some (3, .iload_n 1, 4, []) := rfl
theorem k315_4 : mm_lk mm_m315.1 4 = some (4, .invokevirtual 15, 7, [0, 99, 2, 13, 1476, 1477, 1478, 132]) := rfl
theorem k315_7 : mm_lk mm_m315.1 7 = some (7, .i2l, 8, []) := rfl
theorem k315_8 : mm_lk mm_m315.1 8 = some (8, .lastore, 9, []) := rfl
theorem k315_9 : mm_lk mm_m315.1 9 = some (9, .goto 6, 12, [15]) := rfl
theorem k315_15 : mm_lk mm_m315.1 15 = some (15, .iconst 0, 16, []) := rfl
theorem k315_16 : mm_lk mm_m315.1 16 = some (16, .ireturn, 17, []) := rfl
theorem k316_0 : mm_lk mm_m316.1 0 = some (0, .aload_n 1, 1, []) := rfl
theorem k316_1 : mm_lk mm_m316.1 1 = some (1, .iconst 0, 2, []) := rfl
theorem k316_2 : mm_lk mm_m316.1 2 = some (2, .aload_n 0, 3, []) := rfl
theorem k316_3 : mm_lk mm_m316.1 3 = some (3, .invokevirtual 21, 6, [0, 100, 1, 13, 1488, 1489, 1490, 132]) := rfl
theorem k316_6 : mm_lk mm_m316.1 6 = some (6, .i2l, 7, []) := rfl
theorem k316_7 : mm_lk mm_m316.1 7 = some (7, .lastore, 8, []) := rfl
theorem k316_8 : mm_lk mm_m316.1 8 = some (8, .goto 6, 11, [14]) := rfl
theorem k316_14 : mm_lk mm_m316.1 14 = some (14, .iconst 0, 15, []) := rfl
theorem k316_15 : mm_lk mm_m316.1 15 = some (15, .ireturn, 16, []) := rfl
theorem k317_0 : mm_lk mm_m317.1 0 = some (0, .aload_n 1, 1, []) := rfl
theorem k317_1 : mm_lk mm_m317.1 1 = some (1, .iconst 0, 2, []) := rfl
theorem k317_2 : mm_lk mm_m317.1 2 = some (2, .aload_n 0, 3, []) := rfl
theorem k317_3 : mm_lk mm_m317.1 3 = some (3, .invokevirtual 25, 6, [0, 101, 1, 13, 1499, 1500, 1501, 132]) := rfl
theorem k317_6 : mm_lk mm_m317.1 6 = some (6, .i2l, 7, []) := rfl
theorem k317_7 : mm_lk mm_m317.1 7 = some (7, .lastore, 8, []) := rfl
theorem k317_8 : mm_lk mm_m317.1 8 = some (8, .goto 6, 11, [14]) := rfl
theorem k317_14 : mm_lk mm_m317.1 14 = some (14, .iconst 0, 15, []) := rfl
theorem k317_15 : mm_lk mm_m317.1 15 = some (15, .ireturn, 16, []) := rfl
theorem k318_0 : mm_lk mm_m318.1 0 = some (0, .aload_n 1, 1, []) := rfl
theorem k318_1 : mm_lk mm_m318.1 1 = some (1, .iconst 0, 2, []) := rfl
theorem k318_2 : mm_lk mm_m318.1 2 = some (2, .aload_n 0, 3, []) := rfl
theorem k318_3 : mm_lk mm_m318.1 3 = some (3, .invokevirtual 28, 6, [0, 102, 1, 13, 1572, 1573, 1574, 132]) := rfl
theorem k318_6 : mm_lk mm_m318.1 6 = some (6, .i2l, 7, []) := rfl
theorem k318_7 : mm_lk mm_m318.1 7 = some (7, .lastore, 8, []) := rfl
theorem k318_8 : mm_lk mm_m318.1 8 = some (8, .goto 6, 11, [14]) := rfl
theorem k318_14 : mm_lk mm_m318.1 14 = some (14, .iconst 0, 15, []) := rfl
theorem k318_15 : mm_lk mm_m318.1 15 = some (15, .ireturn, 16, []) := rfl
theorem k319_0 : mm_lk mm_m319.1 0 = some (0, .aload_n 2, 1, []) := rfl
theorem k319_1 : mm_lk mm_m319.1 1 = some (1, .iconst 0, 2, []) := rfl
theorem k319_2 : mm_lk mm_m319.1 2 = some (2, .aload_n 0, 3, []) := rfl
theorem k319_3 : mm_lk mm_m319.1 3 = some (3, .iload_n 1, 4, []) := rfl
theorem k319_4 : mm_lk mm_m319.1 4 = some (4, .invokevirtual 31, 7, [0, 105, 2, 13, 1583, 1584, 1585, 132]) := rfl
theorem k319_7 : mm_lk mm_m319.1 7 = some (7, .i2l, 8, []) := rfl
theorem k319_8 : mm_lk mm_m319.1 8 = some (8, .lastore, 9, []) := rfl
theorem k319_9 : mm_lk mm_m319.1 9 = some (9, .goto 6, 12, [15]) := rfl
theorem k319_15 : mm_lk mm_m319.1 15 = some (15, .iconst 0, 16, []) := rfl
theorem k319_16 : mm_lk mm_m319.1 16 = some (16, .ireturn, 17, []) := rfl
theorem k320_0 : mm_lk mm_m320.1 0 = some (0, .aload 4, 2, []) := rfl
theorem k320_2 : mm_lk mm_m320.1 2 = some (2, .iconst 0, 3, []) := rfl
theorem k320_3 : mm_lk mm_m320.1 3 = some (3, .aload_n 0, 4, []) := rfl
theorem k320_4 : mm_lk mm_m320.1 4 = some (4, .iload_n 1, 5, []) := rfl
theorem k320_5 : mm_lk mm_m320.1 5 = some (5, .iload_n 2, 6, []) := rfl
theorem k320_6 : mm_lk mm_m320.1 6 = some (6, .iload_n 3, 7, []) := rfl
theorem k320_7 : mm_lk mm_m320.1 7 = some (7, .invokevirtual 34, 10, [0, 106, 4, 13, 1596, 1597, 1598, 132]) := rfl
theorem k320_10 : mm_lk mm_m320.1 10 = some (10, .i2l, 11, []) := rfl
theorem k320_11 : mm_lk mm_m320.1 11 = some (11, .lastore, 12, []) := rfl
theorem k320_12 : mm_lk mm_m320.1 12 = some (12, .goto 7, 15, [19]) := rfl
theorem k320_19 : mm_lk mm_m320.1 19 = some (19, .iconst 0, 20, []) := rfl
theorem k320_20 : mm_lk mm_m320.1 20 = some (20, .ireturn, 21, []) := rfl
theorem k321_0 : mm_lk mm_m321.1 0 = some (0, .aload_n 2, 1, []) := rfl
theorem k321_1 : mm_lk mm_m321.1 1 = some (1, .iconst 0, 2, []) := rfl
theorem k321_2 : mm_lk mm_m321.1 2 = some (2, .aload_n 0, 3, []) := rfl
theorem k321_3 : mm_lk mm_m321.1 3 = some (3, .iload_n 1, 4, []) := rfl
theorem k321_4 : mm_lk mm_m321.1 4 = some (4, .invokevirtual 40, 7, [0, 107, 2, 13, 1619, 1620, 1621, 132]) := rfl
theorem k321_7 : mm_lk mm_m321.1 7 = some (7, .i2l, 8, []) := rfl
theorem k321_8 : mm_lk mm_m321.1 8 = some (8, .lastore, 9, []) := rfl
theorem k321_9 : mm_lk mm_m321.1 9 = some (9, .goto 6, 12, [15]) := rfl
theorem k321_15 : mm_lk mm_m321.1 15 = some (15, .iconst 0, 16, []) := rfl
theorem k321_16 : mm_lk mm_m321.1 16 = some (16, .ireturn, 17, []) := rfl
theorem k322_0 : mm_lk mm_m322.1 0 = some (0, .aload_n 3, 1, []) := rfl
theorem k322_1 : mm_lk mm_m322.1 1 = some (1, .iconst 0, 2, []) := rfl
theorem k322_2 : mm_lk mm_m322.1 2 = some (2, .aload_n 0, 3, []) := rfl
theorem k322_3 : mm_lk mm_m322.1 3 = some (3, .iload_n 1, 4, []) := rfl
theorem k322_4 : mm_lk mm_m322.1 4 = some (4, .iload_n 2, 5, []) := rfl
theorem k322_5 : mm_lk mm_m322.1 5 = some (5, .invokevirtual 43, 8, [0, 109, 3, 13, 1630, 1631, 1632, 132]) := rfl
theorem k322_8 : mm_lk mm_m322.1 8 = some (8, .i2l, 9, []) := rfl
theorem k322_9 : mm_lk mm_m322.1 9 = some (9, .lastore, 10, []) := rfl
theorem k322_10 : mm_lk mm_m322.1 10 = some (10, .goto 7, 13, [17]) := rfl
theorem k322_17 : mm_lk mm_m322.1 17 = some (17, .iconst 0, 18, []) := rfl
theorem k322_18 : mm_lk mm_m322.1 18 = some (18, .ireturn, 19, []) := rfl
theorem k323_0 : mm_lk mm_m323.1 0 = some (0, .aload_n 2, 1, []) := rfl
theorem k323_1 : mm_lk mm_m323.1 1 = some (1, .iconst 0, 2, []) := rfl
theorem k323_2 : mm_lk mm_m323.1 2 = some (2, .aload_n 0, 3, []) := rfl
theorem k323_3 : mm_lk mm_m323.1 3 = some (3, .iload_n 1, 4, []) := rfl
theorem k323_4 : mm_lk mm_m323.1 4 = some (4, .invokevirtual 47, 7, [0, 110, 2, 13, 1642, 1643, 1644, 132]) := rfl
theorem k323_7 : mm_lk mm_m323.1 7 = some (7, .i2l, 8, []) := rfl
theorem k323_8 : mm_lk mm_m323.1 8 = some (8, .lastore, 9, []) := rfl
theorem k323_9 : mm_lk mm_m323.1 9 = some (9, .goto 6, 12, [15]) := rfl
theorem k323_15 : mm_lk mm_m323.1 15 = some (15, .iconst 0, 16, []) := rfl
theorem k323_16 : mm_lk mm_m323.1 16 = some (16, .ireturn, 17, []) := rfl
theorem k324_0 : mm_lk mm_m324.1 0 = some (0, .aload_n 2, 1, []) := rfl
theorem k324_1 : mm_lk mm_m324.1 1 = some (1, .iconst 0, 2, []) := rfl
theorem k324_2 : mm_lk mm_m324.1 2 = some (2, .aload_n 0, 3, []) := rfl
theorem k324_3 : mm_lk mm_m324.1 3 = some (3, .iload_n 1, 4, []) := rfl
theorem k324_4 : mm_lk mm_m324.1 4 = some (4, .invokevirtual 50, 7, [0, 111, 2, 13, 1654, 1655, 1656, 132]) := rfl
theorem k324_7 : mm_lk mm_m324.1 7 = some (7, .i2l, 8, []) := rfl
theorem k324_8 : mm_lk mm_m324.1 8 = some (8, .lastore, 9, []) := rfl
theorem k324_9 : mm_lk mm_m324.1 9 = some (9, .goto 6, 12, [15]) := rfl
theorem k324_15 : mm_lk mm_m324.1 15 = some (15, .iconst 0, 16, []) := rfl
theorem k324_16 : mm_lk mm_m324.1 16 = some (16, .ireturn, 17, []) := rfl
theorem k325_0 : mm_lk mm_m325.1 0 = some (0, .aload_n 2, 1, []) := rfl
theorem k325_1 : mm_lk mm_m325.1 1 = some (1, .iconst 0, 2, []) := rfl
theorem k325_2 : mm_lk mm_m325.1 2 = some (2, .aload_n 0, 3, []) := rfl
theorem k325_3 : mm_lk mm_m325.1 3 = some (3, .iload_n 1, 4, []) := rfl
theorem k325_4 : mm_lk mm_m325.1 4 = some (4, .invokevirtual 53, 7, [0, 112, 2, 13, 1661, 1662, 1663, 132]) := rfl
theorem k325_7 : mm_lk mm_m325.1 7 = some (7, .i2l, 8, []) := rfl
theorem k325_8 : mm_lk mm_m325.1 8 = some (8, .lastore, 9, []) := rfl
theorem k325_9 : mm_lk mm_m325.1 9 = some (9, .goto 6, 12, [15]) := rfl
theorem k325_15 : mm_lk mm_m325.1 15 = some (15, .iconst 0, 16, []) := rfl
theorem k325_16 : mm_lk mm_m325.1 16 = some (16, .ireturn, 17, []) := rfl
theorem k326_0 : mm_lk mm_m326.1 0 = some (0, .aload_n 3, 1, []) := rfl
theorem k326_1 : mm_lk mm_m326.1 1 = some (1, .iconst 0, 2, []) := rfl
theorem k326_2 : mm_lk mm_m326.1 2 = some (2, .aload_n 0, 3, []) := rfl
theorem k326_3 : mm_lk mm_m326.1 3 = some (3, .iload_n 1, 4, []) := rfl
theorem k326_4 : mm_lk mm_m326.1 4 = some (4, .iload_n 2, 5, []) := rfl
theorem k326_5 : mm_lk mm_m326.1 5 = some (5, .invokevirtual 56, 8, [0, 113, 3, 13, 1668, 1669, 1670, 132]) := rfl
theorem k326_8 : mm_lk mm_m326.1 8 = some (8, .i2l, 9, []) := rfl
theorem k326_9 : mm_lk mm_m326.1 9 = some (9, .lastore, 10, []) := rfl
theorem k326_10 : mm_lk mm_m326.1 10 = some (10, .goto 7, 13, [17]) := rfl
theorem k326_17 : mm_lk mm_m326.1 17 = some (17, .iconst 0, 18, []) := rfl
theorem k326_18 : mm_lk mm_m326.1 18 = some (18, .ireturn, 19, []) := rfl
theorem k327_0 : mm_lk mm_m327.1 0 = some (0, .aload_n 2, 1, []) := rfl
theorem k327_1 : mm_lk mm_m327.1 1 = some (1, .iconst 0, 2, []) := rfl
theorem k327_2 : mm_lk mm_m327.1 2 = some (2, .aload_n 0, 3, []) := rfl
theorem k327_3 : mm_lk mm_m327.1 3 = some (3, .iload_n 1, 4, []) := rfl
theorem k327_4 : mm_lk mm_m327.1 4 = some (4, .invokevirtual 59, 7, [0, 114, 2, 13, 1679, 1680, 1681, 132]) := rfl
theorem k327_7 : mm_lk mm_m327.1 7 = some (7, .ifCond .eq 7, 10, [14]) := rfl
theorem k327_10 : mm_lk mm_m327.1 10 = some (10, .lconst 1, 11, []) := rfl
theorem k327_11 : mm_lk mm_m327.1 11 = some (11, .goto 4, 14, [15]) := rfl
theorem k327_14 : mm_lk mm_m327.1 14 = some (14, .lconst 0, 15, []) := rfl
theorem k327_15 : mm_lk mm_m327.1 15 = some (15, .lastore, 16, []) := rfl
theorem k327_16 : mm_lk mm_m327.1 16 = some (16, .goto 6, 19, [22]) := rfl
theorem k327_22 : mm_lk mm_m327.1 22 = some (22, .iconst 0, 23, []) := rfl
theorem k327_23 : mm_lk mm_m327.1 23 = some (23, .ireturn, 24, []) := rfl
theorem k328_0 : mm_lk mm_m328.1 0 = some (0, .aload_n 3, 1, []) := rfl
theorem k328_1 : mm_lk mm_m328.1 1 = some (1, .iconst 0, 2, []) := rfl
theorem k328_2 : mm_lk mm_m328.1 2 = some (2, .aload_n 0, 3, []) := rfl
theorem k328_3 : mm_lk mm_m328.1 3 = some (3, .iload_n 1, 4, []) := rfl
theorem k328_4 : mm_lk mm_m328.1 4 = some (4, .iload_n 2, 5, []) := rfl
theorem k328_5 : mm_lk mm_m328.1 5 = some (5, .invokevirtual 63, 8, [0, 121, 3, 13, 1686, 1687, 1688, 132]) := rfl
theorem k328_8 : mm_lk mm_m328.1 8 = some (8, .i2l, 9, []) := rfl
theorem k328_9 : mm_lk mm_m328.1 9 = some (9, .lastore, 10, []) := rfl
theorem k328_10 : mm_lk mm_m328.1 10 = some (10, .goto 7, 13, [17]) := rfl
theorem k328_17 : mm_lk mm_m328.1 17 = some (17, .iconst 0, 18, []) := rfl
theorem k328_18 : mm_lk mm_m328.1 18 = some (18, .ireturn, 19, []) := rfl
theorem k329_0 : mm_lk mm_m329.1 0 = some (0, .aload_n 2, 1, []) := rfl
theorem k329_1 : mm_lk mm_m329.1 1 = some (1, .iconst 0, 2, []) := rfl
theorem k329_2 : mm_lk mm_m329.1 2 = some (2, .aload_n 0, 3, []) := rfl
theorem k329_3 : mm_lk mm_m329.1 3 = some (3, .iload_n 1, 4, []) := rfl
theorem k329_4 : mm_lk mm_m329.1 4 = some (4, .invokevirtual 66, 7, [0, 124, 2, 13, 1697, 1698, 1699, 132]) := rfl
theorem k329_7 : mm_lk mm_m329.1 7 = some (7, .i2l, 8, []) := rfl
theorem k329_8 : mm_lk mm_m329.1 8 = some (8, .lastore, 9, []) := rfl
theorem k329_9 : mm_lk mm_m329.1 9 = some (9, .goto 6, 12, [15]) := rfl
theorem k329_15 : mm_lk mm_m329.1 15 = some (15, .iconst 0, 16, []) := rfl
theorem k329_16 : mm_lk mm_m329.1 16 = some (16, .ireturn, 17, []) := rfl
theorem k330_0 : mm_lk mm_m330.1 0 = some (0, .aload_n 2, 1, []) := rfl
theorem k330_1 : mm_lk mm_m330.1 1 = some (1, .iconst 0, 2, []) := rfl
theorem k330_2 : mm_lk mm_m330.1 2 = some (2, .aload_n 0, 3, []) := rfl
theorem k330_3 : mm_lk mm_m330.1 3 = some (3, .iload_n 1, 4, []) := rfl
theorem k330_4 : mm_lk mm_m330.1 4 = some (4, .invokevirtual 69, 7, [0, 125, 2, 13, 1704, 1705, 1706, 132]) := rfl
theorem k330_7 : mm_lk mm_m330.1 7 = some (7, .i2l, 8, []) := rfl
theorem k330_8 : mm_lk mm_m330.1 8 = some (8, .lastore, 9, []) := rfl
theorem k330_9 : mm_lk mm_m330.1 9 = some (9, .goto 6, 12, [15]) := rfl
theorem k330_15 : mm_lk mm_m330.1 15 = some (15, .iconst 0, 16, []) := rfl
theorem k330_16 : mm_lk mm_m330.1 16 = some (16, .ireturn, 17, []) := rfl
theorem k331_0 : mm_lk mm_m331.1 0 = some (0, .aload_n 2, 1, []) := rfl
theorem k331_1 : mm_lk mm_m331.1 1 = some (1, .iconst 0, 2, []) := rfl
theorem k331_2 : mm_lk mm_m331.1 2 = some (2, .aload_n 0, 3, []) := rfl
theorem k331_3 : mm_lk mm_m331.1 3 = some (3, .iload_n 1, 4, []) := rfl
theorem k331_4 : mm_lk mm_m331.1 4 = some (4, .invokevirtual 72, 7, [0, 126, 2, 13, 1718, 1719, 1720, 132]) := rfl
theorem k331_7 : mm_lk mm_m331.1 7 = some (7, .i2l, 8, []) := rfl
theorem k331_8 : mm_lk mm_m331.1 8 = some (8, .lastore, 9, []) := rfl
theorem k331_9 : mm_lk mm_m331.1 9 = some (9, .goto 6, 12, [15]) := rfl
theorem k331_15 : mm_lk mm_m331.1 15 = some (15, .iconst 0, 16, []) := rfl
theorem k331_16 : mm_lk mm_m331.1 16 = some (16, .ireturn, 17, []) := rfl
theorem k332_0 : mm_lk mm_m332.1 0 = some (0, .aload_n 2, 1, []) := rfl
theorem k332_1 : mm_lk mm_m332.1 1 = some (1, .iconst 0, 2, []) := rfl
theorem k332_2 : mm_lk mm_m332.1 2 = some (2, .aload_n 0, 3, []) := rfl
theorem k332_3 : mm_lk mm_m332.1 3 = some (3, .iload_n 1, 4, []) := rfl
theorem k332_4 : mm_lk mm_m332.1 4 = some (4, .invokevirtual 75, 7, [0, 128, 2, 13, 1726, 1727, 1728, 132]) := rfl
theorem k332_7 : mm_lk mm_m332.1 7 = some (7, .i2l, 8, []) := rfl
theorem k332_8 : mm_lk mm_m332.1 8 = some (8, .lastore, 9, []) := rfl
theorem k332_9 : mm_lk mm_m332.1 9 = some (9, .goto 6, 12, [15]) := rfl
theorem k332_15 : mm_lk mm_m332.1 15 = some (15, .iconst 0, 16, []) := rfl
theorem k332_16 : mm_lk mm_m332.1 16 = some (16, .ireturn, 17, []) := rfl
theorem k333_0 : mm_lk mm_m333.1 0 = some (0, .aload_n 3, 1, []) := rfl
theorem k333_1 : mm_lk mm_m333.1 1 = some (1, .iconst 0, 2, []) := rfl
theorem k333_2 : mm_lk mm_m333.1 2 = some (2, .aload_n 0, 3, []) := rfl
theorem k333_3 : mm_lk mm_m333.1 3 = some (3, .iload_n 1, 4, []) := rfl
theorem k333_4 : mm_lk mm_m333.1 4 = some (4, .iload_n 2, 5, []) := rfl
theorem k333_5 : mm_lk mm_m333.1 5 = some (5, .invokevirtual 78, 8, [0, 129, 3, 13, 1733, 1734, 1735, 132]) := rfl
theorem k333_8 : mm_lk mm_m333.1 8 = some (8, .i2l, 9, []) := rfl
theorem k333_9 : mm_lk mm_m333.1 9 = some (9, .lastore, 10, []) := rfl
theorem k333_10 : mm_lk mm_m333.1 10 = some (10, .goto 7, 13, [17]) := rfl
theorem k333_17 : mm_lk mm_m333.1 17 = some (17, .iconst 0, 18, []) := rfl
theorem k333_18 : mm_lk mm_m333.1 18 = some (18, .ireturn, 19, []) := rfl
theorem k334_0 : mm_lk mm_m334.1 0 = some (0, .aload_n 2, 1, []) := rfl
theorem k334_1 : mm_lk mm_m334.1 1 = some (1, .iconst 0, 2, []) := rfl
theorem k334_2 : mm_lk mm_m334.1 2 = some (2, .aload_n 0, 3, []) := rfl
theorem k334_3 : mm_lk mm_m334.1 3 = some (3, .iload_n 1, 4, []) := rfl
theorem k334_4 : mm_lk mm_m334.1 4 = some (4, .invokevirtual 81, 7, [0, 130, 2, 13, 1744, 1745, 1746, 132]) := rfl
theorem k334_7 : mm_lk mm_m334.1 7 = some (7, .i2l, 8, []) := rfl
theorem k334_8 : mm_lk mm_m334.1 8 = some (8, .lastore, 9, []) := rfl
theorem k334_9 : mm_lk mm_m334.1 9 = some (9, .goto 6, 12, [15]) := rfl
theorem k334_15 : mm_lk mm_m334.1 15 = some (15, .iconst 0, 16, []) := rfl
theorem k334_16 : mm_lk mm_m334.1 16 = some (16, .ireturn, 17, []) := rfl
theorem k335_0 : mm_lk mm_m335.1 0 = some (0, .aload_n 2, 1, []) := rfl
theorem k335_1 : mm_lk mm_m335.1 1 = some (1, .iconst 0, 2, []) := rfl
theorem k335_2 : mm_lk mm_m335.1 2 = some (2, .aload_n 0, 3, []) := rfl
theorem k335_3 : mm_lk mm_m335.1 3 = some (3, .iload_n 1, 4, []) := rfl
theorem k335_4 : mm_lk mm_m335.1 4 = some (4, .invokevirtual 84, 7, [0, 135, 2, 13, 1751, 1752, 1753, 132]) := rfl
theorem k335_7 : mm_lk mm_m335.1 7 = some (7, .i2l, 8, []) := rfl
theorem k335_8 : mm_lk mm_m335.1 8 = some (8, .lastore, 9, []) := rfl
theorem k335_9 : mm_lk mm_m335.1 9 = some (9, .goto 6, 12, [15]) := rfl
theorem k335_15 : mm_lk mm_m335.1 15 = some (15, .iconst 0, 16, []) := rfl
theorem k335_16 : mm_lk mm_m335.1 16 = some (16, .ireturn, 17, []) := rfl
theorem k336_0 : mm_lk mm_m336.1 0 = some (0, .aload_n 2, 1, []) := rfl
theorem k336_1 : mm_lk mm_m336.1 1 = some (1, .iconst 0, 2, []) := rfl
theorem k336_2 : mm_lk mm_m336.1 2 = some (2, .aload_n 0, 3, []) := rfl
theorem k336_3 : mm_lk mm_m336.1 3 = some (3, .iload_n 1, 4, []) := rfl
theorem k336_4 : mm_lk mm_m336.1 4 = some (4, .invokevirtual 87, 7, [0, 136, 2, 13, 1758, 1759, 1760, 132]) := rfl
theorem k336_7 : mm_lk mm_m336.1 7 = some (7, .i2l, 8, []) := rfl
theorem k336_8 : mm_lk mm_m336.1 8 = some (8, .lastore, 9, []) := rfl
theorem k336_9 : mm_lk mm_m336.1 9 = some (9, .goto 6, 12, [15]) := rfl
theorem k336_15 : mm_lk mm_m336.1 15 = some (15, .iconst 0, 16, []) := rfl
theorem k336_16 : mm_lk mm_m336.1 16 = some (16, .ireturn, 17, []) := rfl
theorem k337_0 : mm_lk mm_m337.1 0 = some (0, .aload_n 3, 1, []) := rfl
theorem k337_1 : mm_lk mm_m337.1 1 = some (1, .iconst 0, 2, []) := rfl
theorem k337_2 : mm_lk mm_m337.1 2 = some (2, .aload_n 0, 3, []) := rfl
theorem k337_3 : mm_lk mm_m337.1 3 = some (3, .iload_n 1, 4, []) := rfl
theorem k337_4 : mm_lk mm_m337.1 4 = some (4, .iload_n 2, 5, []) := rfl
theorem k337_5 : mm_lk mm_m337.1 5 = some (5, .invokevirtual 90, 8, [0, 137, 3, 13, 1766, 1767, 1768, 132]) := rfl
theorem k337_8 : mm_lk mm_m337.1 8 = some (8, .i2l, 9, []) := rfl
theorem k337_9 : mm_lk mm_m337.1 9 = some (9, .lastore, 10, []) := rfl
theorem k337_10 : mm_lk mm_m337.1 10 = some (10, .goto 7, 13, [17]) := rfl
theorem k337_17 : mm_lk mm_m337.1 17 = some (17, .iconst 0, 18, []) := rfl
theorem k337_18 : mm_lk mm_m337.1 18 = some (18, .ireturn, 19, []) := rfl
theorem k338_0 : mm_lk mm_m338.1 0 = some (0, .aload_n 2, 1, []) := rfl
theorem k338_1 : mm_lk mm_m338.1 1 = some (1, .iconst 0, 2, []) := rfl
theorem k338_2 : mm_lk mm_m338.1 2 = some (2, .aload_n 0, 3, []) := rfl
theorem k338_3 : mm_lk mm_m338.1 3 = some (3, .iload_n 1, 4, []) := rfl
theorem k338_4 : mm_lk mm_m338.1 4 = some (4, .invokevirtual 93, 7, [0, 138, 2, 13, 1773, 1774, 1775, 132]) := rfl
theorem k338_7 : mm_lk mm_m338.1 7 = some (7, .i2l, 8, []) := rfl
theorem k338_8 : mm_lk mm_m338.1 8 = some (8, .lastore, 9, []) := rfl
theorem k338_9 : mm_lk mm_m338.1 9 = some (9, .goto 6, 12, [15]) := rfl
theorem k338_15 : mm_lk mm_m338.1 15 = some (15, .iconst 0, 16, []) := rfl
theorem k338_16 : mm_lk mm_m338.1 16 = some (16, .ireturn, 17, []) := rfl
theorem k339_0 : mm_lk mm_m339.1 0 = some (0, .aload_n 2, 1, []) := rfl
theorem k339_1 : mm_lk mm_m339.1 1 = some (1, .iconst 0, 2, []) := rfl
theorem k339_2 : mm_lk mm_m339.1 2 = some (2, .aload_n 0, 3, []) := rfl
theorem k339_3 : mm_lk mm_m339.1 3 = some (3, .iload_n 1, 4, []) := rfl
theorem k339_4 : mm_lk mm_m339.1 4 = some (4, .invokevirtual 96, 7, [0, 139, 2, 13, 1781, 1782, 1783, 132]) := rfl
theorem k339_7 : mm_lk mm_m339.1 7 = some (7, .i2l, 8, []) := rfl
theorem k339_8 : mm_lk mm_m339.1 8 = some (8, .lastore, 9, []) := rfl
theorem k339_9 : mm_lk mm_m339.1 9 = some (9, .goto 6, 12, [15]) := rfl
theorem k339_15 : mm_lk mm_m339.1 15 = some (15, .iconst 0, 16, []) := rfl
theorem k339_16 : mm_lk mm_m339.1 16 = some (16, .ireturn, 17, []) := rfl
theorem k340_0 : mm_lk mm_m340.1 0 = some (0, .aload_n 2, 1, []) := rfl
theorem k340_1 : mm_lk mm_m340.1 1 = some (1, .iconst 0, 2, []) := rfl
theorem k340_2 : mm_lk mm_m340.1 2 = some (2, .aload_n 0, 3, []) := rfl
theorem k340_3 : mm_lk mm_m340.1 3 = some (3, .iload_n 1, 4, []) := rfl
theorem k340_4 : mm_lk mm_m340.1 4 = some (4, .invokevirtual 99, 7, [0, 140, 2, 13, 1792, 1793, 1794, 132]) := rfl
theorem k340_7 : mm_lk mm_m340.1 7 = some (7, .i2l, 8, []) := rfl
theorem k340_8 : mm_lk mm_m340.1 8 = some (8, .lastore, 9, []) := rfl
theorem k340_9 : mm_lk mm_m340.1 9 = some (9, .goto 6, 12, [15]) := rfl
theorem k340_15 : mm_lk mm_m340.1 15 = some (15, .iconst 0, 16, []) := rfl
theorem k340_16 : mm_lk mm_m340.1 16 = some (16, .ireturn, 17, []) := rfl
theorem k341_0 : mm_lk mm_m341.1 0 = some (0, .aload_n 1, 1, []) := rfl
theorem k341_1 : mm_lk mm_m341.1 1 = some (1, .iconst 0, 2, []) := rfl
theorem k341_2 : mm_lk mm_m341.1 2 = some (2, .aload_n 0, 3, []) := rfl
theorem k341_3 : mm_lk mm_m341.1 3 = some (3, .invokevirtual 102, 6, [0, 145, 1, 13, 1804, 1805, 1806, 132]) := rfl
theorem k341_6 : mm_lk mm_m341.1 6 = some (6, .i2l, 7, []) := rfl
theorem k341_7 : mm_lk mm_m341.1 7 = some (7, .lastore, 8, []) := rfl
theorem k341_8 : mm_lk mm_m341.1 8 = some (8, .goto 6, 11, [14]) := rfl
theorem k341_14 : mm_lk mm_m341.1 14 = some (14, .iconst 0, 15, []) := rfl
theorem k341_15 : mm_lk mm_m341.1 15 = some (15, .ireturn, 16, []) := rfl
