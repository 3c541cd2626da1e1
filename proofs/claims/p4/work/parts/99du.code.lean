/-! ===== code, row by row (by program) ===== -/
/-- WhoKnowsModel.thrown()I -/
def mm_m170 : mm_M := (mm_c170, 1, 1, [])
set_option maxRecDepth 20000 in
theorem P170 : mm_P 170 = some mm_m170 := rfl
theorem k170_0 : mm_lk mm_m170.1 0 = some (0, .aload_n 0, 1, []) := rfl
theorem k170_1 : mm_lk mm_m170.1 1 = some (1, .getfield 48, 4, [0, 14, 6, 1834]) := rfl
theorem k170_4 : mm_lk mm_m170.1 4 = some (4, .ireturn, 5, []) := rfl
section K80
/-! ===== the law, row by row (by program) ===== -/
set_option maxRecDepth 100000 in
theorem KL352 : mm_lk mz_M.1 352 = some (352, .aload_n 1, 353, []) := rfl
set_option maxRecDepth 100000 in
theorem KL353 : mm_lk mz_M.1 353 = some (353, .aload_n 3, 354, []) := rfl
set_option maxRecDepth 100000 in
theorem KL354 : mm_lk mz_M.1 354 = some (354, .invokestatic 119, 357, [8, 316, 2, 1485, 1486, 131]) := rfl
set_option maxRecDepth 100000 in
theorem KL357 : mm_lk mz_M.1 357 = some (357, .istore 5, 359, []) := rfl
set_option maxRecDepth 100000 in
theorem KL359 : mm_lk mz_M.1 359 = some (359, .aload_n 2, 360, []) := rfl
set_option maxRecDepth 100000 in
theorem KL360 : mm_lk mz_M.1 360 = some (360, .invokevirtual 122, 363, [0, 236, 1, 14, 1941, 1942, 1943, 151]) := rfl
set_option maxRecDepth 100000 in
theorem KL363 : mm_lk mz_M.1 363 = some (363, .istore 6, 365, []) := rfl
set_option maxRecDepth 100000 in
theorem KL365 : mm_lk mz_M.1 365 = some (365, .aload_n 2, 366, []) := rfl
set_option maxRecDepth 100000 in
theorem KL366 : mm_lk mz_M.1 366 = some (366, .invokevirtual 123, 369, [0, 170, 1, 14, 1910, 1911, 1912, 151]) := rfl
set_option maxRecDepth 100000 in
theorem KL369 : mm_lk mz_M.1 369 = some (369, .iload 5, 371, []) := rfl
set_option maxRecDepth 100000 in
theorem KL371 : mm_lk mz_M.1 371 = some (371, .if_icmp .eq 5, 374, [376]) := rfl
set_option maxRecDepth 100000 in
theorem KL376 : mm_lk mz_M.1 376 = some (376, .iload 5, 378, []) := rfl
set_option maxRecDepth 100000 in
theorem KL378 : mm_lk mz_M.1 378 = some (378, .ifCond .ne 15, 381, [393]) := rfl
set_option maxRecDepth 100000 in
theorem KL381 : mm_lk mz_M.1 381 = some (381, .aload_n 3, 382, []) := rfl
set_option maxRecDepth 100000 in
theorem KL382 : mm_lk mz_M.1 382 = some (382, .iconst 0, 383, []) := rfl
set_option maxRecDepth 100000 in
theorem KL383 : mm_lk mz_M.1 383 = some (383, .laload, 384, []) := rfl
set_option maxRecDepth 100000 in
theorem KL384 : mm_lk mz_M.1 384 = some (384, .iload 6, 386, []) := rfl
set_option maxRecDepth 100000 in
theorem KL386 : mm_lk mz_M.1 386 = some (386, .i2l, 387, []) := rfl
set_option maxRecDepth 100000 in
theorem KL387 : mm_lk mz_M.1 387 = some (387, .lcmp, 388, []) := rfl
set_option maxRecDepth 100000 in
theorem KL388 : mm_lk mz_M.1 388 = some (388, .ifCond .eq 5, 391, [393]) := rfl
set_option maxRecDepth 100000 in
theorem KL393 : mm_lk mz_M.1 393 = some (393, .goto 1045, 396, [1438]) := rfl
set_option maxRecDepth 100000 in
theorem KL396 : mm_lk mz_M.1 396 = some (396, .aload_n 1, 397, []) := rfl
set_option maxRecDepth 100000 in
theorem KL397 : mm_lk mz_M.1 397 = some (397, .aload_n 3, 398, []) := rfl
set_option maxRecDepth 100000 in
theorem KL398 : mm_lk mz_M.1 398 = some (398, .invokestatic 126, 401, [8, 317, 2, 1496, 1497, 131]) := rfl
set_option maxRecDepth 100000 in
theorem KL401 : mm_lk mz_M.1 401 = some (401, .istore 5, 403, []) := rfl
set_option maxRecDepth 100000 in
theorem KL403 : mm_lk mz_M.1 403 = some (403, .aload_n 2, 404, []) := rfl
set_option maxRecDepth 100000 in
theorem KL404 : mm_lk mz_M.1 404 = some (404, .invokevirtual 128, 407, [0, 254, 1, 14, 2150, 2151, 2152, 151]) := rfl
set_option maxRecDepth 100000 in
theorem KL407 : mm_lk mz_M.1 407 = some (407, .istore 6, 409, []) := rfl
set_option maxRecDepth 100000 in
theorem KL409 : mm_lk mz_M.1 409 = some (409, .goto 1029, 412, [1438]) := rfl
set_option maxRecDepth 100000 in
theorem KL412 : mm_lk mz_M.1 412 = some (412, .aload_n 1, 413, []) := rfl
set_option maxRecDepth 100000 in
theorem KL413 : mm_lk mz_M.1 413 = some (413, .aload_n 3, 414, []) := rfl
set_option maxRecDepth 100000 in
theorem KL414 : mm_lk mz_M.1 414 = some (414, .invokestatic 129, 417, [8, 318, 2, 1569, 1570, 131]) := rfl
set_option maxRecDepth 100000 in
theorem KL417 : mm_lk mz_M.1 417 = some (417, .istore 5, 419, []) := rfl
set_option maxRecDepth 100000 in
theorem KL419 : mm_lk mz_M.1 419 = some (419, .aload_n 2, 420, []) := rfl
set_option maxRecDepth 100000 in
theorem KL420 : mm_lk mz_M.1 420 = some (420, .invokevirtual 131, 423, [0, 255, 1, 14, 2228, 2229, 2230, 151]) := rfl
set_option maxRecDepth 100000 in
theorem KL423 : mm_lk mz_M.1 423 = some (423, .istore 6, 425, []) := rfl
set_option maxRecDepth 100000 in
theorem KL425 : mm_lk mz_M.1 425 = some (425, .goto 1013, 428, [1438]) := rfl
set_option maxRecDepth 100000 in
theorem KL428 : mm_lk mz_M.1 428 = some (428, .aload_n 1, 429, []) := rfl
set_option maxRecDepth 100000 in
theorem KL429 : mm_lk mz_M.1 429 = some (429, .invokevirtual 132, 432, [0, 103, 1, 13, 884, 885, 886, 132]) := rfl
set_option maxRecDepth 100000 in
theorem KL432 : mm_lk mz_M.1 432 = some (432, .pop, 433, []) := rfl
set_option maxRecDepth 100000 in
theorem KL433 : mm_lk mz_M.1 433 = some (433, .aload_n 2, 434, []) := rfl
set_option maxRecDepth 100000 in
theorem KL434 : mm_lk mz_M.1 434 = some (434, .invokevirtual 135, 437, [0, 216, 1, 14, 1933, 1934, 1935, 151]) := rfl
set_option maxRecDepth 100000 in
theorem KL437 : mm_lk mz_M.1 437 = some (437, .pop, 438, []) := rfl
set_option maxRecDepth 100000 in
theorem KL438 : mm_lk mz_M.1 438 = some (438, .goto 1000, 441, [1438]) := rfl
set_option maxRecDepth 100000 in
theorem KL441 : mm_lk mz_M.1 441 = some (441, .aload_n 1, 442, []) := rfl
set_option maxRecDepth 100000 in
theorem KL442 : mm_lk mz_M.1 442 = some (442, .invokevirtual 136, 445, [0, 104, 1, 13, 888, 889, 890, 132]) := rfl
set_option maxRecDepth 100000 in
theorem KL445 : mm_lk mz_M.1 445 = some (445, .pop, 446, []) := rfl
set_option maxRecDepth 100000 in
theorem KL446 : mm_lk mz_M.1 446 = some (446, .aload_n 2, 447, []) := rfl
set_option maxRecDepth 100000 in
theorem KL447 : mm_lk mz_M.1 447 = some (447, .invokevirtual 139, 450, [0, 217, 1, 14, 1937, 1938, 1939, 151]) := rfl
set_option maxRecDepth 100000 in
theorem KL450 : mm_lk mz_M.1 450 = some (450, .pop, 451, []) := rfl
set_option maxRecDepth 100000 in
theorem KL451 : mm_lk mz_M.1 451 = some (451, .goto 987, 454, [1438]) := rfl
set_option maxRecDepth 100000 in
theorem KL454 : mm_lk mz_M.1 454 = some (454, .aload_n 1, 455, []) := rfl
set_option maxRecDepth 100000 in
theorem KL455 : mm_lk mz_M.1 455 = some (455, .aload_n 0, 456, []) := rfl
set_option maxRecDepth 100000 in
theorem KL456 : mm_lk mz_M.1 456 = some (456, .iload 4, 458, []) := rfl
set_option maxRecDepth 100000 in
theorem KL458 : mm_lk mz_M.1 458 = some (458, .iconst 1, 459, []) := rfl
set_option maxRecDepth 100000 in
theorem KL459 : mm_lk mz_M.1 459 = some (459, .iadd, 460, []) := rfl
set_option maxRecDepth 100000 in
theorem KL460 : mm_lk mz_M.1 460 = some (460, .iaload, 461, []) := rfl
set_option maxRecDepth 100000 in
theorem KL461 : mm_lk mz_M.1 461 = some (461, .aload_n 3, 462, []) := rfl
set_option maxRecDepth 100000 in
theorem KL462 : mm_lk mz_M.1 462 = some (462, .invokestatic 140, 465, [8, 319, 3, 1580, 1581, 131]) := rfl
set_option maxRecDepth 100000 in
theorem KL465 : mm_lk mz_M.1 465 = some (465, .istore 5, 467, []) := rfl
set_option maxRecDepth 100000 in
theorem KL467 : mm_lk mz_M.1 467 = some (467, .aload_n 2, 468, []) := rfl
set_option maxRecDepth 100000 in
theorem KL468 : mm_lk mz_M.1 468 = some (468, .aload_n 0, 469, []) := rfl
set_option maxRecDepth 100000 in
theorem KL469 : mm_lk mz_M.1 469 = some (469, .iload 4, 471, []) := rfl
set_option maxRecDepth 100000 in
theorem KL471 : mm_lk mz_M.1 471 = some (471, .iconst 1, 472, []) := rfl
set_option maxRecDepth 100000 in
theorem KL472 : mm_lk mz_M.1 472 = some (472, .iadd, 473, []) := rfl
set_option maxRecDepth 100000 in
theorem KL473 : mm_lk mz_M.1 473 = some (473, .iaload, 474, []) := rfl
set_option maxRecDepth 100000 in
theorem KL474 : mm_lk mz_M.1 474 = some (474, .invokevirtual 142, 477, [0, 256, 2, 14, 2232, 2233, 2234, 151]) := rfl
set_option maxRecDepth 100000 in
theorem KL477 : mm_lk mz_M.1 477 = some (477, .istore 6, 479, []) := rfl
set_option maxRecDepth 100000 in
theorem KL479 : mm_lk mz_M.1 479 = some (479, .goto 959, 482, [1438]) := rfl
set_option maxRecDepth 100000 in
theorem KL482 : mm_lk mz_M.1 482 = some (482, .aload_n 1, 483, []) := rfl
set_option maxRecDepth 100000 in
theorem KL483 : mm_lk mz_M.1 483 = some (483, .aload_n 0, 484, []) := rfl
set_option maxRecDepth 100000 in
theorem KL484 : mm_lk mz_M.1 484 = some (484, .iload 4, 486, []) := rfl
set_option maxRecDepth 100000 in
theorem KL486 : mm_lk mz_M.1 486 = some (486, .iconst 1, 487, []) := rfl
set_option maxRecDepth 100000 in
theorem KL487 : mm_lk mz_M.1 487 = some (487, .iadd, 488, []) := rfl
set_option maxRecDepth 100000 in
theorem KL488 : mm_lk mz_M.1 488 = some (488, .iaload, 489, []) := rfl
set_option maxRecDepth 100000 in
theorem KL489 : mm_lk mz_M.1 489 = some (489, .ifCond .eq 7, 492, [496]) := rfl
set_option maxRecDepth 100000 in
theorem KL492 : mm_lk mz_M.1 492 = some (492, .iconst 1, 493, []) := rfl
set_option maxRecDepth 100000 in
theorem KL493 : mm_lk mz_M.1 493 = some (493, .goto 4, 496, [497]) := rfl
set_option maxRecDepth 100000 in
theorem KL496 : mm_lk mz_M.1 496 = some (496, .iconst 0, 497, []) := rfl
set_option maxRecDepth 100000 in
theorem KL497 : mm_lk mz_M.1 497 = some (497, .aload_n 0, 498, []) := rfl
set_option maxRecDepth 100000 in
theorem KL498 : mm_lk mz_M.1 498 = some (498, .iload 4, 500, []) := rfl
set_option maxRecDepth 100000 in
theorem KL500 : mm_lk mz_M.1 500 = some (500, .iconst 2, 501, []) := rfl
set_option maxRecDepth 100000 in
theorem KL501 : mm_lk mz_M.1 501 = some (501, .iadd, 502, []) := rfl
set_option maxRecDepth 100000 in
theorem KL502 : mm_lk mz_M.1 502 = some (502, .iaload, 503, []) := rfl
set_option maxRecDepth 100000 in
theorem KL503 : mm_lk mz_M.1 503 = some (503, .aload_n 0, 504, []) := rfl
set_option maxRecDepth 100000 in
theorem KL504 : mm_lk mz_M.1 504 = some (504, .iload 4, 506, []) := rfl
set_option maxRecDepth 100000 in
theorem KL506 : mm_lk mz_M.1 506 = some (506, .iconst 3, 507, []) := rfl
set_option maxRecDepth 100000 in
theorem KL507 : mm_lk mz_M.1 507 = some (507, .iadd, 508, []) := rfl
set_option maxRecDepth 100000 in
theorem KL508 : mm_lk mz_M.1 508 = some (508, .iaload, 509, []) := rfl
set_option maxRecDepth 100000 in
theorem KL509 : mm_lk mz_M.1 509 = some (509, .aload_n 3, 510, []) := rfl
set_option maxRecDepth 100000 in
theorem KL510 : mm_lk mz_M.1 510 = some (510, .invokestatic 143, 513, [8, 320, 5, 1592, 1593, 131]) := rfl
set_option maxRecDepth 100000 in
theorem KL513 : mm_lk mz_M.1 513 = some (513, .istore 5, 515, []) := rfl
set_option maxRecDepth 100000 in
theorem KL515 : mm_lk mz_M.1 515 = some (515, .aload_n 2, 516, []) := rfl
set_option maxRecDepth 100000 in
theorem KL516 : mm_lk mz_M.1 516 = some (516, .aload_n 0, 517, []) := rfl
set_option maxRecDepth 100000 in
theorem KL517 : mm_lk mz_M.1 517 = some (517, .iload 4, 519, []) := rfl
set_option maxRecDepth 100000 in
theorem KL519 : mm_lk mz_M.1 519 = some (519, .iconst 1, 520, []) := rfl
set_option maxRecDepth 100000 in
theorem KL520 : mm_lk mz_M.1 520 = some (520, .iadd, 521, []) := rfl
set_option maxRecDepth 100000 in
theorem KL521 : mm_lk mz_M.1 521 = some (521, .iaload, 522, []) := rfl
set_option maxRecDepth 100000 in
theorem KL522 : mm_lk mz_M.1 522 = some (522, .ifCond .eq 7, 525, [529]) := rfl
set_option maxRecDepth 100000 in
theorem KL525 : mm_lk mz_M.1 525 = some (525, .iconst 1, 526, []) := rfl
set_option maxRecDepth 100000 in
theorem KL526 : mm_lk mz_M.1 526 = some (526, .goto 4, 529, [530]) := rfl
set_option maxRecDepth 100000 in
theorem KL529 : mm_lk mz_M.1 529 = some (529, .iconst 0, 530, []) := rfl
set_option maxRecDepth 100000 in
theorem KL530 : mm_lk mz_M.1 530 = some (530, .aload_n 0, 531, []) := rfl
set_option maxRecDepth 100000 in
theorem KL531 : mm_lk mz_M.1 531 = some (531, .iload 4, 533, []) := rfl
set_option maxRecDepth 100000 in
theorem KL533 : mm_lk mz_M.1 533 = some (533, .iconst 2, 534, []) := rfl
set_option maxRecDepth 100000 in
theorem KL534 : mm_lk mz_M.1 534 = some (534, .iadd, 535, []) := rfl
set_option maxRecDepth 100000 in
theorem KL535 : mm_lk mz_M.1 535 = some (535, .iaload, 536, []) := rfl
set_option maxRecDepth 100000 in
theorem KL536 : mm_lk mz_M.1 536 = some (536, .aload_n 0, 537, []) := rfl
set_option maxRecDepth 100000 in
theorem KL537 : mm_lk mz_M.1 537 = some (537, .iload 4, 539, []) := rfl
set_option maxRecDepth 100000 in
theorem KL539 : mm_lk mz_M.1 539 = some (539, .iconst 3, 540, []) := rfl
set_option maxRecDepth 100000 in
theorem KL540 : mm_lk mz_M.1 540 = some (540, .iadd, 541, []) := rfl
set_option maxRecDepth 100000 in
theorem KL541 : mm_lk mz_M.1 541 = some (541, .iaload, 542, []) := rfl
set_option maxRecDepth 100000 in
theorem KL542 : mm_lk mz_M.1 542 = some (542, .invokevirtual 146, 545, [0, 257, 4, 14, 2242, 2243, 2244, 151]) := rfl
set_option maxRecDepth 100000 in
theorem KL545 : mm_lk mz_M.1 545 = some (545, .istore 6, 547, []) := rfl
set_option maxRecDepth 100000 in
theorem KL547 : mm_lk mz_M.1 547 = some (547, .goto 891, 550, [1438]) := rfl
set_option maxRecDepth 100000 in
theorem KL550 : mm_lk mz_M.1 550 = some (550, .aload_n 1, 551, []) := rfl
set_option maxRecDepth 100000 in
theorem KL551 : mm_lk mz_M.1 551 = some (551, .aload_n 0, 552, []) := rfl
set_option maxRecDepth 100000 in
theorem KL552 : mm_lk mz_M.1 552 = some (552, .iload 4, 554, []) := rfl
set_option maxRecDepth 100000 in
theorem KL554 : mm_lk mz_M.1 554 = some (554, .iconst 1, 555, []) := rfl
set_option maxRecDepth 100000 in
theorem KL555 : mm_lk mz_M.1 555 = some (555, .iadd, 556, []) := rfl
set_option maxRecDepth 100000 in
theorem KL556 : mm_lk mz_M.1 556 = some (556, .iaload, 557, []) := rfl
set_option maxRecDepth 100000 in
theorem KL557 : mm_lk mz_M.1 557 = some (557, .aload_n 3, 558, []) := rfl
set_option maxRecDepth 100000 in
theorem KL558 : mm_lk mz_M.1 558 = some (558, .invokestatic 147, 561, [8, 321, 3, 1616, 1617, 131]) := rfl
set_option maxRecDepth 100000 in
theorem KL561 : mm_lk mz_M.1 561 = some (561, .istore 5, 563, []) := rfl
set_option maxRecDepth 100000 in
theorem KL563 : mm_lk mz_M.1 563 = some (563, .aload_n 2, 564, []) := rfl
set_option maxRecDepth 100000 in
theorem KL564 : mm_lk mz_M.1 564 = some (564, .aload_n 0, 565, []) := rfl
set_option maxRecDepth 100000 in
theorem KL565 : mm_lk mz_M.1 565 = some (565, .iload 4, 567, []) := rfl
set_option maxRecDepth 100000 in
theorem KL567 : mm_lk mz_M.1 567 = some (567, .iconst 1, 568, []) := rfl
set_option maxRecDepth 100000 in
theorem KL568 : mm_lk mz_M.1 568 = some (568, .iadd, 569, []) := rfl
set_option maxRecDepth 100000 in
theorem KL569 : mm_lk mz_M.1 569 = some (569, .iaload, 570, []) := rfl
set_option maxRecDepth 100000 in
theorem KL570 : mm_lk mz_M.1 570 = some (570, .invokevirtual 149, 573, [0, 258, 2, 14, 2254, 2255, 2256, 151]) := rfl
set_option maxRecDepth 100000 in
theorem KL573 : mm_lk mz_M.1 573 = some (573, .istore 6, 575, []) := rfl
set_option maxRecDepth 100000 in
theorem KL575 : mm_lk mz_M.1 575 = some (575, .goto 863, 578, [1438]) := rfl
set_option maxRecDepth 100000 in
theorem KL578 : mm_lk mz_M.1 578 = some (578, .aload_n 1, 579, []) := rfl
set_option maxRecDepth 100000 in
theorem KL579 : mm_lk mz_M.1 579 = some (579, .invokevirtual 150, 582, [0, 108, 1, 13, 892, 893, 894, 132]) := rfl
set_option maxRecDepth 100000 in
theorem KL582 : mm_lk mz_M.1 582 = some (582, .pop, 583, []) := rfl
set_option maxRecDepth 100000 in
theorem KL583 : mm_lk mz_M.1 583 = some (583, .aload_n 2, 584, []) := rfl
set_option maxRecDepth 100000 in
theorem KL584 : mm_lk mz_M.1 584 = some (584, .invokevirtual 153, 587, [0, 259, 1, 14, 2258, 2259, 2260, 151]) := rfl
set_option maxRecDepth 100000 in
theorem KL587 : mm_lk mz_M.1 587 = some (587, .pop, 588, []) := rfl
set_option maxRecDepth 100000 in
theorem KL588 : mm_lk mz_M.1 588 = some (588, .goto 850, 591, [1438]) := rfl
set_option maxRecDepth 100000 in
theorem KL591 : mm_lk mz_M.1 591 = some (591, .aload_n 1, 592, []) := rfl
set_option maxRecDepth 100000 in
theorem KL592 : mm_lk mz_M.1 592 = some (592, .aload_n 0, 593, []) := rfl
set_option maxRecDepth 100000 in
theorem KL593 : mm_lk mz_M.1 593 = some (593, .iload 4, 595, []) := rfl
set_option maxRecDepth 100000 in
theorem KL595 : mm_lk mz_M.1 595 = some (595, .iconst 1, 596, []) := rfl
set_option maxRecDepth 100000 in
theorem KL596 : mm_lk mz_M.1 596 = some (596, .iadd, 597, []) := rfl
set_option maxRecDepth 100000 in
theorem KL597 : mm_lk mz_M.1 597 = some (597, .iaload, 598, []) := rfl
set_option maxRecDepth 100000 in
theorem KL598 : mm_lk mz_M.1 598 = some (598, .aload_n 0, 599, []) := rfl
set_option maxRecDepth 100000 in
theorem KL599 : mm_lk mz_M.1 599 = some (599, .iload 4, 601, []) := rfl
set_option maxRecDepth 100000 in
theorem KL601 : mm_lk mz_M.1 601 = some (601, .iconst 2, 602, []) := rfl
set_option maxRecDepth 100000 in
theorem KL602 : mm_lk mz_M.1 602 = some (602, .iadd, 603, []) := rfl
set_option maxRecDepth 100000 in
theorem KL603 : mm_lk mz_M.1 603 = some (603, .iaload, 604, []) := rfl
set_option maxRecDepth 100000 in
theorem KL604 : mm_lk mz_M.1 604 = some (604, .aload_n 3, 605, []) := rfl
set_option maxRecDepth 100000 in
theorem KL605 : mm_lk mz_M.1 605 = some (605, .invokestatic 154, 608, [8, 322, 4, 1627, 1628, 131]) := rfl
set_option maxRecDepth 100000 in
theorem KL608 : mm_lk mz_M.1 608 = some (608, .istore 5, 610, []) := rfl
set_option maxRecDepth 100000 in
theorem KL610 : mm_lk mz_M.1 610 = some (610, .aload_n 2, 611, []) := rfl
set_option maxRecDepth 100000 in
theorem KL611 : mm_lk mz_M.1 611 = some (611, .aload_n 0, 612, []) := rfl
set_option maxRecDepth 100000 in
theorem KL612 : mm_lk mz_M.1 612 = some (612, .iload 4, 614, []) := rfl
set_option maxRecDepth 100000 in
theorem KL614 : mm_lk mz_M.1 614 = some (614, .iconst 1, 615, []) := rfl
set_option maxRecDepth 100000 in
theorem KL615 : mm_lk mz_M.1 615 = some (615, .iadd, 616, []) := rfl
set_option maxRecDepth 100000 in
theorem KL616 : mm_lk mz_M.1 616 = some (616, .iaload, 617, []) := rfl
set_option maxRecDepth 100000 in
theorem KL617 : mm_lk mz_M.1 617 = some (617, .aload_n 0, 618, []) := rfl
set_option maxRecDepth 100000 in
theorem KL618 : mm_lk mz_M.1 618 = some (618, .iload 4, 620, []) := rfl
set_option maxRecDepth 100000 in
theorem KL620 : mm_lk mz_M.1 620 = some (620, .iconst 2, 621, []) := rfl
set_option maxRecDepth 100000 in
theorem KL621 : mm_lk mz_M.1 621 = some (621, .iadd, 622, []) := rfl
set_option maxRecDepth 100000 in
theorem KL622 : mm_lk mz_M.1 622 = some (622, .iaload, 623, []) := rfl
set_option maxRecDepth 100000 in
theorem KL623 : mm_lk mz_M.1 623 = some (623, .invokevirtual 157, 626, [0, 260, 3, 14, 2262, 2263, 2264, 151]) := rfl
set_option maxRecDepth 100000 in
theorem KL626 : mm_lk mz_M.1 626 = some (626, .istore 6, 628, []) := rfl
set_option maxRecDepth 100000 in
theorem KL628 : mm_lk mz_M.1 628 = some (628, .goto 810, 631, [1438]) := rfl
set_option maxRecDepth 100000 in
theorem KL631 : mm_lk mz_M.1 631 = some (631, .aload_n 1, 632, []) := rfl
set_option maxRecDepth 100000 in
theorem KL632 : mm_lk mz_M.1 632 = some (632, .aload_n 0, 633, []) := rfl
set_option maxRecDepth 100000 in
theorem KL633 : mm_lk mz_M.1 633 = some (633, .iload 4, 635, []) := rfl
set_option maxRecDepth 100000 in
theorem KL635 : mm_lk mz_M.1 635 = some (635, .iconst 1, 636, []) := rfl
set_option maxRecDepth 100000 in
theorem KL636 : mm_lk mz_M.1 636 = some (636, .iadd, 637, []) := rfl
set_option maxRecDepth 100000 in
theorem KL637 : mm_lk mz_M.1 637 = some (637, .iaload, 638, []) := rfl
set_option maxRecDepth 100000 in
theorem KL638 : mm_lk mz_M.1 638 = some (638, .aload_n 3, 639, []) := rfl
set_option maxRecDepth 100000 in
theorem KL639 : mm_lk mz_M.1 639 = some (639, .invokestatic 158, 642, [8, 323, 3, 1639, 1640, 131]) := rfl
set_option maxRecDepth 100000 in
theorem KL642 : mm_lk mz_M.1 642 = some (642, .istore 5, 644, []) := rfl
set_option maxRecDepth 100000 in
theorem KL644 : mm_lk mz_M.1 644 = some (644, .aload_n 2, 645, []) := rfl
set_option maxRecDepth 100000 in
theorem KL645 : mm_lk mz_M.1 645 = some (645, .aload_n 0, 646, []) := rfl
set_option maxRecDepth 100000 in
theorem KL646 : mm_lk mz_M.1 646 = some (646, .iload 4, 648, []) := rfl
set_option maxRecDepth 100000 in
theorem KL648 : mm_lk mz_M.1 648 = some (648, .iconst 1, 649, []) := rfl
set_option maxRecDepth 100000 in
theorem KL649 : mm_lk mz_M.1 649 = some (649, .iadd, 650, []) := rfl
set_option maxRecDepth 100000 in
theorem KL650 : mm_lk mz_M.1 650 = some (650, .iaload, 651, []) := rfl
set_option maxRecDepth 100000 in
theorem KL651 : mm_lk mz_M.1 651 = some (651, .invokevirtual 160, 654, [0, 262, 2, 14, 2270, 2271, 2272, 151]) := rfl
set_option maxRecDepth 100000 in
theorem KL654 : mm_lk mz_M.1 654 = some (654, .istore 6, 656, []) := rfl
set_option maxRecDepth 100000 in
theorem KL656 : mm_lk mz_M.1 656 = some (656, .goto 782, 659, [1438]) := rfl
set_option maxRecDepth 100000 in
theorem KL659 : mm_lk mz_M.1 659 = some (659, .aload_n 1, 660, []) := rfl
set_option maxRecDepth 100000 in
theorem KL660 : mm_lk mz_M.1 660 = some (660, .aload_n 0, 661, []) := rfl
set_option maxRecDepth 100000 in
theorem KL661 : mm_lk mz_M.1 661 = some (661, .iload 4, 663, []) := rfl
set_option maxRecDepth 100000 in
theorem KL663 : mm_lk mz_M.1 663 = some (663, .iconst 1, 664, []) := rfl
set_option maxRecDepth 100000 in
theorem KL664 : mm_lk mz_M.1 664 = some (664, .iadd, 665, []) := rfl
set_option maxRecDepth 100000 in
theorem KL665 : mm_lk mz_M.1 665 = some (665, .iaload, 666, []) := rfl
set_option maxRecDepth 100000 in
theorem KL666 : mm_lk mz_M.1 666 = some (666, .aload_n 3, 667, []) := rfl
set_option maxRecDepth 100000 in
theorem KL667 : mm_lk mz_M.1 667 = some (667, .invokestatic 161, 670, [8, 324, 3, 1651, 1652, 131]) := rfl
set_option maxRecDepth 100000 in
theorem KL670 : mm_lk mz_M.1 670 = some (670, .istore 5, 672, []) := rfl
set_option maxRecDepth 100000 in
theorem KL672 : mm_lk mz_M.1 672 = some (672, .aload_n 2, 673, []) := rfl
set_option maxRecDepth 100000 in
theorem KL673 : mm_lk mz_M.1 673 = some (673, .aload_n 0, 674, []) := rfl
set_option maxRecDepth 100000 in
theorem KL674 : mm_lk mz_M.1 674 = some (674, .iload 4, 676, []) := rfl
set_option maxRecDepth 100000 in
theorem KL676 : mm_lk mz_M.1 676 = some (676, .iconst 1, 677, []) := rfl
set_option maxRecDepth 100000 in
theorem KL677 : mm_lk mz_M.1 677 = some (677, .iadd, 678, []) := rfl
set_option maxRecDepth 100000 in
theorem KL678 : mm_lk mz_M.1 678 = some (678, .iaload, 679, []) := rfl
set_option maxRecDepth 100000 in
theorem KL679 : mm_lk mz_M.1 679 = some (679, .invokevirtual 163, 682, [0, 263, 2, 14, 2278, 2279, 2280, 151]) := rfl
set_option maxRecDepth 100000 in
theorem KL682 : mm_lk mz_M.1 682 = some (682, .istore 6, 684, []) := rfl
set_option maxRecDepth 100000 in
theorem KL684 : mm_lk mz_M.1 684 = some (684, .goto 754, 687, [1438]) := rfl
set_option maxRecDepth 100000 in
theorem KL687 : mm_lk mz_M.1 687 = some (687, .aload_n 1, 688, []) := rfl
set_option maxRecDepth 100000 in
theorem KL688 : mm_lk mz_M.1 688 = some (688, .aload_n 0, 689, []) := rfl
set_option maxRecDepth 100000 in
theorem KL689 : mm_lk mz_M.1 689 = some (689, .iload 4, 691, []) := rfl
set_option maxRecDepth 100000 in
theorem KL691 : mm_lk mz_M.1 691 = some (691, .iconst 1, 692, []) := rfl
set_option maxRecDepth 100000 in
theorem KL692 : mm_lk mz_M.1 692 = some (692, .iadd, 693, []) := rfl
set_option maxRecDepth 100000 in
theorem KL693 : mm_lk mz_M.1 693 = some (693, .iaload, 694, []) := rfl
set_option maxRecDepth 100000 in
theorem KL694 : mm_lk mz_M.1 694 = some (694, .aload_n 3, 695, []) := rfl
set_option maxRecDepth 100000 in
theorem KL695 : mm_lk mz_M.1 695 = some (695, .invokestatic 164, 698, [8, 325, 3, 1658, 1659, 131]) := rfl
set_option maxRecDepth 100000 in
theorem KL698 : mm_lk mz_M.1 698 = some (698, .istore 5, 700, []) := rfl
set_option maxRecDepth 100000 in
theorem KL700 : mm_lk mz_M.1 700 = some (700, .aload_n 2, 701, []) := rfl
set_option maxRecDepth 100000 in
theorem KL701 : mm_lk mz_M.1 701 = some (701, .aload_n 0, 702, []) := rfl
set_option maxRecDepth 100000 in
theorem KL702 : mm_lk mz_M.1 702 = some (702, .iload 4, 704, []) := rfl
set_option maxRecDepth 100000 in
theorem KL704 : mm_lk mz_M.1 704 = some (704, .iconst 1, 705, []) := rfl
set_option maxRecDepth 100000 in
theorem KL705 : mm_lk mz_M.1 705 = some (705, .iadd, 706, []) := rfl
set_option maxRecDepth 100000 in
theorem KL706 : mm_lk mz_M.1 706 = some (706, .iaload, 707, []) := rfl
set_option maxRecDepth 100000 in
theorem KL707 : mm_lk mz_M.1 707 = some (707, .invokevirtual 166, 710, [0, 264, 2, 14, 2282, 2283, 2284, 151]) := rfl
set_option maxRecDepth 100000 in
theorem KL710 : mm_lk mz_M.1 710 = some (710, .istore 6, 712, []) := rfl
set_option maxRecDepth 100000 in
theorem KL712 : mm_lk mz_M.1 712 = some (712, .goto 726, 715, [1438]) := rfl
set_option maxRecDepth 100000 in
theorem KL715 : mm_lk mz_M.1 715 = some (715, .aload_n 1, 716, []) := rfl
set_option maxRecDepth 100000 in
theorem KL716 : mm_lk mz_M.1 716 = some (716, .aload_n 0, 717, []) := rfl
set_option maxRecDepth 100000 in
theorem KL717 : mm_lk mz_M.1 717 = some (717, .iload 4, 719, []) := rfl
set_option maxRecDepth 100000 in
theorem KL719 : mm_lk mz_M.1 719 = some (719, .iconst 1, 720, []) := rfl
set_option maxRecDepth 100000 in
theorem KL720 : mm_lk mz_M.1 720 = some (720, .iadd, 721, []) := rfl
set_option maxRecDepth 100000 in
theorem KL721 : mm_lk mz_M.1 721 = some (721, .iaload, 722, []) := rfl
set_option maxRecDepth 100000 in
theorem KL722 : mm_lk mz_M.1 722 = some (722, .aload_n 0, 723, []) := rfl
set_option maxRecDepth 100000 in
theorem KL723 : mm_lk mz_M.1 723 = some (723, .iload 4, 725, []) := rfl
set_option maxRecDepth 100000 in
theorem KL725 : mm_lk mz_M.1 725 = some (725, .iconst 2, 726, []) := rfl
set_option maxRecDepth 100000 in
theorem KL726 : mm_lk mz_M.1 726 = some (726, .iadd, 727, []) := rfl
set_option maxRecDepth 100000 in
theorem KL727 : mm_lk mz_M.1 727 = some (727, .iaload, 728, []) := rfl
set_option maxRecDepth 100000 in
theorem KL728 : mm_lk mz_M.1 728 = some (728, .aload_n 3, 729, []) := rfl
set_option maxRecDepth 100000 in
theorem KL729 : mm_lk mz_M.1 729 = some (729, .invokestatic 167, 732, [8, 326, 4, 1665, 1666, 131]) := rfl
set_option maxRecDepth 100000 in
theorem KL732 : mm_lk mz_M.1 732 = some (732, .istore 5, 734, []) := rfl
set_option maxRecDepth 100000 in
theorem KL734 : mm_lk mz_M.1 734 = some (734, .aload_n 2, 735, []) := rfl
set_option maxRecDepth 100000 in
theorem KL735 : mm_lk mz_M.1 735 = some (735, .aload_n 0, 736, []) := rfl
set_option maxRecDepth 100000 in
theorem KL736 : mm_lk mz_M.1 736 = some (736, .iload 4, 738, []) := rfl
set_option maxRecDepth 100000 in
theorem KL738 : mm_lk mz_M.1 738 = some (738, .iconst 1, 739, []) := rfl
set_option maxRecDepth 100000 in
theorem KL739 : mm_lk mz_M.1 739 = some (739, .iadd, 740, []) := rfl
set_option maxRecDepth 100000 in
theorem KL740 : mm_lk mz_M.1 740 = some (740, .iaload, 741, []) := rfl
set_option maxRecDepth 100000 in
theorem KL741 : mm_lk mz_M.1 741 = some (741, .aload_n 0, 742, []) := rfl
set_option maxRecDepth 100000 in
theorem KL742 : mm_lk mz_M.1 742 = some (742, .iload 4, 744, []) := rfl
set_option maxRecDepth 100000 in
theorem KL744 : mm_lk mz_M.1 744 = some (744, .iconst 2, 745, []) := rfl
set_option maxRecDepth 100000 in
theorem KL745 : mm_lk mz_M.1 745 = some (745, .iadd, 746, []) := rfl
set_option maxRecDepth 100000 in
theorem KL746 : mm_lk mz_M.1 746 = some (746, .iaload, 747, []) := rfl
set_option maxRecDepth 100000 in
theorem KL747 : mm_lk mz_M.1 747 = some (747, .invokevirtual 169, 750, [0, 265, 3, 14, 2286, 2287, 2288, 151]) := rfl
set_option maxRecDepth 100000 in
theorem KL750 : mm_lk mz_M.1 750 = some (750, .istore 6, 752, []) := rfl
set_option maxRecDepth 100000 in
theorem KL752 : mm_lk mz_M.1 752 = some (752, .goto 686, 755, [1438]) := rfl
set_option maxRecDepth 100000 in
theorem KL755 : mm_lk mz_M.1 755 = some (755, .aload_n 1, 756, []) := rfl
set_option maxRecDepth 100000 in
theorem KL756 : mm_lk mz_M.1 756 = some (756, .aload_n 0, 757, []) := rfl
set_option maxRecDepth 100000 in
theorem KL757 : mm_lk mz_M.1 757 = some (757, .iload 4, 759, []) := rfl
set_option maxRecDepth 100000 in
theorem KL759 : mm_lk mz_M.1 759 = some (759, .iconst 1, 760, []) := rfl
set_option maxRecDepth 100000 in
theorem KL760 : mm_lk mz_M.1 760 = some (760, .iadd, 761, []) := rfl
set_option maxRecDepth 100000 in
theorem KL761 : mm_lk mz_M.1 761 = some (761, .iaload, 762, []) := rfl
set_option maxRecDepth 100000 in
theorem KL762 : mm_lk mz_M.1 762 = some (762, .aload_n 3, 763, []) := rfl
set_option maxRecDepth 100000 in
theorem KL763 : mm_lk mz_M.1 763 = some (763, .invokestatic 170, 766, [8, 327, 3, 1676, 1677, 131]) := rfl
set_option maxRecDepth 100000 in
theorem KL766 : mm_lk mz_M.1 766 = some (766, .istore 5, 768, []) := rfl
set_option maxRecDepth 100000 in
theorem KL768 : mm_lk mz_M.1 768 = some (768, .aload_n 2, 769, []) := rfl
set_option maxRecDepth 100000 in
theorem KL769 : mm_lk mz_M.1 769 = some (769, .aload_n 0, 770, []) := rfl
set_option maxRecDepth 100000 in
theorem KL770 : mm_lk mz_M.1 770 = some (770, .iload 4, 772, []) := rfl
set_option maxRecDepth 100000 in
theorem KL772 : mm_lk mz_M.1 772 = some (772, .iconst 1, 773, []) := rfl
set_option maxRecDepth 100000 in
theorem KL773 : mm_lk mz_M.1 773 = some (773, .iadd, 774, []) := rfl
set_option maxRecDepth 100000 in
theorem KL774 : mm_lk mz_M.1 774 = some (774, .iaload, 775, []) := rfl
set_option maxRecDepth 100000 in
theorem KL775 : mm_lk mz_M.1 775 = some (775, .invokevirtual 172, 778, [0, 266, 2, 14, 2290, 2291, 2292, 151]) := rfl
set_option maxRecDepth 100000 in
theorem KL778 : mm_lk mz_M.1 778 = some (778, .istore 6, 780, []) := rfl
set_option maxRecDepth 100000 in
theorem KL780 : mm_lk mz_M.1 780 = some (780, .goto 658, 783, [1438]) := rfl
set_option maxRecDepth 100000 in
theorem KL783 : mm_lk mz_M.1 783 = some (783, .aload_n 1, 784, []) := rfl
set_option maxRecDepth 100000 in
theorem KL784 : mm_lk mz_M.1 784 = some (784, .invokevirtual 173, 787, [0, 115, 1, 13, 896, 897, 898, 132]) := rfl
set_option maxRecDepth 100000 in
theorem KL787 : mm_lk mz_M.1 787 = some (787, .pop, 788, []) := rfl
set_option maxRecDepth 100000 in
theorem KL788 : mm_lk mz_M.1 788 = some (788, .aload_n 2, 789, []) := rfl
set_option maxRecDepth 100000 in
theorem KL789 : mm_lk mz_M.1 789 = some (789, .invokevirtual 176, 792, [0, 267, 1, 14, 2298, 2299, 2300, 151]) := rfl
set_option maxRecDepth 100000 in
theorem KL792 : mm_lk mz_M.1 792 = some (792, .pop, 793, []) := rfl
set_option maxRecDepth 100000 in
theorem KL793 : mm_lk mz_M.1 793 = some (793, .goto 645, 796, [1438]) := rfl
set_option maxRecDepth 100000 in
theorem KL796 : mm_lk mz_M.1 796 = some (796, .aload_n 1, 797, []) := rfl
set_option maxRecDepth 100000 in
theorem KL797 : mm_lk mz_M.1 797 = some (797, .invokevirtual 177, 800, [0, 116, 1, 13, 905, 906, 907, 132]) := rfl
set_option maxRecDepth 100000 in
theorem KL800 : mm_lk mz_M.1 800 = some (800, .pop, 801, []) := rfl
set_option maxRecDepth 100000 in
theorem KL801 : mm_lk mz_M.1 801 = some (801, .aload_n 2, 802, []) := rfl
set_option maxRecDepth 100000 in
theorem KL802 : mm_lk mz_M.1 802 = some (802, .invokevirtual 180, 805, [0, 268, 1, 14, 2302, 2303, 2304, 151]) := rfl
set_option maxRecDepth 100000 in
theorem KL805 : mm_lk mz_M.1 805 = some (805, .pop, 806, []) := rfl
set_option maxRecDepth 100000 in
theorem KL806 : mm_lk mz_M.1 806 = some (806, .goto 632, 809, [1438]) := rfl
set_option maxRecDepth 100000 in
theorem KL809 : mm_lk mz_M.1 809 = some (809, .aload_n 1, 810, []) := rfl
set_option maxRecDepth 100000 in
theorem KL810 : mm_lk mz_M.1 810 = some (810, .invokevirtual 181, 813, [0, 117, 1, 13, 913, 914, 915, 132]) := rfl
set_option maxRecDepth 100000 in
theorem KL813 : mm_lk mz_M.1 813 = some (813, .pop, 814, []) := rfl
set_option maxRecDepth 100000 in
theorem KL814 : mm_lk mz_M.1 814 = some (814, .aload_n 2, 815, []) := rfl
set_option maxRecDepth 100000 in
theorem KL815 : mm_lk mz_M.1 815 = some (815, .invokevirtual 184, 818, [0, 269, 1, 14, 2306, 2307, 2308, 151]) := rfl
set_option maxRecDepth 100000 in
theorem KL818 : mm_lk mz_M.1 818 = some (818, .pop, 819, []) := rfl
set_option maxRecDepth 100000 in
theorem KL819 : mm_lk mz_M.1 819 = some (819, .goto 619, 822, [1438]) := rfl
set_option maxRecDepth 100000 in
theorem KL822 : mm_lk mz_M.1 822 = some (822, .aload_n 1, 823, []) := rfl
set_option maxRecDepth 100000 in
theorem KL823 : mm_lk mz_M.1 823 = some (823, .invokevirtual 185, 826, [0, 118, 1, 13, 922, 923, 924, 132]) := rfl
set_option maxRecDepth 100000 in
theorem KL826 : mm_lk mz_M.1 826 = some (826, .pop, 827, []) := rfl
set_option maxRecDepth 100000 in
theorem KL827 : mm_lk mz_M.1 827 = some (827, .aload_n 2, 828, []) := rfl
set_option maxRecDepth 100000 in
theorem KL828 : mm_lk mz_M.1 828 = some (828, .invokevirtual 189, 831, [0, 270, 1, 14, 2310, 2311, 2312, 151]) := rfl
set_option maxRecDepth 100000 in
theorem KL831 : mm_lk mz_M.1 831 = some (831, .pop, 832, []) := rfl
set_option maxRecDepth 100000 in
theorem KL832 : mm_lk mz_M.1 832 = some (832, .goto 606, 835, [1438]) := rfl
set_option maxRecDepth 100000 in
theorem KL835 : mm_lk mz_M.1 835 = some (835, .aload_n 1, 836, []) := rfl
set_option maxRecDepth 100000 in
theorem KL836 : mm_lk mz_M.1 836 = some (836, .invokevirtual 190, 839, [0, 119, 1, 13, 928, 929, 930, 132]) := rfl
set_option maxRecDepth 100000 in
theorem KL839 : mm_lk mz_M.1 839 = some (839, .pop, 840, []) := rfl
set_option maxRecDepth 100000 in
theorem KL840 : mm_lk mz_M.1 840 = some (840, .aload_n 2, 841, []) := rfl
set_option maxRecDepth 100000 in
theorem KL841 : mm_lk mz_M.1 841 = some (841, .invokevirtual 193, 844, [0, 271, 1, 14, 2314, 2315, 2316, 151]) := rfl
set_option maxRecDepth 100000 in
theorem KL844 : mm_lk mz_M.1 844 = some (844, .pop, 845, []) := rfl
set_option maxRecDepth 100000 in
theorem KL845 : mm_lk mz_M.1 845 = some (845, .goto 593, 848, [1438]) := rfl
set_option maxRecDepth 100000 in
theorem KL848 : mm_lk mz_M.1 848 = some (848, .aload_n 1, 849, []) := rfl
set_option maxRecDepth 100000 in
theorem KL849 : mm_lk mz_M.1 849 = some (849, .invokevirtual 194, 852, [0, 120, 1, 13, 933, 934, 935, 132]) := rfl
set_option maxRecDepth 100000 in
theorem KL852 : mm_lk mz_M.1 852 = some (852, .pop, 853, []) := rfl
set_option maxRecDepth 100000 in
theorem KL853 : mm_lk mz_M.1 853 = some (853, .aload_n 2, 854, []) := rfl
set_option maxRecDepth 100000 in
theorem KL854 : mm_lk mz_M.1 854 = some (854, .invokevirtual 197, 857, [0, 272, 1, 14, 2318, 2319, 2320, 151]) := rfl
set_option maxRecDepth 100000 in
theorem KL857 : mm_lk mz_M.1 857 = some (857, .pop, 858, []) := rfl
set_option maxRecDepth 100000 in
theorem KL858 : mm_lk mz_M.1 858 = some (858, .goto 580, 861, [1438]) := rfl
set_option maxRecDepth 100000 in
theorem KL861 : mm_lk mz_M.1 861 = some (861, .aload_n 1, 862, []) := rfl
set_option maxRecDepth 100000 in
theorem KL862 : mm_lk mz_M.1 862 = some (862, .aload_n 0, 863, []) := rfl
set_option maxRecDepth 100000 in
theorem KL863 : mm_lk mz_M.1 863 = some (863, .iload 4, 865, []) := rfl
set_option maxRecDepth 100000 in
theorem KL865 : mm_lk mz_M.1 865 = some (865, .iconst 1, 866, []) := rfl
set_option maxRecDepth 100000 in
theorem KL866 : mm_lk mz_M.1 866 = some (866, .iadd, 867, []) := rfl
set_option maxRecDepth 100000 in
theorem KL867 : mm_lk mz_M.1 867 = some (867, .iaload, 868, []) := rfl
set_option maxRecDepth 100000 in
theorem KL868 : mm_lk mz_M.1 868 = some (868, .aload_n 0, 869, []) := rfl
set_option maxRecDepth 100000 in
theorem KL869 : mm_lk mz_M.1 869 = some (869, .iload 4, 871, []) := rfl
set_option maxRecDepth 100000 in
theorem KL871 : mm_lk mz_M.1 871 = some (871, .iconst 2, 872, []) := rfl
set_option maxRecDepth 100000 in
theorem KL872 : mm_lk mz_M.1 872 = some (872, .iadd, 873, []) := rfl
set_option maxRecDepth 100000 in
theorem KL873 : mm_lk mz_M.1 873 = some (873, .iaload, 874, []) := rfl
set_option maxRecDepth 100000 in
theorem KL874 : mm_lk mz_M.1 874 = some (874, .aload_n 3, 875, []) := rfl
set_option maxRecDepth 100000 in
theorem KL875 : mm_lk mz_M.1 875 = some (875, .invokestatic 198, 878, [8, 328, 4, 1683, 1684, 131]) := rfl
set_option maxRecDepth 100000 in
theorem KL878 : mm_lk mz_M.1 878 = some (878, .istore 5, 880, []) := rfl
set_option maxRecDepth 100000 in
theorem KL880 : mm_lk mz_M.1 880 = some (880, .aload_n 2, 881, []) := rfl
set_option maxRecDepth 100000 in
theorem KL881 : mm_lk mz_M.1 881 = some (881, .aload_n 0, 882, []) := rfl
set_option maxRecDepth 100000 in
theorem KL882 : mm_lk mz_M.1 882 = some (882, .iload 4, 884, []) := rfl
set_option maxRecDepth 100000 in
theorem KL884 : mm_lk mz_M.1 884 = some (884, .iconst 1, 885, []) := rfl
set_option maxRecDepth 100000 in
theorem KL885 : mm_lk mz_M.1 885 = some (885, .iadd, 886, []) := rfl
set_option maxRecDepth 100000 in
theorem KL886 : mm_lk mz_M.1 886 = some (886, .iaload, 887, []) := rfl
set_option maxRecDepth 100000 in
theorem KL887 : mm_lk mz_M.1 887 = some (887, .aload_n 0, 888, []) := rfl
set_option maxRecDepth 100000 in
theorem KL888 : mm_lk mz_M.1 888 = some (888, .iload 4, 890, []) := rfl
set_option maxRecDepth 100000 in
theorem KL890 : mm_lk mz_M.1 890 = some (890, .iconst 2, 891, []) := rfl
set_option maxRecDepth 100000 in
theorem KL891 : mm_lk mz_M.1 891 = some (891, .iadd, 892, []) := rfl
set_option maxRecDepth 100000 in
theorem KL892 : mm_lk mz_M.1 892 = some (892, .iaload, 893, []) := rfl
set_option maxRecDepth 100000 in
theorem KL893 : mm_lk mz_M.1 893 = some (893, .invokevirtual 200, 896, [0, 273, 3, 14, 2322, 2323, 2324, 151]) := rfl
set_option maxRecDepth 100000 in
theorem KL896 : mm_lk mz_M.1 896 = some (896, .istore 6, 898, []) := rfl
set_option maxRecDepth 100000 in
theorem KL898 : mm_lk mz_M.1 898 = some (898, .goto 540, 901, [1438]) := rfl
set_option maxRecDepth 100000 in
theorem KL901 : mm_lk mz_M.1 901 = some (901, .aload_n 1, 902, []) := rfl
set_option maxRecDepth 100000 in
theorem KL902 : mm_lk mz_M.1 902 = some (902, .invokevirtual 201, 905, [0, 122, 1, 13, 938, 939, 940, 132]) := rfl
set_option maxRecDepth 100000 in
theorem KL905 : mm_lk mz_M.1 905 = some (905, .pop, 906, []) := rfl
set_option maxRecDepth 100000 in
theorem KL906 : mm_lk mz_M.1 906 = some (906, .aload_n 2, 907, []) := rfl
set_option maxRecDepth 100000 in
theorem KL907 : mm_lk mz_M.1 907 = some (907, .invokevirtual 204, 910, [0, 275, 1, 14, 2326, 2327, 2328, 151]) := rfl
set_option maxRecDepth 100000 in
theorem KL910 : mm_lk mz_M.1 910 = some (910, .pop, 911, []) := rfl
set_option maxRecDepth 100000 in
theorem KL911 : mm_lk mz_M.1 911 = some (911, .goto 527, 914, [1438]) := rfl
set_option maxRecDepth 100000 in
theorem KL914 : mm_lk mz_M.1 914 = some (914, .aload_n 1, 915, []) := rfl
set_option maxRecDepth 100000 in
theorem KL915 : mm_lk mz_M.1 915 = some (915, .invokevirtual 205, 918, [0, 123, 1, 13, 942, 943, 944, 132]) := rfl
set_option maxRecDepth 100000 in
theorem KL918 : mm_lk mz_M.1 918 = some (918, .pop, 919, []) := rfl
set_option maxRecDepth 100000 in
theorem KL919 : mm_lk mz_M.1 919 = some (919, .aload_n 2, 920, []) := rfl
set_option maxRecDepth 100000 in
theorem KL920 : mm_lk mz_M.1 920 = some (920, .invokevirtual 208, 923, [0, 278, 1, 14, 2334, 2335, 2336, 151]) := rfl
set_option maxRecDepth 100000 in
theorem KL923 : mm_lk mz_M.1 923 = some (923, .pop, 924, []) := rfl
set_option maxRecDepth 100000 in
theorem KL924 : mm_lk mz_M.1 924 = some (924, .goto 514, 927, [1438]) := rfl
set_option maxRecDepth 100000 in
theorem KL927 : mm_lk mz_M.1 927 = some (927, .aload_n 1, 928, []) := rfl
set_option maxRecDepth 100000 in
theorem KL928 : mm_lk mz_M.1 928 = some (928, .aload_n 0, 929, []) := rfl
set_option maxRecDepth 100000 in
theorem KL929 : mm_lk mz_M.1 929 = some (929, .iload 4, 931, []) := rfl
set_option maxRecDepth 100000 in
theorem KL931 : mm_lk mz_M.1 931 = some (931, .iconst 1, 932, []) := rfl
set_option maxRecDepth 100000 in
theorem KL932 : mm_lk mz_M.1 932 = some (932, .iadd, 933, []) := rfl
set_option maxRecDepth 100000 in
theorem KL933 : mm_lk mz_M.1 933 = some (933, .iaload, 934, []) := rfl
set_option maxRecDepth 100000 in
theorem KL934 : mm_lk mz_M.1 934 = some (934, .aload_n 3, 935, []) := rfl
set_option maxRecDepth 100000 in
theorem KL935 : mm_lk mz_M.1 935 = some (935, .invokestatic 209, 938, [8, 329, 3, 1694, 1695, 131]) := rfl
set_option maxRecDepth 100000 in
theorem KL938 : mm_lk mz_M.1 938 = some (938, .istore 5, 940, []) := rfl
set_option maxRecDepth 100000 in
theorem KL940 : mm_lk mz_M.1 940 = some (940, .aload_n 2, 941, []) := rfl
set_option maxRecDepth 100000 in
theorem KL941 : mm_lk mz_M.1 941 = some (941, .aload_n 0, 942, []) := rfl
set_option maxRecDepth 100000 in
theorem KL942 : mm_lk mz_M.1 942 = some (942, .iload 4, 944, []) := rfl
set_option maxRecDepth 100000 in
theorem KL944 : mm_lk mz_M.1 944 = some (944, .iconst 1, 945, []) := rfl
set_option maxRecDepth 100000 in
theorem KL945 : mm_lk mz_M.1 945 = some (945, .iadd, 946, []) := rfl
set_option maxRecDepth 100000 in
theorem KL946 : mm_lk mz_M.1 946 = some (946, .iaload, 947, []) := rfl
set_option maxRecDepth 100000 in
theorem KL947 : mm_lk mz_M.1 947 = some (947, .invokevirtual 211, 950, [0, 279, 2, 14, 2346, 2347, 2348, 151]) := rfl
set_option maxRecDepth 100000 in
theorem KL950 : mm_lk mz_M.1 950 = some (950, .istore 6, 952, []) := rfl
set_option maxRecDepth 100000 in
theorem KL952 : mm_lk mz_M.1 952 = some (952, .goto 486, 955, [1438]) := rfl
set_option maxRecDepth 100000 in
theorem KL955 : mm_lk mz_M.1 955 = some (955, .aload_n 1, 956, []) := rfl
set_option maxRecDepth 100000 in
theorem KL956 : mm_lk mz_M.1 956 = some (956, .aload_n 0, 957, []) := rfl
set_option maxRecDepth 100000 in
theorem KL957 : mm_lk mz_M.1 957 = some (957, .iload 4, 959, []) := rfl
set_option maxRecDepth 100000 in
theorem KL959 : mm_lk mz_M.1 959 = some (959, .iconst 1, 960, []) := rfl
set_option maxRecDepth 100000 in
theorem KL960 : mm_lk mz_M.1 960 = some (960, .iadd, 961, []) := rfl
set_option maxRecDepth 100000 in
theorem KL961 : mm_lk mz_M.1 961 = some (961, .iaload, 962, []) := rfl
set_option maxRecDepth 100000 in
theorem KL962 : mm_lk mz_M.1 962 = some (962, .aload_n 3, 963, []) := rfl
set_option maxRecDepth 100000 in
theorem KL963 : mm_lk mz_M.1 963 = some (963, .invokestatic 212, 966, [8, 330, 3, 1701, 1702, 131]) := rfl
set_option maxRecDepth 100000 in
theorem KL966 : mm_lk mz_M.1 966 = some (966, .istore 5, 968, []) := rfl
set_option maxRecDepth 100000 in
theorem KL968 : mm_lk mz_M.1 968 = some (968, .aload_n 2, 969, []) := rfl
set_option maxRecDepth 100000 in
theorem KL969 : mm_lk mz_M.1 969 = some (969, .aload_n 0, 970, []) := rfl
set_option maxRecDepth 100000 in
theorem KL970 : mm_lk mz_M.1 970 = some (970, .iload 4, 972, []) := rfl
set_option maxRecDepth 100000 in
theorem KL972 : mm_lk mz_M.1 972 = some (972, .iconst 1, 973, []) := rfl
set_option maxRecDepth 100000 in
theorem KL973 : mm_lk mz_M.1 973 = some (973, .iadd, 974, []) := rfl
set_option maxRecDepth 100000 in
theorem KL974 : mm_lk mz_M.1 974 = some (974, .iaload, 975, []) := rfl
set_option maxRecDepth 100000 in
theorem KL975 : mm_lk mz_M.1 975 = some (975, .invokevirtual 214, 978, [0, 281, 2, 14, 2350, 2351, 2352, 151]) := rfl
set_option maxRecDepth 100000 in
theorem KL978 : mm_lk mz_M.1 978 = some (978, .istore 6, 980, []) := rfl
set_option maxRecDepth 100000 in
theorem KL980 : mm_lk mz_M.1 980 = some (980, .goto 458, 983, [1438]) := rfl
set_option maxRecDepth 100000 in
theorem KL983 : mm_lk mz_M.1 983 = some (983, .aload_n 1, 984, []) := rfl
set_option maxRecDepth 100000 in
theorem KL984 : mm_lk mz_M.1 984 = some (984, .aload_n 0, 985, []) := rfl
set_option maxRecDepth 100000 in
theorem KL985 : mm_lk mz_M.1 985 = some (985, .iload 4, 987, []) := rfl
set_option maxRecDepth 100000 in
theorem KL987 : mm_lk mz_M.1 987 = some (987, .iconst 1, 988, []) := rfl
set_option maxRecDepth 100000 in
theorem KL988 : mm_lk mz_M.1 988 = some (988, .iadd, 989, []) := rfl
set_option maxRecDepth 100000 in
theorem KL989 : mm_lk mz_M.1 989 = some (989, .iaload, 990, []) := rfl
set_option maxRecDepth 100000 in
theorem KL990 : mm_lk mz_M.1 990 = some (990, .aload_n 3, 991, []) := rfl
set_option maxRecDepth 100000 in
theorem KL991 : mm_lk mz_M.1 991 = some (991, .invokestatic 215, 994, [8, 331, 3, 1715, 1716, 131]) := rfl
set_option maxRecDepth 100000 in
theorem KL994 : mm_lk mz_M.1 994 = some (994, .istore 5, 996, []) := rfl
set_option maxRecDepth 100000 in
theorem KL996 : mm_lk mz_M.1 996 = some (996, .aload_n 2, 997, []) := rfl
set_option maxRecDepth 100000 in
theorem KL997 : mm_lk mz_M.1 997 = some (997, .aload_n 0, 998, []) := rfl
set_option maxRecDepth 100000 in
theorem KL998 : mm_lk mz_M.1 998 = some (998, .iload 4, 1000, []) := rfl
set_option maxRecDepth 100000 in
theorem KL1000 : mm_lk mz_M.1 1000 = some (1000, .iconst 1, 1001, []) := rfl
set_option maxRecDepth 100000 in
theorem KL1001 : mm_lk mz_M.1 1001 = some (1001, .iadd, 1002, []) := rfl
set_option maxRecDepth 100000 in
theorem KL1002 : mm_lk mz_M.1 1002 = some (1002, .iaload, 1003, []) := rfl
set_option maxRecDepth 100000 in
theorem KL1003 : mm_lk mz_M.1 1003 = some (1003, .invokevirtual 217, 1006, [0, 283, 2, 14, 2362, 2363, 2364, 151]) := rfl
set_option maxRecDepth 100000 in
theorem KL1006 : mm_lk mz_M.1 1006 = some (1006, .istore 6, 1008, []) := rfl
set_option maxRecDepth 100000 in
theorem KL1008 : mm_lk mz_M.1 1008 = some (1008, .goto 430, 1011, [1438]) := rfl
set_option maxRecDepth 100000 in
theorem KL1011 : mm_lk mz_M.1 1011 = some (1011, .aload_n 1, 1012, []) := rfl
set_option maxRecDepth 100000 in
theorem KL1012 : mm_lk mz_M.1 1012 = some (1012, .invokevirtual 218, 1015, [0, 127, 1, 13, 967, 968, 969, 132]) := rfl
set_option maxRecDepth 100000 in
theorem KL1015 : mm_lk mz_M.1 1015 = some (1015, .pop, 1016, []) := rfl
set_option maxRecDepth 100000 in
theorem KL1016 : mm_lk mz_M.1 1016 = some (1016, .aload_n 2, 1017, []) := rfl
set_option maxRecDepth 100000 in
theorem KL1017 : mm_lk mz_M.1 1017 = some (1017, .invokevirtual 221, 1020, [0, 284, 1, 14, 2370, 2371, 2372, 151]) := rfl
set_option maxRecDepth 100000 in
theorem KL1020 : mm_lk mz_M.1 1020 = some (1020, .pop, 1021, []) := rfl
set_option maxRecDepth 100000 in
theorem KL1021 : mm_lk mz_M.1 1021 = some (1021, .goto 417, 1024, [1438]) := rfl
set_option maxRecDepth 100000 in
theorem KL1024 : mm_lk mz_M.1 1024 = some (1024, .aload_n 1, 1025, []) := rfl
set_option maxRecDepth 100000 in
theorem KL1025 : mm_lk mz_M.1 1025 = some (1025, .aload_n 0, 1026, []) := rfl
set_option maxRecDepth 100000 in
theorem KL1026 : mm_lk mz_M.1 1026 = some (1026, .iload 4, 1028, []) := rfl
set_option maxRecDepth 100000 in
theorem KL1028 : mm_lk mz_M.1 1028 = some (1028, .iconst 1, 1029, []) := rfl
set_option maxRecDepth 100000 in
theorem KL1029 : mm_lk mz_M.1 1029 = some (1029, .iadd, 1030, []) := rfl
set_option maxRecDepth 100000 in
theorem KL1030 : mm_lk mz_M.1 1030 = some (1030, .iaload, 1031, []) := rfl
set_option maxRecDepth 100000 in
theorem KL1031 : mm_lk mz_M.1 1031 = some (1031, .aload_n 3, 1032, []) := rfl
set_option maxRecDepth 100000 in
theorem KL1032 : mm_lk mz_M.1 1032 = some (1032, .invokestatic 222, 1035, [8, 332, 3, 1723, 1724, 131]) := rfl
set_option maxRecDepth 100000 in
theorem KL1035 : mm_lk mz_M.1 1035 = some (1035, .istore 5, 1037, []) := rfl
set_option maxRecDepth 100000 in
theorem KL1037 : mm_lk mz_M.1 1037 = some (1037, .aload_n 2, 1038, []) := rfl
set_option maxRecDepth 100000 in
theorem KL1038 : mm_lk mz_M.1 1038 = some (1038, .aload_n 0, 1039, []) := rfl
set_option maxRecDepth 100000 in
theorem KL1039 : mm_lk mz_M.1 1039 = some (1039, .iload 4, 1041, []) := rfl
set_option maxRecDepth 100000 in
theorem KL1041 : mm_lk mz_M.1 1041 = some (1041, .iconst 1, 1042, []) := rfl
set_option maxRecDepth 100000 in
theorem KL1042 : mm_lk mz_M.1 1042 = some (1042, .iadd, 1043, []) := rfl
set_option maxRecDepth 100000 in
theorem KL1043 : mm_lk mz_M.1 1043 = some (1043, .iaload, 1044, []) := rfl
set_option maxRecDepth 100000 in
theorem KL1044 : mm_lk mz_M.1 1044 = some (1044, .invokevirtual 224, 1047, [0, 286, 2, 14, 2374, 2375, 2376, 151]) := rfl
set_option maxRecDepth 100000 in
theorem KL1047 : mm_lk mz_M.1 1047 = some (1047, .istore 6, 1049, []) := rfl
set_option maxRecDepth 100000 in
theorem KL1049 : mm_lk mz_M.1 1049 = some (1049, .goto 389, 1052, [1438]) := rfl
set_option maxRecDepth 100000 in
theorem KL1052 : mm_lk mz_M.1 1052 = some (1052, .aload_n 1, 1053, []) := rfl
set_option maxRecDepth 100000 in
theorem KL1053 : mm_lk mz_M.1 1053 = some (1053, .aload_n 0, 1054, []) := rfl
set_option maxRecDepth 100000 in
theorem KL1054 : mm_lk mz_M.1 1054 = some (1054, .iload 4, 1056, []) := rfl
set_option maxRecDepth 100000 in
theorem KL1056 : mm_lk mz_M.1 1056 = some (1056, .iconst 1, 1057, []) := rfl
set_option maxRecDepth 100000 in
theorem KL1057 : mm_lk mz_M.1 1057 = some (1057, .iadd, 1058, []) := rfl
set_option maxRecDepth 100000 in
theorem KL1058 : mm_lk mz_M.1 1058 = some (1058, .iaload, 1059, []) := rfl
set_option maxRecDepth 100000 in
theorem KL1059 : mm_lk mz_M.1 1059 = some (1059, .aload_n 0, 1060, []) := rfl
set_option maxRecDepth 100000 in
theorem KL1060 : mm_lk mz_M.1 1060 = some (1060, .iload 4, 1062, []) := rfl
set_option maxRecDepth 100000 in
theorem KL1062 : mm_lk mz_M.1 1062 = some (1062, .iconst 2, 1063, []) := rfl
set_option maxRecDepth 100000 in
theorem KL1063 : mm_lk mz_M.1 1063 = some (1063, .iadd, 1064, []) := rfl
set_option maxRecDepth 100000 in
theorem KL1064 : mm_lk mz_M.1 1064 = some (1064, .iaload, 1065, []) := rfl
set_option maxRecDepth 100000 in
theorem KL1065 : mm_lk mz_M.1 1065 = some (1065, .aload_n 3, 1066, []) := rfl
set_option maxRecDepth 100000 in
theorem KL1066 : mm_lk mz_M.1 1066 = some (1066, .invokestatic 225, 1069, [8, 333, 4, 1730, 1731, 131]) := rfl
set_option maxRecDepth 100000 in
theorem KL1069 : mm_lk mz_M.1 1069 = some (1069, .istore 5, 1071, []) := rfl
set_option maxRecDepth 100000 in
theorem KL1071 : mm_lk mz_M.1 1071 = some (1071, .aload_n 2, 1072, []) := rfl
set_option maxRecDepth 100000 in
theorem KL1072 : mm_lk mz_M.1 1072 = some (1072, .aload_n 0, 1073, []) := rfl
set_option maxRecDepth 100000 in
theorem KL1073 : mm_lk mz_M.1 1073 = some (1073, .iload 4, 1075, []) := rfl
set_option maxRecDepth 100000 in
theorem KL1075 : mm_lk mz_M.1 1075 = some (1075, .iconst 1, 1076, []) := rfl
set_option maxRecDepth 100000 in
theorem KL1076 : mm_lk mz_M.1 1076 = some (1076, .iadd, 1077, []) := rfl
set_option maxRecDepth 100000 in
theorem KL1077 : mm_lk mz_M.1 1077 = some (1077, .iaload, 1078, []) := rfl
set_option maxRecDepth 100000 in
theorem KL1078 : mm_lk mz_M.1 1078 = some (1078, .aload_n 0, 1079, []) := rfl
set_option maxRecDepth 100000 in
theorem KL1079 : mm_lk mz_M.1 1079 = some (1079, .iload 4, 1081, []) := rfl
set_option maxRecDepth 100000 in
theorem KL1081 : mm_lk mz_M.1 1081 = some (1081, .iconst 2, 1082, []) := rfl
set_option maxRecDepth 100000 in
theorem KL1082 : mm_lk mz_M.1 1082 = some (1082, .iadd, 1083, []) := rfl
set_option maxRecDepth 100000 in
theorem KL1083 : mm_lk mz_M.1 1083 = some (1083, .iaload, 1084, []) := rfl
set_option maxRecDepth 100000 in
theorem KL1084 : mm_lk mz_M.1 1084 = some (1084, .invokevirtual 227, 1087, [0, 287, 3, 14, 2382, 2383, 2384, 151]) := rfl
set_option maxRecDepth 100000 in
theorem KL1087 : mm_lk mz_M.1 1087 = some (1087, .istore 6, 1089, []) := rfl
set_option maxRecDepth 100000 in
theorem KL1089 : mm_lk mz_M.1 1089 = some (1089, .goto 349, 1092, [1438]) := rfl
set_option maxRecDepth 100000 in
theorem KL1092 : mm_lk mz_M.1 1092 = some (1092, .aload_n 1, 1093, []) := rfl
set_option maxRecDepth 100000 in
theorem KL1093 : mm_lk mz_M.1 1093 = some (1093, .aload_n 0, 1094, []) := rfl
set_option maxRecDepth 100000 in
theorem KL1094 : mm_lk mz_M.1 1094 = some (1094, .iload 4, 1096, []) := rfl
set_option maxRecDepth 100000 in
theorem KL1096 : mm_lk mz_M.1 1096 = some (1096, .iconst 1, 1097, []) := rfl
set_option maxRecDepth 100000 in
theorem KL1097 : mm_lk mz_M.1 1097 = some (1097, .iadd, 1098, []) := rfl
set_option maxRecDepth 100000 in
theorem KL1098 : mm_lk mz_M.1 1098 = some (1098, .iaload, 1099, []) := rfl
set_option maxRecDepth 100000 in
theorem KL1099 : mm_lk mz_M.1 1099 = some (1099, .aload_n 3, 1100, []) := rfl
set_option maxRecDepth 100000 in
theorem KL1100 : mm_lk mz_M.1 1100 = some (1100, .invokestatic 228, 1103, [8, 334, 3, 1741, 1742, 131]) := rfl
set_option maxRecDepth 100000 in
theorem KL1103 : mm_lk mz_M.1 1103 = some (1103, .istore 5, 1105, []) := rfl
set_option maxRecDepth 100000 in
theorem KL1105 : mm_lk mz_M.1 1105 = some (1105, .aload_n 2, 1106, []) := rfl
set_option maxRecDepth 100000 in
theorem KL1106 : mm_lk mz_M.1 1106 = some (1106, .aload_n 0, 1107, []) := rfl
set_option maxRecDepth 100000 in
theorem KL1107 : mm_lk mz_M.1 1107 = some (1107, .iload 4, 1109, []) := rfl
set_option maxRecDepth 100000 in
theorem KL1109 : mm_lk mz_M.1 1109 = some (1109, .iconst 1, 1110, []) := rfl
set_option maxRecDepth 100000 in
theorem KL1110 : mm_lk mz_M.1 1110 = some (1110, .iadd, 1111, []) := rfl
set_option maxRecDepth 100000 in
theorem KL1111 : mm_lk mz_M.1 1111 = some (1111, .iaload, 1112, []) := rfl
set_option maxRecDepth 100000 in
theorem KL1112 : mm_lk mz_M.1 1112 = some (1112, .invokevirtual 230, 1115, [0, 288, 2, 14, 2387, 2388, 2389, 151]) := rfl
set_option maxRecDepth 100000 in
theorem KL1115 : mm_lk mz_M.1 1115 = some (1115, .istore 6, 1117, []) := rfl
set_option maxRecDepth 100000 in
theorem KL1117 : mm_lk mz_M.1 1117 = some (1117, .goto 321, 1120, [1438]) := rfl
set_option maxRecDepth 100000 in
theorem KL1120 : mm_lk mz_M.1 1120 = some (1120, .aload_n 1, 1121, []) := rfl
set_option maxRecDepth 100000 in
theorem KL1121 : mm_lk mz_M.1 1121 = some (1121, .invokevirtual 231, 1124, [0, 131, 1, 13, 972, 973, 974, 132]) := rfl
set_option maxRecDepth 100000 in
theorem KL1124 : mm_lk mz_M.1 1124 = some (1124, .pop, 1125, []) := rfl
set_option maxRecDepth 100000 in
theorem KL1125 : mm_lk mz_M.1 1125 = some (1125, .aload_n 2, 1126, []) := rfl
set_option maxRecDepth 100000 in
theorem KL1126 : mm_lk mz_M.1 1126 = some (1126, .invokevirtual 234, 1129, [0, 289, 1, 14, 2391, 2392, 2393, 151]) := rfl
set_option maxRecDepth 100000 in
theorem KL1129 : mm_lk mz_M.1 1129 = some (1129, .pop, 1130, []) := rfl
set_option maxRecDepth 100000 in
theorem KL1130 : mm_lk mz_M.1 1130 = some (1130, .goto 308, 1133, [1438]) := rfl
set_option maxRecDepth 100000 in
theorem KL1133 : mm_lk mz_M.1 1133 = some (1133, .aload_n 1, 1134, []) := rfl
set_option maxRecDepth 100000 in
theorem KL1134 : mm_lk mz_M.1 1134 = some (1134, .invokevirtual 235, 1137, [0, 132, 1, 13, 982, 983, 984, 132]) := rfl
set_option maxRecDepth 100000 in
theorem KL1137 : mm_lk mz_M.1 1137 = some (1137, .f2d, 1138, []) := rfl
set_option maxRecDepth 100000 in
theorem KL1138 : mm_lk mz_M.1 1138 = some (1138, .dstore 5, 1140, []) := rfl
set_option maxRecDepth 100000 in
theorem KL1140 : mm_lk mz_M.1 1140 = some (1140, .aload_n 2, 1141, []) := rfl
set_option maxRecDepth 100000 in
theorem KL1141 : mm_lk mz_M.1 1141 = some (1141, .invokevirtual 239, 1144, [0, 290, 1, 14, 2395, 2396, 2397, 151]) := rfl
set_option maxRecDepth 100000 in
theorem KL1144 : mm_lk mz_M.1 1144 = some (1144, .f2d, 1145, []) := rfl
set_option maxRecDepth 100000 in
theorem KL1145 : mm_lk mz_M.1 1145 = some (1145, .dstore 7, 1147, []) := rfl
set_option maxRecDepth 100000 in
theorem KL1147 : mm_lk mz_M.1 1147 = some (1147, .goto 291, 1150, [1438]) := rfl
set_option maxRecDepth 100000 in
theorem KL1150 : mm_lk mz_M.1 1150 = some (1150, .aload_n 1, 1151, []) := rfl
set_option maxRecDepth 100000 in
theorem KL1151 : mm_lk mz_M.1 1151 = some (1151, .invokevirtual 240, 1154, [0, 133, 1, 13, 986, 987, 988, 132]) := rfl
set_option maxRecDepth 100000 in
theorem KL1154 : mm_lk mz_M.1 1154 = some (1154, .dstore 5, 1156, []) := rfl
set_option maxRecDepth 100000 in
theorem KL1156 : mm_lk mz_M.1 1156 = some (1156, .aload_n 2, 1157, []) := rfl
set_option maxRecDepth 100000 in
theorem KL1157 : mm_lk mz_M.1 1157 = some (1157, .invokevirtual 244, 1160, [0, 291, 1, 14, 2399, 2400, 2401, 151]) := rfl
set_option maxRecDepth 100000 in
theorem KL1160 : mm_lk mz_M.1 1160 = some (1160, .dstore 7, 1162, []) := rfl
set_option maxRecDepth 100000 in
theorem KL1162 : mm_lk mz_M.1 1162 = some (1162, .goto 276, 1165, [1438]) := rfl
set_option maxRecDepth 100000 in
theorem KL1165 : mm_lk mz_M.1 1165 = some (1165, .aload_n 1, 1166, []) := rfl
set_option maxRecDepth 100000 in
theorem KL1166 : mm_lk mz_M.1 1166 = some (1166, .invokevirtual 245, 1169, [0, 134, 1, 13, 994, 995, 996, 132]) := rfl
set_option maxRecDepth 100000 in
theorem KL1169 : mm_lk mz_M.1 1169 = some (1169, .pop, 1170, []) := rfl
set_option maxRecDepth 100000 in
theorem KL1170 : mm_lk mz_M.1 1170 = some (1170, .aload_n 2, 1171, []) := rfl
set_option maxRecDepth 100000 in
theorem KL1171 : mm_lk mz_M.1 1171 = some (1171, .invokevirtual 248, 1174, [0, 294, 1, 14, 2403, 2404, 2405, 151]) := rfl
set_option maxRecDepth 100000 in
theorem KL1174 : mm_lk mz_M.1 1174 = some (1174, .pop, 1175, []) := rfl
set_option maxRecDepth 100000 in
theorem KL1175 : mm_lk mz_M.1 1175 = some (1175, .goto 263, 1178, [1438]) := rfl
set_option maxRecDepth 100000 in
theorem KL1178 : mm_lk mz_M.1 1178 = some (1178, .aload_n 1, 1179, []) := rfl
set_option maxRecDepth 100000 in
theorem KL1179 : mm_lk mz_M.1 1179 = some (1179, .aload_n 0, 1180, []) := rfl
set_option maxRecDepth 100000 in
theorem KL1180 : mm_lk mz_M.1 1180 = some (1180, .iload 4, 1182, []) := rfl
set_option maxRecDepth 100000 in
theorem KL1182 : mm_lk mz_M.1 1182 = some (1182, .iconst 1, 1183, []) := rfl
set_option maxRecDepth 100000 in
theorem KL1183 : mm_lk mz_M.1 1183 = some (1183, .iadd, 1184, []) := rfl
set_option maxRecDepth 100000 in
theorem KL1184 : mm_lk mz_M.1 1184 = some (1184, .iaload, 1185, []) := rfl
set_option maxRecDepth 100000 in
theorem KL1185 : mm_lk mz_M.1 1185 = some (1185, .aload_n 3, 1186, []) := rfl
set_option maxRecDepth 100000 in
theorem KL1186 : mm_lk mz_M.1 1186 = some (1186, .invokestatic 249, 1189, [8, 335, 3, 1748, 1749, 131]) := rfl
set_option maxRecDepth 100000 in
theorem KL1189 : mm_lk mz_M.1 1189 = some (1189, .istore 5, 1191, []) := rfl
set_option maxRecDepth 100000 in
theorem KL1191 : mm_lk mz_M.1 1191 = some (1191, .aload_n 2, 1192, []) := rfl
set_option maxRecDepth 100000 in
theorem KL1192 : mm_lk mz_M.1 1192 = some (1192, .aload_n 0, 1193, []) := rfl
set_option maxRecDepth 100000 in
theorem KL1193 : mm_lk mz_M.1 1193 = some (1193, .iload 4, 1195, []) := rfl
set_option maxRecDepth 100000 in
theorem KL1195 : mm_lk mz_M.1 1195 = some (1195, .iconst 1, 1196, []) := rfl
set_option maxRecDepth 100000 in
theorem KL1196 : mm_lk mz_M.1 1196 = some (1196, .iadd, 1197, []) := rfl
set_option maxRecDepth 100000 in
theorem KL1197 : mm_lk mz_M.1 1197 = some (1197, .iaload, 1198, []) := rfl
set_option maxRecDepth 100000 in
theorem KL1198 : mm_lk mz_M.1 1198 = some (1198, .invokevirtual 251, 1201, [0, 295, 2, 14, 2415, 2416, 2417, 151]) := rfl
set_option maxRecDepth 100000 in
theorem KL1201 : mm_lk mz_M.1 1201 = some (1201, .istore 6, 1203, []) := rfl
set_option maxRecDepth 100000 in
theorem KL1203 : mm_lk mz_M.1 1203 = some (1203, .goto 235, 1206, [1438]) := rfl
set_option maxRecDepth 100000 in
theorem KL1206 : mm_lk mz_M.1 1206 = some (1206, .aload_n 1, 1207, []) := rfl
set_option maxRecDepth 100000 in
theorem KL1207 : mm_lk mz_M.1 1207 = some (1207, .aload_n 0, 1208, []) := rfl
set_option maxRecDepth 100000 in
theorem KL1208 : mm_lk mz_M.1 1208 = some (1208, .iload 4, 1210, []) := rfl
set_option maxRecDepth 100000 in
theorem KL1210 : mm_lk mz_M.1 1210 = some (1210, .iconst 1, 1211, []) := rfl
set_option maxRecDepth 100000 in
theorem KL1211 : mm_lk mz_M.1 1211 = some (1211, .iadd, 1212, []) := rfl
set_option maxRecDepth 100000 in
theorem KL1212 : mm_lk mz_M.1 1212 = some (1212, .iaload, 1213, []) := rfl
set_option maxRecDepth 100000 in
theorem KL1213 : mm_lk mz_M.1 1213 = some (1213, .aload_n 3, 1214, []) := rfl
set_option maxRecDepth 100000 in
theorem KL1214 : mm_lk mz_M.1 1214 = some (1214, .invokestatic 252, 1217, [8, 336, 3, 1755, 1756, 131]) := rfl
set_option maxRecDepth 100000 in
theorem KL1217 : mm_lk mz_M.1 1217 = some (1217, .istore 5, 1219, []) := rfl
set_option maxRecDepth 100000 in
theorem KL1219 : mm_lk mz_M.1 1219 = some (1219, .aload_n 2, 1220, []) := rfl
set_option maxRecDepth 100000 in
theorem KL1220 : mm_lk mz_M.1 1220 = some (1220, .aload_n 0, 1221, []) := rfl
set_option maxRecDepth 100000 in
theorem KL1221 : mm_lk mz_M.1 1221 = some (1221, .iload 4, 1223, []) := rfl
set_option maxRecDepth 100000 in
theorem KL1223 : mm_lk mz_M.1 1223 = some (1223, .iconst 1, 1224, []) := rfl
set_option maxRecDepth 100000 in
theorem KL1224 : mm_lk mz_M.1 1224 = some (1224, .iadd, 1225, []) := rfl
set_option maxRecDepth 100000 in
theorem KL1225 : mm_lk mz_M.1 1225 = some (1225, .iaload, 1226, []) := rfl
set_option maxRecDepth 100000 in
theorem KL1226 : mm_lk mz_M.1 1226 = some (1226, .invokevirtual 254, 1229, [0, 296, 2, 14, 2419, 2420, 2421, 151]) := rfl
set_option maxRecDepth 100000 in
theorem KL1229 : mm_lk mz_M.1 1229 = some (1229, .istore 6, 1231, []) := rfl
set_option maxRecDepth 100000 in
theorem KL1231 : mm_lk mz_M.1 1231 = some (1231, .goto 207, 1234, [1438]) := rfl
set_option maxRecDepth 100000 in
theorem KL1234 : mm_lk mz_M.1 1234 = some (1234, .aload_n 1, 1235, []) := rfl
set_option maxRecDepth 100000 in
theorem KL1235 : mm_lk mz_M.1 1235 = some (1235, .aload_n 0, 1236, []) := rfl
set_option maxRecDepth 100000 in
theorem KL1236 : mm_lk mz_M.1 1236 = some (1236, .iload 4, 1238, []) := rfl
set_option maxRecDepth 100000 in
theorem KL1238 : mm_lk mz_M.1 1238 = some (1238, .iconst 1, 1239, []) := rfl
set_option maxRecDepth 100000 in
theorem KL1239 : mm_lk mz_M.1 1239 = some (1239, .iadd, 1240, []) := rfl
set_option maxRecDepth 100000 in
theorem KL1240 : mm_lk mz_M.1 1240 = some (1240, .iaload, 1241, []) := rfl
set_option maxRecDepth 100000 in
theorem KL1241 : mm_lk mz_M.1 1241 = some (1241, .aload_n 0, 1242, []) := rfl
set_option maxRecDepth 100000 in
theorem KL1242 : mm_lk mz_M.1 1242 = some (1242, .iload 4, 1244, []) := rfl
set_option maxRecDepth 100000 in
theorem KL1244 : mm_lk mz_M.1 1244 = some (1244, .iconst 2, 1245, []) := rfl
set_option maxRecDepth 100000 in
theorem KL1245 : mm_lk mz_M.1 1245 = some (1245, .iadd, 1246, []) := rfl
set_option maxRecDepth 100000 in
theorem KL1246 : mm_lk mz_M.1 1246 = some (1246, .iaload, 1247, []) := rfl
set_option maxRecDepth 100000 in
theorem KL1247 : mm_lk mz_M.1 1247 = some (1247, .aload_n 3, 1248, []) := rfl
set_option maxRecDepth 100000 in
theorem KL1248 : mm_lk mz_M.1 1248 = some (1248, .invokestatic 255, 1251, [8, 337, 4, 1763, 1764, 131]) := rfl
set_option maxRecDepth 100000 in
theorem KL1251 : mm_lk mz_M.1 1251 = some (1251, .istore 5, 1253, []) := rfl
set_option maxRecDepth 100000 in
theorem KL1253 : mm_lk mz_M.1 1253 = some (1253, .aload_n 2, 1254, []) := rfl
set_option maxRecDepth 100000 in
theorem KL1254 : mm_lk mz_M.1 1254 = some (1254, .aload_n 0, 1255, []) := rfl
set_option maxRecDepth 100000 in
theorem KL1255 : mm_lk mz_M.1 1255 = some (1255, .iload 4, 1257, []) := rfl
set_option maxRecDepth 100000 in
theorem KL1257 : mm_lk mz_M.1 1257 = some (1257, .iconst 1, 1258, []) := rfl
set_option maxRecDepth 100000 in
theorem KL1258 : mm_lk mz_M.1 1258 = some (1258, .iadd, 1259, []) := rfl
set_option maxRecDepth 100000 in
theorem KL1259 : mm_lk mz_M.1 1259 = some (1259, .iaload, 1260, []) := rfl
set_option maxRecDepth 100000 in
theorem KL1260 : mm_lk mz_M.1 1260 = some (1260, .aload_n 0, 1261, []) := rfl
set_option maxRecDepth 100000 in
theorem KL1261 : mm_lk mz_M.1 1261 = some (1261, .iload 4, 1263, []) := rfl
set_option maxRecDepth 100000 in
theorem KL1263 : mm_lk mz_M.1 1263 = some (1263, .iconst 2, 1264, []) := rfl
set_option maxRecDepth 100000 in
theorem KL1264 : mm_lk mz_M.1 1264 = some (1264, .iadd, 1265, []) := rfl
set_option maxRecDepth 100000 in
theorem KL1265 : mm_lk mz_M.1 1265 = some (1265, .iaload, 1266, []) := rfl
set_option maxRecDepth 100000 in
theorem KL1266 : mm_lk mz_M.1 1266 = some (1266, .invokevirtual 257, 1269, [0, 297, 3, 14, 2423, 2424, 2425, 151]) := rfl
set_option maxRecDepth 100000 in
theorem KL1269 : mm_lk mz_M.1 1269 = some (1269, .istore 6, 1271, []) := rfl
set_option maxRecDepth 100000 in
theorem KL1271 : mm_lk mz_M.1 1271 = some (1271, .goto 167, 1274, [1438]) := rfl
set_option maxRecDepth 100000 in
theorem KL1274 : mm_lk mz_M.1 1274 = some (1274, .aload_n 1, 1275, []) := rfl
set_option maxRecDepth 100000 in
theorem KL1275 : mm_lk mz_M.1 1275 = some (1275, .aload_n 0, 1276, []) := rfl
set_option maxRecDepth 100000 in
theorem KL1276 : mm_lk mz_M.1 1276 = some (1276, .iload 4, 1278, []) := rfl
set_option maxRecDepth 100000 in
theorem KL1278 : mm_lk mz_M.1 1278 = some (1278, .iconst 1, 1279, []) := rfl
set_option maxRecDepth 100000 in
theorem KL1279 : mm_lk mz_M.1 1279 = some (1279, .iadd, 1280, []) := rfl
set_option maxRecDepth 100000 in
theorem KL1280 : mm_lk mz_M.1 1280 = some (1280, .iaload, 1281, []) := rfl
set_option maxRecDepth 100000 in
theorem KL1281 : mm_lk mz_M.1 1281 = some (1281, .aload_n 3, 1282, []) := rfl
set_option maxRecDepth 100000 in
theorem KL1282 : mm_lk mz_M.1 1282 = some (1282, .invokestatic 258, 1285, [8, 338, 3, 1770, 1771, 131]) := rfl
set_option maxRecDepth 100000 in
theorem KL1285 : mm_lk mz_M.1 1285 = some (1285, .istore 5, 1287, []) := rfl
set_option maxRecDepth 100000 in
theorem KL1287 : mm_lk mz_M.1 1287 = some (1287, .aload_n 2, 1288, []) := rfl
set_option maxRecDepth 100000 in
theorem KL1288 : mm_lk mz_M.1 1288 = some (1288, .aload_n 0, 1289, []) := rfl
set_option maxRecDepth 100000 in
theorem KL1289 : mm_lk mz_M.1 1289 = some (1289, .iload 4, 1291, []) := rfl
set_option maxRecDepth 100000 in
theorem KL1291 : mm_lk mz_M.1 1291 = some (1291, .iconst 1, 1292, []) := rfl
set_option maxRecDepth 100000 in
theorem KL1292 : mm_lk mz_M.1 1292 = some (1292, .iadd, 1293, []) := rfl
set_option maxRecDepth 100000 in
theorem KL1293 : mm_lk mz_M.1 1293 = some (1293, .iaload, 1294, []) := rfl
set_option maxRecDepth 100000 in
theorem KL1294 : mm_lk mz_M.1 1294 = some (1294, .invokevirtual 260, 1297, [0, 298, 2, 14, 2427, 2428, 2429, 151]) := rfl
set_option maxRecDepth 100000 in
theorem KL1297 : mm_lk mz_M.1 1297 = some (1297, .istore 6, 1299, []) := rfl
set_option maxRecDepth 100000 in
theorem KL1299 : mm_lk mz_M.1 1299 = some (1299, .goto 139, 1302, [1438]) := rfl
set_option maxRecDepth 100000 in
theorem KL1302 : mm_lk mz_M.1 1302 = some (1302, .aload_n 1, 1303, []) := rfl
set_option maxRecDepth 100000 in
theorem KL1303 : mm_lk mz_M.1 1303 = some (1303, .aload_n 0, 1304, []) := rfl
set_option maxRecDepth 100000 in
theorem KL1304 : mm_lk mz_M.1 1304 = some (1304, .iload 4, 1306, []) := rfl
set_option maxRecDepth 100000 in
theorem KL1306 : mm_lk mz_M.1 1306 = some (1306, .iconst 1, 1307, []) := rfl
set_option maxRecDepth 100000 in
theorem KL1307 : mm_lk mz_M.1 1307 = some (1307, .iadd, 1308, []) := rfl
set_option maxRecDepth 100000 in
theorem KL1308 : mm_lk mz_M.1 1308 = some (1308, .iaload, 1309, []) := rfl
set_option maxRecDepth 100000 in
theorem KL1309 : mm_lk mz_M.1 1309 = some (1309, .aload_n 3, 1310, []) := rfl
set_option maxRecDepth 100000 in
theorem KL1310 : mm_lk mz_M.1 1310 = some (1310, .invokestatic 261, 1313, [8, 339, 3, 1778, 1779, 131]) := rfl
set_option maxRecDepth 100000 in
theorem KL1313 : mm_lk mz_M.1 1313 = some (1313, .istore 5, 1315, []) := rfl
set_option maxRecDepth 100000 in
theorem KL1315 : mm_lk mz_M.1 1315 = some (1315, .aload_n 2, 1316, []) := rfl
set_option maxRecDepth 100000 in
theorem KL1316 : mm_lk mz_M.1 1316 = some (1316, .aload_n 0, 1317, []) := rfl
set_option maxRecDepth 100000 in
theorem KL1317 : mm_lk mz_M.1 1317 = some (1317, .iload 4, 1319, []) := rfl
set_option maxRecDepth 100000 in
theorem KL1319 : mm_lk mz_M.1 1319 = some (1319, .iconst 1, 1320, []) := rfl
set_option maxRecDepth 100000 in
theorem KL1320 : mm_lk mz_M.1 1320 = some (1320, .iadd, 1321, []) := rfl
set_option maxRecDepth 100000 in
theorem KL1321 : mm_lk mz_M.1 1321 = some (1321, .iaload, 1322, []) := rfl
set_option maxRecDepth 100000 in
theorem KL1322 : mm_lk mz_M.1 1322 = some (1322, .invokevirtual 263, 1325, [0, 303, 2, 14, 2431, 2432, 2433, 151]) := rfl
set_option maxRecDepth 100000 in
theorem KL1325 : mm_lk mz_M.1 1325 = some (1325, .istore 6, 1327, []) := rfl
set_option maxRecDepth 100000 in
theorem KL1327 : mm_lk mz_M.1 1327 = some (1327, .goto 111, 1330, [1438]) := rfl
set_option maxRecDepth 100000 in
theorem KL1330 : mm_lk mz_M.1 1330 = some (1330, .aload_n 1, 1331, []) := rfl
set_option maxRecDepth 100000 in
theorem KL1331 : mm_lk mz_M.1 1331 = some (1331, .aload_n 0, 1332, []) := rfl
set_option maxRecDepth 100000 in
theorem KL1332 : mm_lk mz_M.1 1332 = some (1332, .iload 4, 1334, []) := rfl
set_option maxRecDepth 100000 in
theorem KL1334 : mm_lk mz_M.1 1334 = some (1334, .iconst 1, 1335, []) := rfl
set_option maxRecDepth 100000 in
theorem KL1335 : mm_lk mz_M.1 1335 = some (1335, .iadd, 1336, []) := rfl
set_option maxRecDepth 100000 in
theorem KL1336 : mm_lk mz_M.1 1336 = some (1336, .iaload, 1337, []) := rfl
set_option maxRecDepth 100000 in
theorem KL1337 : mm_lk mz_M.1 1337 = some (1337, .aload_n 3, 1338, []) := rfl
set_option maxRecDepth 100000 in
theorem KL1338 : mm_lk mz_M.1 1338 = some (1338, .invokestatic 264, 1341, [8, 340, 3, 1789, 1790, 131]) := rfl
set_option maxRecDepth 100000 in
theorem KL1341 : mm_lk mz_M.1 1341 = some (1341, .istore 5, 1343, []) := rfl
set_option maxRecDepth 100000 in
theorem KL1343 : mm_lk mz_M.1 1343 = some (1343, .aload_n 2, 1344, []) := rfl
set_option maxRecDepth 100000 in
theorem KL1344 : mm_lk mz_M.1 1344 = some (1344, .aload_n 0, 1345, []) := rfl
set_option maxRecDepth 100000 in
theorem KL1345 : mm_lk mz_M.1 1345 = some (1345, .iload 4, 1347, []) := rfl
set_option maxRecDepth 100000 in
theorem KL1347 : mm_lk mz_M.1 1347 = some (1347, .iconst 1, 1348, []) := rfl
set_option maxRecDepth 100000 in
theorem KL1348 : mm_lk mz_M.1 1348 = some (1348, .iadd, 1349, []) := rfl
set_option maxRecDepth 100000 in
theorem KL1349 : mm_lk mz_M.1 1349 = some (1349, .iaload, 1350, []) := rfl
set_option maxRecDepth 100000 in
theorem KL1350 : mm_lk mz_M.1 1350 = some (1350, .invokevirtual 266, 1353, [0, 305, 2, 14, 2448, 2449, 2450, 151]) := rfl
set_option maxRecDepth 100000 in
theorem KL1353 : mm_lk mz_M.1 1353 = some (1353, .istore 6, 1355, []) := rfl
set_option maxRecDepth 100000 in
theorem KL1355 : mm_lk mz_M.1 1355 = some (1355, .goto 83, 1358, [1438]) := rfl
set_option maxRecDepth 100000 in
theorem KL1358 : mm_lk mz_M.1 1358 = some (1358, .aload_n 1, 1359, []) := rfl
set_option maxRecDepth 100000 in
theorem KL1359 : mm_lk mz_M.1 1359 = some (1359, .invokevirtual 267, 1362, [0, 141, 1, 13, 1054, 1055, 1056, 132]) := rfl
set_option maxRecDepth 100000 in
theorem KL1362 : mm_lk mz_M.1 1362 = some (1362, .pop, 1363, []) := rfl
set_option maxRecDepth 100000 in
theorem KL1363 : mm_lk mz_M.1 1363 = some (1363, .aload_n 2, 1364, []) := rfl
set_option maxRecDepth 100000 in
theorem KL1364 : mm_lk mz_M.1 1364 = some (1364, .invokevirtual 270, 1367, [0, 309, 1, 14, 2460, 2461, 2462, 151]) := rfl
set_option maxRecDepth 100000 in
theorem KL1367 : mm_lk mz_M.1 1367 = some (1367, .pop, 1368, []) := rfl
set_option maxRecDepth 100000 in
theorem KL1368 : mm_lk mz_M.1 1368 = some (1368, .goto 70, 1371, [1438]) := rfl
set_option maxRecDepth 100000 in
theorem KL1371 : mm_lk mz_M.1 1371 = some (1371, .aload_n 1, 1372, []) := rfl
set_option maxRecDepth 100000 in
theorem KL1372 : mm_lk mz_M.1 1372 = some (1372, .aload_n 0, 1373, []) := rfl
set_option maxRecDepth 100000 in
theorem KL1373 : mm_lk mz_M.1 1373 = some (1373, .iload 4, 1375, []) := rfl
set_option maxRecDepth 100000 in
theorem KL1375 : mm_lk mz_M.1 1375 = some (1375, .iconst 1, 1376, []) := rfl
set_option maxRecDepth 100000 in
theorem KL1376 : mm_lk mz_M.1 1376 = some (1376, .iadd, 1377, []) := rfl
set_option maxRecDepth 100000 in
theorem KL1377 : mm_lk mz_M.1 1377 = some (1377, .iaload, 1378, []) := rfl
set_option maxRecDepth 100000 in
theorem KL1378 : mm_lk mz_M.1 1378 = some (1378, .invokevirtual 271, 1381, [0, 142, 2, 13, 1417, 1418, 1419, 132]) := rfl
set_option maxRecDepth 100000 in
theorem KL1381 : mm_lk mz_M.1 1381 = some (1381, .pop, 1382, []) := rfl
set_option maxRecDepth 100000 in
theorem KL1382 : mm_lk mz_M.1 1382 = some (1382, .aload_n 2, 1383, []) := rfl
set_option maxRecDepth 100000 in
theorem KL1383 : mm_lk mz_M.1 1383 = some (1383, .aload_n 0, 1384, []) := rfl
set_option maxRecDepth 100000 in
theorem KL1384 : mm_lk mz_M.1 1384 = some (1384, .iload 4, 1386, []) := rfl
set_option maxRecDepth 100000 in
theorem KL1386 : mm_lk mz_M.1 1386 = some (1386, .iconst 1, 1387, []) := rfl
set_option maxRecDepth 100000 in
theorem KL1387 : mm_lk mz_M.1 1387 = some (1387, .iadd, 1388, []) := rfl
set_option maxRecDepth 100000 in
theorem KL1388 : mm_lk mz_M.1 1388 = some (1388, .iaload, 1389, []) := rfl
set_option maxRecDepth 100000 in
theorem KL1389 : mm_lk mz_M.1 1389 = some (1389, .invokevirtual 274, 1392, [0, 310, 2, 14, 2483, 2484, 2485, 151]) := rfl
set_option maxRecDepth 100000 in
theorem KL1392 : mm_lk mz_M.1 1392 = some (1392, .pop, 1393, []) := rfl
set_option maxRecDepth 100000 in
theorem KL1393 : mm_lk mz_M.1 1393 = some (1393, .goto 45, 1396, [1438]) := rfl
set_option maxRecDepth 100000 in
theorem KL1396 : mm_lk mz_M.1 1396 = some (1396, .aload_n 1, 1397, []) := rfl
set_option maxRecDepth 100000 in
theorem KL1397 : mm_lk mz_M.1 1397 = some (1397, .invokevirtual 275, 1400, [0, 143, 1, 13, 1431, 1432, 1433, 132]) := rfl
set_option maxRecDepth 100000 in
theorem KL1400 : mm_lk mz_M.1 1400 = some (1400, .pop, 1401, []) := rfl
set_option maxRecDepth 100000 in
theorem KL1401 : mm_lk mz_M.1 1401 = some (1401, .aload_n 2, 1402, []) := rfl
set_option maxRecDepth 100000 in
theorem KL1402 : mm_lk mz_M.1 1402 = some (1402, .invokevirtual 278, 1405, [0, 311, 1, 14, 2487, 2488, 2489, 151]) := rfl
set_option maxRecDepth 100000 in
theorem KL1405 : mm_lk mz_M.1 1405 = some (1405, .pop, 1406, []) := rfl
set_option maxRecDepth 100000 in
theorem KL1406 : mm_lk mz_M.1 1406 = some (1406, .goto 32, 1409, [1438]) := rfl
set_option maxRecDepth 100000 in
theorem KL1409 : mm_lk mz_M.1 1409 = some (1409, .aload_n 1, 1410, []) := rfl
set_option maxRecDepth 100000 in
theorem KL1410 : mm_lk mz_M.1 1410 = some (1410, .invokevirtual 279, 1413, [0, 144, 1, 13, 1435, 1436, 1437, 132]) := rfl
set_option maxRecDepth 100000 in
theorem KL1413 : mm_lk mz_M.1 1413 = some (1413, .pop, 1414, []) := rfl
set_option maxRecDepth 100000 in
theorem KL1414 : mm_lk mz_M.1 1414 = some (1414, .aload_n 2, 1415, []) := rfl
set_option maxRecDepth 100000 in
theorem KL1415 : mm_lk mz_M.1 1415 = some (1415, .invokevirtual 282, 1418, [0, 312, 1, 14, 2491, 2492, 2493, 151]) := rfl
set_option maxRecDepth 100000 in
theorem KL1418 : mm_lk mz_M.1 1418 = some (1418, .pop, 1419, []) := rfl
set_option maxRecDepth 100000 in
theorem KL1419 : mm_lk mz_M.1 1419 = some (1419, .goto 19, 1422, [1438]) := rfl
set_option maxRecDepth 100000 in
theorem KL1422 : mm_lk mz_M.1 1422 = some (1422, .aload_n 1, 1423, []) := rfl
set_option maxRecDepth 100000 in
theorem KL1423 : mm_lk mz_M.1 1423 = some (1423, .aload_n 3, 1424, []) := rfl
set_option maxRecDepth 100000 in
theorem KL1424 : mm_lk mz_M.1 1424 = some (1424, .invokestatic 283, 1427, [8, 341, 2, 1801, 1802, 131]) := rfl
set_option maxRecDepth 100000 in
theorem KL1427 : mm_lk mz_M.1 1427 = some (1427, .istore 5, 1429, []) := rfl
set_option maxRecDepth 100000 in
theorem KL1429 : mm_lk mz_M.1 1429 = some (1429, .aload_n 2, 1430, []) := rfl
set_option maxRecDepth 100000 in
theorem KL1430 : mm_lk mz_M.1 1430 = some (1430, .invokevirtual 285, 1433, [0, 313, 1, 14, 2495, 2496, 2497, 151]) := rfl
set_option maxRecDepth 100000 in
theorem KL1433 : mm_lk mz_M.1 1433 = some (1433, .istore 6, 1435, []) := rfl
set_option maxRecDepth 100000 in
theorem KL1435 : mm_lk mz_M.1 1435 = some (1435, .goto 3, 1438, [1438]) := rfl
end K80
