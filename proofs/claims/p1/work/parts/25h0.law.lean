set_option maxRecDepth 100000 in
theorem mx_law0_0 : (mm_law_0.take 20).all (mm_okI "WhoKnowsLaw" "law" mm_nm code) = true := by decide +kernel
set_option maxRecDepth 100000 in
theorem mx_law0_1 : ((mm_law_0.drop 20).take 20).all (mm_okI "WhoKnowsLaw" "law" mm_nm code) = true := by decide +kernel
set_option maxRecDepth 100000 in
theorem mx_law0_2 : (((mm_law_0.drop 20).drop 20).take 20).all (mm_okI "WhoKnowsLaw" "law" mm_nm code) = true := by decide +kernel
set_option maxRecDepth 100000 in
theorem mx_law0_3 : ((((mm_law_0.drop 20).drop 20).drop 20).take 20).all (mm_okI "WhoKnowsLaw" "law" mm_nm code) = true := by decide +kernel
set_option maxRecDepth 100000 in
theorem mx_law0_4 : (((((mm_law_0.drop 20).drop 20).drop 20).drop 20).take 20).all (mm_okI "WhoKnowsLaw" "law" mm_nm code) = true := by decide +kernel
set_option maxRecDepth 100000 in
theorem mx_law0_5 : (((((mm_law_0.drop 20).drop 20).drop 20).drop 20).drop 20).all (mm_okI "WhoKnowsLaw" "law" mm_nm code) = true := by decide +kernel
set_option maxRecDepth 100000 in
theorem mx_law1_0 : (mm_law_1.take 20).all (mm_okI "WhoKnowsLaw" "law" mm_nm code) = true := by decide +kernel
set_option maxRecDepth 100000 in
theorem mx_law1_1 : ((mm_law_1.drop 20).take 20).all (mm_okI "WhoKnowsLaw" "law" mm_nm code) = true := by decide +kernel
set_option maxRecDepth 100000 in
theorem mx_law1_2 : (((mm_law_1.drop 20).drop 20).take 20).all (mm_okI "WhoKnowsLaw" "law" mm_nm code) = true := by decide +kernel
set_option maxRecDepth 100000 in
theorem mx_law1_3 : ((((mm_law_1.drop 20).drop 20).drop 20).take 20).all (mm_okI "WhoKnowsLaw" "law" mm_nm code) = true := by decide +kernel
set_option maxRecDepth 100000 in
theorem mx_law1_4 : (((((mm_law_1.drop 20).drop 20).drop 20).drop 20).take 20).all (mm_okI "WhoKnowsLaw" "law" mm_nm code) = true := by decide +kernel
set_option maxRecDepth 100000 in
theorem mx_law1_5 : (((((mm_law_1.drop 20).drop 20).drop 20).drop 20).drop 20).all (mm_okI "WhoKnowsLaw" "law" mm_nm code) = true := by decide +kernel
set_option maxRecDepth 100000 in
theorem mx_law2_0 : (mm_law_2.take 20).all (mm_okI "WhoKnowsLaw" "law" mm_nm code) = true := by decide +kernel
set_option maxRecDepth 100000 in
theorem mx_law2_1 : ((mm_law_2.drop 20).take 20).all (mm_okI "WhoKnowsLaw" "law" mm_nm code) = true := by decide +kernel
