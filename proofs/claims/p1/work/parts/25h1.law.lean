set_option maxRecDepth 100000 in
theorem mx_law2_2 : (((mm_law_2.drop 20).drop 20).take 20).all (mm_okI "WhoKnowsLaw" "law" mm_nm code) = true := by decide +kernel
set_option maxRecDepth 100000 in
theorem mx_law2_3 : ((((mm_law_2.drop 20).drop 20).drop 20).take 20).all (mm_okI "WhoKnowsLaw" "law" mm_nm code) = true := by decide +kernel
set_option maxRecDepth 100000 in
theorem mx_law2_4 : (((((mm_law_2.drop 20).drop 20).drop 20).drop 20).take 20).all (mm_okI "WhoKnowsLaw" "law" mm_nm code) = true := by decide +kernel
set_option maxRecDepth 100000 in
theorem mx_law2_5 : (((((mm_law_2.drop 20).drop 20).drop 20).drop 20).drop 20).all (mm_okI "WhoKnowsLaw" "law" mm_nm code) = true := by decide +kernel
set_option maxRecDepth 100000 in
theorem mx_law3_0 : (mm_law_3.take 20).all (mm_okI "WhoKnowsLaw" "law" mm_nm code) = true := by decide +kernel
set_option maxRecDepth 100000 in
theorem mx_law3_1 : ((mm_law_3.drop 20).take 20).all (mm_okI "WhoKnowsLaw" "law" mm_nm code) = true := by decide +kernel
set_option maxRecDepth 100000 in
theorem mx_law3_2 : (((mm_law_3.drop 20).drop 20).take 20).all (mm_okI "WhoKnowsLaw" "law" mm_nm code) = true := by decide +kernel
set_option maxRecDepth 100000 in
theorem mx_law3_3 : ((((mm_law_3.drop 20).drop 20).drop 20).take 20).all (mm_okI "WhoKnowsLaw" "law" mm_nm code) = true := by decide +kernel
set_option maxRecDepth 100000 in
theorem mx_law3_4 : (((((mm_law_3.drop 20).drop 20).drop 20).drop 20).take 20).all (mm_okI "WhoKnowsLaw" "law" mm_nm code) = true := by decide +kernel
set_option maxRecDepth 100000 in
theorem mx_law3_5 : (((((mm_law_3.drop 20).drop 20).drop 20).drop 20).drop 20).all (mm_okI "WhoKnowsLaw" "law" mm_nm code) = true := by decide +kernel
set_option maxRecDepth 100000 in
theorem mx_law4_0 : (mm_law_4.take 20).all (mm_okI "WhoKnowsLaw" "law" mm_nm code) = true := by decide +kernel
set_option maxRecDepth 100000 in
theorem mx_law4_1 : ((mm_law_4.drop 20).take 20).all (mm_okI "WhoKnowsLaw" "law" mm_nm code) = true := by decide +kernel
set_option maxRecDepth 100000 in
theorem mx_law4_2 : (((mm_law_4.drop 20).drop 20).take 20).all (mm_okI "WhoKnowsLaw" "law" mm_nm code) = true := by decide +kernel
set_option maxRecDepth 100000 in
theorem mx_law4_3 : ((((mm_law_4.drop 20).drop 20).drop 20).take 20).all (mm_okI "WhoKnowsLaw" "law" mm_nm code) = true := by decide +kernel
