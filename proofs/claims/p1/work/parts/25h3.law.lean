set_option maxRecDepth 100000 in
theorem mx_law7_0 : (mm_law_7.take 20).all (mm_okI "WhoKnowsLaw" "law" mm_nm code) = true := by decide +kernel
set_option maxRecDepth 100000 in
theorem mx_law7_1 : ((mm_law_7.drop 20).take 20).all (mm_okI "WhoKnowsLaw" "law" mm_nm code) = true := by decide +kernel
set_option maxRecDepth 100000 in
theorem mx_law7_2 : (((mm_law_7.drop 20).drop 20).take 20).all (mm_okI "WhoKnowsLaw" "law" mm_nm code) = true := by decide +kernel
set_option maxRecDepth 100000 in
theorem mx_law7_3 : ((((mm_law_7.drop 20).drop 20).drop 20).take 20).all (mm_okI "WhoKnowsLaw" "law" mm_nm code) = true := by decide +kernel
set_option maxRecDepth 100000 in
theorem mx_law7_4 : (((((mm_law_7.drop 20).drop 20).drop 20).drop 20).take 20).all (mm_okI "WhoKnowsLaw" "law" mm_nm code) = true := by decide +kernel
set_option maxRecDepth 100000 in
theorem mx_law7_5 : (((((mm_law_7.drop 20).drop 20).drop 20).drop 20).drop 20).all (mm_okI "WhoKnowsLaw" "law" mm_nm code) = true := by decide +kernel
set_option maxRecDepth 100000 in
theorem mx_law8_0 : (mm_law_8.take 20).all (mm_okI "WhoKnowsLaw" "law" mm_nm code) = true := by decide +kernel
set_option maxRecDepth 100000 in
theorem mx_law8_1 : ((mm_law_8.drop 20).take 20).all (mm_okI "WhoKnowsLaw" "law" mm_nm code) = true := by decide +kernel
set_option maxRecDepth 100000 in
theorem mx_law8_2 : (((mm_law_8.drop 20).drop 20).take 20).all (mm_okI "WhoKnowsLaw" "law" mm_nm code) = true := by decide +kernel
set_option maxRecDepth 100000 in
theorem mx_law8_3 : ((((mm_law_8.drop 20).drop 20).drop 20).take 20).all (mm_okI "WhoKnowsLaw" "law" mm_nm code) = true := by decide +kernel
set_option maxRecDepth 100000 in
theorem mx_law8_4 : (((((mm_law_8.drop 20).drop 20).drop 20).drop 20).take 20).all (mm_okI "WhoKnowsLaw" "law" mm_nm code) = true := by decide +kernel
set_option maxRecDepth 100000 in
theorem mx_law8_5 : (((((mm_law_8.drop 20).drop 20).drop 20).drop 20).drop 20).all (mm_okI "WhoKnowsLaw" "law" mm_nm code) = true := by decide +kernel
set_option maxRecDepth 100000 in
theorem mx_law9_0 : (mm_law_9.take 20).all (mm_okI "WhoKnowsLaw" "law" mm_nm code) = true := by decide +kernel
set_option maxRecDepth 100000 in
theorem mx_law9_1 : ((mm_law_9.drop 20).take 20).all (mm_okI "WhoKnowsLaw" "law" mm_nm code) = true := by decide +kernel
