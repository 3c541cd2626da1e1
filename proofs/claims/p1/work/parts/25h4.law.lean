set_option maxRecDepth 100000 in
theorem mx_law9_2 : (((mm_law_9.drop 20).drop 20).take 20).all (mm_okI "WhoKnowsLaw" "law" mm_nm code) = true := by decide +kernel
set_option maxRecDepth 100000 in
theorem mx_law9_3 : ((((mm_law_9.drop 20).drop 20).drop 20).take 20).all (mm_okI "WhoKnowsLaw" "law" mm_nm code) = true := by decide +kernel
set_option maxRecDepth 100000 in
theorem mx_law9_4 : (((((mm_law_9.drop 20).drop 20).drop 20).drop 20).take 20).all (mm_okI "WhoKnowsLaw" "law" mm_nm code) = true := by decide +kernel
set_option maxRecDepth 100000 in
theorem mx_law9_5 : (((((mm_law_9.drop 20).drop 20).drop 20).drop 20).drop 20).all (mm_okI "WhoKnowsLaw" "law" mm_nm code) = true := by decide +kernel
set_option maxRecDepth 100000 in
theorem mx_law10_0 : (mm_law_10.take 20).all (mm_okI "WhoKnowsLaw" "law" mm_nm code) = true := by decide +kernel
set_option maxRecDepth 100000 in
theorem mx_law10_1 : ((mm_law_10.drop 20).take 20).all (mm_okI "WhoKnowsLaw" "law" mm_nm code) = true := by decide +kernel
set_option maxRecDepth 100000 in
theorem mx_law10_2 : (((mm_law_10.drop 20).drop 20).take 20).all (mm_okI "WhoKnowsLaw" "law" mm_nm code) = true := by decide +kernel
set_option maxRecDepth 100000 in
theorem mx_law10_3 : (((mm_law_10.drop 20).drop 20).drop 20).all (mm_okI "WhoKnowsLaw" "law" mm_nm code) = true := by decide +kernel
