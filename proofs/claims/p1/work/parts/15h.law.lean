set_option maxRecDepth 100000 in
theorem mx_law0 : mm_law_0.all (mm_okI "WhoKnowsLaw" "law" mm_nm code) = true := by decide +kernel
set_option maxRecDepth 100000 in
theorem mx_law1 : mm_law_1.all (mm_okI "WhoKnowsLaw" "law" mm_nm code) = true := by decide +kernel
set_option maxRecDepth 100000 in
theorem mx_law2 : mm_law_2.all (mm_okI "WhoKnowsLaw" "law" mm_nm code) = true := by decide +kernel
set_option maxRecDepth 100000 in
theorem mx_law3 : mm_law_3.all (mm_okI "WhoKnowsLaw" "law" mm_nm code) = true := by decide +kernel
set_option maxRecDepth 100000 in
theorem mx_law4 : mm_law_4.all (mm_okI "WhoKnowsLaw" "law" mm_nm code) = true := by decide +kernel
set_option maxRecDepth 100000 in
theorem mx_law5 : mm_law_5.all (mm_okI "WhoKnowsLaw" "law" mm_nm code) = true := by decide +kernel
set_option maxRecDepth 100000 in
theorem mx_law6 : mm_law_6.all (mm_okI "WhoKnowsLaw" "law" mm_nm code) = true := by decide +kernel
set_option maxRecDepth 100000 in
theorem mx_law7 : mm_law_7.all (mm_okI "WhoKnowsLaw" "law" mm_nm code) = true := by decide +kernel
set_option maxRecDepth 100000 in
theorem mx_law8 : mm_law_8.all (mm_okI "WhoKnowsLaw" "law" mm_nm code) = true := by decide +kernel
set_option maxRecDepth 100000 in
theorem mx_law9 : mm_law_9.all (mm_okI "WhoKnowsLaw" "law" mm_nm code) = true := by decide +kernel
set_option maxRecDepth 100000 in
theorem mx_law10 : mm_law_10.all (mm_okI "WhoKnowsLaw" "law" mm_nm code) = true := by decide +kernel
theorem mx_law : mm_law.all (mm_okI "WhoKnowsLaw" "law" mm_nm code) = true := by
  simp only [mm_law, List.all_append, Bool.and_eq_true]
  exact ⟨mx_law0, ⟨mx_law1, ⟨mx_law2, ⟨mx_law3, ⟨mx_law4, ⟨mx_law5, ⟨mx_law6, ⟨mx_law7, ⟨mx_law8, ⟨mx_law9, mx_law10⟩⟩⟩⟩⟩⟩⟩⟩⟩⟩
