theorem mx_tk {f : mm_I → Bool} {l : List mm_I} (a : (l.take 20).all f = true) (b : (l.drop 20).all f = true) : l.all f = true := by
  rw [← List.take_append_drop 20 l, List.all_append, a, b]
  rfl
theorem mx_law0 : mm_law_0.all (mm_okI "WhoKnowsLaw" "law" mm_nm code) = true := mx_tk mx_law0_0 (mx_tk mx_law0_1 (mx_tk mx_law0_2 (mx_tk mx_law0_3 (mx_tk mx_law0_4 (mx_law0_5)))))
theorem mx_law1 : mm_law_1.all (mm_okI "WhoKnowsLaw" "law" mm_nm code) = true := mx_tk mx_law1_0 (mx_tk mx_law1_1 (mx_tk mx_law1_2 (mx_tk mx_law1_3 (mx_tk mx_law1_4 (mx_law1_5)))))
theorem mx_law2 : mm_law_2.all (mm_okI "WhoKnowsLaw" "law" mm_nm code) = true := mx_tk mx_law2_0 (mx_tk mx_law2_1 (mx_tk mx_law2_2 (mx_tk mx_law2_3 (mx_tk mx_law2_4 (mx_law2_5)))))
theorem mx_law3 : mm_law_3.all (mm_okI "WhoKnowsLaw" "law" mm_nm code) = true := mx_tk mx_law3_0 (mx_tk mx_law3_1 (mx_tk mx_law3_2 (mx_tk mx_law3_3 (mx_tk mx_law3_4 (mx_law3_5)))))
theorem mx_law4 : mm_law_4.all (mm_okI "WhoKnowsLaw" "law" mm_nm code) = true := mx_tk mx_law4_0 (mx_tk mx_law4_1 (mx_tk mx_law4_2 (mx_tk mx_law4_3 (mx_tk mx_law4_4 (mx_law4_5)))))
theorem mx_law5 : mm_law_5.all (mm_okI "WhoKnowsLaw" "law" mm_nm code) = true := mx_tk mx_law5_0 (mx_tk mx_law5_1 (mx_tk mx_law5_2 (mx_tk mx_law5_3 (mx_tk mx_law5_4 (mx_law5_5)))))
theorem mx_law6 : mm_law_6.all (mm_okI "WhoKnowsLaw" "law" mm_nm code) = true := mx_tk mx_law6_0 (mx_tk mx_law6_1 (mx_tk mx_law6_2 (mx_tk mx_law6_3 (mx_tk mx_law6_4 (mx_law6_5)))))
theorem mx_law7 : mm_law_7.all (mm_okI "WhoKnowsLaw" "law" mm_nm code) = true := mx_tk mx_law7_0 (mx_tk mx_law7_1 (mx_tk mx_law7_2 (mx_tk mx_law7_3 (mx_tk mx_law7_4 (mx_law7_5)))))
theorem mx_law8 : mm_law_8.all (mm_okI "WhoKnowsLaw" "law" mm_nm code) = true := mx_tk mx_law8_0 (mx_tk mx_law8_1 (mx_tk mx_law8_2 (mx_tk mx_law8_3 (mx_tk mx_law8_4 (mx_law8_5)))))
theorem mx_law9 : mm_law_9.all (mm_okI "WhoKnowsLaw" "law" mm_nm code) = true := mx_tk mx_law9_0 (mx_tk mx_law9_1 (mx_tk mx_law9_2 (mx_tk mx_law9_3 (mx_tk mx_law9_4 (mx_law9_5)))))
theorem mx_law10 : mm_law_10.all (mm_okI "WhoKnowsLaw" "law" mm_nm code) = true := mx_tk mx_law10_0 (mx_tk mx_law10_1 (mx_tk mx_law10_2 (mx_law10_3)))
theorem mx_law : mm_law.all (mm_okI "WhoKnowsLaw" "law" mm_nm code) = true := by
  simp only [mm_law, List.all_append, Bool.and_eq_true]
  exact ⟨mx_law0, ⟨mx_law1, ⟨mx_law2, ⟨mx_law3, ⟨mx_law4, ⟨mx_law5, ⟨mx_law6, ⟨mx_law7, ⟨mx_law8, ⟨mx_law9, mx_law10⟩⟩⟩⟩⟩⟩⟩⟩⟩⟩
