/-! ===== the law, checked row by row against its code ===== -/
set_option maxRecDepth 100000 in
theorem mx_law0_0 : (mm_law_0.take 20).all (mm_okI "WhoKnowsLaw" "law" mm_nm code) = true := by decide +kernel
set_option maxRecDepth 100000 in
theorem mx_law0_1 : ((mm_law_0.drop 20).take 20).all (mm_okI "WhoKnowsLaw" "law" mm_nm code) = true := by decide +kernel
set_option maxRecDepth 100000 in
theorem mx_law0_2 : (((mm_law_0.drop 20).drop 20).take 20).all (mm_okI "WhoKnowsLaw" "law" mm_nm code) = true := by decide +kernel
set_option maxRecDepth 100000 in
theorem mx_law0_3 : ((((mm_law_0.drop 20).drop 20).drop 20).take 20).all (mm_okI "WhoKnowsLaw" "law" mm_nm code) = true := by decide +kernel
set_option maxRecDepth 100000 in
theorem mx_law0_4 : (((((mm_law_0.drop 20).drop 20).drop 20).drop 20).take 20).all (mm_okI "WhoKnowsLaw" "law" mm_nm code) = true := by decide +kernel
set_option maxRecDepth 100000 in
theorem mx_law0_5 : (((((mm_law_0.drop 20).drop 20).drop 20).drop 20).drop 20).all (mm_okI "WhoKnowsLaw" "law" mm_nm code) = true := by decide +kernel
set_option maxRecDepth 100000 in
theorem mx_law1_0 : (mm_law_1.take 20).all (mm_okI "WhoKnowsLaw" "law" mm_nm code) = true := by decide +kernel
set_option maxRecDepth 100000 in
theorem mx_law1_1 : ((mm_law_1.drop 20).take 20).all (mm_okI "WhoKnowsLaw" "law" mm_nm code) = true := by decide +kernel
set_option maxRecDepth 100000 in
theorem mx_law1_2 : (((mm_law_1.drop 20).drop 20).take 20).all (mm_okI "WhoKnowsLaw" "law" mm_nm code) = true := by decide +kernel
set_option maxRecDepth 100000 in
theorem mx_law1_3 : ((((mm_law_1.drop 20).drop 20).drop 20).take 20).all (mm_okI "WhoKnowsLaw" "law" mm_nm code) = true := by decide +kernel
set_option maxRecDepth 100000 in
theorem mx_law1_4 : (((((mm_law_1.drop 20).drop 20).drop 20).drop 20).take 20).all (mm_okI "WhoKnowsLaw" "law" mm_nm code) = true := by decide +kernel
set_option maxRecDepth 100000 in
theorem mx_law1_5 : (((((mm_law_1.drop 20).drop 20).drop 20).drop 20).drop 20).all (mm_okI "WhoKnowsLaw" "law" mm_nm code) = true := by decide +kernel
set_option maxRecDepth 100000 in
theorem mx_law2_0 : (mm_law_2.take 20).all (mm_okI "WhoKnowsLaw" "law" mm_nm code) = true := by decide +kernel
set_option maxRecDepth 100000 in
theorem mx_law2_1 : ((mm_law_2.drop 20).take 20).all (mm_okI "WhoKnowsLaw" "law" mm_nm code) = true := by decide +kernel
set_option maxRecDepth 100000 in
theorem mx_law2_2 : (((mm_law_2.drop 20).drop 20).take 20).all (mm_okI "WhoKnowsLaw" "law" mm_nm code) = true := by decide +kernel
set_option maxRecDepth 100000 in
theorem mx_law2_3 : ((((mm_law_2.drop 20).drop 20).drop 20).take 20).all (mm_okI "WhoKnowsLaw" "law" mm_nm code) = true := by decide +kernel
set_option maxRecDepth 100000 in
theorem mx_law2_4 : (((((mm_law_2.drop 20).drop 20).drop 20).drop 20).take 20).all (mm_okI "WhoKnowsLaw" "law" mm_nm code) = true := by decide +kernel
set_option maxRecDepth 100000 in
theorem mx_law2_5 : (((((mm_law_2.drop 20).drop 20).drop 20).drop 20).drop 20).all (mm_okI "WhoKnowsLaw" "law" mm_nm code) = true := by decide +kernel
set_option maxRecDepth 100000 in
theorem mx_law3_0 : (mm_law_3.take 20).all (mm_okI "WhoKnowsLaw" "law" mm_nm code) = true := by decide +kernel
set_option maxRecDepth 100000 in
theorem mx_law3_1 : ((mm_law_3.drop 20).take 20).all (mm_okI "WhoKnowsLaw" "law" mm_nm code) = true := by decide +kernel
set_option maxRecDepth 100000 in
theorem mx_law3_2 : (((mm_law_3.drop 20).drop 20).take 20).all (mm_okI "WhoKnowsLaw" "law" mm_nm code) = true := by decide +kernel
set_option maxRecDepth 100000 in
theorem mx_law3_3 : ((((mm_law_3.drop 20).drop 20).drop 20).take 20).all (mm_okI "WhoKnowsLaw" "law" mm_nm code) = true := by decide +kernel
set_option maxRecDepth 100000 in
theorem mx_law3_4 : (((((mm_law_3.drop 20).drop 20).drop 20).drop 20).take 20).all (mm_okI "WhoKnowsLaw" "law" mm_nm code) = true := by decide +kernel
set_option maxRecDepth 100000 in
theorem mx_law3_5 : (((((mm_law_3.drop 20).drop 20).drop 20).drop 20).drop 20).all (mm_okI "WhoKnowsLaw" "law" mm_nm code) = true := by decide +kernel
set_option maxRecDepth 100000 in
theorem mx_law4_0 : (mm_law_4.take 20).all (mm_okI "WhoKnowsLaw" "law" mm_nm code) = true := by decide +kernel
set_option maxRecDepth 100000 in
theorem mx_law4_1 : ((mm_law_4.drop 20).take 20).all (mm_okI "WhoKnowsLaw" "law" mm_nm code) = true := by decide +kernel
set_option maxRecDepth 100000 in
theorem mx_law4_2 : (((mm_law_4.drop 20).drop 20).take 20).all (mm_okI "WhoKnowsLaw" "law" mm_nm code) = true := by decide +kernel
set_option maxRecDepth 100000 in
theorem mx_law4_3 : ((((mm_law_4.drop 20).drop 20).drop 20).take 20).all (mm_okI "WhoKnowsLaw" "law" mm_nm code) = true := by decide +kernel
set_option maxRecDepth 100000 in
theorem mx_law4_4 : (((((mm_law_4.drop 20).drop 20).drop 20).drop 20).take 20).all (mm_okI "WhoKnowsLaw" "law" mm_nm code) = true := by decide +kernel
set_option maxRecDepth 100000 in
theorem mx_law4_5 : (((((mm_law_4.drop 20).drop 20).drop 20).drop 20).drop 20).all (mm_okI "WhoKnowsLaw" "law" mm_nm code) = true := by decide +kernel
set_option maxRecDepth 100000 in
theorem mx_law5_0 : (mm_law_5.take 20).all (mm_okI "WhoKnowsLaw" "law" mm_nm code) = true := by decide +kernel
set_option maxRecDepth 100000 in
theorem mx_law5_1 : ((mm_law_5.drop 20).take 20).all (mm_okI "WhoKnowsLaw" "law" mm_nm code) = true := by decide +kernel
set_option maxRecDepth 100000 in
theorem mx_law5_2 : (((mm_law_5.drop 20).drop 20).take 20).all (mm_okI "WhoKnowsLaw" "law" mm_nm code) = true := by decide +kernel
set_option maxRecDepth 100000 in
theorem mx_law5_3 : ((((mm_law_5.drop 20).drop 20).drop 20).take 20).all (mm_okI "WhoKnowsLaw" "law" mm_nm code) = true := by decide +kernel
set_option maxRecDepth 100000 in
theorem mx_law5_4 : (((((mm_law_5.drop 20).drop 20).drop 20).drop 20).take 20).all (mm_okI "WhoKnowsLaw" "law" mm_nm code) = true := by decide +kernel
set_option maxRecDepth 100000 in
theorem mx_law5_5 : (((((mm_law_5.drop 20).drop 20).drop 20).drop 20).drop 20).all (mm_okI "WhoKnowsLaw" "law" mm_nm code) = true := by decide +kernel
set_option maxRecDepth 100000 in
theorem mx_law6_0 : (mm_law_6.take 20).all (mm_okI "WhoKnowsLaw" "law" mm_nm code) = true := by decide +kernel
set_option maxRecDepth 100000 in
theorem mx_law6_1 : ((mm_law_6.drop 20).take 20).all (mm_okI "WhoKnowsLaw" "law" mm_nm code) = true := by decide +kernel
set_option maxRecDepth 100000 in
theorem mx_law6_2 : ((mm_law_6.drop 20).drop 20).all (mm_okI "WhoKnowsLaw" "law" mm_nm code) = true := by decide +kernel
theorem mx_tk {f : mm_I → Bool} {l : List mm_I} (a : (l.take 20).all f = true) (b : (l.drop 20).all f = true) : l.all f = true := by
  rw [← List.take_append_drop 20 l, List.all_append, a, b]
  rfl
theorem mx_law0 : mm_law_0.all (mm_okI "WhoKnowsLaw" "law" mm_nm code) = true := mx_tk mx_law0_0 (mx_tk mx_law0_1 (mx_tk mx_law0_2 (mx_tk mx_law0_3 (mx_tk mx_law0_4 (mx_law0_5)))))
theorem mx_law1 : mm_law_1.all (mm_okI "WhoKnowsLaw" "law" mm_nm code) = true := mx_tk mx_law1_0 (mx_tk mx_law1_1 (mx_tk mx_law1_2 (mx_tk mx_law1_3 (mx_tk mx_law1_4 (mx_law1_5)))))
theorem mx_law2 : mm_law_2.all (mm_okI "WhoKnowsLaw" "law" mm_nm code) = true := mx_tk mx_law2_0 (mx_tk mx_law2_1 (mx_tk mx_law2_2 (mx_tk mx_law2_3 (mx_tk mx_law2_4 (mx_law2_5)))))
theorem mx_law3 : mm_law_3.all (mm_okI "WhoKnowsLaw" "law" mm_nm code) = true := mx_tk mx_law3_0 (mx_tk mx_law3_1 (mx_tk mx_law3_2 (mx_tk mx_law3_3 (mx_tk mx_law3_4 (mx_law3_5)))))
theorem mx_law4 : mm_law_4.all (mm_okI "WhoKnowsLaw" "law" mm_nm code) = true := mx_tk mx_law4_0 (mx_tk mx_law4_1 (mx_tk mx_law4_2 (mx_tk mx_law4_3 (mx_tk mx_law4_4 (mx_law4_5)))))
theorem mx_law5 : mm_law_5.all (mm_okI "WhoKnowsLaw" "law" mm_nm code) = true := mx_tk mx_law5_0 (mx_tk mx_law5_1 (mx_tk mx_law5_2 (mx_tk mx_law5_3 (mx_tk mx_law5_4 (mx_law5_5)))))
theorem mx_law6 : mm_law_6.all (mm_okI "WhoKnowsLaw" "law" mm_nm code) = true := mx_tk mx_law6_0 (mx_tk mx_law6_1 (mx_law6_2))
theorem mx_law : mm_law.all (mm_okI "WhoKnowsLaw" "law" mm_nm code) = true := by
  simp only [mm_law, List.all_append, Bool.and_eq_true]
  exact ⟨mx_law0, ⟨mx_law1, ⟨mx_law2, ⟨mx_law3, ⟨mx_law4, ⟨mx_law5, mx_law6⟩⟩⟩⟩⟩⟩
def law_iR (i : Instr) : Bool := match i with
  | .ireturn => true
  | _ => false
theorem law_iR_eq {i : Instr} (h : law_iR i = true) : i = .ireturn := by
  cases i <;> first | rfl | cases h
set_option maxRecDepth 100000 in
theorem law_R : mm_law.all (fun mi => !(mm_isR mi.2.1) || law_iR mi.2.1) = true := by decide +kernel
