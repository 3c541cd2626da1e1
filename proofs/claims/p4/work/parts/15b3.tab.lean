set_option maxRecDepth 100000 in
theorem mx_Y18 : (List.range' 360 20).all mm_yck = true := by decide +kernel
set_option maxRecDepth 100000 in
theorem mx_Y19 : (List.range' 380 20).all mm_yck = true := by decide +kernel
set_option maxRecDepth 100000 in
theorem mx_Y20 : (List.range' 400 13).all mm_yck = true := by decide +kernel
