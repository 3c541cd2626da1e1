set_option maxRecDepth 100000 in
theorem mx_Y4 : (List.range' 240 60).all mm_yck = true := by decide +kernel
set_option maxRecDepth 100000 in
theorem mx_Y5 : (List.range' 300 60).all mm_yck = true := by decide +kernel
set_option maxRecDepth 100000 in
theorem mx_Y6 : (List.range' 360 53).all mm_yck = true := by decide +kernel
