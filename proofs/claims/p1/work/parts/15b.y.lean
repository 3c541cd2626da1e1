set_option maxRecDepth 100000 in
theorem mx_Y1 : (List.range' 60 60).all mm_yck = true := by decide +kernel
set_option maxRecDepth 100000 in
theorem mx_Y2 : (List.range' 120 60).all mm_yck = true := by decide +kernel
set_option maxRecDepth 100000 in
theorem mx_Y3 : (List.range' 180 60).all mm_yck = true := by decide +kernel
