set_option maxRecDepth 100000 in
theorem mx_Y6 : (List.range' 120 20).all mm_yck = true := by decide +kernel
set_option maxRecDepth 100000 in
theorem mx_Y7 : (List.range' 140 20).all mm_yck = true := by decide +kernel
set_option maxRecDepth 100000 in
theorem mx_Y8 : (List.range' 160 20).all mm_yck = true := by decide +kernel
set_option maxRecDepth 100000 in
theorem mx_Y9 : (List.range' 180 20).all mm_yck = true := by decide +kernel
set_option maxRecDepth 100000 in
theorem mx_Y10 : (List.range' 200 20).all mm_yck = true := by decide +kernel
set_option maxRecDepth 100000 in
theorem mx_Y11 : (List.range' 220 20).all mm_yck = true := by decide +kernel
