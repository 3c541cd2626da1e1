set_option maxRecDepth 100000 in
theorem mx_Y0 : (List.range' 0 20).all mm_yck = true := by decide +kernel
set_option maxRecDepth 100000 in
theorem mx_Y1 : (List.range' 20 20).all mm_yck = true := by decide +kernel
set_option maxRecDepth 100000 in
theorem mx_Y2 : (List.range' 40 20).all mm_yck = true := by decide +kernel
set_option maxRecDepth 100000 in
theorem mx_Y3 : (List.range' 60 20).all mm_yck = true := by decide +kernel
set_option maxRecDepth 100000 in
theorem mx_Y4 : (List.range' 80 20).all mm_yck = true := by decide +kernel
set_option maxRecDepth 100000 in
theorem mx_Y5 : (List.range' 100 20).all mm_yck = true := by decide +kernel
