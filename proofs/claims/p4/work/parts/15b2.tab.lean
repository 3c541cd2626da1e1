set_option maxRecDepth 100000 in
theorem mx_Y12 : (List.range' 240 20).all mm_yck = true := by decide +kernel
set_option maxRecDepth 100000 in
theorem mx_Y13 : (List.range' 260 20).all mm_yck = true := by decide +kernel
set_option maxRecDepth 100000 in
theorem mx_Y14 : (List.range' 280 20).all mm_yck = true := by decide +kernel
set_option maxRecDepth 100000 in
theorem mx_Y15 : (List.range' 300 20).all mm_yck = true := by decide +kernel
set_option maxRecDepth 100000 in
theorem mx_Y16 : (List.range' 320 20).all mm_yck = true := by decide +kernel
set_option maxRecDepth 100000 in
theorem mx_Y17 : (List.range' 340 20).all mm_yck = true := by decide +kernel
