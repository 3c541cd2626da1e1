set_option maxRecDepth 100000 in
theorem mx_Z9 : (List.range' 270 30).all mm_zck = true := by decide +kernel
set_option maxRecDepth 100000 in
theorem mx_Z10 : (List.range' 300 30).all mm_zck = true := by decide +kernel
set_option maxRecDepth 100000 in
theorem mx_Z11 : (List.range' 330 30).all mm_zck = true := by decide +kernel
set_option maxRecDepth 100000 in
theorem mx_Z12 : (List.range' 360 30).all mm_zck = true := by decide +kernel
set_option maxRecDepth 100000 in
theorem mx_Z13 : (List.range' 390 23).all mm_zck = true := by decide +kernel
