set_option maxRecDepth 100000 in
theorem mx_Z4 : (List.range' 120 30).all mm_zck = true := by decide +kernel
set_option maxRecDepth 100000 in
theorem mx_Z5 : (List.range' 150 30).all mm_zck = true := by decide +kernel
set_option maxRecDepth 100000 in
theorem mx_Z6 : (List.range' 180 30).all mm_zck = true := by decide +kernel
set_option maxRecDepth 100000 in
theorem mx_Z7 : (List.range' 210 30).all mm_zck = true := by decide +kernel
set_option maxRecDepth 100000 in
theorem mx_Z8 : (List.range' 240 30).all mm_zck = true := by decide +kernel
