set_option maxRecDepth 100000 in
theorem mx_Z0 : (List.range' 0 15).all mm_zck = true := by decide +kernel
set_option maxRecDepth 100000 in
theorem mx_Z1 : (List.range' 15 15).all mm_zck = true := by decide +kernel
set_option maxRecDepth 100000 in
theorem mx_Z2 : (List.range' 30 15).all mm_zck = true := by decide +kernel
set_option maxRecDepth 100000 in
theorem mx_Z3 : (List.range' 45 15).all mm_zck = true := by decide +kernel
set_option maxRecDepth 100000 in
theorem mx_Z4 : (List.range' 60 15).all mm_zck = true := by decide +kernel
set_option maxRecDepth 100000 in
theorem mx_Z5 : (List.range' 75 15).all mm_zck = true := by decide +kernel
set_option maxRecDepth 100000 in
theorem mx_Z6 : (List.range' 90 15).all mm_zck = true := by decide +kernel
