set_option maxRecDepth 100000 in
theorem mx_Z0 : (List.range' 0 30).all mm_zck = true := by decide +kernel
set_option maxRecDepth 100000 in
theorem mx_Z1 : (List.range' 30 30).all mm_zck = true := by decide +kernel
set_option maxRecDepth 100000 in
theorem mx_Z2 : (List.range' 60 30).all mm_zck = true := by decide +kernel
set_option maxRecDepth 100000 in
theorem mx_Z3 : (List.range' 90 30).all mm_zck = true := by decide +kernel
