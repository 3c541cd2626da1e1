set_option maxRecDepth 100000 in
theorem mx_Z7 : (List.range' 105 15).all mm_zck = true := by decide +kernel
set_option maxRecDepth 100000 in
theorem mx_Z8 : (List.range' 120 15).all mm_zck = true := by decide +kernel
set_option maxRecDepth 100000 in
theorem mx_Z9 : (List.range' 135 15).all mm_zck = true := by decide +kernel
set_option maxRecDepth 100000 in
theorem mx_Z10 : (List.range' 150 15).all mm_zck = true := by decide +kernel
set_option maxRecDepth 100000 in
theorem mx_Z11 : (List.range' 165 15).all mm_zck = true := by decide +kernel
set_option maxRecDepth 100000 in
theorem mx_Z12 : (List.range' 180 15).all mm_zck = true := by decide +kernel
set_option maxRecDepth 100000 in
theorem mx_Z13 : (List.range' 195 15).all mm_zck = true := by decide +kernel
