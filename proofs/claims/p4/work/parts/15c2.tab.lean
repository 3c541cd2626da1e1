set_option maxRecDepth 100000 in
theorem mx_Z14 : (List.range' 210 15).all mm_zck = true := by decide +kernel
set_option maxRecDepth 100000 in
theorem mx_Z15 : (List.range' 225 15).all mm_zck = true := by decide +kernel
set_option maxRecDepth 100000 in
theorem mx_Z16 : (List.range' 240 15).all mm_zck = true := by decide +kernel
set_option maxRecDepth 100000 in
theorem mx_Z17 : (List.range' 255 15).all mm_zck = true := by decide +kernel
set_option maxRecDepth 100000 in
theorem mx_Z18 : (List.range' 270 15).all mm_zck = true := by decide +kernel
set_option maxRecDepth 100000 in
theorem mx_Z19 : (List.range' 285 15).all mm_zck = true := by decide +kernel
set_option maxRecDepth 100000 in
theorem mx_Z20 : (List.range' 300 15).all mm_zck = true := by decide +kernel
