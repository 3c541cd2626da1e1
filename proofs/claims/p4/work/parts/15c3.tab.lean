set_option maxRecDepth 100000 in
theorem mx_Z21 : (List.range' 315 15).all mm_zck = true := by decide +kernel
set_option maxRecDepth 100000 in
theorem mx_Z22 : (List.range' 330 15).all mm_zck = true := by decide +kernel
set_option maxRecDepth 100000 in
theorem mx_Z23 : (List.range' 345 15).all mm_zck = true := by decide +kernel
set_option maxRecDepth 100000 in
theorem mx_Z24 : (List.range' 360 15).all mm_zck = true := by decide +kernel
set_option maxRecDepth 100000 in
theorem mx_Z25 : (List.range' 375 15).all mm_zck = true := by decide +kernel
set_option maxRecDepth 100000 in
theorem mx_Z26 : (List.range' 390 15).all mm_zck = true := by decide +kernel
set_option maxRecDepth 100000 in
theorem mx_Z27 : (List.range' 405 8).all mm_zck = true := by decide +kernel
