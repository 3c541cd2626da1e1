set_option maxRecDepth 1000000 in
theorem mz_R0 : (List.range 6).all (fun L => mz_ok (true, (true, [], [], [], some L))) = true := by decide +kernel
