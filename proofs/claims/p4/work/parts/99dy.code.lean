/-! ===== code, row by row (by program) ===== -/

section K82
/-! ===== the law, row by row (by program) ===== -/
end K82
