/-! ===== code, row by row (by program) ===== -/

