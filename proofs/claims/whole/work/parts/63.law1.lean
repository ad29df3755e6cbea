/-! the law: what its instructions decode to, 1 -/
theorem sd_cl_8 : (List.range 64).all (fun r => sd_ck1 161 (64 * 8 + r)) = true := by decide +kernel
theorem sd_cl_9 : (List.range 64).all (fun r => sd_ck1 161 (64 * 9 + r)) = true := by decide +kernel
theorem sd_cl_10 : (List.range 64).all (fun r => sd_ck1 161 (64 * 10 + r)) = true := by decide +kernel
theorem sd_cl_11 : (List.range 64).all (fun r => sd_ck1 161 (64 * 11 + r)) = true := by decide +kernel
theorem sd_cl_12 : (List.range 64).all (fun r => sd_ck1 161 (64 * 12 + r)) = true := by decide +kernel
theorem sd_cl_13 : (List.range 64).all (fun r => sd_ck1 161 (64 * 13 + r)) = true := by decide +kernel
theorem sd_cl_14 : (List.range 64).all (fun r => sd_ck1 161 (64 * 14 + r)) = true := by decide +kernel
theorem sd_cl_15 : (List.range 64).all (fun r => sd_ck1 161 (64 * 15 + r)) = true := by decide +kernel
