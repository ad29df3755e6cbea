/-! the law: what its instructions decode to, 2 -/
theorem sd_cl_16 : (List.range 64).all (fun r => sd_ck1 161 (64 * 16 + r)) = true := by decide +kernel
theorem sd_cl_17 : (List.range 64).all (fun r => sd_ck1 161 (64 * 17 + r)) = true := by decide +kernel
theorem sd_cl_18 : (List.range 64).all (fun r => sd_ck1 161 (64 * 18 + r)) = true := by decide +kernel
theorem sd_cl_19 : (List.range 64).all (fun r => sd_ck1 161 (64 * 19 + r)) = true := by decide +kernel
theorem sd_cl_20 : (List.range 64).all (fun r => sd_ck1 161 (64 * 20 + r)) = true := by decide +kernel
theorem sd_cl_21 : (List.range 64).all (fun r => sd_ck1 161 (64 * 21 + r)) = true := by decide +kernel
theorem sd_cl_22 : (List.range 64).all (fun r => sd_ck1 161 (64 * 22 + r)) = true := by decide +kernel
theorem sd_cl_23 : (List.range 64).all (fun r => sd_ck1 161 (64 * 23 + r)) = true := by decide +kernel
