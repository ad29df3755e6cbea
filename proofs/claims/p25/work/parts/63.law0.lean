/-! the law: what its instructions decode to, 0 -/
theorem sd_cl_0 : (List.range 64).all (fun r => sd_ck1 55 (64 * 0 + r)) = true := by decide +kernel
theorem sd_cl_1 : (List.range 64).all (fun r => sd_ck1 55 (64 * 1 + r)) = true := by decide +kernel
theorem sd_cl_2 : (List.range 64).all (fun r => sd_ck1 55 (64 * 2 + r)) = true := by decide +kernel
theorem sd_cl_3 : (List.range 64).all (fun r => sd_ck1 55 (64 * 3 + r)) = true := by decide +kernel
theorem sd_cl_4 : (List.range 64).all (fun r => sd_ck1 55 (64 * 4 + r)) = true := by decide +kernel
theorem sd_cl_5 : (List.range 64).all (fun r => sd_ck1 55 (64 * 5 + r)) = true := by decide +kernel
theorem sd_cl_6 : (List.range 64).all (fun r => sd_ck1 55 (64 * 6 + r)) = true := by decide +kernel
theorem sd_cl_7 : (List.range 64).all (fun r => sd_ck1 55 (64 * 7 + r)) = true := by decide +kernel
