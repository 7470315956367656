/-! the check, part 7 -/
set_option maxRecDepth 100000 in
theorem ck_286_1260 : ((k_286.drop 1260).take 60).all (fun q => chkE cL_law 10 286 0 q) = true := by decide +kernel
set_option maxRecDepth 100000 in
theorem ck_286_1320 : ((k_286.drop 1320).take 60).all (fun q => chkE cL_law 10 286 0 q) = true := by decide +kernel
