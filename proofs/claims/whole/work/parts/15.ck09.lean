/-! the check, part 9 -/
set_option maxRecDepth 100000 in
theorem ck_286_1500 : ((k_286.drop 1500).take 60).all (fun q => chkE cL_law 10 286 0 q) = true := by decide +kernel
set_option maxRecDepth 100000 in
theorem ck_286_1560 : ((k_286.drop 1560).take 60).all (fun q => chkE cL_law 10 286 0 q) = true := by decide +kernel
