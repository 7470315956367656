/-! the check, part 8 -/
set_option maxRecDepth 100000 in
theorem ck_286_1380 : ((k_286.drop 1380).take 60).all (fun q => chkE cL_law 10 286 0 q) = true := by decide +kernel
set_option maxRecDepth 100000 in
theorem ck_286_1440 : ((k_286.drop 1440).take 60).all (fun q => chkE cL_law 10 286 0 q) = true := by decide +kernel
