/-! the check, part 5 -/
set_option maxRecDepth 100000 in
theorem ck_286_960 : ((k_286.drop 960).take 60).all (fun q => chkE cL_law 10 286 0 q) = true := by decide +kernel
set_option maxRecDepth 100000 in
theorem ck_286_1020 : ((k_286.drop 1020).take 60).all (fun q => chkE cL_law 10 286 0 q) = true := by decide +kernel
set_option maxRecDepth 100000 in
theorem ck_286_1080 : ((k_286.drop 1080).take 60).all (fun q => chkE cL_law 10 286 0 q) = true := by decide +kernel
