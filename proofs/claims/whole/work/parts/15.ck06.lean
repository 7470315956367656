/-! the check, part 6 -/
set_option maxRecDepth 100000 in
theorem ck_286_1140 : ((k_286.drop 1140).take 60).all (fun q => chkE cL_law 10 286 0 q) = true := by decide +kernel
set_option maxRecDepth 100000 in
theorem ck_286_1200 : ((k_286.drop 1200).take 60).all (fun q => chkE cL_law 10 286 0 q) = true := by decide +kernel
