/-! the check, part 3 -/
set_option maxRecDepth 100000 in
theorem ck_286_480 : ((k_286.drop 480).take 60).all (fun q => chkE cL_law 10 286 0 q) = true := by decide +kernel
set_option maxRecDepth 100000 in
theorem ck_286_540 : ((k_286.drop 540).take 60).all (fun q => chkE cL_law 10 286 0 q) = true := by decide +kernel
set_option maxRecDepth 100000 in
theorem ck_286_600 : ((k_286.drop 600).take 60).all (fun q => chkE cL_law 10 286 0 q) = true := by decide +kernel
set_option maxRecDepth 100000 in
theorem ck_286_660 : ((k_286.drop 660).take 60).all (fun q => chkE cL_law 10 286 0 q) = true := by decide +kernel
set_option maxRecDepth 100000 in
theorem ck_286_720 : ((k_286.drop 720).take 60).all (fun q => chkE cL_law 10 286 0 q) = true := by decide +kernel
