/-! the check, part 4 -/
set_option maxRecDepth 100000 in
theorem ck_286_780 : ((k_286.drop 780).take 60).all (fun q => chkE cL_law 10 286 0 q) = true := by decide +kernel
set_option maxRecDepth 100000 in
theorem ck_286_840 : ((k_286.drop 840).take 60).all (fun q => chkE cL_law 10 286 0 q) = true := by decide +kernel
set_option maxRecDepth 100000 in
theorem ck_286_900 : ((k_286.drop 900).take 60).all (fun q => chkE cL_law 10 286 0 q) = true := by decide +kernel
