/-! the check, part 2 -/
set_option maxRecDepth 100000 in
theorem ck_264 : k_264.all (fun q => chkE cL_mostCoveredBySweep 10 264 0 q) = true := by decide +kernel
set_option maxRecDepth 100000 in
theorem ck_265 : k_265.all (fun q => chkE cL_coveredValues 10 265 0 q) = true := by decide +kernel
set_option maxRecDepth 100000 in
theorem ck_266 : k_266.all (fun q => chkE cL_recentTruth 10 266 0 q) = true := by decide +kernel
set_option maxRecDepth 100000 in
theorem ck_267 : k_267.all (fun q => chkE cL_settledEstimates 10 267 0 q) = true := by decide +kernel
set_option maxRecDepth 100000 in
theorem ck_268 : k_268.all (fun q => chkE cL_hits 10 268 0 q) = true := by decide +kernel
set_option maxRecDepth 100000 in
theorem ck_269 : k_269.all (fun q => chkE cL_score 10 269 0 q) = true := by decide +kernel
set_option maxRecDepth 100000 in
theorem ck_270 : k_270.all (fun q => chkE cL_meanScore 10 270 0 q) = true := by decide +kernel
set_option maxRecDepth 100000 in
theorem ck_271 : k_271.all (fun q => chkE cL_calibrationError 10 271 0 q) = true := by decide +kernel
set_option maxRecDepth 100000 in
theorem ck_272 : k_272.all (fun q => chkE cL_bestCalibrated 10 272 0 q) = true := by decide +kernel
set_option maxRecDepth 100000 in
theorem ck_273 : k_273.all (fun q => chkE cL_playerByScore 10 273 0 q) = true := by decide +kernel
set_option maxRecDepth 100000 in
theorem ck_274 : k_274.all (fun q => chkE cL_binSize 10 274 0 q) = true := by decide +kernel
set_option maxRecDepth 100000 in
theorem ck_275 : k_275.all (fun q => chkE cL_binSizeByPlayers 10 275 0 q) = true := by decide +kernel
set_option maxRecDepth 100000 in
theorem ck_276 : k_276.all (fun q => chkE cL_binHits 10 276 0 q) = true := by decide +kernel
set_option maxRecDepth 100000 in
theorem ck_277 : k_277.all (fun q => chkE cL_binShare 10 277 0 q) = true := by decide +kernel
set_option maxRecDepth 100000 in
theorem ck_278 : k_278.all (fun q => chkE cL_feed 10 278 0 q) = true := by decide +kernel
set_option maxRecDepth 100000 in
theorem ck_279 : k_279.all (fun q => chkE cL_runCommands 10 279 0 q) = true := by decide +kernel
set_option maxRecDepth 100000 in
theorem ck_280 : k_280.all (fun q => chkE cL_errorPosition 10 280 0 q) = true := by decide +kernel
set_option maxRecDepth 100000 in
theorem ck_281 : k_281.all (fun q => chkE cL_failedCommand 10 281 0 q) = true := by decide +kernel
set_option maxRecDepth 100000 in
theorem ck_282 : k_282.all (fun q => chkE cL_writeQuestion 10 282 0 q) = true := by decide +kernel
set_option maxRecDepth 100000 in
theorem ck_283 : k_283.all (fun q => chkE cL_outputChar 10 283 0 q) = true := by decide +kernel
set_option maxRecDepth 100000 in
theorem ck_284 : k_284.all (fun q => chkE cL_undo 10 284 0 q) = true := by decide +kernel
set_option maxRecDepth 100000 in
theorem ck_285 : k_285.all (fun q => chkE cL_restore 10 285 0 q) = true := by decide +kernel
set_option maxRecDepth 100000 in
theorem ck_286_0 : ((k_286.drop 0).take 60).all (fun q => chkE cL_law 10 286 0 q) = true := by decide +kernel
set_option maxRecDepth 100000 in
theorem ck_286_60 : ((k_286.drop 60).take 60).all (fun q => chkE cL_law 10 286 0 q) = true := by decide +kernel
set_option maxRecDepth 100000 in
theorem ck_286_120 : ((k_286.drop 120).take 60).all (fun q => chkE cL_law 10 286 0 q) = true := by decide +kernel
set_option maxRecDepth 100000 in
theorem ck_286_180 : ((k_286.drop 180).take 60).all (fun q => chkE cL_law 10 286 0 q) = true := by decide +kernel
set_option maxRecDepth 100000 in
theorem ck_286_240 : ((k_286.drop 240).take 60).all (fun q => chkE cL_law 10 286 0 q) = true := by decide +kernel
set_option maxRecDepth 100000 in
theorem ck_286_300 : ((k_286.drop 300).take 60).all (fun q => chkE cL_law 10 286 0 q) = true := by decide +kernel
set_option maxRecDepth 100000 in
theorem ck_286_360 : ((k_286.drop 360).take 60).all (fun q => chkE cL_law 10 286 0 q) = true := by decide +kernel
set_option maxRecDepth 100000 in
theorem ck_286_420 : ((k_286.drop 420).take 60).all (fun q => chkE cL_law 10 286 0 q) = true := by decide +kernel
