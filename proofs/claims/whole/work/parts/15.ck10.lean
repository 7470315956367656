/-! the check, part 10 -/
set_option maxRecDepth 100000 in
theorem ck_286_1620 : ((k_286.drop 1620).take 60).all (fun q => chkE cL_law 10 286 0 q) = true := by decide +kernel
set_option maxRecDepth 100000 in
theorem ck_286 : k_286.all (fun q => chkE cL_law 10 286 0 q) = true := xdrop0 (xchunk (a := 0) ck_286_0 (xchunk (a := 60) ck_286_60 (xchunk (a := 120) ck_286_120 (xchunk (a := 180) ck_286_180 (xchunk (a := 240) ck_286_240 (xchunk (a := 300) ck_286_300 (xchunk (a := 360) ck_286_360 (xchunk (a := 420) ck_286_420 (xchunk (a := 480) ck_286_480 (xchunk (a := 540) ck_286_540 (xchunk (a := 600) ck_286_600 (xchunk (a := 660) ck_286_660 (xchunk (a := 720) ck_286_720 (xchunk (a := 780) ck_286_780 (xchunk (a := 840) ck_286_840 (xchunk (a := 900) ck_286_900 (xchunk (a := 960) ck_286_960 (xchunk (a := 1020) ck_286_1020 (xchunk (a := 1080) ck_286_1080 (xchunk (a := 1140) ck_286_1140 (xchunk (a := 1200) ck_286_1200 (xchunk (a := 1260) ck_286_1260 (xchunk (a := 1320) ck_286_1320 (xchunk (a := 1380) ck_286_1380 (xchunk (a := 1440) ck_286_1440 (xchunk (a := 1500) ck_286_1500 (xchunk (a := 1560) ck_286_1560 (xchunk (a := 1620) ck_286_1620 (xchunk_e (k_286.drop 1680) (by decide +kernel))))))))))))))))))))))))))))))
set_option maxRecDepth 100000 in
theorem ck_287 : k_287.all (fun q => chkE cJ9_max_7cf53 11 287 0 q) = true := by decide +kernel
set_option maxRecDepth 100000 in
theorem ck_288 : k_288.all (fun q => chkE cJ9_min_7cf53 11 288 0 q) = true := by decide +kernel
set_option maxRecDepth 100000 in
theorem ck_289 : k_289.all (fun q => chkE cJ9_abs_0f7a4 11 289 0 q) = true := by decide +kernel
set_option maxRecDepth 100000 in
theorem ck_290 : k_290.all (fun q => chkE cJ13_bitCount_95d88 12 290 0 q) = true := by decide +kernel
set_option maxRecDepth 100000 in
theorem ck_291 : k_291.all (fun q => chkE cJ13_numberOfTrailingZeros_95d88 12 291 0 q) = true := by decide +kernel
set_option maxRecDepth 100000 in
theorem ck_292 : k_292.all (fun q => chkE cJ6_numberOfTrailingZeros_0f7a4 13 292 0 q) = true := by decide +kernel
set_option maxRecDepth 100000 in
theorem ck_293 : k_293.all (fun q => chkE cJ7_fill_53178 14 293 0 q) = true := by decide +kernel
set_option maxRecDepth 100000 in
theorem ck_294 : k_294.all (fun q => chkE cJ7_fill_d0a16 14 294 0 q) = true := by decide +kernel
