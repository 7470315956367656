/-! the check, part 2 -/
set_option maxRecDepth 100000 in
theorem ck_286_360 : ((k_286.drop 360).take 60).all (fun q => chkE cL_law 9 286 0 q) = true := by decide +kernel
set_option maxRecDepth 100000 in
theorem ck_286_420 : ((k_286.drop 420).take 60).all (fun q => chkE cL_law 9 286 0 q) = true := by decide +kernel
set_option maxRecDepth 100000 in
theorem ck_286_480 : ((k_286.drop 480).take 60).all (fun q => chkE cL_law 9 286 0 q) = true := by decide +kernel
set_option maxRecDepth 100000 in
theorem ck_286_540 : ((k_286.drop 540).take 60).all (fun q => chkE cL_law 9 286 0 q) = true := by decide +kernel
set_option maxRecDepth 100000 in
theorem ck_286_600 : ((k_286.drop 600).take 60).all (fun q => chkE cL_law 9 286 0 q) = true := by decide +kernel
set_option maxRecDepth 100000 in
theorem ck_286 : k_286.all (fun q => chkE cL_law 9 286 0 q) = true := xdrop0 (xchunk (a := 0) ck_286_0 (xchunk (a := 60) ck_286_60 (xchunk (a := 120) ck_286_120 (xchunk (a := 180) ck_286_180 (xchunk (a := 240) ck_286_240 (xchunk (a := 300) ck_286_300 (xchunk (a := 360) ck_286_360 (xchunk (a := 420) ck_286_420 (xchunk (a := 480) ck_286_480 (xchunk (a := 540) ck_286_540 (xchunk (a := 600) ck_286_600 (xchunk_e (k_286.drop 660) (by decide +kernel)))))))))))))
set_option maxRecDepth 100000 in
theorem ck_287 : k_287.all (fun q => chkE cJ13_bitCount_95d88 10 287 0 q) = true := by decide +kernel
set_option maxRecDepth 100000 in
theorem ck_288 : k_288.all (fun q => chkE cJ13_numberOfTrailingZeros_95d88 10 288 0 q) = true := by decide +kernel
set_option maxRecDepth 100000 in
theorem ck_289 : k_289.all (fun q => chkE cJ6_numberOfTrailingZeros_0f7a4 11 289 0 q) = true := by decide +kernel
set_option maxRecDepth 100000 in
theorem ck_290 : k_290.all (fun q => chkE cJ7_fill_53178 12 290 0 q) = true := by decide +kernel
set_option maxRecDepth 100000 in
theorem ck_291 : k_291.all (fun q => chkE cJ7_fill_d0a16 12 291 0 q) = true := by decide +kernel
set_option maxRecDepth 100000 in
theorem ck_292 : k_292.all (fun q => chkE cJ4_init_da8c8 13 292 1 q) = true := by decide +kernel
set_option maxRecDepth 100000 in
theorem ck_293 : k_293.all (fun q => chkE cJ4_append_cf468 13 293 0 q) = true := by decide +kernel
set_option maxRecDepth 100000 in
theorem ck_294 : k_294.all (fun q => chkE cJ4_append_bf812 13 294 0 q) = true := by decide +kernel
set_option maxRecDepth 100000 in
theorem ck_295 : k_295.all (fun q => chkE cJ4_charAt_5068e 13 295 0 q) = true := by decide +kernel
set_option maxRecDepth 100000 in
theorem ck_296 : k_296.all (fun q => chkE cJ4_setLength_d00df 13 296 0 q) = true := by decide +kernel
set_option maxRecDepth 100000 in
theorem ck_297 : k_297.all (fun q => chkE cJ4_length_8abf5 13 297 0 q) = true := by decide +kernel
set_option maxRecDepth 100000 in
theorem ck_298 : k_298.all (fun q => chkE cJ5_init_d00df 14 298 1 q) = true := by decide +kernel
set_option maxRecDepth 100000 in
theorem ck_299 : k_299.all (fun q => chkE cJ5_length_8abf5 14 299 0 q) = true := by decide +kernel
set_option maxRecDepth 100000 in
theorem ck_300 : k_300.all (fun q => chkE cJ5_ensureCapacityInternal_d00df 14 300 0 q) = true := by decide +kernel
set_option maxRecDepth 100000 in
theorem ck_301 : k_301.all (fun q => chkE cJ5_newCapacity_0f7a4 14 301 0 q) = true := by decide +kernel
set_option maxRecDepth 100000 in
theorem ck_302 : k_302.all (fun q => chkE cJ5_setLength_d00df 14 302 0 q) = true := by decide +kernel
set_option maxRecDepth 100000 in
theorem ck_303 : k_303.all (fun q => chkE cJ5_charAt_5068e 14 303 0 q) = true := by decide +kernel
set_option maxRecDepth 100000 in
theorem ck_304 : k_304.all (fun q => chkE cJ5_append_3fe6f 14 304 0 q) = true := by decide +kernel
set_option maxRecDepth 100000 in
theorem ck_305 : k_305.all (fun q => chkE cJ5_append_c97b9 14 305 0 q) = true := by decide +kernel
set_option maxRecDepth 100000 in
theorem ck_306 : k_306.all (fun q => chkE cJ5_isLatin1_aae02 14 306 0 q) = true := by decide +kernel
set_option maxRecDepth 100000 in
theorem ck_307 : k_307.all (fun q => chkE cJ6_getChars_ba4f3 11 307 0 q) = true := by decide +kernel
