/-! the check, part 10 -/
set_option maxRecDepth 100000 in
theorem ck_286_1620 : ((k_286.drop 1620).take 60).all (fun q => chkE cL_law 10 286 0 q) = true := by decide +kernel
set_option maxRecDepth 100000 in
theorem ck_286 : k_286.all (fun q => chkE cL_law 10 286 0 q) = true := xdrop0 (xchunk (a := 0) ck_286_0 (xchunk (a := 60) ck_286_60 (xchunk (a := 120) ck_286_120 (xchunk (a := 180) ck_286_180 (xchunk (a := 240) ck_286_240 (xchunk (a := 300) ck_286_300 (xchunk (a := 360) ck_286_360 (xchunk (a := 420) ck_286_420 (xchunk (a := 480) ck_286_480 (xchunk (a := 540) ck_286_540 (xchunk (a := 600) ck_286_600 (xchunk (a := 660) ck_286_660 (xchunk (a := 720) ck_286_720 (xchunk (a := 780) ck_286_780 (xchunk (a := 840) ck_286_840 (xchunk (a := 900) ck_286_900 (xchunk (a := 960) ck_286_960 (xchunk (a := 1020) ck_286_1020 (xchunk (a := 1080) ck_286_1080 (xchunk (a := 1140) ck_286_1140 (xchunk (a := 1200) ck_286_1200 (xchunk (a := 1260) ck_286_1260 (xchunk (a := 1320) ck_286_1320 (xchunk (a := 1380) ck_286_1380 (xchunk (a := 1440) ck_286_1440 (xchunk (a := 1500) ck_286_1500 (xchunk (a := 1560) ck_286_1560 (xchunk (a := 1620) ck_286_1620 (xchunk_e (k_286.drop 1680) (by decide +kernel))))))))))))))))))))))))))))))
set_option maxRecDepth 100000 in
theorem ck_287 : k_287.all (fun q => chkE cJ13_bitCount_95d88 11 287 0 q) = true := by decide +kernel
set_option maxRecDepth 100000 in
theorem ck_288 : k_288.all (fun q => chkE cJ13_numberOfTrailingZeros_95d88 11 288 0 q) = true := by decide +kernel
set_option maxRecDepth 100000 in
theorem ck_289 : k_289.all (fun q => chkE cJ6_numberOfTrailingZeros_0f7a4 12 289 0 q) = true := by decide +kernel
set_option maxRecDepth 100000 in
theorem ck_290 : k_290.all (fun q => chkE cJ7_fill_53178 13 290 0 q) = true := by decide +kernel
set_option maxRecDepth 100000 in
theorem ck_291 : k_291.all (fun q => chkE cJ7_fill_d0a16 13 291 0 q) = true := by decide +kernel
set_option maxRecDepth 100000 in
theorem ck_292 : k_292.all (fun q => chkE cJ4_init_da8c8 14 292 1 q) = true := by decide +kernel
set_option maxRecDepth 100000 in
theorem ck_293 : k_293.all (fun q => chkE cJ4_append_cf468 14 293 0 q) = true := by decide +kernel
set_option maxRecDepth 100000 in
theorem ck_294 : k_294.all (fun q => chkE cJ4_append_bf812 14 294 0 q) = true := by decide +kernel
set_option maxRecDepth 100000 in
theorem ck_295 : k_295.all (fun q => chkE cJ4_charAt_5068e 14 295 0 q) = true := by decide +kernel
set_option maxRecDepth 100000 in
theorem ck_296 : k_296.all (fun q => chkE cJ4_setLength_d00df 14 296 0 q) = true := by decide +kernel
set_option maxRecDepth 100000 in
theorem ck_297 : k_297.all (fun q => chkE cJ4_length_8abf5 14 297 0 q) = true := by decide +kernel
set_option maxRecDepth 100000 in
theorem ck_298 : k_298.all (fun q => chkE cJ5_init_d00df 15 298 1 q) = true := by decide +kernel
set_option maxRecDepth 100000 in
theorem ck_299 : k_299.all (fun q => chkE cJ5_length_8abf5 15 299 0 q) = true := by decide +kernel
set_option maxRecDepth 100000 in
theorem ck_300 : k_300.all (fun q => chkE cJ5_ensureCapacityInternal_d00df 15 300 0 q) = true := by decide +kernel
set_option maxRecDepth 100000 in
theorem ck_301 : k_301.all (fun q => chkE cJ5_newCapacity_0f7a4 15 301 0 q) = true := by decide +kernel
set_option maxRecDepth 100000 in
theorem ck_302 : k_302.all (fun q => chkE cJ5_setLength_d00df 15 302 0 q) = true := by decide +kernel
set_option maxRecDepth 100000 in
theorem ck_303 : k_303.all (fun q => chkE cJ5_charAt_5068e 15 303 0 q) = true := by decide +kernel
set_option maxRecDepth 100000 in
theorem ck_304 : k_304.all (fun q => chkE cJ5_append_3fe6f 15 304 0 q) = true := by decide +kernel
set_option maxRecDepth 100000 in
theorem ck_305 : k_305.all (fun q => chkE cJ5_append_c97b9 15 305 0 q) = true := by decide +kernel
set_option maxRecDepth 100000 in
theorem ck_306 : k_306.all (fun q => chkE cJ5_isLatin1_aae02 15 306 0 q) = true := by decide +kernel
set_option maxRecDepth 100000 in
theorem ck_307 : k_307.all (fun q => chkE cJ6_getChars_ba4f3 12 307 0 q) = true := by decide +kernel
set_option maxRecDepth 100000 in
theorem ck_308 : k_308.all (fun q => chkE cJ6_stringSize_0f7a4 12 308 0 q) = true := by decide +kernel
set_option maxRecDepth 100000 in
theorem ck_309 : k_309.all (fun q => chkE cJ1_canEncode_fc78d 16 309 0 q) = true := by decide +kernel
set_option maxRecDepth 100000 in
theorem ck_310 : k_310.all (fun q => chkE cJ7_copyOf_9075b 13 310 0 q) = true := by decide +kernel
set_option maxRecDepth 100000 in
theorem ck_311 : k_311.all (fun q => chkE cJ8_newLength_cabcc 17 311 0 q) = true := by decide +kernel
set_option maxRecDepth 100000 in
theorem ck_312 : k_312.all (fun q => chkE cJ0_length_8abf5 18 312 0 q) = true := by decide +kernel
set_option maxRecDepth 100000 in
theorem ck_313 : k_313.all (fun q => chkE cJ0_charAt_5068e 18 313 0 q) = true := by decide +kernel
set_option maxRecDepth 100000 in
theorem ck_314 : k_314.all (fun q => chkE cJ0_coder_7d493 18 314 0 q) = true := by decide +kernel
set_option maxRecDepth 100000 in
theorem ck_315 : k_315.all (fun q => chkE cJ0_isLatin1_aae02 18 315 0 q) = true := by decide +kernel
set_option maxRecDepth 100000 in
theorem ck_316 : k_316.all (fun q => chkE cJ1_charAt_3b067 16 316 0 q) = true := by decide +kernel
