/-! the check, part 3 -/
set_option maxRecDepth 100000 in
theorem ck_308 : k_308.all (fun q => chkE cJ6_stringSize_0f7a4 11 308 0 q) = true := by decide +kernel
set_option maxRecDepth 100000 in
theorem ck_309 : k_309.all (fun q => chkE cJ1_canEncode_fc78d 15 309 0 q) = true := by decide +kernel
set_option maxRecDepth 100000 in
theorem ck_310 : k_310.all (fun q => chkE cJ7_copyOf_9075b 12 310 0 q) = true := by decide +kernel
set_option maxRecDepth 100000 in
theorem ck_311 : k_311.all (fun q => chkE cJ8_newLength_cabcc 16 311 0 q) = true := by decide +kernel
set_option maxRecDepth 100000 in
theorem ck_312 : k_312.all (fun q => chkE cJ0_length_8abf5 17 312 0 q) = true := by decide +kernel
set_option maxRecDepth 100000 in
theorem ck_313 : k_313.all (fun q => chkE cJ0_charAt_5068e 17 313 0 q) = true := by decide +kernel
set_option maxRecDepth 100000 in
theorem ck_314 : k_314.all (fun q => chkE cJ0_coder_7d493 17 314 0 q) = true := by decide +kernel
set_option maxRecDepth 100000 in
theorem ck_315 : k_315.all (fun q => chkE cJ0_isLatin1_aae02 17 315 0 q) = true := by decide +kernel
set_option maxRecDepth 100000 in
theorem ck_316 : k_316.all (fun q => chkE cJ1_charAt_3b067 15 316 0 q) = true := by decide +kernel
set_option maxRecDepth 100000 in
theorem ck_317 : k_317.all (fun q => chkE cJ4_append_15ec4 13 317 0 q) = true := by decide +kernel
set_option maxRecDepth 100000 in
theorem ck_318 : k_318.all (fun q => chkE cJ4_toString_0e30d 13 318 0 q) = true := by decide +kernel
set_option maxRecDepth 100000 in
theorem ck_319 : k_319.all (fun q => chkE cJ5_append_cf1ce 14 319 0 q) = true := by decide +kernel
set_option maxRecDepth 100000 in
theorem ck_320 : k_320.all (fun q => chkE cJ5_putStringAt_47b60 14 320 0 q) = true := by decide +kernel
set_option maxRecDepth 100000 in
theorem ck_321 : k_321.all (fun q => chkE cJ5_inflateIfNeededFor_a7421 14 321 0 q) = true := by decide +kernel
set_option maxRecDepth 100000 in
theorem ck_322 : k_322.all (fun q => chkE cJ5_getValue_6d5f1 14 322 0 q) = true := by decide +kernel
set_option maxRecDepth 100000 in
theorem ck_323 : k_323.all (fun q => chkE cJ0_init_81219 17 323 1 q) = true := by decide +kernel
set_option maxRecDepth 100000 in
theorem ck_324 : k_324.all (fun q => chkE cJ0_init_db425 17 324 1 q) = true := by decide +kernel
set_option maxRecDepth 100000 in
theorem ck_325 : k_325.all (fun q => chkE cJ0_getBytes_840e7 17 325 0 q) = true := by decide +kernel
set_option maxRecDepth 100000 in
theorem ck_326 : k_326.all (fun q => chkE cJ7_copyOfRange_39247 12 326 0 q) = true := by decide +kernel
set_option maxRecDepth 100000 in
theorem ck_327 : k_327.all (fun q => chkE cJ7_copyOfRangeByte_39247 12 327 0 q) = true := by decide +kernel
set_option maxRecDepth 100000 in
theorem ck_328 : k_328.all (fun q => chkE cJ7_checkLength_df160 12 328 0 q) = true := by decide +kernel
