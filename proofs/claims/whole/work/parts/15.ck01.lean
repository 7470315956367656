/-! the check, part 1 -/
set_option maxRecDepth 100000 in
theorem ck_166_60 : ((k_166.drop 60).take 60).all (fun q => chkE cX12_makes 9 166 0 q) = true := by decide +kernel
set_option maxRecDepth 100000 in
theorem ck_166_120 : ((k_166.drop 120).take 60).all (fun q => chkE cX12_makes 9 166 0 q) = true := by decide +kernel
set_option maxRecDepth 100000 in
theorem ck_166 : k_166.all (fun q => chkE cX12_makes 9 166 0 q) = true := xdrop0 (xchunk (a := 0) ck_166_0 (xchunk (a := 60) ck_166_60 (xchunk (a := 120) ck_166_120 (xchunk_e (k_166.drop 180) (by decide +kernel)))))
set_option maxRecDepth 100000 in
theorem ck_167 : k_167.all (fun q => chkE cX12_estimate 9 167 0 q) = true := by decide +kernel
set_option maxRecDepth 100000 in
theorem ck_168 : k_168.all (fun q => chkE cX12_prize 9 168 0 q) = true := by decide +kernel
set_option maxRecDepth 100000 in
theorem ck_169_0 : ((k_169.drop 0).take 60).all (fun q => chkE cX12_settlesOne 9 169 0 q) = true := by decide +kernel
set_option maxRecDepth 100000 in
theorem ck_169_60 : ((k_169.drop 60).take 60).all (fun q => chkE cX12_settlesOne 9 169 0 q) = true := by decide +kernel
set_option maxRecDepth 100000 in
theorem ck_169_120 : ((k_169.drop 120).take 60).all (fun q => chkE cX12_settlesOne 9 169 0 q) = true := by decide +kernel
set_option maxRecDepth 100000 in
theorem ck_169 : k_169.all (fun q => chkE cX12_settlesOne 9 169 0 q) = true := xdrop0 (xchunk (a := 0) ck_169_0 (xchunk (a := 60) ck_169_60 (xchunk (a := 120) ck_169_120 (xchunk_e (k_169.drop 180) (by decide +kernel)))))
set_option maxRecDepth 100000 in
theorem ck_170 : k_170.all (fun q => chkE cX12_copyQuestion 9 170 0 q) = true := by decide +kernel
set_option maxRecDepth 100000 in
theorem ck_171 : k_171.all (fun q => chkE cX12_dropFirst 9 171 0 q) = true := by decide +kernel
set_option maxRecDepth 100000 in
theorem ck_172 : k_172.all (fun q => chkE cX12_settles 9 172 0 q) = true := by decide +kernel
set_option maxRecDepth 100000 in
theorem ck_173 : k_173.all (fun q => chkE cX12_settle 9 173 0 q) = true := by decide +kernel
set_option maxRecDepth 100000 in
theorem ck_174 : k_174.all (fun q => chkE cX12_postpones 9 174 0 q) = true := by decide +kernel
set_option maxRecDepth 100000 in
theorem ck_175 : k_175.all (fun q => chkE cX12_postpone 9 175 0 q) = true := by decide +kernel
set_option maxRecDepth 100000 in
theorem ck_176 : k_176.all (fun q => chkE cX12_removes 9 176 0 q) = true := by decide +kernel
set_option maxRecDepth 100000 in
theorem ck_177 : k_177.all (fun q => chkE cX12_withdraws 9 177 0 q) = true := by decide +kernel
set_option maxRecDepth 100000 in
theorem ck_178 : k_178.all (fun q => chkE cX12_withdraw 9 178 0 q) = true := by decide +kernel
set_option maxRecDepth 100000 in
theorem ck_179 : k_179.all (fun q => chkE cX12_playerCount 9 179 0 q) = true := by decide +kernel
set_option maxRecDepth 100000 in
theorem ck_180 : k_180.all (fun q => chkE cX12_coins 9 180 0 q) = true := by decide +kernel
set_option maxRecDepth 100000 in
theorem ck_181 : k_181.all (fun q => chkE cX12_hasWithdrawn 9 181 0 q) = true := by decide +kernel
set_option maxRecDepth 100000 in
theorem ck_182 : k_182.all (fun q => chkE cX12_houseCoins 9 182 0 q) = true := by decide +kernel
set_option maxRecDepth 100000 in
theorem ck_183 : k_183.all (fun q => chkE cX12_stakedCoins 9 183 0 q) = true := by decide +kernel
set_option maxRecDepth 100000 in
theorem ck_184 : k_184.all (fun q => chkE cX12_openCount 9 184 0 q) = true := by decide +kernel
set_option maxRecDepth 100000 in
theorem ck_185 : k_185.all (fun q => chkE cX12_questionAt 9 185 0 q) = true := by decide +kernel
set_option maxRecDepth 100000 in
theorem ck_186 : k_186.all (fun q => chkE cX12_positionOf 9 186 0 q) = true := by decide +kernel
set_option maxRecDepth 100000 in
theorem ck_187 : k_187.all (fun q => chkE cX12_weight 9 187 0 q) = true := by decide +kernel
set_option maxRecDepth 100000 in
theorem ck_188 : k_188.all (fun q => chkE cX12_estimateCount 9 188 0 q) = true := by decide +kernel
set_option maxRecDepth 100000 in
theorem ck_189 : k_189.all (fun q => chkE cX12_estimator 9 189 0 q) = true := by decide +kernel
set_option maxRecDepth 100000 in
theorem ck_190 : k_190.all (fun q => chkE cX12_hasEstimate 9 190 0 q) = true := by decide +kernel
set_option maxRecDepth 100000 in
theorem ck_191 : k_191.all (fun q => chkE cX12_hereOf 9 191 0 q) = true := by decide +kernel
set_option maxRecDepth 100000 in
theorem ck_192 : k_192.all (fun q => chkE cX12_field 9 192 0 q) = true := by decide +kernel
set_option maxRecDepth 100000 in
theorem ck_193 : k_193.all (fun q => chkE cX12_low 9 193 0 q) = true := by decide +kernel
set_option maxRecDepth 100000 in
theorem ck_194 : k_194.all (fun q => chkE cX12_high 9 194 0 q) = true := by decide +kernel
set_option maxRecDepth 100000 in
theorem ck_195 : k_195.all (fun q => chkE cX12_confidence 9 195 0 q) = true := by decide +kernel
set_option maxRecDepth 100000 in
theorem ck_196 : k_196.all (fun q => chkE cX12_stake 9 196 0 q) = true := by decide +kernel
set_option maxRecDepth 100000 in
theorem ck_197 : k_197.all (fun q => chkE cX12_winnings 9 197 0 q) = true := by decide +kernel
set_option maxRecDepth 100000 in
theorem ck_198 : k_198.all (fun q => chkE cX12_covering 9 198 0 q) = true := by decide +kernel
set_option maxRecDepth 100000 in
theorem ck_199 : k_199.all (fun q => chkE cX12_coverage 9 199 0 q) = true := by decide +kernel
set_option maxRecDepth 100000 in
theorem ck_200 : k_200.all (fun q => chkE cX12_mostCovered 9 200 0 q) = true := by decide +kernel
set_option maxRecDepth 100000 in
theorem ck_201 : k_201.all (fun q => chkE cX12_mostCoveredBySweep 9 201 0 q) = true := by decide +kernel
set_option maxRecDepth 100000 in
theorem ck_202 : k_202.all (fun q => chkE cX12_coveredValues 9 202 0 q) = true := by decide +kernel
set_option maxRecDepth 100000 in
theorem ck_203 : k_203.all (fun q => chkE cX12_settledQuestions 9 203 0 q) = true := by decide +kernel
set_option maxRecDepth 100000 in
theorem ck_204 : k_204.all (fun q => chkE cX12_recentTruth 9 204 0 q) = true := by decide +kernel
set_option maxRecDepth 100000 in
theorem ck_205 : k_205.all (fun q => chkE cX12_sumOf 9 205 0 q) = true := by decide +kernel
set_option maxRecDepth 100000 in
theorem ck_206 : k_206.all (fun q => chkE cX12_settledEstimates 9 206 0 q) = true := by decide +kernel
set_option maxRecDepth 100000 in
theorem ck_207 : k_207.all (fun q => chkE cX12_hits 9 207 0 q) = true := by decide +kernel
set_option maxRecDepth 100000 in
theorem ck_208 : k_208.all (fun q => chkE cX12_score 9 208 0 q) = true := by decide +kernel
set_option maxRecDepth 100000 in
theorem ck_209 : k_209.all (fun q => chkE cX12_meanScore 9 209 0 q) = true := by decide +kernel
set_option maxRecDepth 100000 in
theorem ck_210 : k_210.all (fun q => chkE cX12_errorOf 9 210 0 q) = true := by decide +kernel
set_option maxRecDepth 100000 in
theorem ck_211 : k_211.all (fun q => chkE cX12_calibrationError 9 211 0 q) = true := by decide +kernel
set_option maxRecDepth 100000 in
theorem ck_212 : k_212.all (fun q => chkE cX12_bestCalibrated 9 212 0 q) = true := by decide +kernel
set_option maxRecDepth 100000 in
theorem ck_213 : k_213.all (fun q => chkE cX12_isAhead 9 213 0 q) = true := by decide +kernel
set_option maxRecDepth 100000 in
theorem ck_214 : k_214.all (fun q => chkE cX12_playerByScore 9 214 0 q) = true := by decide +kernel
set_option maxRecDepth 100000 in
theorem ck_215 : k_215.all (fun q => chkE cX12_bin 9 215 0 q) = true := by decide +kernel
set_option maxRecDepth 100000 in
theorem ck_216 : k_216.all (fun q => chkE cX12_binSize 9 216 0 q) = true := by decide +kernel
set_option maxRecDepth 100000 in
theorem ck_217 : k_217.all (fun q => chkE cX12_binSizeByPlayers 9 217 0 q) = true := by decide +kernel
set_option maxRecDepth 100000 in
theorem ck_218 : k_218.all (fun q => chkE cX12_binHits 9 218 0 q) = true := by decide +kernel
set_option maxRecDepth 100000 in
theorem ck_219 : k_219.all (fun q => chkE cX12_binShare 9 219 0 q) = true := by decide +kernel
set_option maxRecDepth 100000 in
theorem ck_220 : k_220.all (fun q => chkE cX12_isConsistent 9 220 0 q) = true := by decide +kernel
set_option maxRecDepth 100000 in
theorem ck_221 : k_221.all (fun q => chkE cX12_feed 9 221 0 q) = true := by decide +kernel
set_option maxRecDepth 100000 in
theorem ck_222 : k_222.all (fun q => chkE cX12_here 9 222 0 q) = true := by decide +kernel
set_option maxRecDepth 100000 in
theorem ck_223 : k_223.all (fun q => chkE cX12_needs 9 223 0 q) = true := by decide +kernel
set_option maxRecDepth 100000 in
theorem ck_224 : k_224.all (fun q => chkE cX12_needsThree 9 224 0 q) = true := by decide +kernel
set_option maxRecDepth 100000 in
theorem ck_225 : k_225.all (fun q => chkE cX12_digits 9 225 0 q) = true := by decide +kernel
set_option maxRecDepth 100000 in
theorem ck_226 : k_226.all (fun q => chkE cX12_digitsAfter 9 226 0 q) = true := by decide +kernel
set_option maxRecDepth 100000 in
theorem ck_227 : k_227.all (fun q => chkE cX12_parsesBet 9 227 0 q) = true := by decide +kernel
set_option maxRecDepth 100000 in
theorem ck_228 : k_228.all (fun q => chkE cX12_parsesO 9 228 0 q) = true := by decide +kernel
set_option maxRecDepth 100000 in
theorem ck_229 : k_229.all (fun q => chkE cX12_parsesCommand 9 229 0 q) = true := by decide +kernel
set_option maxRecDepth 100000 in
theorem ck_230 : k_230.all (fun q => chkE cX12_carriesOut 9 230 0 q) = true := by decide +kernel
set_option maxRecDepth 100000 in
theorem ck_231 : k_231.all (fun q => chkE cX12_runCommands 9 231 0 q) = true := by decide +kernel
set_option maxRecDepth 100000 in
theorem ck_232 : k_232.all (fun q => chkE cX12_errorPosition 9 232 0 q) = true := by decide +kernel
set_option maxRecDepth 100000 in
theorem ck_233 : k_233.all (fun q => chkE cX12_failedCommand 9 233 0 q) = true := by decide +kernel
set_option maxRecDepth 100000 in
theorem ck_234 : k_234.all (fun q => chkE cX12_writes 9 234 0 q) = true := by decide +kernel
set_option maxRecDepth 100000 in
theorem ck_235 : k_235.all (fun q => chkE cX12_writesNumber 9 235 0 q) = true := by decide +kernel
set_option maxRecDepth 100000 in
theorem ck_236 : k_236.all (fun q => chkE cX12_writesAfter 9 236 0 q) = true := by decide +kernel
set_option maxRecDepth 100000 in
theorem ck_237 : k_237.all (fun q => chkE cX12_writeQuestion 9 237 0 q) = true := by decide +kernel
set_option maxRecDepth 100000 in
theorem ck_238 : k_238.all (fun q => chkE cX12_outputChar 9 238 0 q) = true := by decide +kernel
set_option maxRecDepth 100000 in
theorem ck_239 : k_239.all (fun q => chkE cX12_undoCount 9 239 0 q) = true := by decide +kernel
set_option maxRecDepth 100000 in
theorem ck_240 : k_240.all (fun q => chkE cX12_undo 9 240 0 q) = true := by decide +kernel
set_option maxRecDepth 100000 in
theorem ck_241 : k_241.all (fun q => chkE cX12_save 9 241 0 q) = true := by decide +kernel
set_option maxRecDepth 100000 in
theorem ck_242 : k_242.all (fun q => chkE cX12_restore 9 242 0 q) = true := by decide +kernel
set_option maxRecDepth 100000 in
theorem ck_243 : k_243.all (fun q => chkE cL_addPlayer 10 243 0 q) = true := by decide +kernel
set_option maxRecDepth 100000 in
theorem ck_244 : k_244.all (fun q => chkE cL_openQuestion 10 244 0 q) = true := by decide +kernel
set_option maxRecDepth 100000 in
theorem ck_245 : k_245.all (fun q => chkE cL_estimate 10 245 0 q) = true := by decide +kernel
set_option maxRecDepth 100000 in
theorem ck_246 : k_246.all (fun q => chkE cL_settle 10 246 0 q) = true := by decide +kernel
set_option maxRecDepth 100000 in
theorem ck_247 : k_247.all (fun q => chkE cL_postpone 10 247 0 q) = true := by decide +kernel
set_option maxRecDepth 100000 in
theorem ck_248 : k_248.all (fun q => chkE cL_withdraw 10 248 0 q) = true := by decide +kernel
set_option maxRecDepth 100000 in
theorem ck_249 : k_249.all (fun q => chkE cL_coins 10 249 0 q) = true := by decide +kernel
set_option maxRecDepth 100000 in
theorem ck_250 : k_250.all (fun q => chkE cL_hasWithdrawn 10 250 0 q) = true := by decide +kernel
set_option maxRecDepth 100000 in
theorem ck_251 : k_251.all (fun q => chkE cL_questionAt 10 251 0 q) = true := by decide +kernel
set_option maxRecDepth 100000 in
theorem ck_252 : k_252.all (fun q => chkE cL_positionOf 10 252 0 q) = true := by decide +kernel
set_option maxRecDepth 100000 in
theorem ck_253 : k_253.all (fun q => chkE cL_weight 10 253 0 q) = true := by decide +kernel
set_option maxRecDepth 100000 in
theorem ck_254 : k_254.all (fun q => chkE cL_estimateCount 10 254 0 q) = true := by decide +kernel
set_option maxRecDepth 100000 in
theorem ck_255 : k_255.all (fun q => chkE cL_estimator 10 255 0 q) = true := by decide +kernel
set_option maxRecDepth 100000 in
theorem ck_256 : k_256.all (fun q => chkE cL_hasEstimate 10 256 0 q) = true := by decide +kernel
set_option maxRecDepth 100000 in
theorem ck_257 : k_257.all (fun q => chkE cL_low 10 257 0 q) = true := by decide +kernel
set_option maxRecDepth 100000 in
theorem ck_258 : k_258.all (fun q => chkE cL_high 10 258 0 q) = true := by decide +kernel
set_option maxRecDepth 100000 in
theorem ck_259 : k_259.all (fun q => chkE cL_confidence 10 259 0 q) = true := by decide +kernel
set_option maxRecDepth 100000 in
theorem ck_260 : k_260.all (fun q => chkE cL_stake 10 260 0 q) = true := by decide +kernel
set_option maxRecDepth 100000 in
theorem ck_261 : k_261.all (fun q => chkE cL_winnings 10 261 0 q) = true := by decide +kernel
set_option maxRecDepth 100000 in
theorem ck_262 : k_262.all (fun q => chkE cL_coverage 10 262 0 q) = true := by decide +kernel
set_option maxRecDepth 100000 in
theorem ck_263 : k_263.all (fun q => chkE cL_mostCovered 10 263 0 q) = true := by decide +kernel
