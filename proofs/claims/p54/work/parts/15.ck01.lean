/-! the check, part 1 -/
set_option maxRecDepth 100000 in
theorem ck_162_180 : ((k_162.drop 180).take 60).all (fun q => chkE cL_build 9 162 0 q) = true := by decide +kernel
set_option maxRecDepth 100000 in
theorem ck_162 : k_162.all (fun q => chkE cL_build 9 162 0 q) = true := xdrop0 (xchunk (a := 0) ck_162_0 (xchunk (a := 60) ck_162_60 (xchunk (a := 120) ck_162_120 (xchunk (a := 180) ck_162_180 (xchunk_e (k_162.drop 240) (by decide +kernel))))))
set_option maxRecDepth 100000 in
theorem ck_163 : k_163.all (fun q => chkE cL_act 9 163 0 q) = true := by decide +kernel
set_option maxRecDepth 100000 in
theorem ck_164 : k_164.all (fun q => chkE cL_bet 9 164 0 q) = true := by decide +kernel
set_option maxRecDepth 100000 in
theorem ck_165_0 : ((k_165.drop 0).take 60).all (fun q => chkE cL_state 9 165 0 q) = true := by decide +kernel
set_option maxRecDepth 100000 in
theorem ck_165_60 : ((k_165.drop 60).take 60).all (fun q => chkE cL_state 9 165 0 q) = true := by decide +kernel
set_option maxRecDepth 100000 in
theorem ck_165_120 : ((k_165.drop 120).take 60).all (fun q => chkE cL_state 9 165 0 q) = true := by decide +kernel
set_option maxRecDepth 100000 in
theorem ck_165 : k_165.all (fun q => chkE cL_state 9 165 0 q) = true := xdrop0 (xchunk (a := 0) ck_165_0 (xchunk (a := 60) ck_165_60 (xchunk (a := 120) ck_165_120 (xchunk_e (k_165.drop 180) (by decide +kernel)))))
set_option maxRecDepth 100000 in
theorem ck_166 : k_166.all (fun q => chkE cL_estimates 9 166 0 q) = true := by decide +kernel
set_option maxRecDepth 100000 in
theorem ck_167 : k_167.all (fun q => chkE cL_isLine 9 167 0 q) = true := by decide +kernel
set_option maxRecDepth 100000 in
theorem ck_168 : k_168.all (fun q => chkE cL_runs 9 168 0 q) = true := by decide +kernel
set_option maxRecDepth 100000 in
theorem ck_169 : k_169.all (fun q => chkE cL_fails 9 169 0 q) = true := by decide +kernel
set_option maxRecDepth 100000 in
theorem ck_170 : k_4.all (fun q => chkE cX1_sizeOf 0 170 0 q) = true := by decide +kernel
set_option maxRecDepth 100000 in
theorem ck_171 : k_4.all (fun q => chkE cX1_sizeOf 0 171 0 q) = true := by decide +kernel
set_option maxRecDepth 100000 in
theorem ck_172 : k_4.all (fun q => chkE cX1_sizeOf 0 172 0 q) = true := by decide +kernel
set_option maxRecDepth 100000 in
theorem ck_173 : k_4.all (fun q => chkE cX1_sizeOf 0 173 0 q) = true := by decide +kernel
set_option maxRecDepth 100000 in
theorem ck_174 : k_4.all (fun q => chkE cX1_sizeOf 0 174 0 q) = true := by decide +kernel
set_option maxRecDepth 100000 in
theorem ck_175 : k_4.all (fun q => chkE cX1_sizeOf 0 175 0 q) = true := by decide +kernel
set_option maxRecDepth 100000 in
theorem ck_176 : k_4.all (fun q => chkE cX1_sizeOf 0 176 0 q) = true := by decide +kernel
set_option maxRecDepth 100000 in
theorem ck_177 : k_4.all (fun q => chkE cX1_sizeOf 0 177 0 q) = true := by decide +kernel
set_option maxRecDepth 100000 in
theorem ck_178 : k_4.all (fun q => chkE cX1_sizeOf 0 178 0 q) = true := by decide +kernel
set_option maxRecDepth 100000 in
theorem ck_179 : k_4.all (fun q => chkE cX1_sizeOf 0 179 0 q) = true := by decide +kernel
set_option maxRecDepth 100000 in
theorem ck_180 : k_4.all (fun q => chkE cX1_sizeOf 0 180 0 q) = true := by decide +kernel
set_option maxRecDepth 100000 in
theorem ck_181 : k_4.all (fun q => chkE cX1_sizeOf 0 181 0 q) = true := by decide +kernel
set_option maxRecDepth 100000 in
theorem ck_182 : k_4.all (fun q => chkE cX1_sizeOf 0 182 0 q) = true := by decide +kernel
set_option maxRecDepth 100000 in
theorem ck_183 : k_4.all (fun q => chkE cX1_sizeOf 0 183 0 q) = true := by decide +kernel
set_option maxRecDepth 100000 in
theorem ck_184 : k_4.all (fun q => chkE cX1_sizeOf 0 184 0 q) = true := by decide +kernel
set_option maxRecDepth 100000 in
theorem ck_185 : k_4.all (fun q => chkE cX1_sizeOf 0 185 0 q) = true := by decide +kernel
set_option maxRecDepth 100000 in
theorem ck_186 : k_4.all (fun q => chkE cX1_sizeOf 0 186 0 q) = true := by decide +kernel
set_option maxRecDepth 100000 in
theorem ck_187 : k_4.all (fun q => chkE cX1_sizeOf 0 187 0 q) = true := by decide +kernel
set_option maxRecDepth 100000 in
theorem ck_188 : k_4.all (fun q => chkE cX1_sizeOf 0 188 0 q) = true := by decide +kernel
set_option maxRecDepth 100000 in
theorem ck_189 : k_4.all (fun q => chkE cX1_sizeOf 0 189 0 q) = true := by decide +kernel
set_option maxRecDepth 100000 in
theorem ck_190 : k_4.all (fun q => chkE cX1_sizeOf 0 190 0 q) = true := by decide +kernel
set_option maxRecDepth 100000 in
theorem ck_191 : k_4.all (fun q => chkE cX1_sizeOf 0 191 0 q) = true := by decide +kernel
set_option maxRecDepth 100000 in
theorem ck_192 : k_4.all (fun q => chkE cX1_sizeOf 0 192 0 q) = true := by decide +kernel
set_option maxRecDepth 100000 in
theorem ck_193 : k_4.all (fun q => chkE cX1_sizeOf 0 193 0 q) = true := by decide +kernel
set_option maxRecDepth 100000 in
theorem ck_194 : k_4.all (fun q => chkE cX1_sizeOf 0 194 0 q) = true := by decide +kernel
set_option maxRecDepth 100000 in
theorem ck_195 : k_4.all (fun q => chkE cX1_sizeOf 0 195 0 q) = true := by decide +kernel
set_option maxRecDepth 100000 in
theorem ck_196 : k_4.all (fun q => chkE cX1_sizeOf 0 196 0 q) = true := by decide +kernel
set_option maxRecDepth 100000 in
theorem ck_197 : k_4.all (fun q => chkE cX1_sizeOf 0 197 0 q) = true := by decide +kernel
set_option maxRecDepth 100000 in
theorem ck_198 : k_4.all (fun q => chkE cX1_sizeOf 0 198 0 q) = true := by decide +kernel
set_option maxRecDepth 100000 in
theorem ck_199 : k_4.all (fun q => chkE cX1_sizeOf 0 199 0 q) = true := by decide +kernel
set_option maxRecDepth 100000 in
theorem ck_200 : k_4.all (fun q => chkE cX1_sizeOf 0 200 0 q) = true := by decide +kernel
set_option maxRecDepth 100000 in
theorem ck_201 : k_4.all (fun q => chkE cX1_sizeOf 0 201 0 q) = true := by decide +kernel
set_option maxRecDepth 100000 in
theorem ck_202 : k_4.all (fun q => chkE cX1_sizeOf 0 202 0 q) = true := by decide +kernel
set_option maxRecDepth 100000 in
theorem ck_203 : k_4.all (fun q => chkE cX1_sizeOf 0 203 0 q) = true := by decide +kernel
set_option maxRecDepth 100000 in
theorem ck_204 : k_4.all (fun q => chkE cX1_sizeOf 0 204 0 q) = true := by decide +kernel
set_option maxRecDepth 100000 in
theorem ck_205 : k_4.all (fun q => chkE cX1_sizeOf 0 205 0 q) = true := by decide +kernel
set_option maxRecDepth 100000 in
theorem ck_206 : k_4.all (fun q => chkE cX1_sizeOf 0 206 0 q) = true := by decide +kernel
set_option maxRecDepth 100000 in
theorem ck_207 : k_4.all (fun q => chkE cX1_sizeOf 0 207 0 q) = true := by decide +kernel
set_option maxRecDepth 100000 in
theorem ck_208 : k_4.all (fun q => chkE cX1_sizeOf 0 208 0 q) = true := by decide +kernel
set_option maxRecDepth 100000 in
theorem ck_209 : k_4.all (fun q => chkE cX1_sizeOf 0 209 0 q) = true := by decide +kernel
set_option maxRecDepth 100000 in
theorem ck_210 : k_4.all (fun q => chkE cX1_sizeOf 0 210 0 q) = true := by decide +kernel
set_option maxRecDepth 100000 in
theorem ck_211 : k_4.all (fun q => chkE cX1_sizeOf 0 211 0 q) = true := by decide +kernel
set_option maxRecDepth 100000 in
theorem ck_212 : k_4.all (fun q => chkE cX1_sizeOf 0 212 0 q) = true := by decide +kernel
set_option maxRecDepth 100000 in
theorem ck_213 : k_4.all (fun q => chkE cX1_sizeOf 0 213 0 q) = true := by decide +kernel
set_option maxRecDepth 100000 in
theorem ck_214 : k_4.all (fun q => chkE cX1_sizeOf 0 214 0 q) = true := by decide +kernel
set_option maxRecDepth 100000 in
theorem ck_215 : k_4.all (fun q => chkE cX1_sizeOf 0 215 0 q) = true := by decide +kernel
set_option maxRecDepth 100000 in
theorem ck_216 : k_4.all (fun q => chkE cX1_sizeOf 0 216 0 q) = true := by decide +kernel
set_option maxRecDepth 100000 in
theorem ck_217 : k_4.all (fun q => chkE cX1_sizeOf 0 217 0 q) = true := by decide +kernel
set_option maxRecDepth 100000 in
theorem ck_218 : k_4.all (fun q => chkE cX1_sizeOf 0 218 0 q) = true := by decide +kernel
set_option maxRecDepth 100000 in
theorem ck_219 : k_4.all (fun q => chkE cX1_sizeOf 0 219 0 q) = true := by decide +kernel
set_option maxRecDepth 100000 in
theorem ck_220 : k_4.all (fun q => chkE cX1_sizeOf 0 220 0 q) = true := by decide +kernel
set_option maxRecDepth 100000 in
theorem ck_221 : k_4.all (fun q => chkE cX1_sizeOf 0 221 0 q) = true := by decide +kernel
set_option maxRecDepth 100000 in
theorem ck_222 : k_4.all (fun q => chkE cX1_sizeOf 0 222 0 q) = true := by decide +kernel
set_option maxRecDepth 100000 in
theorem ck_223 : k_4.all (fun q => chkE cX1_sizeOf 0 223 0 q) = true := by decide +kernel
set_option maxRecDepth 100000 in
theorem ck_224 : k_4.all (fun q => chkE cX1_sizeOf 0 224 0 q) = true := by decide +kernel
set_option maxRecDepth 100000 in
theorem ck_225 : k_4.all (fun q => chkE cX1_sizeOf 0 225 0 q) = true := by decide +kernel
set_option maxRecDepth 100000 in
theorem ck_226 : k_4.all (fun q => chkE cX1_sizeOf 0 226 0 q) = true := by decide +kernel
set_option maxRecDepth 100000 in
theorem ck_227 : k_4.all (fun q => chkE cX1_sizeOf 0 227 0 q) = true := by decide +kernel
set_option maxRecDepth 100000 in
theorem ck_228 : k_4.all (fun q => chkE cX1_sizeOf 0 228 0 q) = true := by decide +kernel
set_option maxRecDepth 100000 in
theorem ck_229 : k_4.all (fun q => chkE cX1_sizeOf 0 229 0 q) = true := by decide +kernel
set_option maxRecDepth 100000 in
theorem ck_230 : k_4.all (fun q => chkE cX1_sizeOf 0 230 0 q) = true := by decide +kernel
set_option maxRecDepth 100000 in
theorem ck_231 : k_4.all (fun q => chkE cX1_sizeOf 0 231 0 q) = true := by decide +kernel
set_option maxRecDepth 100000 in
theorem ck_232 : k_4.all (fun q => chkE cX1_sizeOf 0 232 0 q) = true := by decide +kernel
set_option maxRecDepth 100000 in
theorem ck_233 : k_4.all (fun q => chkE cX1_sizeOf 0 233 0 q) = true := by decide +kernel
set_option maxRecDepth 100000 in
theorem ck_234 : k_4.all (fun q => chkE cX1_sizeOf 0 234 0 q) = true := by decide +kernel
set_option maxRecDepth 100000 in
theorem ck_235 : k_4.all (fun q => chkE cX1_sizeOf 0 235 0 q) = true := by decide +kernel
set_option maxRecDepth 100000 in
theorem ck_236 : k_4.all (fun q => chkE cX1_sizeOf 0 236 0 q) = true := by decide +kernel
set_option maxRecDepth 100000 in
theorem ck_237 : k_4.all (fun q => chkE cX1_sizeOf 0 237 0 q) = true := by decide +kernel
set_option maxRecDepth 100000 in
theorem ck_238 : k_4.all (fun q => chkE cX1_sizeOf 0 238 0 q) = true := by decide +kernel
set_option maxRecDepth 100000 in
theorem ck_239 : k_4.all (fun q => chkE cX1_sizeOf 0 239 0 q) = true := by decide +kernel
set_option maxRecDepth 100000 in
theorem ck_240 : k_4.all (fun q => chkE cX1_sizeOf 0 240 0 q) = true := by decide +kernel
set_option maxRecDepth 100000 in
theorem ck_241 : k_4.all (fun q => chkE cX1_sizeOf 0 241 0 q) = true := by decide +kernel
set_option maxRecDepth 100000 in
theorem ck_242 : k_4.all (fun q => chkE cX1_sizeOf 0 242 0 q) = true := by decide +kernel
set_option maxRecDepth 100000 in
theorem ck_243 : k_4.all (fun q => chkE cX1_sizeOf 0 243 0 q) = true := by decide +kernel
set_option maxRecDepth 100000 in
theorem ck_244 : k_4.all (fun q => chkE cX1_sizeOf 0 244 0 q) = true := by decide +kernel
set_option maxRecDepth 100000 in
theorem ck_245 : k_4.all (fun q => chkE cX1_sizeOf 0 245 0 q) = true := by decide +kernel
set_option maxRecDepth 100000 in
theorem ck_246 : k_4.all (fun q => chkE cX1_sizeOf 0 246 0 q) = true := by decide +kernel
set_option maxRecDepth 100000 in
theorem ck_247 : k_4.all (fun q => chkE cX1_sizeOf 0 247 0 q) = true := by decide +kernel
set_option maxRecDepth 100000 in
theorem ck_248 : k_4.all (fun q => chkE cX1_sizeOf 0 248 0 q) = true := by decide +kernel
set_option maxRecDepth 100000 in
theorem ck_249 : k_4.all (fun q => chkE cX1_sizeOf 0 249 0 q) = true := by decide +kernel
set_option maxRecDepth 100000 in
theorem ck_250 : k_4.all (fun q => chkE cX1_sizeOf 0 250 0 q) = true := by decide +kernel
set_option maxRecDepth 100000 in
theorem ck_251 : k_4.all (fun q => chkE cX1_sizeOf 0 251 0 q) = true := by decide +kernel
set_option maxRecDepth 100000 in
theorem ck_252 : k_4.all (fun q => chkE cX1_sizeOf 0 252 0 q) = true := by decide +kernel
set_option maxRecDepth 100000 in
theorem ck_253 : k_4.all (fun q => chkE cX1_sizeOf 0 253 0 q) = true := by decide +kernel
set_option maxRecDepth 100000 in
theorem ck_254 : k_4.all (fun q => chkE cX1_sizeOf 0 254 0 q) = true := by decide +kernel
set_option maxRecDepth 100000 in
theorem ck_255 : k_4.all (fun q => chkE cX1_sizeOf 0 255 0 q) = true := by decide +kernel
set_option maxRecDepth 100000 in
theorem ck_256 : k_4.all (fun q => chkE cX1_sizeOf 0 256 0 q) = true := by decide +kernel
set_option maxRecDepth 100000 in
theorem ck_257 : k_4.all (fun q => chkE cX1_sizeOf 0 257 0 q) = true := by decide +kernel
set_option maxRecDepth 100000 in
theorem ck_258 : k_4.all (fun q => chkE cX1_sizeOf 0 258 0 q) = true := by decide +kernel
set_option maxRecDepth 100000 in
theorem ck_259 : k_4.all (fun q => chkE cX1_sizeOf 0 259 0 q) = true := by decide +kernel
set_option maxRecDepth 100000 in
theorem ck_260 : k_4.all (fun q => chkE cX1_sizeOf 0 260 0 q) = true := by decide +kernel
set_option maxRecDepth 100000 in
theorem ck_261 : k_4.all (fun q => chkE cX1_sizeOf 0 261 0 q) = true := by decide +kernel
set_option maxRecDepth 100000 in
theorem ck_262 : k_4.all (fun q => chkE cX1_sizeOf 0 262 0 q) = true := by decide +kernel
set_option maxRecDepth 100000 in
theorem ck_263 : k_4.all (fun q => chkE cX1_sizeOf 0 263 0 q) = true := by decide +kernel
set_option maxRecDepth 100000 in
theorem ck_264 : k_4.all (fun q => chkE cX1_sizeOf 0 264 0 q) = true := by decide +kernel
set_option maxRecDepth 100000 in
theorem ck_265 : k_4.all (fun q => chkE cX1_sizeOf 0 265 0 q) = true := by decide +kernel
set_option maxRecDepth 100000 in
theorem ck_266 : k_4.all (fun q => chkE cX1_sizeOf 0 266 0 q) = true := by decide +kernel
set_option maxRecDepth 100000 in
theorem ck_267 : k_4.all (fun q => chkE cX1_sizeOf 0 267 0 q) = true := by decide +kernel
set_option maxRecDepth 100000 in
theorem ck_268 : k_4.all (fun q => chkE cX1_sizeOf 0 268 0 q) = true := by decide +kernel
set_option maxRecDepth 100000 in
theorem ck_269 : k_4.all (fun q => chkE cX1_sizeOf 0 269 0 q) = true := by decide +kernel
set_option maxRecDepth 100000 in
theorem ck_270 : k_4.all (fun q => chkE cX1_sizeOf 0 270 0 q) = true := by decide +kernel
set_option maxRecDepth 100000 in
theorem ck_271 : k_4.all (fun q => chkE cX1_sizeOf 0 271 0 q) = true := by decide +kernel
set_option maxRecDepth 100000 in
theorem ck_272 : k_4.all (fun q => chkE cX1_sizeOf 0 272 0 q) = true := by decide +kernel
set_option maxRecDepth 100000 in
theorem ck_273 : k_4.all (fun q => chkE cX1_sizeOf 0 273 0 q) = true := by decide +kernel
set_option maxRecDepth 100000 in
theorem ck_274 : k_4.all (fun q => chkE cX1_sizeOf 0 274 0 q) = true := by decide +kernel
set_option maxRecDepth 100000 in
theorem ck_275 : k_4.all (fun q => chkE cX1_sizeOf 0 275 0 q) = true := by decide +kernel
set_option maxRecDepth 100000 in
theorem ck_276 : k_4.all (fun q => chkE cX1_sizeOf 0 276 0 q) = true := by decide +kernel
set_option maxRecDepth 100000 in
theorem ck_277 : k_4.all (fun q => chkE cX1_sizeOf 0 277 0 q) = true := by decide +kernel
set_option maxRecDepth 100000 in
theorem ck_278 : k_4.all (fun q => chkE cX1_sizeOf 0 278 0 q) = true := by decide +kernel
set_option maxRecDepth 100000 in
theorem ck_279 : k_4.all (fun q => chkE cX1_sizeOf 0 279 0 q) = true := by decide +kernel
set_option maxRecDepth 100000 in
theorem ck_280 : k_4.all (fun q => chkE cX1_sizeOf 0 280 0 q) = true := by decide +kernel
set_option maxRecDepth 100000 in
theorem ck_281 : k_4.all (fun q => chkE cX1_sizeOf 0 281 0 q) = true := by decide +kernel
set_option maxRecDepth 100000 in
theorem ck_282 : k_4.all (fun q => chkE cX1_sizeOf 0 282 0 q) = true := by decide +kernel
set_option maxRecDepth 100000 in
theorem ck_283 : k_4.all (fun q => chkE cX1_sizeOf 0 283 0 q) = true := by decide +kernel
set_option maxRecDepth 100000 in
theorem ck_284 : k_4.all (fun q => chkE cX1_sizeOf 0 284 0 q) = true := by decide +kernel
set_option maxRecDepth 100000 in
theorem ck_285 : k_4.all (fun q => chkE cX1_sizeOf 0 285 0 q) = true := by decide +kernel
set_option maxRecDepth 100000 in
theorem ck_286_0 : ((k_286.drop 0).take 60).all (fun q => chkE cL_law 9 286 0 q) = true := by decide +kernel
set_option maxRecDepth 100000 in
theorem ck_286_60 : ((k_286.drop 60).take 60).all (fun q => chkE cL_law 9 286 0 q) = true := by decide +kernel
set_option maxRecDepth 100000 in
theorem ck_286_120 : ((k_286.drop 120).take 60).all (fun q => chkE cL_law 9 286 0 q) = true := by decide +kernel
set_option maxRecDepth 100000 in
theorem ck_286_180 : ((k_286.drop 180).take 60).all (fun q => chkE cL_law 9 286 0 q) = true := by decide +kernel
set_option maxRecDepth 100000 in
theorem ck_286_240 : ((k_286.drop 240).take 60).all (fun q => chkE cL_law 9 286 0 q) = true := by decide +kernel
set_option maxRecDepth 100000 in
theorem ck_286_300 : ((k_286.drop 300).take 60).all (fun q => chkE cL_law 9 286 0 q) = true := by decide +kernel
