/-! ===== the checks, by the kernel ===== -/
set_option maxRecDepth 100000 in
theorem ck_230 : mb_ me_230 = true := by decide +kernel
set_option maxRecDepth 100000 in
theorem ce_230 : cz_230.all (ek_ mt_F me_230.2) = true := by decide +kernel
set_option maxRecDepth 100000 in
theorem ck_231 : mb_ me_231 = true := by decide +kernel
set_option maxRecDepth 100000 in
theorem ce_231 : cz_231.all (ek_ mt_F me_231.2) = true := by decide +kernel
set_option maxRecDepth 100000 in
theorem ck_232 : mb_ me_232 = true := by decide +kernel
set_option maxRecDepth 100000 in
theorem ce_232 : cz_232.all (ek_ mt_F me_232.2) = true := by decide +kernel
set_option maxRecDepth 100000 in
theorem ck_233 : mb_ me_233 = true := by decide +kernel
set_option maxRecDepth 100000 in
theorem ce_233 : cz_233.all (ek_ mt_F me_233.2) = true := by decide +kernel
set_option maxRecDepth 100000 in
theorem ck_234 : mb_ me_234 = true := by decide +kernel
set_option maxRecDepth 100000 in
theorem ce_234 : cz_234.all (ek_ mt_F me_234.2) = true := by decide +kernel
set_option maxRecDepth 100000 in
theorem ck_235 : mb_ me_235 = true := by decide +kernel
set_option maxRecDepth 100000 in
theorem ce_235 : cz_235.all (ek_ mt_F me_235.2) = true := by decide +kernel
set_option maxRecDepth 100000 in
theorem ck_236 : mb_ me_236 = true := by decide +kernel
set_option maxRecDepth 100000 in
theorem ce_236 : cz_236.all (ek_ mt_F me_236.2) = true := by decide +kernel
set_option maxRecDepth 100000 in
theorem ck_237 : mb_ me_237 = true := by decide +kernel
set_option maxRecDepth 100000 in
theorem ce_237 : cz_237.all (ek_ mt_F me_237.2) = true := by decide +kernel
set_option maxRecDepth 100000 in
theorem ck_238 : mb_ me_238 = true := by decide +kernel
set_option maxRecDepth 100000 in
theorem ce_238 : cz_238.all (ek_ mt_F me_238.2) = true := by decide +kernel
set_option maxRecDepth 100000 in
theorem ck_239 : mb_ me_239 = true := by decide +kernel
set_option maxRecDepth 100000 in
theorem ce_239 : cz_239.all (ek_ mt_F me_239.2) = true := by decide +kernel
set_option maxRecDepth 100000 in
theorem ck_240 : mb_ me_240 = true := by decide +kernel
set_option maxRecDepth 100000 in
theorem ce_240 : cz_240.all (ek_ mt_F me_240.2) = true := by decide +kernel
set_option maxRecDepth 100000 in
theorem ck_241 : mb_ me_241 = true := by decide +kernel
set_option maxRecDepth 100000 in
theorem ce_241 : cz_241.all (ek_ mt_F me_241.2) = true := by decide +kernel
set_option maxRecDepth 100000 in
theorem ck_242 : mb_ me_242 = true := by decide +kernel
set_option maxRecDepth 100000 in
theorem ce_242 : cz_242.all (ek_ mt_F me_242.2) = true := by decide +kernel
set_option maxRecDepth 100000 in
theorem ck_243 : mb_ me_243 = true := by decide +kernel
set_option maxRecDepth 100000 in
theorem ce_243 : cz_243.all (ek_ mt_F me_243.2) = true := by decide +kernel
set_option maxRecDepth 100000 in
theorem ck_244 : mb_ me_244 = true := by decide +kernel
set_option maxRecDepth 100000 in
theorem ce_244 : cz_244.all (ek_ mt_F me_244.2) = true := by decide +kernel
set_option maxRecDepth 100000 in
theorem ck_245 : mb_ me_245 = true := by decide +kernel
set_option maxRecDepth 100000 in
theorem ce_245 : cz_245.all (ek_ mt_F me_245.2) = true := by decide +kernel
set_option maxRecDepth 100000 in
theorem ck_246 : mb_ me_246 = true := by decide +kernel
set_option maxRecDepth 100000 in
theorem ce_246 : cz_246.all (ek_ mt_F me_246.2) = true := by decide +kernel
set_option maxRecDepth 100000 in
theorem ck_247 : mb_ me_247 = true := by decide +kernel
set_option maxRecDepth 100000 in
theorem ce_247 : cz_247.all (ek_ mt_F me_247.2) = true := by decide +kernel
set_option maxRecDepth 100000 in
theorem ck_248 : mb_ me_248 = true := by decide +kernel
set_option maxRecDepth 100000 in
theorem ce_248 : cz_248.all (ek_ mt_F me_248.2) = true := by decide +kernel
set_option maxRecDepth 100000 in
theorem ck_249 : mb_ me_249 = true := by decide +kernel
set_option maxRecDepth 100000 in
theorem ce_249 : cz_249.all (ek_ mt_F me_249.2) = true := by decide +kernel
set_option maxRecDepth 100000 in
theorem ck_250 : mb_ me_250 = true := by decide +kernel
set_option maxRecDepth 100000 in
theorem ce_250 : cz_250.all (ek_ mt_F me_250.2) = true := by decide +kernel
set_option maxRecDepth 100000 in
theorem ck_251 : mb_ me_251 = true := by decide +kernel
set_option maxRecDepth 100000 in
theorem ce_251 : cz_251.all (ek_ mt_F me_251.2) = true := by decide +kernel
set_option maxRecDepth 100000 in
theorem ck_252 : mb_ me_252 = true := by decide +kernel
set_option maxRecDepth 100000 in
theorem ce_252 : cz_252.all (ek_ mt_F me_252.2) = true := by decide +kernel
set_option maxRecDepth 100000 in
theorem ck_253 : mb_ me_253 = true := by decide +kernel
set_option maxRecDepth 100000 in
theorem ce_253 : cz_253.all (ek_ mt_F me_253.2) = true := by decide +kernel
set_option maxRecDepth 100000 in
theorem ck_254 : mb_ me_254 = true := by decide +kernel
set_option maxRecDepth 100000 in
theorem ce_254 : cz_254.all (ek_ mt_F me_254.2) = true := by decide +kernel
set_option maxRecDepth 100000 in
theorem ck_255 : mb_ me_255 = true := by decide +kernel
set_option maxRecDepth 100000 in
theorem ce_255 : cz_255.all (ek_ mt_F me_255.2) = true := by decide +kernel
set_option maxRecDepth 100000 in
theorem ck_256 : mb_ me_256 = true := by decide +kernel
set_option maxRecDepth 100000 in
theorem ce_256 : cz_256.all (ek_ mt_F me_256.2) = true := by decide +kernel
set_option maxRecDepth 100000 in
theorem ck_257 : mb_ me_257 = true := by decide +kernel
set_option maxRecDepth 100000 in
theorem ce_257 : cz_257.all (ek_ mt_F me_257.2) = true := by decide +kernel
set_option maxRecDepth 100000 in
theorem ck_258 : mb_ me_258 = true := by decide +kernel
set_option maxRecDepth 100000 in
theorem ce_258 : cz_258.all (ek_ mt_F me_258.2) = true := by decide +kernel
set_option maxRecDepth 100000 in
theorem ck_259 : mb_ me_259 = true := by decide +kernel
set_option maxRecDepth 100000 in
theorem ce_259 : cz_259.all (ek_ mt_F me_259.2) = true := by decide +kernel
set_option maxRecDepth 100000 in
theorem ck_260 : mb_ me_260 = true := by decide +kernel
set_option maxRecDepth 100000 in
theorem ce_260 : cz_260.all (ek_ mt_F me_260.2) = true := by decide +kernel
set_option maxRecDepth 100000 in
theorem ck_261 : mb_ me_261 = true := by decide +kernel
set_option maxRecDepth 100000 in
theorem ce_261 : cz_261.all (ek_ mt_F me_261.2) = true := by decide +kernel
set_option maxRecDepth 100000 in
theorem ck_262 : mb_ me_262 = true := by decide +kernel
set_option maxRecDepth 100000 in
theorem ce_262 : cz_262.all (ek_ mt_F me_262.2) = true := by decide +kernel
set_option maxRecDepth 100000 in
theorem ck_263 : mb_ me_263 = true := by decide +kernel
set_option maxRecDepth 100000 in
theorem ce_263 : cz_263.all (ek_ mt_F me_263.2) = true := by decide +kernel
set_option maxRecDepth 100000 in
theorem ck_264 : mb_ me_264 = true := by decide +kernel
set_option maxRecDepth 100000 in
theorem ce_264 : cz_264.all (ek_ mt_F me_264.2) = true := by decide +kernel
set_option maxRecDepth 100000 in
theorem ck_265 : mb_ me_265 = true := by decide +kernel
set_option maxRecDepth 100000 in
theorem ce_265 : cz_265.all (ek_ mt_F me_265.2) = true := by decide +kernel
set_option maxRecDepth 100000 in
theorem ck_266 : mb_ me_266 = true := by decide +kernel
set_option maxRecDepth 100000 in
theorem ce_266 : cz_266.all (ek_ mt_F me_266.2) = true := by decide +kernel
set_option maxRecDepth 100000 in
theorem ck_267 : mb_ me_267 = true := by decide +kernel
set_option maxRecDepth 100000 in
theorem ce_267 : cz_267.all (ek_ mt_F me_267.2) = true := by decide +kernel
set_option maxRecDepth 100000 in
theorem ck_268 : mb_ me_268 = true := by decide +kernel
set_option maxRecDepth 100000 in
theorem ce_268 : cz_268.all (ek_ mt_F me_268.2) = true := by decide +kernel
set_option maxRecDepth 100000 in
theorem ck_269 : mb_ me_269 = true := by decide +kernel
set_option maxRecDepth 100000 in
theorem ce_269 : cz_269.all (ek_ mt_F me_269.2) = true := by decide +kernel
set_option maxRecDepth 100000 in
theorem ck_270 : mb_ me_270 = true := by decide +kernel
set_option maxRecDepth 100000 in
theorem ce_270 : cz_270.all (ek_ mt_F me_270.2) = true := by decide +kernel
set_option maxRecDepth 100000 in
theorem ck_271 : mb_ me_271 = true := by decide +kernel
set_option maxRecDepth 100000 in
theorem ce_271 : cz_271.all (ek_ mt_F me_271.2) = true := by decide +kernel
set_option maxRecDepth 100000 in
theorem ck_272 : mb_ me_272 = true := by decide +kernel
set_option maxRecDepth 100000 in
theorem ce_272 : cz_272.all (ek_ mt_F me_272.2) = true := by decide +kernel
