/-! ===== the checks, by the kernel ===== -/
set_option maxRecDepth 100000 in
theorem ck_184 : mb_ me_184 = true := by decide +kernel
set_option maxRecDepth 100000 in
theorem ce_184 : cz_184.all (ek_ mt_F me_184.2) = true := by decide +kernel
set_option maxRecDepth 100000 in
theorem ck_185 : mb_ me_185 = true := by decide +kernel
set_option maxRecDepth 100000 in
theorem ce_185 : cz_185.all (ek_ mt_F me_185.2) = true := by decide +kernel
set_option maxRecDepth 100000 in
theorem ck_186 : mb_ me_186 = true := by decide +kernel
set_option maxRecDepth 100000 in
theorem ce_186 : cz_186.all (ek_ mt_F me_186.2) = true := by decide +kernel
set_option maxRecDepth 100000 in
theorem ck_187 : mb_ me_187 = true := by decide +kernel
set_option maxRecDepth 100000 in
theorem ce_187 : cz_187.all (ek_ mt_F me_187.2) = true := by decide +kernel
set_option maxRecDepth 100000 in
theorem ck_188 : mb_ me_188 = true := by decide +kernel
set_option maxRecDepth 100000 in
theorem ce_188 : cz_188.all (ek_ mt_F me_188.2) = true := by decide +kernel
set_option maxRecDepth 100000 in
theorem ck_189 : mb_ me_189 = true := by decide +kernel
set_option maxRecDepth 100000 in
theorem ce_189 : cz_189.all (ek_ mt_F me_189.2) = true := by decide +kernel
set_option maxRecDepth 100000 in
theorem ck_190 : mb_ me_190 = true := by decide +kernel
set_option maxRecDepth 100000 in
theorem ce_190 : cz_190.all (ek_ mt_F me_190.2) = true := by decide +kernel
set_option maxRecDepth 100000 in
theorem ck_191 : mb_ me_191 = true := by decide +kernel
set_option maxRecDepth 100000 in
theorem ce_191 : cz_191.all (ek_ mt_F me_191.2) = true := by decide +kernel
set_option maxRecDepth 100000 in
theorem ck_192 : mb_ me_192 = true := by decide +kernel
set_option maxRecDepth 100000 in
theorem ce_192 : cz_192.all (ek_ mt_F me_192.2) = true := by decide +kernel
set_option maxRecDepth 100000 in
theorem ck_193 : mb_ me_193 = true := by decide +kernel
set_option maxRecDepth 100000 in
theorem ce_193 : cz_193.all (ek_ mt_F me_193.2) = true := by decide +kernel
set_option maxRecDepth 100000 in
theorem ck_194 : mb_ me_194 = true := by decide +kernel
set_option maxRecDepth 100000 in
theorem ce_194 : cz_194.all (ek_ mt_F me_194.2) = true := by decide +kernel
set_option maxRecDepth 100000 in
theorem ck_195 : mb_ me_195 = true := by decide +kernel
set_option maxRecDepth 100000 in
theorem ce_195 : cz_195.all (ek_ mt_F me_195.2) = true := by decide +kernel
set_option maxRecDepth 100000 in
theorem ck_196 : mb_ me_196 = true := by decide +kernel
set_option maxRecDepth 100000 in
theorem ce_196 : cz_196.all (ek_ mt_F me_196.2) = true := by decide +kernel
set_option maxRecDepth 100000 in
theorem ck_197 : mb_ me_197 = true := by decide +kernel
set_option maxRecDepth 100000 in
theorem ce_197 : cz_197.all (ek_ mt_F me_197.2) = true := by decide +kernel
set_option maxRecDepth 100000 in
theorem ck_198 : mb_ me_198 = true := by decide +kernel
set_option maxRecDepth 100000 in
theorem ce_198 : cz_198.all (ek_ mt_F me_198.2) = true := by decide +kernel
set_option maxRecDepth 100000 in
theorem ck_199 : mb_ me_199 = true := by decide +kernel
set_option maxRecDepth 100000 in
theorem ce_199 : cz_199.all (ek_ mt_F me_199.2) = true := by decide +kernel
set_option maxRecDepth 100000 in
theorem ck_200 : mb_ me_200 = true := by decide +kernel
set_option maxRecDepth 100000 in
theorem ce_200 : cz_200.all (ek_ mt_F me_200.2) = true := by decide +kernel
set_option maxRecDepth 100000 in
theorem ck_201 : mb_ me_201 = true := by decide +kernel
set_option maxRecDepth 100000 in
theorem ce_201 : cz_201.all (ek_ mt_F me_201.2) = true := by decide +kernel
set_option maxRecDepth 100000 in
theorem ck_202 : mb_ me_202 = true := by decide +kernel
set_option maxRecDepth 100000 in
theorem ce_202 : cz_202.all (ek_ mt_F me_202.2) = true := by decide +kernel
set_option maxRecDepth 100000 in
theorem ck_203 : mb_ me_203 = true := by decide +kernel
set_option maxRecDepth 100000 in
theorem ce_203 : cz_203.all (ek_ mt_F me_203.2) = true := by decide +kernel
set_option maxRecDepth 100000 in
theorem ck_204 : mb_ me_204 = true := by decide +kernel
set_option maxRecDepth 100000 in
theorem ce_204 : cz_204.all (ek_ mt_F me_204.2) = true := by decide +kernel
set_option maxRecDepth 100000 in
theorem ck_205 : mb_ me_205 = true := by decide +kernel
set_option maxRecDepth 100000 in
theorem ce_205 : cz_205.all (ek_ mt_F me_205.2) = true := by decide +kernel
set_option maxRecDepth 100000 in
theorem ck_206 : mb_ me_206 = true := by decide +kernel
set_option maxRecDepth 100000 in
theorem ce_206 : cz_206.all (ek_ mt_F me_206.2) = true := by decide +kernel
set_option maxRecDepth 100000 in
theorem ck_207 : mb_ me_207 = true := by decide +kernel
set_option maxRecDepth 100000 in
theorem ce_207 : cz_207.all (ek_ mt_F me_207.2) = true := by decide +kernel
set_option maxRecDepth 100000 in
theorem ck_208 : mb_ me_208 = true := by decide +kernel
set_option maxRecDepth 100000 in
theorem ce_208 : cz_208.all (ek_ mt_F me_208.2) = true := by decide +kernel
set_option maxRecDepth 100000 in
theorem ck_209 : mb_ me_209 = true := by decide +kernel
set_option maxRecDepth 100000 in
theorem ce_209 : cz_209.all (ek_ mt_F me_209.2) = true := by decide +kernel
set_option maxRecDepth 100000 in
theorem ck_210 : mb_ me_210 = true := by decide +kernel
set_option maxRecDepth 100000 in
theorem ce_210 : cz_210.all (ek_ mt_F me_210.2) = true := by decide +kernel
set_option maxRecDepth 100000 in
theorem ck_211 : mb_ me_211 = true := by decide +kernel
set_option maxRecDepth 100000 in
theorem ce_211 : cz_211.all (ek_ mt_F me_211.2) = true := by decide +kernel
set_option maxRecDepth 100000 in
theorem ck_212 : mb_ me_212 = true := by decide +kernel
set_option maxRecDepth 100000 in
theorem ce_212 : cz_212.all (ek_ mt_F me_212.2) = true := by decide +kernel
set_option maxRecDepth 100000 in
theorem ck_213 : mb_ me_213 = true := by decide +kernel
set_option maxRecDepth 100000 in
theorem ce_213 : cz_213.all (ek_ mt_F me_213.2) = true := by decide +kernel
set_option maxRecDepth 100000 in
theorem ck_214 : mb_ me_214 = true := by decide +kernel
set_option maxRecDepth 100000 in
theorem ce_214 : cz_214.all (ek_ mt_F me_214.2) = true := by decide +kernel
set_option maxRecDepth 100000 in
theorem ck_215 : mb_ me_215 = true := by decide +kernel
set_option maxRecDepth 100000 in
theorem ce_215 : cz_215.all (ek_ mt_F me_215.2) = true := by decide +kernel
set_option maxRecDepth 100000 in
theorem ck_216 : mb_ me_216 = true := by decide +kernel
set_option maxRecDepth 100000 in
theorem ce_216 : cz_216.all (ek_ mt_F me_216.2) = true := by decide +kernel
set_option maxRecDepth 100000 in
theorem ck_217 : mb_ me_217 = true := by decide +kernel
set_option maxRecDepth 100000 in
theorem ce_217 : cz_217.all (ek_ mt_F me_217.2) = true := by decide +kernel
set_option maxRecDepth 100000 in
theorem ck_218 : mb_ me_218 = true := by decide +kernel
set_option maxRecDepth 100000 in
theorem ce_218 : cz_218.all (ek_ mt_F me_218.2) = true := by decide +kernel
set_option maxRecDepth 100000 in
theorem ck_219 : mb_ me_219 = true := by decide +kernel
set_option maxRecDepth 100000 in
theorem ce_219 : cz_219.all (ek_ mt_F me_219.2) = true := by decide +kernel
set_option maxRecDepth 100000 in
theorem ck_220 : mb_ me_220 = true := by decide +kernel
set_option maxRecDepth 100000 in
theorem ce_220 : cz_220.all (ek_ mt_F me_220.2) = true := by decide +kernel
set_option maxRecDepth 100000 in
theorem ck_221 : mb_ me_221 = true := by decide +kernel
set_option maxRecDepth 100000 in
theorem ce_221 : cz_221.all (ek_ mt_F me_221.2) = true := by decide +kernel
set_option maxRecDepth 100000 in
theorem ck_222 : mb_ me_222 = true := by decide +kernel
set_option maxRecDepth 100000 in
theorem ce_222 : cz_222.all (ek_ mt_F me_222.2) = true := by decide +kernel
set_option maxRecDepth 100000 in
theorem ck_223 : mb_ me_223 = true := by decide +kernel
set_option maxRecDepth 100000 in
theorem ce_223 : cz_223.all (ek_ mt_F me_223.2) = true := by decide +kernel
set_option maxRecDepth 100000 in
theorem ck_224 : mb_ me_224 = true := by decide +kernel
set_option maxRecDepth 100000 in
theorem ce_224 : cz_224.all (ek_ mt_F me_224.2) = true := by decide +kernel
set_option maxRecDepth 100000 in
theorem ck_225 : mb_ me_225 = true := by decide +kernel
set_option maxRecDepth 100000 in
theorem ce_225 : cz_225.all (ek_ mt_F me_225.2) = true := by decide +kernel
set_option maxRecDepth 100000 in
theorem ck_226 : mb_ me_226 = true := by decide +kernel
set_option maxRecDepth 100000 in
theorem ce_226 : cz_226.all (ek_ mt_F me_226.2) = true := by decide +kernel
set_option maxRecDepth 100000 in
theorem ck_227 : mb_ me_227 = true := by decide +kernel
set_option maxRecDepth 100000 in
theorem ce_227 : cz_227.all (ek_ mt_F me_227.2) = true := by decide +kernel
set_option maxRecDepth 100000 in
theorem ck_228 : mb_ me_228 = true := by decide +kernel
set_option maxRecDepth 100000 in
theorem ce_228 : cz_228.all (ek_ mt_F me_228.2) = true := by decide +kernel
set_option maxRecDepth 100000 in
theorem ck_229 : mb_ me_229 = true := by decide +kernel
set_option maxRecDepth 100000 in
theorem ce_229 : cz_229.all (ek_ mt_F me_229.2) = true := by decide +kernel
