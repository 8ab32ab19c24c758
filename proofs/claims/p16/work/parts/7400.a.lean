theorem da9_dL_law_204 : (decode cL_law 204 = .ok (.aload_n 1, 1)) ∧ (decode cL_law 205 = .ok (.aload_n 0, 1)) ∧ (decode cL_law 206 = .ok (.iload_n 3, 1)) ∧ (decode cL_law 207 = .ok (.iconst 1, 1)) ∧ (decode cL_law 208 = .ok (.iadd, 1)) ∧ (decode cL_law 209 = .ok (.iaload, 1)) ∧ (decode cL_law 210 = .ok (.aload_n 0, 1)) ∧ (decode cL_law 211 = .ok (.iload_n 3, 1)) ∧ (decode cL_law 212 = .ok (.iconst 2, 1)) ∧ (decode cL_law 213 = .ok (.iadd, 1)) ∧ (decode cL_law 214 = .ok (.iaload, 1)) ∧ (decode cL_law 215 = .ok (.invokevirtual 13, 3)) ∧ (decode cL_law 218 = .ok (.pop, 1)) ∧ (decode cL_law 219 = .ok (.aload_n 2, 1)) ∧ (decode cL_law 220 = .ok (.aload_n 0, 1)) ∧ (decode cL_law 221 = .ok (.iload_n 3, 1)) := by decide +kernel
theorem dL_law_204 : decode cL_law 204 = .ok (.aload_n 1, 1) := da9_dL_law_204.1
theorem dL_law_205 : decode cL_law 205 = .ok (.aload_n 0, 1) := da9_dL_law_204.2.1
theorem dL_law_206 : decode cL_law 206 = .ok (.iload_n 3, 1) := da9_dL_law_204.2.2.1
theorem dL_law_207 : decode cL_law 207 = .ok (.iconst 1, 1) := da9_dL_law_204.2.2.2.1
theorem dL_law_208 : decode cL_law 208 = .ok (.iadd, 1) := da9_dL_law_204.2.2.2.2.1
theorem dL_law_209 : decode cL_law 209 = .ok (.iaload, 1) := da9_dL_law_204.2.2.2.2.2.1
theorem dL_law_210 : decode cL_law 210 = .ok (.aload_n 0, 1) := da9_dL_law_204.2.2.2.2.2.2.1
theorem dL_law_211 : decode cL_law 211 = .ok (.iload_n 3, 1) := da9_dL_law_204.2.2.2.2.2.2.2.1
theorem dL_law_212 : decode cL_law 212 = .ok (.iconst 2, 1) := da9_dL_law_204.2.2.2.2.2.2.2.2.1
theorem dL_law_213 : decode cL_law 213 = .ok (.iadd, 1) := da9_dL_law_204.2.2.2.2.2.2.2.2.2.1
theorem dL_law_214 : decode cL_law 214 = .ok (.iaload, 1) := da9_dL_law_204.2.2.2.2.2.2.2.2.2.2.1
theorem dL_law_215 : decode cL_law 215 = .ok (.invokevirtual 13, 3) := da9_dL_law_204.2.2.2.2.2.2.2.2.2.2.2.1
theorem dL_law_218 : decode cL_law 218 = .ok (.pop, 1) := da9_dL_law_204.2.2.2.2.2.2.2.2.2.2.2.2.1
theorem dL_law_219 : decode cL_law 219 = .ok (.aload_n 2, 1) := da9_dL_law_204.2.2.2.2.2.2.2.2.2.2.2.2.2.1
theorem dL_law_220 : decode cL_law 220 = .ok (.aload_n 0, 1) := da9_dL_law_204.2.2.2.2.2.2.2.2.2.2.2.2.2.2.1
theorem dL_law_221 : decode cL_law 221 = .ok (.iload_n 3, 1) := da9_dL_law_204.2.2.2.2.2.2.2.2.2.2.2.2.2.2.2
theorem da9_dL_law_222 : (decode cL_law 222 = .ok (.iconst 1, 1)) ∧ (decode cL_law 223 = .ok (.iadd, 1)) ∧ (decode cL_law 224 = .ok (.iaload, 1)) ∧ (decode cL_law 225 = .ok (.aload_n 0, 1)) ∧ (decode cL_law 226 = .ok (.iload_n 3, 1)) ∧ (decode cL_law 227 = .ok (.iconst 2, 1)) ∧ (decode cL_law 228 = .ok (.iadd, 1)) ∧ (decode cL_law 229 = .ok (.iaload, 1)) ∧ (decode cL_law 230 = .ok (.invokevirtual 17, 3)) ∧ (decode cL_law 233 = .ok (.pop, 1)) ∧ (decode cL_law 234 = .ok (.goto 837, 3)) ∧ (decode cL_law 237 = .ok (.aload_n 1, 1)) ∧ (decode cL_law 238 = .ok (.aload_n 0, 1)) ∧ (decode cL_law 239 = .ok (.iload_n 3, 1)) ∧ (decode cL_law 240 = .ok (.iconst 1, 1)) ∧ (decode cL_law 241 = .ok (.iadd, 1)) := by decide +kernel
theorem dL_law_222 : decode cL_law 222 = .ok (.iconst 1, 1) := da9_dL_law_222.1
theorem dL_law_223 : decode cL_law 223 = .ok (.iadd, 1) := da9_dL_law_222.2.1
theorem dL_law_224 : decode cL_law 224 = .ok (.iaload, 1) := da9_dL_law_222.2.2.1
theorem dL_law_225 : decode cL_law 225 = .ok (.aload_n 0, 1) := da9_dL_law_222.2.2.2.1
theorem dL_law_226 : decode cL_law 226 = .ok (.iload_n 3, 1) := da9_dL_law_222.2.2.2.2.1
theorem dL_law_227 : decode cL_law 227 = .ok (.iconst 2, 1) := da9_dL_law_222.2.2.2.2.2.1
theorem dL_law_228 : decode cL_law 228 = .ok (.iadd, 1) := da9_dL_law_222.2.2.2.2.2.2.1
theorem dL_law_229 : decode cL_law 229 = .ok (.iaload, 1) := da9_dL_law_222.2.2.2.2.2.2.2.1
theorem dL_law_230 : decode cL_law 230 = .ok (.invokevirtual 17, 3) := da9_dL_law_222.2.2.2.2.2.2.2.2.1
theorem dL_law_233 : decode cL_law 233 = .ok (.pop, 1) := da9_dL_law_222.2.2.2.2.2.2.2.2.2.1
theorem dL_law_234 : decode cL_law 234 = .ok (.goto 837, 3) := da9_dL_law_222.2.2.2.2.2.2.2.2.2.2.1
theorem dL_law_237 : decode cL_law 237 = .ok (.aload_n 1, 1) := da9_dL_law_222.2.2.2.2.2.2.2.2.2.2.2.1
theorem dL_law_238 : decode cL_law 238 = .ok (.aload_n 0, 1) := da9_dL_law_222.2.2.2.2.2.2.2.2.2.2.2.2.1
theorem dL_law_239 : decode cL_law 239 = .ok (.iload_n 3, 1) := da9_dL_law_222.2.2.2.2.2.2.2.2.2.2.2.2.2.1
theorem dL_law_240 : decode cL_law 240 = .ok (.iconst 1, 1) := da9_dL_law_222.2.2.2.2.2.2.2.2.2.2.2.2.2.2.1
theorem dL_law_241 : decode cL_law 241 = .ok (.iadd, 1) := da9_dL_law_222.2.2.2.2.2.2.2.2.2.2.2.2.2.2.2
theorem da9_dL_law_242 : (decode cL_law 242 = .ok (.iaload, 1)) ∧ (decode cL_law 243 = .ok (.aload_n 0, 1)) ∧ (decode cL_law 244 = .ok (.iload_n 3, 1)) ∧ (decode cL_law 245 = .ok (.iconst 2, 1)) ∧ (decode cL_law 246 = .ok (.iadd, 1)) ∧ (decode cL_law 247 = .ok (.iaload, 1)) ∧ (decode cL_law 248 = .ok (.invokevirtual 18, 3)) ∧ (decode cL_law 251 = .ok (.pop, 1)) ∧ (decode cL_law 252 = .ok (.aload_n 2, 1)) ∧ (decode cL_law 253 = .ok (.aload_n 0, 1)) ∧ (decode cL_law 254 = .ok (.iload_n 3, 1)) ∧ (decode cL_law 255 = .ok (.iconst 1, 1)) ∧ (decode cL_law 256 = .ok (.iadd, 1)) ∧ (decode cL_law 257 = .ok (.iaload, 1)) ∧ (decode cL_law 258 = .ok (.aload_n 0, 1)) ∧ (decode cL_law 259 = .ok (.iload_n 3, 1)) := by decide +kernel
theorem dL_law_242 : decode cL_law 242 = .ok (.iaload, 1) := da9_dL_law_242.1
theorem dL_law_243 : decode cL_law 243 = .ok (.aload_n 0, 1) := da9_dL_law_242.2.1
theorem dL_law_244 : decode cL_law 244 = .ok (.iload_n 3, 1) := da9_dL_law_242.2.2.1
theorem dL_law_245 : decode cL_law 245 = .ok (.iconst 2, 1) := da9_dL_law_242.2.2.2.1
theorem dL_law_246 : decode cL_law 246 = .ok (.iadd, 1) := da9_dL_law_242.2.2.2.2.1
theorem dL_law_247 : decode cL_law 247 = .ok (.iaload, 1) := da9_dL_law_242.2.2.2.2.2.1
theorem dL_law_248 : decode cL_law 248 = .ok (.invokevirtual 18, 3) := da9_dL_law_242.2.2.2.2.2.2.1
theorem dL_law_251 : decode cL_law 251 = .ok (.pop, 1) := da9_dL_law_242.2.2.2.2.2.2.2.1
theorem dL_law_252 : decode cL_law 252 = .ok (.aload_n 2, 1) := da9_dL_law_242.2.2.2.2.2.2.2.2.1
theorem dL_law_253 : decode cL_law 253 = .ok (.aload_n 0, 1) := da9_dL_law_242.2.2.2.2.2.2.2.2.2.1
theorem dL_law_254 : decode cL_law 254 = .ok (.iload_n 3, 1) := da9_dL_law_242.2.2.2.2.2.2.2.2.2.2.1
theorem dL_law_255 : decode cL_law 255 = .ok (.iconst 1, 1) := da9_dL_law_242.2.2.2.2.2.2.2.2.2.2.2.1
theorem dL_law_256 : decode cL_law 256 = .ok (.iadd, 1) := da9_dL_law_242.2.2.2.2.2.2.2.2.2.2.2.2.1
theorem dL_law_257 : decode cL_law 257 = .ok (.iaload, 1) := da9_dL_law_242.2.2.2.2.2.2.2.2.2.2.2.2.2.1
theorem dL_law_258 : decode cL_law 258 = .ok (.aload_n 0, 1) := da9_dL_law_242.2.2.2.2.2.2.2.2.2.2.2.2.2.2.1
theorem dL_law_259 : decode cL_law 259 = .ok (.iload_n 3, 1) := da9_dL_law_242.2.2.2.2.2.2.2.2.2.2.2.2.2.2.2
theorem da9_dL_law_260 : (decode cL_law 260 = .ok (.iconst 2, 1)) ∧ (decode cL_law 261 = .ok (.iadd, 1)) ∧ (decode cL_law 262 = .ok (.iaload, 1)) ∧ (decode cL_law 263 = .ok (.invokevirtual 21, 3)) ∧ (decode cL_law 266 = .ok (.pop, 1)) ∧ (decode cL_law 267 = .ok (.goto 804, 3)) ∧ (decode cL_law 270 = .ok (.aload_n 1, 1)) ∧ (decode cL_law 271 = .ok (.aload_n 0, 1)) ∧ (decode cL_law 272 = .ok (.iload_n 3, 1)) ∧ (decode cL_law 273 = .ok (.iconst 1, 1)) ∧ (decode cL_law 274 = .ok (.iadd, 1)) ∧ (decode cL_law 275 = .ok (.iaload, 1)) ∧ (decode cL_law 276 = .ok (.aload_n 0, 1)) ∧ (decode cL_law 277 = .ok (.iload_n 3, 1)) ∧ (decode cL_law 278 = .ok (.iconst 2, 1)) ∧ (decode cL_law 279 = .ok (.iadd, 1)) := by decide +kernel
theorem dL_law_260 : decode cL_law 260 = .ok (.iconst 2, 1) := da9_dL_law_260.1
theorem dL_law_261 : decode cL_law 261 = .ok (.iadd, 1) := da9_dL_law_260.2.1
theorem dL_law_262 : decode cL_law 262 = .ok (.iaload, 1) := da9_dL_law_260.2.2.1
theorem dL_law_263 : decode cL_law 263 = .ok (.invokevirtual 21, 3) := da9_dL_law_260.2.2.2.1
theorem dL_law_266 : decode cL_law 266 = .ok (.pop, 1) := da9_dL_law_260.2.2.2.2.1
theorem dL_law_267 : decode cL_law 267 = .ok (.goto 804, 3) := da9_dL_law_260.2.2.2.2.2.1
theorem dL_law_270 : decode cL_law 270 = .ok (.aload_n 1, 1) := da9_dL_law_260.2.2.2.2.2.2.1
theorem dL_law_271 : decode cL_law 271 = .ok (.aload_n 0, 1) := da9_dL_law_260.2.2.2.2.2.2.2.1
theorem dL_law_272 : decode cL_law 272 = .ok (.iload_n 3, 1) := da9_dL_law_260.2.2.2.2.2.2.2.2.1
theorem dL_law_273 : decode cL_law 273 = .ok (.iconst 1, 1) := da9_dL_law_260.2.2.2.2.2.2.2.2.2.1
theorem dL_law_274 : decode cL_law 274 = .ok (.iadd, 1) := da9_dL_law_260.2.2.2.2.2.2.2.2.2.2.1
theorem dL_law_275 : decode cL_law 275 = .ok (.iaload, 1) := da9_dL_law_260.2.2.2.2.2.2.2.2.2.2.2.1
theorem dL_law_276 : decode cL_law 276 = .ok (.aload_n 0, 1) := da9_dL_law_260.2.2.2.2.2.2.2.2.2.2.2.2.1
theorem dL_law_277 : decode cL_law 277 = .ok (.iload_n 3, 1) := da9_dL_law_260.2.2.2.2.2.2.2.2.2.2.2.2.2.1
theorem dL_law_278 : decode cL_law 278 = .ok (.iconst 2, 1) := da9_dL_law_260.2.2.2.2.2.2.2.2.2.2.2.2.2.2.1
theorem dL_law_279 : decode cL_law 279 = .ok (.iadd, 1) := da9_dL_law_260.2.2.2.2.2.2.2.2.2.2.2.2.2.2.2
theorem da9_dL_law_280 : (decode cL_law 280 = .ok (.iaload, 1)) ∧ (decode cL_law 281 = .ok (.invokevirtual 22, 3)) ∧ (decode cL_law 284 = .ok (.pop, 1)) ∧ (decode cL_law 285 = .ok (.aload_n 2, 1)) ∧ (decode cL_law 286 = .ok (.aload_n 0, 1)) ∧ (decode cL_law 287 = .ok (.iload_n 3, 1)) ∧ (decode cL_law 288 = .ok (.iconst 1, 1)) ∧ (decode cL_law 289 = .ok (.iadd, 1)) ∧ (decode cL_law 290 = .ok (.iaload, 1)) ∧ (decode cL_law 291 = .ok (.aload_n 0, 1)) ∧ (decode cL_law 292 = .ok (.iload_n 3, 1)) ∧ (decode cL_law 293 = .ok (.iconst 2, 1)) ∧ (decode cL_law 294 = .ok (.iadd, 1)) ∧ (decode cL_law 295 = .ok (.iaload, 1)) ∧ (decode cL_law 296 = .ok (.invokevirtual 25, 3)) ∧ (decode cL_law 299 = .ok (.pop, 1)) := by decide +kernel
theorem dL_law_280 : decode cL_law 280 = .ok (.iaload, 1) := da9_dL_law_280.1
theorem dL_law_281 : decode cL_law 281 = .ok (.invokevirtual 22, 3) := da9_dL_law_280.2.1
theorem dL_law_284 : decode cL_law 284 = .ok (.pop, 1) := da9_dL_law_280.2.2.1
theorem dL_law_285 : decode cL_law 285 = .ok (.aload_n 2, 1) := da9_dL_law_280.2.2.2.1
theorem dL_law_286 : decode cL_law 286 = .ok (.aload_n 0, 1) := da9_dL_law_280.2.2.2.2.1
theorem dL_law_287 : decode cL_law 287 = .ok (.iload_n 3, 1) := da9_dL_law_280.2.2.2.2.2.1
theorem dL_law_288 : decode cL_law 288 = .ok (.iconst 1, 1) := da9_dL_law_280.2.2.2.2.2.2.1
theorem dL_law_289 : decode cL_law 289 = .ok (.iadd, 1) := da9_dL_law_280.2.2.2.2.2.2.2.1
theorem dL_law_290 : decode cL_law 290 = .ok (.iaload, 1) := da9_dL_law_280.2.2.2.2.2.2.2.2.1
theorem dL_law_291 : decode cL_law 291 = .ok (.aload_n 0, 1) := da9_dL_law_280.2.2.2.2.2.2.2.2.2.1
theorem dL_law_292 : decode cL_law 292 = .ok (.iload_n 3, 1) := da9_dL_law_280.2.2.2.2.2.2.2.2.2.2.1
theorem dL_law_293 : decode cL_law 293 = .ok (.iconst 2, 1) := da9_dL_law_280.2.2.2.2.2.2.2.2.2.2.2.1
theorem dL_law_294 : decode cL_law 294 = .ok (.iadd, 1) := da9_dL_law_280.2.2.2.2.2.2.2.2.2.2.2.2.1
theorem dL_law_295 : decode cL_law 295 = .ok (.iaload, 1) := da9_dL_law_280.2.2.2.2.2.2.2.2.2.2.2.2.2.1
theorem dL_law_296 : decode cL_law 296 = .ok (.invokevirtual 25, 3) := da9_dL_law_280.2.2.2.2.2.2.2.2.2.2.2.2.2.2.1
theorem dL_law_299 : decode cL_law 299 = .ok (.pop, 1) := da9_dL_law_280.2.2.2.2.2.2.2.2.2.2.2.2.2.2.2
theorem da9_dL_law_300 : (decode cL_law 300 = .ok (.goto 771, 3)) ∧ (decode cL_law 303 = .ok (.aload_n 1, 1)) ∧ (decode cL_law 304 = .ok (.aload_n 0, 1)) ∧ (decode cL_law 305 = .ok (.iload_n 3, 1)) ∧ (decode cL_law 306 = .ok (.iconst 1, 1)) ∧ (decode cL_law 307 = .ok (.iadd, 1)) ∧ (decode cL_law 308 = .ok (.iaload, 1)) ∧ (decode cL_law 309 = .ok (.aload_n 0, 1)) ∧ (decode cL_law 310 = .ok (.iload_n 3, 1)) ∧ (decode cL_law 311 = .ok (.iconst 2, 1)) ∧ (decode cL_law 312 = .ok (.iadd, 1)) ∧ (decode cL_law 313 = .ok (.iaload, 1)) ∧ (decode cL_law 314 = .ok (.invokevirtual 26, 3)) ∧ (decode cL_law 317 = .ok (.pop, 1)) ∧ (decode cL_law 318 = .ok (.aload_n 2, 1)) ∧ (decode cL_law 319 = .ok (.aload_n 0, 1)) := by decide +kernel
theorem dL_law_300 : decode cL_law 300 = .ok (.goto 771, 3) := da9_dL_law_300.1
theorem dL_law_303 : decode cL_law 303 = .ok (.aload_n 1, 1) := da9_dL_law_300.2.1
theorem dL_law_304 : decode cL_law 304 = .ok (.aload_n 0, 1) := da9_dL_law_300.2.2.1
theorem dL_law_305 : decode cL_law 305 = .ok (.iload_n 3, 1) := da9_dL_law_300.2.2.2.1
theorem dL_law_306 : decode cL_law 306 = .ok (.iconst 1, 1) := da9_dL_law_300.2.2.2.2.1
theorem dL_law_307 : decode cL_law 307 = .ok (.iadd, 1) := da9_dL_law_300.2.2.2.2.2.1
theorem dL_law_308 : decode cL_law 308 = .ok (.iaload, 1) := da9_dL_law_300.2.2.2.2.2.2.1
theorem dL_law_309 : decode cL_law 309 = .ok (.aload_n 0, 1) := da9_dL_law_300.2.2.2.2.2.2.2.1
theorem dL_law_310 : decode cL_law 310 = .ok (.iload_n 3, 1) := da9_dL_law_300.2.2.2.2.2.2.2.2.1
theorem dL_law_311 : decode cL_law 311 = .ok (.iconst 2, 1) := da9_dL_law_300.2.2.2.2.2.2.2.2.2.1
theorem dL_law_312 : decode cL_law 312 = .ok (.iadd, 1) := da9_dL_law_300.2.2.2.2.2.2.2.2.2.2.1
theorem dL_law_313 : decode cL_law 313 = .ok (.iaload, 1) := da9_dL_law_300.2.2.2.2.2.2.2.2.2.2.2.1
theorem dL_law_314 : decode cL_law 314 = .ok (.invokevirtual 26, 3) := da9_dL_law_300.2.2.2.2.2.2.2.2.2.2.2.2.1
theorem dL_law_317 : decode cL_law 317 = .ok (.pop, 1) := da9_dL_law_300.2.2.2.2.2.2.2.2.2.2.2.2.2.1
theorem dL_law_318 : decode cL_law 318 = .ok (.aload_n 2, 1) := da9_dL_law_300.2.2.2.2.2.2.2.2.2.2.2.2.2.2.1
theorem dL_law_319 : decode cL_law 319 = .ok (.aload_n 0, 1) := da9_dL_law_300.2.2.2.2.2.2.2.2.2.2.2.2.2.2.2
theorem da9_dL_law_320 : (decode cL_law 320 = .ok (.iload_n 3, 1)) ∧ (decode cL_law 321 = .ok (.iconst 1, 1)) ∧ (decode cL_law 322 = .ok (.iadd, 1)) ∧ (decode cL_law 323 = .ok (.iaload, 1)) ∧ (decode cL_law 324 = .ok (.aload_n 0, 1)) ∧ (decode cL_law 325 = .ok (.iload_n 3, 1)) ∧ (decode cL_law 326 = .ok (.iconst 2, 1)) ∧ (decode cL_law 327 = .ok (.iadd, 1)) ∧ (decode cL_law 328 = .ok (.iaload, 1)) ∧ (decode cL_law 329 = .ok (.invokevirtual 29, 3)) ∧ (decode cL_law 332 = .ok (.pop, 1)) ∧ (decode cL_law 333 = .ok (.goto 738, 3)) ∧ (decode cL_law 336 = .ok (.aload_n 1, 1)) ∧ (decode cL_law 337 = .ok (.aload_n 0, 1)) ∧ (decode cL_law 338 = .ok (.iload_n 3, 1)) ∧ (decode cL_law 339 = .ok (.iconst 1, 1)) := by decide +kernel
theorem dL_law_320 : decode cL_law 320 = .ok (.iload_n 3, 1) := da9_dL_law_320.1
theorem dL_law_321 : decode cL_law 321 = .ok (.iconst 1, 1) := da9_dL_law_320.2.1
theorem dL_law_322 : decode cL_law 322 = .ok (.iadd, 1) := da9_dL_law_320.2.2.1
theorem dL_law_323 : decode cL_law 323 = .ok (.iaload, 1) := da9_dL_law_320.2.2.2.1
theorem dL_law_324 : decode cL_law 324 = .ok (.aload_n 0, 1) := da9_dL_law_320.2.2.2.2.1
theorem dL_law_325 : decode cL_law 325 = .ok (.iload_n 3, 1) := da9_dL_law_320.2.2.2.2.2.1
theorem dL_law_326 : decode cL_law 326 = .ok (.iconst 2, 1) := da9_dL_law_320.2.2.2.2.2.2.1
theorem dL_law_327 : decode cL_law 327 = .ok (.iadd, 1) := da9_dL_law_320.2.2.2.2.2.2.2.1
theorem dL_law_328 : decode cL_law 328 = .ok (.iaload, 1) := da9_dL_law_320.2.2.2.2.2.2.2.2.1
theorem dL_law_329 : decode cL_law 329 = .ok (.invokevirtual 29, 3) := da9_dL_law_320.2.2.2.2.2.2.2.2.2.1
theorem dL_law_332 : decode cL_law 332 = .ok (.pop, 1) := da9_dL_law_320.2.2.2.2.2.2.2.2.2.2.1
theorem dL_law_333 : decode cL_law 333 = .ok (.goto 738, 3) := da9_dL_law_320.2.2.2.2.2.2.2.2.2.2.2.1
theorem dL_law_336 : decode cL_law 336 = .ok (.aload_n 1, 1) := da9_dL_law_320.2.2.2.2.2.2.2.2.2.2.2.2.1
theorem dL_law_337 : decode cL_law 337 = .ok (.aload_n 0, 1) := da9_dL_law_320.2.2.2.2.2.2.2.2.2.2.2.2.2.1
theorem dL_law_338 : decode cL_law 338 = .ok (.iload_n 3, 1) := da9_dL_law_320.2.2.2.2.2.2.2.2.2.2.2.2.2.2.1
theorem dL_law_339 : decode cL_law 339 = .ok (.iconst 1, 1) := da9_dL_law_320.2.2.2.2.2.2.2.2.2.2.2.2.2.2.2
theorem da9_dL_law_340 : (decode cL_law 340 = .ok (.iadd, 1)) ∧ (decode cL_law 341 = .ok (.iaload, 1)) ∧ (decode cL_law 342 = .ok (.aload_n 0, 1)) ∧ (decode cL_law 343 = .ok (.iload_n 3, 1)) ∧ (decode cL_law 344 = .ok (.iconst 2, 1)) ∧ (decode cL_law 345 = .ok (.iadd, 1)) ∧ (decode cL_law 346 = .ok (.iaload, 1)) ∧ (decode cL_law 347 = .ok (.aload_n 0, 1)) ∧ (decode cL_law 348 = .ok (.iload_n 3, 1)) ∧ (decode cL_law 349 = .ok (.iconst 3, 1)) ∧ (decode cL_law 350 = .ok (.iadd, 1)) ∧ (decode cL_law 351 = .ok (.iaload, 1)) ∧ (decode cL_law 352 = .ok (.aload_n 0, 1)) ∧ (decode cL_law 353 = .ok (.iload_n 3, 1)) ∧ (decode cL_law 354 = .ok (.iconst 4, 1)) ∧ (decode cL_law 355 = .ok (.iadd, 1)) := by decide +kernel
theorem dL_law_340 : decode cL_law 340 = .ok (.iadd, 1) := da9_dL_law_340.1
theorem dL_law_341 : decode cL_law 341 = .ok (.iaload, 1) := da9_dL_law_340.2.1
theorem dL_law_342 : decode cL_law 342 = .ok (.aload_n 0, 1) := da9_dL_law_340.2.2.1
theorem dL_law_343 : decode cL_law 343 = .ok (.iload_n 3, 1) := da9_dL_law_340.2.2.2.1
theorem dL_law_344 : decode cL_law 344 = .ok (.iconst 2, 1) := da9_dL_law_340.2.2.2.2.1
theorem dL_law_345 : decode cL_law 345 = .ok (.iadd, 1) := da9_dL_law_340.2.2.2.2.2.1
theorem dL_law_346 : decode cL_law 346 = .ok (.iaload, 1) := da9_dL_law_340.2.2.2.2.2.2.1
theorem dL_law_347 : decode cL_law 347 = .ok (.aload_n 0, 1) := da9_dL_law_340.2.2.2.2.2.2.2.1
theorem dL_law_348 : decode cL_law 348 = .ok (.iload_n 3, 1) := da9_dL_law_340.2.2.2.2.2.2.2.2.1
theorem dL_law_349 : decode cL_law 349 = .ok (.iconst 3, 1) := da9_dL_law_340.2.2.2.2.2.2.2.2.2.1
theorem dL_law_350 : decode cL_law 350 = .ok (.iadd, 1) := da9_dL_law_340.2.2.2.2.2.2.2.2.2.2.1
theorem dL_law_351 : decode cL_law 351 = .ok (.iaload, 1) := da9_dL_law_340.2.2.2.2.2.2.2.2.2.2.2.1
theorem dL_law_352 : decode cL_law 352 = .ok (.aload_n 0, 1) := da9_dL_law_340.2.2.2.2.2.2.2.2.2.2.2.2.1
theorem dL_law_353 : decode cL_law 353 = .ok (.iload_n 3, 1) := da9_dL_law_340.2.2.2.2.2.2.2.2.2.2.2.2.2.1
theorem dL_law_354 : decode cL_law 354 = .ok (.iconst 4, 1) := da9_dL_law_340.2.2.2.2.2.2.2.2.2.2.2.2.2.2.1
theorem dL_law_355 : decode cL_law 355 = .ok (.iadd, 1) := da9_dL_law_340.2.2.2.2.2.2.2.2.2.2.2.2.2.2.2
theorem da9_dL_law_356 : (decode cL_law 356 = .ok (.iaload, 1)) ∧ (decode cL_law 357 = .ok (.aload_n 0, 1)) ∧ (decode cL_law 358 = .ok (.iload_n 3, 1)) ∧ (decode cL_law 359 = .ok (.iconst 5, 1)) ∧ (decode cL_law 360 = .ok (.iadd, 1)) ∧ (decode cL_law 361 = .ok (.iaload, 1)) ∧ (decode cL_law 362 = .ok (.invokevirtual 30, 3)) ∧ (decode cL_law 365 = .ok (.pop, 1)) ∧ (decode cL_law 366 = .ok (.aload_n 2, 1)) ∧ (decode cL_law 367 = .ok (.aload_n 0, 1)) ∧ (decode cL_law 368 = .ok (.iload_n 3, 1)) ∧ (decode cL_law 369 = .ok (.iconst 1, 1)) ∧ (decode cL_law 370 = .ok (.iadd, 1)) ∧ (decode cL_law 371 = .ok (.iaload, 1)) ∧ (decode cL_law 372 = .ok (.aload_n 0, 1)) ∧ (decode cL_law 373 = .ok (.iload_n 3, 1)) := by decide +kernel
theorem dL_law_356 : decode cL_law 356 = .ok (.iaload, 1) := da9_dL_law_356.1
theorem dL_law_357 : decode cL_law 357 = .ok (.aload_n 0, 1) := da9_dL_law_356.2.1
theorem dL_law_358 : decode cL_law 358 = .ok (.iload_n 3, 1) := da9_dL_law_356.2.2.1
theorem dL_law_359 : decode cL_law 359 = .ok (.iconst 5, 1) := da9_dL_law_356.2.2.2.1
theorem dL_law_360 : decode cL_law 360 = .ok (.iadd, 1) := da9_dL_law_356.2.2.2.2.1
theorem dL_law_361 : decode cL_law 361 = .ok (.iaload, 1) := da9_dL_law_356.2.2.2.2.2.1
theorem dL_law_362 : decode cL_law 362 = .ok (.invokevirtual 30, 3) := da9_dL_law_356.2.2.2.2.2.2.1
theorem dL_law_365 : decode cL_law 365 = .ok (.pop, 1) := da9_dL_law_356.2.2.2.2.2.2.2.1
theorem dL_law_366 : decode cL_law 366 = .ok (.aload_n 2, 1) := da9_dL_law_356.2.2.2.2.2.2.2.2.1
theorem dL_law_367 : decode cL_law 367 = .ok (.aload_n 0, 1) := da9_dL_law_356.2.2.2.2.2.2.2.2.2.1
theorem dL_law_368 : decode cL_law 368 = .ok (.iload_n 3, 1) := da9_dL_law_356.2.2.2.2.2.2.2.2.2.2.1
theorem dL_law_369 : decode cL_law 369 = .ok (.iconst 1, 1) := da9_dL_law_356.2.2.2.2.2.2.2.2.2.2.2.1
theorem dL_law_370 : decode cL_law 370 = .ok (.iadd, 1) := da9_dL_law_356.2.2.2.2.2.2.2.2.2.2.2.2.1
theorem dL_law_371 : decode cL_law 371 = .ok (.iaload, 1) := da9_dL_law_356.2.2.2.2.2.2.2.2.2.2.2.2.2.1
theorem dL_law_372 : decode cL_law 372 = .ok (.aload_n 0, 1) := da9_dL_law_356.2.2.2.2.2.2.2.2.2.2.2.2.2.2.1
theorem dL_law_373 : decode cL_law 373 = .ok (.iload_n 3, 1) := da9_dL_law_356.2.2.2.2.2.2.2.2.2.2.2.2.2.2.2
theorem da9_dL_law_374 : (decode cL_law 374 = .ok (.iconst 2, 1)) ∧ (decode cL_law 375 = .ok (.iadd, 1)) ∧ (decode cL_law 376 = .ok (.iaload, 1)) ∧ (decode cL_law 377 = .ok (.aload_n 0, 1)) ∧ (decode cL_law 378 = .ok (.iload_n 3, 1)) ∧ (decode cL_law 379 = .ok (.iconst 3, 1)) ∧ (decode cL_law 380 = .ok (.iadd, 1)) ∧ (decode cL_law 381 = .ok (.iaload, 1)) ∧ (decode cL_law 382 = .ok (.aload_n 0, 1)) ∧ (decode cL_law 383 = .ok (.iload_n 3, 1)) ∧ (decode cL_law 384 = .ok (.iconst 4, 1)) ∧ (decode cL_law 385 = .ok (.iadd, 1)) ∧ (decode cL_law 386 = .ok (.iaload, 1)) ∧ (decode cL_law 387 = .ok (.aload_n 0, 1)) ∧ (decode cL_law 388 = .ok (.iload_n 3, 1)) ∧ (decode cL_law 389 = .ok (.iconst 5, 1)) := by decide +kernel
theorem dL_law_374 : decode cL_law 374 = .ok (.iconst 2, 1) := da9_dL_law_374.1
theorem dL_law_375 : decode cL_law 375 = .ok (.iadd, 1) := da9_dL_law_374.2.1
theorem dL_law_376 : decode cL_law 376 = .ok (.iaload, 1) := da9_dL_law_374.2.2.1
theorem dL_law_377 : decode cL_law 377 = .ok (.aload_n 0, 1) := da9_dL_law_374.2.2.2.1
theorem dL_law_378 : decode cL_law 378 = .ok (.iload_n 3, 1) := da9_dL_law_374.2.2.2.2.1
theorem dL_law_379 : decode cL_law 379 = .ok (.iconst 3, 1) := da9_dL_law_374.2.2.2.2.2.1
theorem dL_law_380 : decode cL_law 380 = .ok (.iadd, 1) := da9_dL_law_374.2.2.2.2.2.2.1
theorem dL_law_381 : decode cL_law 381 = .ok (.iaload, 1) := da9_dL_law_374.2.2.2.2.2.2.2.1
theorem dL_law_382 : decode cL_law 382 = .ok (.aload_n 0, 1) := da9_dL_law_374.2.2.2.2.2.2.2.2.1
theorem dL_law_383 : decode cL_law 383 = .ok (.iload_n 3, 1) := da9_dL_law_374.2.2.2.2.2.2.2.2.2.1
theorem dL_law_384 : decode cL_law 384 = .ok (.iconst 4, 1) := da9_dL_law_374.2.2.2.2.2.2.2.2.2.2.1
theorem dL_law_385 : decode cL_law 385 = .ok (.iadd, 1) := da9_dL_law_374.2.2.2.2.2.2.2.2.2.2.2.1
theorem dL_law_386 : decode cL_law 386 = .ok (.iaload, 1) := da9_dL_law_374.2.2.2.2.2.2.2.2.2.2.2.2.1
theorem dL_law_387 : decode cL_law 387 = .ok (.aload_n 0, 1) := da9_dL_law_374.2.2.2.2.2.2.2.2.2.2.2.2.2.1
theorem dL_law_388 : decode cL_law 388 = .ok (.iload_n 3, 1) := da9_dL_law_374.2.2.2.2.2.2.2.2.2.2.2.2.2.2.1
theorem dL_law_389 : decode cL_law 389 = .ok (.iconst 5, 1) := da9_dL_law_374.2.2.2.2.2.2.2.2.2.2.2.2.2.2.2
theorem da9_dL_law_390 : (decode cL_law 390 = .ok (.iadd, 1)) ∧ (decode cL_law 391 = .ok (.iaload, 1)) ∧ (decode cL_law 392 = .ok (.invokevirtual 34, 3)) ∧ (decode cL_law 395 = .ok (.pop, 1)) ∧ (decode cL_law 396 = .ok (.goto 675, 3)) ∧ (decode cL_law 399 = .ok (.aload_n 1, 1)) ∧ (decode cL_law 400 = .ok (.aload_n 0, 1)) ∧ (decode cL_law 401 = .ok (.iload_n 3, 1)) ∧ (decode cL_law 402 = .ok (.iconst 1, 1)) ∧ (decode cL_law 403 = .ok (.iadd, 1)) ∧ (decode cL_law 404 = .ok (.iaload, 1)) ∧ (decode cL_law 405 = .ok (.invokevirtual 35, 3)) ∧ (decode cL_law 408 = .ok (.pop, 1)) ∧ (decode cL_law 409 = .ok (.aload_n 2, 1)) ∧ (decode cL_law 410 = .ok (.aload_n 0, 1)) ∧ (decode cL_law 411 = .ok (.iload_n 3, 1)) := by decide +kernel
theorem dL_law_390 : decode cL_law 390 = .ok (.iadd, 1) := da9_dL_law_390.1
theorem dL_law_391 : decode cL_law 391 = .ok (.iaload, 1) := da9_dL_law_390.2.1
theorem dL_law_392 : decode cL_law 392 = .ok (.invokevirtual 34, 3) := da9_dL_law_390.2.2.1
theorem dL_law_395 : decode cL_law 395 = .ok (.pop, 1) := da9_dL_law_390.2.2.2.1
theorem dL_law_396 : decode cL_law 396 = .ok (.goto 675, 3) := da9_dL_law_390.2.2.2.2.1
theorem dL_law_399 : decode cL_law 399 = .ok (.aload_n 1, 1) := da9_dL_law_390.2.2.2.2.2.1
theorem dL_law_400 : decode cL_law 400 = .ok (.aload_n 0, 1) := da9_dL_law_390.2.2.2.2.2.2.1
theorem dL_law_401 : decode cL_law 401 = .ok (.iload_n 3, 1) := da9_dL_law_390.2.2.2.2.2.2.2.1
theorem dL_law_402 : decode cL_law 402 = .ok (.iconst 1, 1) := da9_dL_law_390.2.2.2.2.2.2.2.2.1
theorem dL_law_403 : decode cL_law 403 = .ok (.iadd, 1) := da9_dL_law_390.2.2.2.2.2.2.2.2.2.1
theorem dL_law_404 : decode cL_law 404 = .ok (.iaload, 1) := da9_dL_law_390.2.2.2.2.2.2.2.2.2.2.1
theorem dL_law_405 : decode cL_law 405 = .ok (.invokevirtual 35, 3) := da9_dL_law_390.2.2.2.2.2.2.2.2.2.2.2.1
theorem dL_law_408 : decode cL_law 408 = .ok (.pop, 1) := da9_dL_law_390.2.2.2.2.2.2.2.2.2.2.2.2.1
theorem dL_law_409 : decode cL_law 409 = .ok (.aload_n 2, 1) := da9_dL_law_390.2.2.2.2.2.2.2.2.2.2.2.2.2.1
theorem dL_law_410 : decode cL_law 410 = .ok (.aload_n 0, 1) := da9_dL_law_390.2.2.2.2.2.2.2.2.2.2.2.2.2.2.1
theorem dL_law_411 : decode cL_law 411 = .ok (.iload_n 3, 1) := da9_dL_law_390.2.2.2.2.2.2.2.2.2.2.2.2.2.2.2
theorem da9_dL_law_412 : (decode cL_law 412 = .ok (.iconst 1, 1)) ∧ (decode cL_law 413 = .ok (.iadd, 1)) ∧ (decode cL_law 414 = .ok (.iaload, 1)) ∧ (decode cL_law 415 = .ok (.invokevirtual 39, 3)) ∧ (decode cL_law 418 = .ok (.pop, 1)) ∧ (decode cL_law 419 = .ok (.goto 652, 3)) ∧ (decode cL_law 422 = .ok (.aload_n 1, 1)) ∧ (decode cL_law 423 = .ok (.invokevirtual 40, 3)) ∧ (decode cL_law 426 = .ok (.pop, 1)) ∧ (decode cL_law 427 = .ok (.aload_n 2, 1)) ∧ (decode cL_law 428 = .ok (.invokevirtual 44, 3)) ∧ (decode cL_law 431 = .ok (.pop, 1)) ∧ (decode cL_law 432 = .ok (.goto 639, 3)) ∧ (decode cL_law 435 = .ok (.aload_n 1, 1)) ∧ (decode cL_law 436 = .ok (.invokevirtual 45, 3)) ∧ (decode cL_law 439 = .ok (.pop, 1)) := by decide +kernel
theorem dL_law_412 : decode cL_law 412 = .ok (.iconst 1, 1) := da9_dL_law_412.1
theorem dL_law_413 : decode cL_law 413 = .ok (.iadd, 1) := da9_dL_law_412.2.1
theorem dL_law_414 : decode cL_law 414 = .ok (.iaload, 1) := da9_dL_law_412.2.2.1
theorem dL_law_415 : decode cL_law 415 = .ok (.invokevirtual 39, 3) := da9_dL_law_412.2.2.2.1
theorem dL_law_418 : decode cL_law 418 = .ok (.pop, 1) := da9_dL_law_412.2.2.2.2.1
theorem dL_law_419 : decode cL_law 419 = .ok (.goto 652, 3) := da9_dL_law_412.2.2.2.2.2.1
theorem dL_law_422 : decode cL_law 422 = .ok (.aload_n 1, 1) := da9_dL_law_412.2.2.2.2.2.2.1
theorem dL_law_423 : decode cL_law 423 = .ok (.invokevirtual 40, 3) := da9_dL_law_412.2.2.2.2.2.2.2.1
theorem dL_law_426 : decode cL_law 426 = .ok (.pop, 1) := da9_dL_law_412.2.2.2.2.2.2.2.2.1
theorem dL_law_427 : decode cL_law 427 = .ok (.aload_n 2, 1) := da9_dL_law_412.2.2.2.2.2.2.2.2.2.1
theorem dL_law_428 : decode cL_law 428 = .ok (.invokevirtual 44, 3) := da9_dL_law_412.2.2.2.2.2.2.2.2.2.2.1
theorem dL_law_431 : decode cL_law 431 = .ok (.pop, 1) := da9_dL_law_412.2.2.2.2.2.2.2.2.2.2.2.1
theorem dL_law_432 : decode cL_law 432 = .ok (.goto 639, 3) := da9_dL_law_412.2.2.2.2.2.2.2.2.2.2.2.2.1
theorem dL_law_435 : decode cL_law 435 = .ok (.aload_n 1, 1) := da9_dL_law_412.2.2.2.2.2.2.2.2.2.2.2.2.2.1
theorem dL_law_436 : decode cL_law 436 = .ok (.invokevirtual 45, 3) := da9_dL_law_412.2.2.2.2.2.2.2.2.2.2.2.2.2.2.1
theorem dL_law_439 : decode cL_law 439 = .ok (.pop, 1) := da9_dL_law_412.2.2.2.2.2.2.2.2.2.2.2.2.2.2.2
theorem da9_dL_law_440 : (decode cL_law 440 = .ok (.aload_n 2, 1)) ∧ (decode cL_law 441 = .ok (.invokevirtual 48, 3)) ∧ (decode cL_law 444 = .ok (.pop, 1)) ∧ (decode cL_law 445 = .ok (.goto 626, 3)) := by decide +kernel
theorem dL_law_440 : decode cL_law 440 = .ok (.aload_n 2, 1) := da9_dL_law_440.1
theorem dL_law_441 : decode cL_law 441 = .ok (.invokevirtual 48, 3) := da9_dL_law_440.2.1
theorem dL_law_444 : decode cL_law 444 = .ok (.pop, 1) := da9_dL_law_440.2.2.1
theorem dL_law_445 : decode cL_law 445 = .ok (.goto 626, 3) := da9_dL_law_440.2.2.2
