theorem dL_law_204 : decode cL_law 204 = .ok (.aload_n 1, 1) := k43 hC_cL_law rfl
theorem dL_law_205 : decode cL_law 205 = .ok (.aload_n 0, 1) := k42 hC_cL_law rfl
theorem dL_law_206 : decode cL_law 206 = .ok (.iload_n 3, 1) := k29 hC_cL_law rfl
theorem dL_law_207 : decode cL_law 207 = .ok (.iconst 1, 1) := k4 hC_cL_law rfl
theorem dL_law_208 : decode cL_law 208 = .ok (.iadd, 1) := k96 hC_cL_law rfl
theorem dL_law_209 : decode cL_law 209 = .ok (.iaload, 1) := k46 hC_cL_law rfl
theorem dL_law_210 : decode cL_law 210 = .ok (.invokevirtual 13, 3) := k182 (y := 0) (z := 13) hC_cL_law rfl rfl
theorem dL_law_213 : decode cL_law 213 = .ok (.pop, 1) := k87 hC_cL_law rfl
theorem dL_law_214 : decode cL_law 214 = .ok (.aload_n 2, 1) := k44 hC_cL_law rfl
theorem dL_law_215 : decode cL_law 215 = .ok (.aload_n 0, 1) := k42 hC_cL_law rfl
theorem dL_law_216 : decode cL_law 216 = .ok (.iload_n 3, 1) := k29 hC_cL_law rfl
theorem dL_law_217 : decode cL_law 217 = .ok (.iconst 1, 1) := k4 hC_cL_law rfl
theorem dL_law_218 : decode cL_law 218 = .ok (.iadd, 1) := k96 hC_cL_law rfl
theorem dL_law_219 : decode cL_law 219 = .ok (.iaload, 1) := k46 hC_cL_law rfl
theorem dL_law_220 : decode cL_law 220 = .ok (.invokevirtual 17, 3) := k182 (y := 0) (z := 17) hC_cL_law rfl rfl
theorem dL_law_223 : decode cL_law 223 = .ok (.pop, 1) := k87 hC_cL_law rfl
theorem dL_law_224 : decode cL_law 224 = .ok (.goto 1345, 3) := k167 (y := 5) (z := 65) hC_cL_law rfl rfl
theorem dL_law_227 : decode cL_law 227 = .ok (.aload_n 1, 1) := k43 hC_cL_law rfl
theorem dL_law_228 : decode cL_law 228 = .ok (.aload_n 0, 1) := k42 hC_cL_law rfl
theorem dL_law_229 : decode cL_law 229 = .ok (.iload_n 3, 1) := k29 hC_cL_law rfl
theorem dL_law_230 : decode cL_law 230 = .ok (.iconst 1, 1) := k4 hC_cL_law rfl
theorem dL_law_231 : decode cL_law 231 = .ok (.iadd, 1) := k96 hC_cL_law rfl
theorem dL_law_232 : decode cL_law 232 = .ok (.iaload, 1) := k46 hC_cL_law rfl
theorem dL_law_233 : decode cL_law 233 = .ok (.aload_n 0, 1) := k42 hC_cL_law rfl
theorem dL_law_234 : decode cL_law 234 = .ok (.iload_n 3, 1) := k29 hC_cL_law rfl
theorem dL_law_235 : decode cL_law 235 = .ok (.iconst 2, 1) := k5 hC_cL_law rfl
theorem dL_law_236 : decode cL_law 236 = .ok (.iadd, 1) := k96 hC_cL_law rfl
theorem dL_law_237 : decode cL_law 237 = .ok (.iaload, 1) := k46 hC_cL_law rfl
theorem dL_law_238 : decode cL_law 238 = .ok (.aload_n 0, 1) := k42 hC_cL_law rfl
theorem dL_law_239 : decode cL_law 239 = .ok (.iload_n 3, 1) := k29 hC_cL_law rfl
theorem dL_law_240 : decode cL_law 240 = .ok (.iconst 3, 1) := k6 hC_cL_law rfl
theorem dL_law_241 : decode cL_law 241 = .ok (.iadd, 1) := k96 hC_cL_law rfl
theorem dL_law_242 : decode cL_law 242 = .ok (.iaload, 1) := k46 hC_cL_law rfl
theorem dL_law_243 : decode cL_law 243 = .ok (.aload_n 0, 1) := k42 hC_cL_law rfl
theorem dL_law_244 : decode cL_law 244 = .ok (.iload_n 3, 1) := k29 hC_cL_law rfl
theorem dL_law_245 : decode cL_law 245 = .ok (.iconst 4, 1) := k7 hC_cL_law rfl
theorem dL_law_246 : decode cL_law 246 = .ok (.iadd, 1) := k96 hC_cL_law rfl
theorem dL_law_247 : decode cL_law 247 = .ok (.iaload, 1) := k46 hC_cL_law rfl
theorem dL_law_248 : decode cL_law 248 = .ok (.aload_n 0, 1) := k42 hC_cL_law rfl
theorem dL_law_249 : decode cL_law 249 = .ok (.iload_n 3, 1) := k29 hC_cL_law rfl
theorem dL_law_250 : decode cL_law 250 = .ok (.iconst 5, 1) := k8 hC_cL_law rfl
theorem dL_law_251 : decode cL_law 251 = .ok (.iadd, 1) := k96 hC_cL_law rfl
theorem dL_law_252 : decode cL_law 252 = .ok (.iaload, 1) := k46 hC_cL_law rfl
theorem dL_law_253 : decode cL_law 253 = .ok (.invokevirtual 18, 3) := k182 (y := 0) (z := 18) hC_cL_law rfl rfl
theorem dL_law_256 : decode cL_law 256 = .ok (.pop, 1) := k87 hC_cL_law rfl
theorem dL_law_257 : decode cL_law 257 = .ok (.aload_n 2, 1) := k44 hC_cL_law rfl
theorem dL_law_258 : decode cL_law 258 = .ok (.aload_n 0, 1) := k42 hC_cL_law rfl
theorem dL_law_259 : decode cL_law 259 = .ok (.iload_n 3, 1) := k29 hC_cL_law rfl
theorem dL_law_260 : decode cL_law 260 = .ok (.iconst 1, 1) := k4 hC_cL_law rfl
theorem dL_law_261 : decode cL_law 261 = .ok (.iadd, 1) := k96 hC_cL_law rfl
theorem dL_law_262 : decode cL_law 262 = .ok (.iaload, 1) := k46 hC_cL_law rfl
theorem dL_law_263 : decode cL_law 263 = .ok (.aload_n 0, 1) := k42 hC_cL_law rfl
theorem dL_law_264 : decode cL_law 264 = .ok (.iload_n 3, 1) := k29 hC_cL_law rfl
theorem dL_law_265 : decode cL_law 265 = .ok (.iconst 2, 1) := k5 hC_cL_law rfl
theorem dL_law_266 : decode cL_law 266 = .ok (.iadd, 1) := k96 hC_cL_law rfl
theorem dL_law_267 : decode cL_law 267 = .ok (.iaload, 1) := k46 hC_cL_law rfl
theorem dL_law_268 : decode cL_law 268 = .ok (.aload_n 0, 1) := k42 hC_cL_law rfl
theorem dL_law_269 : decode cL_law 269 = .ok (.iload_n 3, 1) := k29 hC_cL_law rfl
theorem dL_law_270 : decode cL_law 270 = .ok (.iconst 3, 1) := k6 hC_cL_law rfl
theorem dL_law_271 : decode cL_law 271 = .ok (.iadd, 1) := k96 hC_cL_law rfl
theorem dL_law_272 : decode cL_law 272 = .ok (.iaload, 1) := k46 hC_cL_law rfl
theorem dL_law_273 : decode cL_law 273 = .ok (.aload_n 0, 1) := k42 hC_cL_law rfl
theorem dL_law_274 : decode cL_law 274 = .ok (.iload_n 3, 1) := k29 hC_cL_law rfl
theorem dL_law_275 : decode cL_law 275 = .ok (.iconst 4, 1) := k7 hC_cL_law rfl
theorem dL_law_276 : decode cL_law 276 = .ok (.iadd, 1) := k96 hC_cL_law rfl
theorem dL_law_277 : decode cL_law 277 = .ok (.iaload, 1) := k46 hC_cL_law rfl
theorem dL_law_278 : decode cL_law 278 = .ok (.aload_n 0, 1) := k42 hC_cL_law rfl
theorem dL_law_279 : decode cL_law 279 = .ok (.iload_n 3, 1) := k29 hC_cL_law rfl
theorem dL_law_280 : decode cL_law 280 = .ok (.iconst 5, 1) := k8 hC_cL_law rfl
theorem dL_law_281 : decode cL_law 281 = .ok (.iadd, 1) := k96 hC_cL_law rfl
theorem dL_law_282 : decode cL_law 282 = .ok (.iaload, 1) := k46 hC_cL_law rfl
theorem dL_law_283 : decode cL_law 283 = .ok (.invokevirtual 22, 3) := k182 (y := 0) (z := 22) hC_cL_law rfl rfl
theorem dL_law_286 : decode cL_law 286 = .ok (.pop, 1) := k87 hC_cL_law rfl
theorem dL_law_287 : decode cL_law 287 = .ok (.goto 1282, 3) := k167 (y := 5) (z := 2) hC_cL_law rfl rfl
theorem dL_law_290 : decode cL_law 290 = .ok (.aload_n 1, 1) := k43 hC_cL_law rfl
theorem dL_law_291 : decode cL_law 291 = .ok (.aload_n 0, 1) := k42 hC_cL_law rfl
theorem dL_law_292 : decode cL_law 292 = .ok (.iload_n 3, 1) := k29 hC_cL_law rfl
theorem dL_law_293 : decode cL_law 293 = .ok (.iconst 1, 1) := k4 hC_cL_law rfl
theorem dL_law_294 : decode cL_law 294 = .ok (.iadd, 1) := k96 hC_cL_law rfl
theorem dL_law_295 : decode cL_law 295 = .ok (.iaload, 1) := k46 hC_cL_law rfl
theorem dL_law_296 : decode cL_law 296 = .ok (.aload_n 0, 1) := k42 hC_cL_law rfl
theorem dL_law_297 : decode cL_law 297 = .ok (.iload_n 3, 1) := k29 hC_cL_law rfl
theorem dL_law_298 : decode cL_law 298 = .ok (.iconst 2, 1) := k5 hC_cL_law rfl
theorem dL_law_299 : decode cL_law 299 = .ok (.iadd, 1) := k96 hC_cL_law rfl
theorem dL_law_300 : decode cL_law 300 = .ok (.iaload, 1) := k46 hC_cL_law rfl
theorem dL_law_301 : decode cL_law 301 = .ok (.invokevirtual 23, 3) := k182 (y := 0) (z := 23) hC_cL_law rfl rfl
theorem dL_law_304 : decode cL_law 304 = .ok (.pop, 1) := k87 hC_cL_law rfl
theorem dL_law_305 : decode cL_law 305 = .ok (.aload_n 2, 1) := k44 hC_cL_law rfl
theorem dL_law_306 : decode cL_law 306 = .ok (.aload_n 0, 1) := k42 hC_cL_law rfl
theorem dL_law_307 : decode cL_law 307 = .ok (.iload_n 3, 1) := k29 hC_cL_law rfl
theorem dL_law_308 : decode cL_law 308 = .ok (.iconst 1, 1) := k4 hC_cL_law rfl
theorem dL_law_309 : decode cL_law 309 = .ok (.iadd, 1) := k96 hC_cL_law rfl
theorem dL_law_310 : decode cL_law 310 = .ok (.iaload, 1) := k46 hC_cL_law rfl
theorem dL_law_311 : decode cL_law 311 = .ok (.aload_n 0, 1) := k42 hC_cL_law rfl
theorem dL_law_312 : decode cL_law 312 = .ok (.iload_n 3, 1) := k29 hC_cL_law rfl
theorem dL_law_313 : decode cL_law 313 = .ok (.iconst 2, 1) := k5 hC_cL_law rfl
theorem dL_law_314 : decode cL_law 314 = .ok (.iadd, 1) := k96 hC_cL_law rfl
theorem dL_law_315 : decode cL_law 315 = .ok (.iaload, 1) := k46 hC_cL_law rfl
theorem dL_law_316 : decode cL_law 316 = .ok (.invokevirtual 27, 3) := k182 (y := 0) (z := 27) hC_cL_law rfl rfl
theorem dL_law_319 : decode cL_law 319 = .ok (.pop, 1) := k87 hC_cL_law rfl
theorem dL_law_320 : decode cL_law 320 = .ok (.goto 1249, 3) := k167 (y := 4) (z := 225) hC_cL_law rfl rfl
theorem dL_law_323 : decode cL_law 323 = .ok (.aload_n 1, 1) := k43 hC_cL_law rfl
theorem dL_law_324 : decode cL_law 324 = .ok (.aload_n 0, 1) := k42 hC_cL_law rfl
theorem dL_law_325 : decode cL_law 325 = .ok (.iload_n 3, 1) := k29 hC_cL_law rfl
theorem dL_law_326 : decode cL_law 326 = .ok (.iconst 1, 1) := k4 hC_cL_law rfl
theorem dL_law_327 : decode cL_law 327 = .ok (.iadd, 1) := k96 hC_cL_law rfl
theorem dL_law_328 : decode cL_law 328 = .ok (.iaload, 1) := k46 hC_cL_law rfl
theorem dL_law_329 : decode cL_law 329 = .ok (.aload_n 0, 1) := k42 hC_cL_law rfl
theorem dL_law_330 : decode cL_law 330 = .ok (.iload_n 3, 1) := k29 hC_cL_law rfl
theorem dL_law_331 : decode cL_law 331 = .ok (.iconst 2, 1) := k5 hC_cL_law rfl
theorem dL_law_332 : decode cL_law 332 = .ok (.iadd, 1) := k96 hC_cL_law rfl
theorem dL_law_333 : decode cL_law 333 = .ok (.iaload, 1) := k46 hC_cL_law rfl
theorem dL_law_334 : decode cL_law 334 = .ok (.aload_n 0, 1) := k42 hC_cL_law rfl
theorem dL_law_335 : decode cL_law 335 = .ok (.iload_n 3, 1) := k29 hC_cL_law rfl
theorem dL_law_336 : decode cL_law 336 = .ok (.iconst 3, 1) := k6 hC_cL_law rfl
theorem dL_law_337 : decode cL_law 337 = .ok (.iadd, 1) := k96 hC_cL_law rfl
theorem dL_law_338 : decode cL_law 338 = .ok (.iaload, 1) := k46 hC_cL_law rfl
theorem dL_law_339 : decode cL_law 339 = .ok (.invokevirtual 28, 3) := k182 (y := 0) (z := 28) hC_cL_law rfl rfl
theorem dL_law_342 : decode cL_law 342 = .ok (.pop, 1) := k87 hC_cL_law rfl
theorem dL_law_343 : decode cL_law 343 = .ok (.aload_n 2, 1) := k44 hC_cL_law rfl
theorem dL_law_344 : decode cL_law 344 = .ok (.aload_n 0, 1) := k42 hC_cL_law rfl
theorem dL_law_345 : decode cL_law 345 = .ok (.iload_n 3, 1) := k29 hC_cL_law rfl
theorem dL_law_346 : decode cL_law 346 = .ok (.iconst 1, 1) := k4 hC_cL_law rfl
theorem dL_law_347 : decode cL_law 347 = .ok (.iadd, 1) := k96 hC_cL_law rfl
theorem dL_law_348 : decode cL_law 348 = .ok (.iaload, 1) := k46 hC_cL_law rfl
theorem dL_law_349 : decode cL_law 349 = .ok (.aload_n 0, 1) := k42 hC_cL_law rfl
theorem dL_law_350 : decode cL_law 350 = .ok (.iload_n 3, 1) := k29 hC_cL_law rfl
theorem dL_law_351 : decode cL_law 351 = .ok (.iconst 2, 1) := k5 hC_cL_law rfl
theorem dL_law_352 : decode cL_law 352 = .ok (.iadd, 1) := k96 hC_cL_law rfl
theorem dL_law_353 : decode cL_law 353 = .ok (.iaload, 1) := k46 hC_cL_law rfl
theorem dL_law_354 : decode cL_law 354 = .ok (.aload_n 0, 1) := k42 hC_cL_law rfl
theorem dL_law_355 : decode cL_law 355 = .ok (.iload_n 3, 1) := k29 hC_cL_law rfl
theorem dL_law_356 : decode cL_law 356 = .ok (.iconst 3, 1) := k6 hC_cL_law rfl
theorem dL_law_357 : decode cL_law 357 = .ok (.iadd, 1) := k96 hC_cL_law rfl
theorem dL_law_358 : decode cL_law 358 = .ok (.iaload, 1) := k46 hC_cL_law rfl
theorem dL_law_359 : decode cL_law 359 = .ok (.invokevirtual 32, 3) := k182 (y := 0) (z := 32) hC_cL_law rfl rfl
theorem dL_law_362 : decode cL_law 362 = .ok (.pop, 1) := k87 hC_cL_law rfl
theorem dL_law_363 : decode cL_law 363 = .ok (.goto 1206, 3) := k167 (y := 4) (z := 182) hC_cL_law rfl rfl
theorem dL_law_366 : decode cL_law 366 = .ok (.aload_n 1, 1) := k43 hC_cL_law rfl
theorem dL_law_367 : decode cL_law 367 = .ok (.aload_n 0, 1) := k42 hC_cL_law rfl
theorem dL_law_368 : decode cL_law 368 = .ok (.iload_n 3, 1) := k29 hC_cL_law rfl
theorem dL_law_369 : decode cL_law 369 = .ok (.iconst 1, 1) := k4 hC_cL_law rfl
theorem dL_law_370 : decode cL_law 370 = .ok (.iadd, 1) := k96 hC_cL_law rfl
theorem dL_law_371 : decode cL_law 371 = .ok (.iaload, 1) := k46 hC_cL_law rfl
theorem dL_law_372 : decode cL_law 372 = .ok (.invokevirtual 33, 3) := k182 (y := 0) (z := 33) hC_cL_law rfl rfl
theorem dL_law_375 : decode cL_law 375 = .ok (.pop, 1) := k87 hC_cL_law rfl
theorem dL_law_376 : decode cL_law 376 = .ok (.aload_n 2, 1) := k44 hC_cL_law rfl
theorem dL_law_377 : decode cL_law 377 = .ok (.aload_n 0, 1) := k42 hC_cL_law rfl
theorem dL_law_378 : decode cL_law 378 = .ok (.iload_n 3, 1) := k29 hC_cL_law rfl
theorem dL_law_379 : decode cL_law 379 = .ok (.iconst 1, 1) := k4 hC_cL_law rfl
theorem dL_law_380 : decode cL_law 380 = .ok (.iadd, 1) := k96 hC_cL_law rfl
theorem dL_law_381 : decode cL_law 381 = .ok (.iaload, 1) := k46 hC_cL_law rfl
theorem dL_law_382 : decode cL_law 382 = .ok (.invokevirtual 37, 3) := k182 (y := 0) (z := 37) hC_cL_law rfl rfl
theorem dL_law_385 : decode cL_law 385 = .ok (.pop, 1) := k87 hC_cL_law rfl
theorem dL_law_386 : decode cL_law 386 = .ok (.goto 1183, 3) := k167 (y := 4) (z := 159) hC_cL_law rfl rfl
theorem dL_law_389 : decode cL_law 389 = .ok (.aload_n 1, 1) := k43 hC_cL_law rfl
theorem dL_law_390 : decode cL_law 390 = .ok (.aload_n 0, 1) := k42 hC_cL_law rfl
theorem dL_law_391 : decode cL_law 391 = .ok (.iload_n 3, 1) := k29 hC_cL_law rfl
theorem dL_law_392 : decode cL_law 392 = .ok (.iconst 1, 1) := k4 hC_cL_law rfl
theorem dL_law_393 : decode cL_law 393 = .ok (.iadd, 1) := k96 hC_cL_law rfl
theorem dL_law_394 : decode cL_law 394 = .ok (.iaload, 1) := k46 hC_cL_law rfl
theorem dL_law_395 : decode cL_law 395 = .ok (.aload_n 0, 1) := k42 hC_cL_law rfl
theorem dL_law_396 : decode cL_law 396 = .ok (.iload_n 3, 1) := k29 hC_cL_law rfl
theorem dL_law_397 : decode cL_law 397 = .ok (.iconst 2, 1) := k5 hC_cL_law rfl
theorem dL_law_398 : decode cL_law 398 = .ok (.iadd, 1) := k96 hC_cL_law rfl
theorem dL_law_399 : decode cL_law 399 = .ok (.iaload, 1) := k46 hC_cL_law rfl
theorem dL_law_400 : decode cL_law 400 = .ok (.aload_n 0, 1) := k42 hC_cL_law rfl
theorem dL_law_401 : decode cL_law 401 = .ok (.iload_n 3, 1) := k29 hC_cL_law rfl
theorem dL_law_402 : decode cL_law 402 = .ok (.iconst 3, 1) := k6 hC_cL_law rfl
theorem dL_law_403 : decode cL_law 403 = .ok (.iadd, 1) := k96 hC_cL_law rfl
theorem dL_law_404 : decode cL_law 404 = .ok (.iaload, 1) := k46 hC_cL_law rfl
theorem dL_law_405 : decode cL_law 405 = .ok (.invokevirtual 38, 3) := k182 (y := 0) (z := 38) hC_cL_law rfl rfl
theorem dL_law_408 : decode cL_law 408 = .ok (.pop, 1) := k87 hC_cL_law rfl
theorem dL_law_409 : decode cL_law 409 = .ok (.aload_n 2, 1) := k44 hC_cL_law rfl
theorem dL_law_410 : decode cL_law 410 = .ok (.aload_n 0, 1) := k42 hC_cL_law rfl
theorem dL_law_411 : decode cL_law 411 = .ok (.iload_n 3, 1) := k29 hC_cL_law rfl
theorem dL_law_412 : decode cL_law 412 = .ok (.iconst 1, 1) := k4 hC_cL_law rfl
theorem dL_law_413 : decode cL_law 413 = .ok (.iadd, 1) := k96 hC_cL_law rfl
theorem dL_law_414 : decode cL_law 414 = .ok (.iaload, 1) := k46 hC_cL_law rfl
theorem dL_law_415 : decode cL_law 415 = .ok (.aload_n 0, 1) := k42 hC_cL_law rfl
theorem dL_law_416 : decode cL_law 416 = .ok (.iload_n 3, 1) := k29 hC_cL_law rfl
theorem dL_law_417 : decode cL_law 417 = .ok (.iconst 2, 1) := k5 hC_cL_law rfl
theorem dL_law_418 : decode cL_law 418 = .ok (.iadd, 1) := k96 hC_cL_law rfl
theorem dL_law_419 : decode cL_law 419 = .ok (.iaload, 1) := k46 hC_cL_law rfl
theorem dL_law_420 : decode cL_law 420 = .ok (.aload_n 0, 1) := k42 hC_cL_law rfl
theorem dL_law_421 : decode cL_law 421 = .ok (.iload_n 3, 1) := k29 hC_cL_law rfl
theorem dL_law_422 : decode cL_law 422 = .ok (.iconst 3, 1) := k6 hC_cL_law rfl
theorem dL_law_423 : decode cL_law 423 = .ok (.iadd, 1) := k96 hC_cL_law rfl
theorem dL_law_424 : decode cL_law 424 = .ok (.iaload, 1) := k46 hC_cL_law rfl
theorem dL_law_425 : decode cL_law 425 = .ok (.invokevirtual 41, 3) := k182 (y := 0) (z := 41) hC_cL_law rfl rfl
theorem dL_law_428 : decode cL_law 428 = .ok (.pop, 1) := k87 hC_cL_law rfl
theorem dL_law_429 : decode cL_law 429 = .ok (.goto 1140, 3) := k167 (y := 4) (z := 116) hC_cL_law rfl rfl
theorem dL_law_432 : decode cL_law 432 = .ok (.aload_n 1, 1) := k43 hC_cL_law rfl
theorem dL_law_433 : decode cL_law 433 = .ok (.aload_n 0, 1) := k42 hC_cL_law rfl
theorem dL_law_434 : decode cL_law 434 = .ok (.iload_n 3, 1) := k29 hC_cL_law rfl
theorem dL_law_435 : decode cL_law 435 = .ok (.iconst 1, 1) := k4 hC_cL_law rfl
theorem dL_law_436 : decode cL_law 436 = .ok (.iadd, 1) := k96 hC_cL_law rfl
theorem dL_law_437 : decode cL_law 437 = .ok (.iaload, 1) := k46 hC_cL_law rfl
theorem dL_law_438 : decode cL_law 438 = .ok (.invokevirtual 42, 3) := k182 (y := 0) (z := 42) hC_cL_law rfl rfl
theorem dL_law_441 : decode cL_law 441 = .ok (.pop, 1) := k87 hC_cL_law rfl
theorem dL_law_442 : decode cL_law 442 = .ok (.aload_n 2, 1) := k44 hC_cL_law rfl
theorem dL_law_443 : decode cL_law 443 = .ok (.aload_n 0, 1) := k42 hC_cL_law rfl
theorem dL_law_444 : decode cL_law 444 = .ok (.iload_n 3, 1) := k29 hC_cL_law rfl
theorem dL_law_445 : decode cL_law 445 = .ok (.iconst 1, 1) := k4 hC_cL_law rfl
theorem dL_law_446 : decode cL_law 446 = .ok (.iadd, 1) := k96 hC_cL_law rfl
theorem dL_law_447 : decode cL_law 447 = .ok (.iaload, 1) := k46 hC_cL_law rfl
theorem dL_law_448 : decode cL_law 448 = .ok (.invokevirtual 45, 3) := k182 (y := 0) (z := 45) hC_cL_law rfl rfl
theorem dL_law_451 : decode cL_law 451 = .ok (.pop, 1) := k87 hC_cL_law rfl
theorem dL_law_452 : decode cL_law 452 = .ok (.goto 1117, 3) := k167 (y := 4) (z := 93) hC_cL_law rfl rfl
theorem dL_law_455 : decode cL_law 455 = .ok (.aload_n 1, 1) := k43 hC_cL_law rfl
theorem dL_law_456 : decode cL_law 456 = .ok (.aload_n 0, 1) := k42 hC_cL_law rfl
theorem dL_law_457 : decode cL_law 457 = .ok (.iload_n 3, 1) := k29 hC_cL_law rfl
theorem dL_law_458 : decode cL_law 458 = .ok (.iconst 1, 1) := k4 hC_cL_law rfl
theorem dL_law_459 : decode cL_law 459 = .ok (.iadd, 1) := k96 hC_cL_law rfl
theorem dL_law_460 : decode cL_law 460 = .ok (.iaload, 1) := k46 hC_cL_law rfl
theorem dL_law_461 : decode cL_law 461 = .ok (.aload_n 0, 1) := k42 hC_cL_law rfl
theorem dL_law_462 : decode cL_law 462 = .ok (.iload_n 3, 1) := k29 hC_cL_law rfl
theorem dL_law_463 : decode cL_law 463 = .ok (.iconst 2, 1) := k5 hC_cL_law rfl
theorem dL_law_464 : decode cL_law 464 = .ok (.iadd, 1) := k96 hC_cL_law rfl
theorem dL_law_465 : decode cL_law 465 = .ok (.iaload, 1) := k46 hC_cL_law rfl
theorem dL_law_466 : decode cL_law 466 = .ok (.invokevirtual 46, 3) := k182 (y := 0) (z := 46) hC_cL_law rfl rfl
theorem dL_law_469 : decode cL_law 469 = .ok (.pop, 1) := k87 hC_cL_law rfl
theorem dL_law_470 : decode cL_law 470 = .ok (.aload_n 2, 1) := k44 hC_cL_law rfl
theorem dL_law_471 : decode cL_law 471 = .ok (.aload_n 0, 1) := k42 hC_cL_law rfl
theorem dL_law_472 : decode cL_law 472 = .ok (.iload_n 3, 1) := k29 hC_cL_law rfl
theorem dL_law_473 : decode cL_law 473 = .ok (.iconst 1, 1) := k4 hC_cL_law rfl
theorem dL_law_474 : decode cL_law 474 = .ok (.iadd, 1) := k96 hC_cL_law rfl
theorem dL_law_475 : decode cL_law 475 = .ok (.iaload, 1) := k46 hC_cL_law rfl
theorem dL_law_476 : decode cL_law 476 = .ok (.aload_n 0, 1) := k42 hC_cL_law rfl
theorem dL_law_477 : decode cL_law 477 = .ok (.iload_n 3, 1) := k29 hC_cL_law rfl
theorem dL_law_478 : decode cL_law 478 = .ok (.iconst 2, 1) := k5 hC_cL_law rfl
theorem dL_law_479 : decode cL_law 479 = .ok (.iadd, 1) := k96 hC_cL_law rfl
theorem dL_law_480 : decode cL_law 480 = .ok (.iaload, 1) := k46 hC_cL_law rfl
theorem dL_law_481 : decode cL_law 481 = .ok (.invokevirtual 49, 3) := k182 (y := 0) (z := 49) hC_cL_law rfl rfl
theorem dL_law_484 : decode cL_law 484 = .ok (.pop, 1) := k87 hC_cL_law rfl
theorem dL_law_485 : decode cL_law 485 = .ok (.goto 1084, 3) := k167 (y := 4) (z := 60) hC_cL_law rfl rfl
theorem dL_law_488 : decode cL_law 488 = .ok (.aload_n 1, 1) := k43 hC_cL_law rfl
theorem dL_law_489 : decode cL_law 489 = .ok (.aload_n 0, 1) := k42 hC_cL_law rfl
theorem dL_law_490 : decode cL_law 490 = .ok (.iload_n 3, 1) := k29 hC_cL_law rfl
theorem dL_law_491 : decode cL_law 491 = .ok (.iconst 1, 1) := k4 hC_cL_law rfl
theorem dL_law_492 : decode cL_law 492 = .ok (.iadd, 1) := k96 hC_cL_law rfl
theorem dL_law_493 : decode cL_law 493 = .ok (.iaload, 1) := k46 hC_cL_law rfl
theorem dL_law_494 : decode cL_law 494 = .ok (.invokevirtual 50, 3) := k182 (y := 0) (z := 50) hC_cL_law rfl rfl
theorem dL_law_497 : decode cL_law 497 = .ok (.pop, 1) := k87 hC_cL_law rfl
theorem dL_law_498 : decode cL_law 498 = .ok (.aload_n 2, 1) := k44 hC_cL_law rfl
theorem dL_law_499 : decode cL_law 499 = .ok (.aload_n 0, 1) := k42 hC_cL_law rfl
theorem dL_law_500 : decode cL_law 500 = .ok (.iload_n 3, 1) := k29 hC_cL_law rfl
theorem dL_law_501 : decode cL_law 501 = .ok (.iconst 1, 1) := k4 hC_cL_law rfl
theorem dL_law_502 : decode cL_law 502 = .ok (.iadd, 1) := k96 hC_cL_law rfl
theorem dL_law_503 : decode cL_law 503 = .ok (.iaload, 1) := k46 hC_cL_law rfl
theorem dL_law_504 : decode cL_law 504 = .ok (.invokevirtual 53, 3) := k182 (y := 0) (z := 53) hC_cL_law rfl rfl
theorem dL_law_507 : decode cL_law 507 = .ok (.pop, 1) := k87 hC_cL_law rfl
theorem dL_law_508 : decode cL_law 508 = .ok (.goto 1061, 3) := k167 (y := 4) (z := 37) hC_cL_law rfl rfl
theorem dL_law_511 : decode cL_law 511 = .ok (.aload_n 1, 1) := k43 hC_cL_law rfl
theorem dL_law_512 : decode cL_law 512 = .ok (.aload_n 0, 1) := k42 hC_cL_law rfl
theorem dL_law_513 : decode cL_law 513 = .ok (.iload_n 3, 1) := k29 hC_cL_law rfl
theorem dL_law_514 : decode cL_law 514 = .ok (.iconst 1, 1) := k4 hC_cL_law rfl
theorem dL_law_515 : decode cL_law 515 = .ok (.iadd, 1) := k96 hC_cL_law rfl
theorem dL_law_516 : decode cL_law 516 = .ok (.iaload, 1) := k46 hC_cL_law rfl
theorem dL_law_517 : decode cL_law 517 = .ok (.aload_n 0, 1) := k42 hC_cL_law rfl
theorem dL_law_518 : decode cL_law 518 = .ok (.iload_n 3, 1) := k29 hC_cL_law rfl
theorem dL_law_519 : decode cL_law 519 = .ok (.iconst 2, 1) := k5 hC_cL_law rfl
theorem dL_law_520 : decode cL_law 520 = .ok (.iadd, 1) := k96 hC_cL_law rfl
theorem dL_law_521 : decode cL_law 521 = .ok (.iaload, 1) := k46 hC_cL_law rfl
theorem dL_law_522 : decode cL_law 522 = .ok (.ifCond .eq 7, 3) := k153 (y := 0) (z := 7) hC_cL_law rfl rfl
theorem dL_law_525 : decode cL_law 525 = .ok (.iconst 1, 1) := k4 hC_cL_law rfl
theorem dL_law_526 : decode cL_law 526 = .ok (.goto 4, 3) := k167 (y := 0) (z := 4) hC_cL_law rfl rfl
theorem dL_law_529 : decode cL_law 529 = .ok (.iconst 0, 1) := k3 hC_cL_law rfl
theorem dL_law_530 : decode cL_law 530 = .ok (.invokevirtual 54, 3) := k182 (y := 0) (z := 54) hC_cL_law rfl rfl
theorem dL_law_533 : decode cL_law 533 = .ok (.pop, 1) := k87 hC_cL_law rfl
theorem dL_law_534 : decode cL_law 534 = .ok (.aload_n 2, 1) := k44 hC_cL_law rfl
theorem dL_law_535 : decode cL_law 535 = .ok (.aload_n 0, 1) := k42 hC_cL_law rfl
theorem dL_law_536 : decode cL_law 536 = .ok (.iload_n 3, 1) := k29 hC_cL_law rfl
theorem dL_law_537 : decode cL_law 537 = .ok (.iconst 1, 1) := k4 hC_cL_law rfl
theorem dL_law_538 : decode cL_law 538 = .ok (.iadd, 1) := k96 hC_cL_law rfl
theorem dL_law_539 : decode cL_law 539 = .ok (.iaload, 1) := k46 hC_cL_law rfl
theorem dL_law_540 : decode cL_law 540 = .ok (.aload_n 0, 1) := k42 hC_cL_law rfl
theorem dL_law_541 : decode cL_law 541 = .ok (.iload_n 3, 1) := k29 hC_cL_law rfl
theorem dL_law_542 : decode cL_law 542 = .ok (.iconst 2, 1) := k5 hC_cL_law rfl
theorem dL_law_543 : decode cL_law 543 = .ok (.iadd, 1) := k96 hC_cL_law rfl
theorem dL_law_544 : decode cL_law 544 = .ok (.iaload, 1) := k46 hC_cL_law rfl
theorem dL_law_545 : decode cL_law 545 = .ok (.ifCond .eq 7, 3) := k153 (y := 0) (z := 7) hC_cL_law rfl rfl
theorem dL_law_548 : decode cL_law 548 = .ok (.iconst 1, 1) := k4 hC_cL_law rfl
theorem dL_law_549 : decode cL_law 549 = .ok (.goto 4, 3) := k167 (y := 0) (z := 4) hC_cL_law rfl rfl
theorem dL_law_552 : decode cL_law 552 = .ok (.iconst 0, 1) := k3 hC_cL_law rfl
theorem dL_law_553 : decode cL_law 553 = .ok (.invokevirtual 58, 3) := k182 (y := 0) (z := 58) hC_cL_law rfl rfl
theorem dL_law_556 : decode cL_law 556 = .ok (.pop, 1) := k87 hC_cL_law rfl
theorem dL_law_557 : decode cL_law 557 = .ok (.goto 1012, 3) := k167 (y := 3) (z := 244) hC_cL_law rfl rfl
set_option maxHeartbeats 4000000 in
set_option maxRecDepth 100000 in
theorem law_case_0 {p : Program} {l : Launch} {e : Env} {s : State} {m : MethodId} {below : List Frame} {meth : Method} {c : Code} {b : Nat} {xs : Nat → Int32} {L : Nat} (C0 : lw_At p s m meth c b L xs) {D : va_G} {ct : Nat → ClassId} {tN : Nat} (E : Ev p s m #[Value.ref b] c R_law 4 code D (TY ct) tN (fun q : Nat => s.heap.size ≤ q)) {ad am : Nat → Nat} {n : Nat} {H : Heap} {locs : List Loc} {cells slots : Nat} (hS : va_S (fun q : Nat => s.heap.size ≤ q) s.heap H locs) (h : LI D (fun q : Nat => s.heap.size ≤ q) ct ad am tN n H) {ls : Array Slot} {i : Int32} (hl : lv_has ls 4 [(3, .int i), (2, .ref (am 0)), (1, .ref (ad 0)), (0, .ref b)]) (hi0 : 0 ≤ i.toInt) (hi1 : i.toInt + 5 < (L : Int)) (hLb : (L : Int) ≤ 3072) (hin : i.toInt = 6 * (n : Int)) (hcl : cells + 8 ≤ 600000) (hsl : slots + 160 ≤ 7302250) (kk : ∀ (H1 : Heap) (locs1 : List Loc) (ls1 : Array Slot), LI D (fun q : Nat => s.heap.size ≤ q) ct ad am tN (n + 1) H1 → va_S (fun q : Nat => s.heap.size ≤ q) s.heap H1 locs1 → lv_has ls1 4 [(3, .int i), (2, .ref (am 0)), (1, .ref (ad 0)), (0, .ref b)] → W p l e room_1 s m #[Value.ref b] below meth c H1 locs1 (cells + 8) (slots + 160) (lw_Z below #[Value.ref b] s) (F0 m 1569 ls1 [])) : W p l e room_1 s m #[Value.ref b] below meth c H locs cells slots (lw_Z below #[Value.ref b] s) (F0 m 204 ls []) := by
  obtain ⟨hx, hb, hr0, hml, hown, hts, hX, hbl, hlocks, hgv⟩ := id C0
  refine h _ (fun i0 i1 i2 i3 i4 i5 i6 i7 i8 i9 i10 i11 i12 i13 i14 i15 i16 i17 i18 i19 i20 i21 i22 i23 i24 i25 i26 i27 i28 i29 i30 i31 i32 i33 i34 i35 a1 a2 a4 a5 a7 a8 a10 a11 a13 a14 a15 a18 a19 a20 a21 a22 a23 a24 a25 a26 a29 a30 a31 a32 a43 a44 a45 a51 a52 a53 a54 a55 l46 r9n r9c og ogn ogc rtn rtc ptn ptc p0 p1 Pl j0 j1 j2 j3 j4 j5 j6 j7 j8 j9 j10 j11 j12 j13 j14 j15 j16 j17 j18 j19 j20 j21 j22 j23 j24 j25 j26 j27 j28 j29 b1 b2 b3 b4 b5 b6 b7 b8 b9 b10 b11 b12 b13 b14 b15 b16 b17 b18 b19 b20 b21 b22 b23 b24 b25 b26 b27 b28 b29 b30 b31 b32 b33 b34 b35 b36 b37 b38 b39 b40 b41 b42 b43 b44 b45 b46 b47 b48 b49 b50 b51 b52 b53 b55 b56 b57 b58 b61 b62 b63 b64 b65 b66 iam B hM hr hp hk hcn hxR1 => ?_)
  obtain ⟨hr1, hr2, hr3, hr4, hr5⟩ := id hr
  refine lv_aload_n hx hb dL_law_204 rfl (lv_at hl 2 rfl) ?_
  refine law_arg (kv := 1) C0 E hS hl (by decide) (by decide) (by omega) (by omega) (by omega) dL_law_205 dL_law_206 dL_law_207 dL_law_208 dL_law_209 ?_
  refine at_pc (n := 210) rfl ?_
  obtain ⟨_, Rz⟩ := B.rec0
  refine hc_VI (kn := 1) E hS B (x11_now l D tN (fun q : Nat => s.heap.size ≤ q) ((xs (i.toInt + 1).toNat))) (good_V w_7c1ee466 w_fed1d1c9 w_27f4aed0 w_93c426f0 w_d8755df9) Rz rfl ⟨rfl, by decide +kernel⟩ rfl rfl rfl ⟨Nat.le_of_ble_eq_true rfl, Nat.le_of_ble_eq_true rfl⟩ rfl hl (Nat.le_of_ble_eq_true rfl) dL_law_210 ⟨by show _ ≤ 600000; omega, by show _ ≤ 7302250; omega⟩ (fun v_1 H locs w_2 hS => ?_)
  have B0 := B
  obtain ⟨ni1_3, hv_4, ex_5, ex_6, B⟩ := w_2
  refine at_n (n := 213) (k1 := cells + 0) (k2 := slots + 0) rfl rfl rfl ?_
  refine lv_pop hx hb dL_law_213 rfl ?_
  refine lv_aload_n hx hb dL_law_214 rfl (lv_at hl 1 rfl) ?_
  refine law_arg (kv := 1) C0 E hS hl (by decide) (by decide) (by omega) (by omega) (by omega) dL_law_215 dL_law_216 dL_law_217 dL_law_218 dL_law_219 ?_
  refine at_pc (n := 220) rfl ?_
  obtain ⟨Rw, B, back⟩ := toM B hM
  obtain ⟨_, Rz⟩ := B.rec
  refine hc_VI (kn := 1) E hS B (m12_now l D tN (fun q : Nat => s.heap.size ≤ q) ((xs (i.toInt + 1).toNat))) (good_V w_ac5a251d w_0abcbf9e w_654dca64 w_2e12d08c w_4ab3d4c1) Rz rfl ⟨rfl, by decide +kernel⟩ rfl rfl rfl ⟨Nat.le_of_ble_eq_true rfl, Nat.le_of_ble_eq_true rfl⟩ rfl hl (Nat.le_of_ble_eq_true rfl) dL_law_220 ⟨by show _ ≤ 600000; omega, by show _ ≤ 7302250; omega⟩ (fun v_7 H locs w_8 hS => ?_)
  obtain ⟨ni1_9, hv_10, ex_11, ex_12, B⟩ := w_8
  obtain ⟨_, B, hM⟩ := back B
  obtain ⟨hq_13, hx_14⟩ := R1_now hxR1 ex_5 ex_6 ex_11 ex_12
  refine at_n (n := 223) (k1 := cells + 0) (k2 := slots + 0) rfl rfl rfl ?_
  refine lv_pop hx hb dL_law_223 rfl ?_
  refine lv_goto (tgt := 1569) hx hb dL_law_224 (by decide) ?_
  refine W.widen (k := cells + 8) (n := slots + 160) (by omega) (by omega) ?_
  refine kk _ _ _ (LI.mk B hM ⟨by omega, by omega, by omega, by omega, by omega⟩ hp hk (by omega) hx_14) hS hl
set_option maxHeartbeats 4000000 in
set_option maxRecDepth 100000 in
theorem law_case_1 {p : Program} {l : Launch} {e : Env} {s : State} {m : MethodId} {below : List Frame} {meth : Method} {c : Code} {b : Nat} {xs : Nat → Int32} {L : Nat} (C0 : lw_At p s m meth c b L xs) {D : va_G} {ct : Nat → ClassId} {tN : Nat} (E : Ev p s m #[Value.ref b] c R_law 4 code D (TY ct) tN (fun q : Nat => s.heap.size ≤ q)) {ad am : Nat → Nat} {n : Nat} {H : Heap} {locs : List Loc} {cells slots : Nat} (hS : va_S (fun q : Nat => s.heap.size ≤ q) s.heap H locs) (h : LI D (fun q : Nat => s.heap.size ≤ q) ct ad am tN n H) {ls : Array Slot} {i : Int32} (hl : lv_has ls 4 [(3, .int i), (2, .ref (am 0)), (1, .ref (ad 0)), (0, .ref b)]) (hi0 : 0 ≤ i.toInt) (hi1 : i.toInt + 5 < (L : Int)) (hLb : (L : Int) ≤ 3072) (hin : i.toInt = 6 * (n : Int)) (hcl : cells + 8 ≤ 600000) (hsl : slots + 160 ≤ 7302250) (kk : ∀ (H1 : Heap) (locs1 : List Loc) (ls1 : Array Slot), LI D (fun q : Nat => s.heap.size ≤ q) ct ad am tN (n + 1) H1 → va_S (fun q : Nat => s.heap.size ≤ q) s.heap H1 locs1 → lv_has ls1 4 [(3, .int i), (2, .ref (am 0)), (1, .ref (ad 0)), (0, .ref b)] → W p l e room_1 s m #[Value.ref b] below meth c H1 locs1 (cells + 8) (slots + 160) (lw_Z below #[Value.ref b] s) (F0 m 1569 ls1 [])) : W p l e room_1 s m #[Value.ref b] below meth c H locs cells slots (lw_Z below #[Value.ref b] s) (F0 m 227 ls []) := by
  obtain ⟨hx, hb, hr0, hml, hown, hts, hX, hbl, hlocks, hgv⟩ := id C0
  refine h _ (fun i0 i1 i2 i3 i4 i5 i6 i7 i8 i9 i10 i11 i12 i13 i14 i15 i16 i17 i18 i19 i20 i21 i22 i23 i24 i25 i26 i27 i28 i29 i30 i31 i32 i33 i34 i35 a1 a2 a4 a5 a7 a8 a10 a11 a13 a14 a15 a18 a19 a20 a21 a22 a23 a24 a25 a26 a29 a30 a31 a32 a43 a44 a45 a51 a52 a53 a54 a55 l46 r9n r9c og ogn ogc rtn rtc ptn ptc p0 p1 Pl j0 j1 j2 j3 j4 j5 j6 j7 j8 j9 j10 j11 j12 j13 j14 j15 j16 j17 j18 j19 j20 j21 j22 j23 j24 j25 j26 j27 j28 j29 b1 b2 b3 b4 b5 b6 b7 b8 b9 b10 b11 b12 b13 b14 b15 b16 b17 b18 b19 b20 b21 b22 b23 b24 b25 b26 b27 b28 b29 b30 b31 b32 b33 b34 b35 b36 b37 b38 b39 b40 b41 b42 b43 b44 b45 b46 b47 b48 b49 b50 b51 b52 b53 b55 b56 b57 b58 b61 b62 b63 b64 b65 b66 iam B hM hr hp hk hcn hxR1 => ?_)
  refine lv_aload_n hx hb dL_law_227 rfl (lv_at hl 2 rfl) ?_
  refine law_arg (kv := 1) C0 E hS hl (by decide) (by decide) (by omega) (by omega) (by omega) dL_law_228 dL_law_229 dL_law_230 dL_law_231 dL_law_232 ?_
  refine at_pc (n := 233) rfl ?_
  refine law_arg (kv := 2) C0 E hS hl (by decide) (by decide) (by omega) (by omega) (by omega) dL_law_233 dL_law_234 dL_law_235 dL_law_236 dL_law_237 ?_
  refine at_pc (n := 238) rfl ?_
  refine law_arg (kv := 3) C0 E hS hl (by decide) (by decide) (by omega) (by omega) (by omega) dL_law_238 dL_law_239 dL_law_240 dL_law_241 dL_law_242 ?_
  refine at_pc (n := 243) rfl ?_
  refine law_arg (kv := 4) C0 E hS hl (by decide) (by decide) (by omega) (by omega) (by omega) dL_law_243 dL_law_244 dL_law_245 dL_law_246 dL_law_247 ?_
  refine at_pc (n := 248) rfl ?_
  refine law_arg (kv := 5) C0 E hS hl (by decide) (by decide) (by omega) (by omega) (by omega) dL_law_248 dL_law_249 dL_law_250 dL_law_251 dL_law_252 ?_
  refine at_pc (n := 253) rfl ?_
  obtain ⟨_, Rz⟩ := B.rec0
  refine hc_VI (kn := 5) E hS B (x11_feed l D tN (fun q : Nat => s.heap.size ≤ q) ((xs (i.toInt + 1).toNat)) ((xs (i.toInt + 2).toNat)) ((xs (i.toInt + 3).toNat)) ((xs (i.toInt + 4).toNat)) ((xs (i.toInt + 5).toNat))) (good_V w_19f22ba8 w_6bda4739 w_dfa839cb w_93c426f0 w_2e86ea73) Rz rfl ⟨rfl, by decide +kernel⟩ rfl rfl rfl ⟨Nat.le_of_ble_eq_true rfl, Nat.le_of_ble_eq_true rfl⟩ rfl hl (Nat.le_of_ble_eq_true rfl) dL_law_253 ⟨by show _ ≤ 600000; omega, by show _ ≤ 7302250; omega⟩ (fun v_1 H locs w_2 hS => ?_)
  have B0 := B
  obtain ⟨ni0_3, na1_4, hv_5, ex_6, ex_7, ex_8, B⟩ := w_2
  refine at_n (n := 256) (k1 := cells + 0) (k2 := slots + 0) rfl rfl rfl ?_
  refine lv_pop hx hb dL_law_256 rfl ?_
  refine lv_aload_n hx hb dL_law_257 rfl (lv_at hl 1 rfl) ?_
  refine law_arg (kv := 1) C0 E hS hl (by decide) (by decide) (by omega) (by omega) (by omega) dL_law_258 dL_law_259 dL_law_260 dL_law_261 dL_law_262 ?_
  refine at_pc (n := 263) rfl ?_
  refine law_arg (kv := 2) C0 E hS hl (by decide) (by decide) (by omega) (by omega) (by omega) dL_law_263 dL_law_264 dL_law_265 dL_law_266 dL_law_267 ?_
  refine at_pc (n := 268) rfl ?_
  refine law_arg (kv := 3) C0 E hS hl (by decide) (by decide) (by omega) (by omega) (by omega) dL_law_268 dL_law_269 dL_law_270 dL_law_271 dL_law_272 ?_
  refine at_pc (n := 273) rfl ?_
  refine law_arg (kv := 4) C0 E hS hl (by decide) (by decide) (by omega) (by omega) (by omega) dL_law_273 dL_law_274 dL_law_275 dL_law_276 dL_law_277 ?_
  refine at_pc (n := 278) rfl ?_
  refine law_arg (kv := 5) C0 E hS hl (by decide) (by decide) (by omega) (by omega) (by omega) dL_law_278 dL_law_279 dL_law_280 dL_law_281 dL_law_282 ?_
  refine at_pc (n := 283) rfl ?_
  obtain ⟨Rw, B, back⟩ := toM B hM
  obtain ⟨_, Rz⟩ := B.rec
  refine hc_VI (kn := 5) E hS B (m12_feed l D tN (fun q : Nat => s.heap.size ≤ q) ((xs (i.toInt + 1).toNat)) ((xs (i.toInt + 2).toNat)) ((xs (i.toInt + 3).toNat)) ((xs (i.toInt + 4).toNat)) ((xs (i.toInt + 5).toNat))) (good_V w_836a4a91 w_eebcd7a9 w_91d32a40 w_2e12d08c w_27908d2c) Rz rfl ⟨rfl, by decide +kernel⟩ rfl rfl rfl ⟨Nat.le_of_ble_eq_true rfl, Nat.le_of_ble_eq_true rfl⟩ rfl hl (Nat.le_of_ble_eq_true rfl) dL_law_283 ⟨by show _ ≤ 600000; omega, by show _ ≤ 7302250; omega⟩ (fun v_9 H locs w_10 hS => ?_)
  obtain ⟨ni0_11, na1_12, hv_13, ex_14, ex_15, ex_16, B⟩ := w_10
  obtain ⟨_, B, hM⟩ := back B
  obtain ⟨hq_17, hx_18⟩ := R1_feed hxR1 ex_6 ex_7 ex_8 ex_14 ex_15 ex_16
  refine at_n (n := 286) (k1 := cells + 0) (k2 := slots + 0) rfl rfl rfl ?_
  refine lv_pop hx hb dL_law_286 rfl ?_
  refine lv_goto (tgt := 1569) hx hb dL_law_287 (by decide) ?_
  refine W.widen (k := cells + 8) (n := slots + 160) (by omega) (by omega) ?_
  refine kk _ _ _ (LI.mk B hM hr hp hk (by omega) hx_18) hS hl
set_option maxHeartbeats 4000000 in
set_option maxRecDepth 100000 in
theorem law_case_2 {p : Program} {l : Launch} {e : Env} {s : State} {m : MethodId} {below : List Frame} {meth : Method} {c : Code} {b : Nat} {xs : Nat → Int32} {L : Nat} (C0 : lw_At p s m meth c b L xs) {D : va_G} {ct : Nat → ClassId} {tN : Nat} (E : Ev p s m #[Value.ref b] c R_law 4 code D (TY ct) tN (fun q : Nat => s.heap.size ≤ q)) {ad am : Nat → Nat} {n : Nat} {H : Heap} {locs : List Loc} {cells slots : Nat} (hS : va_S (fun q : Nat => s.heap.size ≤ q) s.heap H locs) (h : LI D (fun q : Nat => s.heap.size ≤ q) ct ad am tN n H) {ls : Array Slot} {i : Int32} (hl : lv_has ls 4 [(3, .int i), (2, .ref (am 0)), (1, .ref (ad 0)), (0, .ref b)]) (hi0 : 0 ≤ i.toInt) (hi1 : i.toInt + 5 < (L : Int)) (hLb : (L : Int) ≤ 3072) (hin : i.toInt = 6 * (n : Int)) (hcl : cells + 8 ≤ 600000) (hsl : slots + 160 ≤ 7302250) (kk : ∀ (H1 : Heap) (locs1 : List Loc) (ls1 : Array Slot), LI D (fun q : Nat => s.heap.size ≤ q) ct ad am tN (n + 1) H1 → va_S (fun q : Nat => s.heap.size ≤ q) s.heap H1 locs1 → lv_has ls1 4 [(3, .int i), (2, .ref (am 0)), (1, .ref (ad 0)), (0, .ref b)] → W p l e room_1 s m #[Value.ref b] below meth c H1 locs1 (cells + 8) (slots + 160) (lw_Z below #[Value.ref b] s) (F0 m 1569 ls1 [])) : W p l e room_1 s m #[Value.ref b] below meth c H locs cells slots (lw_Z below #[Value.ref b] s) (F0 m 290 ls []) := by
  obtain ⟨hx, hb, hr0, hml, hown, hts, hX, hbl, hlocks, hgv⟩ := id C0
  refine h _ (fun i0 i1 i2 i3 i4 i5 i6 i7 i8 i9 i10 i11 i12 i13 i14 i15 i16 i17 i18 i19 i20 i21 i22 i23 i24 i25 i26 i27 i28 i29 i30 i31 i32 i33 i34 i35 a1 a2 a4 a5 a7 a8 a10 a11 a13 a14 a15 a18 a19 a20 a21 a22 a23 a24 a25 a26 a29 a30 a31 a32 a43 a44 a45 a51 a52 a53 a54 a55 l46 r9n r9c og ogn ogc rtn rtc ptn ptc p0 p1 Pl j0 j1 j2 j3 j4 j5 j6 j7 j8 j9 j10 j11 j12 j13 j14 j15 j16 j17 j18 j19 j20 j21 j22 j23 j24 j25 j26 j27 j28 j29 b1 b2 b3 b4 b5 b6 b7 b8 b9 b10 b11 b12 b13 b14 b15 b16 b17 b18 b19 b20 b21 b22 b23 b24 b25 b26 b27 b28 b29 b30 b31 b32 b33 b34 b35 b36 b37 b38 b39 b40 b41 b42 b43 b44 b45 b46 b47 b48 b49 b50 b51 b52 b53 b55 b56 b57 b58 b61 b62 b63 b64 b65 b66 iam B hM hr hp hk hcn hxR1 => ?_)
  obtain ⟨hr1, hr2, hr3, hr4, hr5⟩ := id hr
  refine lv_aload_n hx hb dL_law_290 rfl (lv_at hl 2 rfl) ?_
  refine law_arg (kv := 1) C0 E hS hl (by decide) (by decide) (by omega) (by omega) (by omega) dL_law_291 dL_law_292 dL_law_293 dL_law_294 dL_law_295 ?_
  refine at_pc (n := 296) rfl ?_
  refine law_arg (kv := 2) C0 E hS hl (by decide) (by decide) (by omega) (by omega) (by omega) dL_law_296 dL_law_297 dL_law_298 dL_law_299 dL_law_300 ?_
  refine at_pc (n := 301) rfl ?_
  obtain ⟨_, Rz⟩ := B.rec0
  refine hc_VI (kn := 2) E hS B (x11_verse l D tN (fun q : Nat => s.heap.size ≤ q) ((xs (i.toInt + 1).toNat)) ((xs (i.toInt + 2).toNat))) (good_V w_8726c53c w_7f59d1e1 w_ed26212e w_93c426f0 w_48db7707) Rz rfl ⟨rfl, by decide +kernel⟩ rfl rfl rfl ⟨Nat.le_of_ble_eq_true rfl, Nat.le_of_ble_eq_true rfl⟩ rfl hl (Nat.le_of_ble_eq_true rfl) dL_law_301 ⟨by show _ ≤ 600000; omega, by show _ ≤ 7302250; omega⟩ (fun v_1 H locs w_2 hS => ?_)
  have B0 := B
  obtain ⟨ni3_3, na7_4, na8_5, hv_6, ex_7, ex_8, ex_9, ex_10, B⟩ := w_2
  refine at_n (n := 304) (k1 := cells + 0) (k2 := slots + 0) rfl rfl rfl ?_
  refine lv_pop hx hb dL_law_304 rfl ?_
  refine lv_aload_n hx hb dL_law_305 rfl (lv_at hl 1 rfl) ?_
  refine law_arg (kv := 1) C0 E hS hl (by decide) (by decide) (by omega) (by omega) (by omega) dL_law_306 dL_law_307 dL_law_308 dL_law_309 dL_law_310 ?_
  refine at_pc (n := 311) rfl ?_
  refine law_arg (kv := 2) C0 E hS hl (by decide) (by decide) (by omega) (by omega) (by omega) dL_law_311 dL_law_312 dL_law_313 dL_law_314 dL_law_315 ?_
  refine at_pc (n := 316) rfl ?_
  obtain ⟨Rw, B, back⟩ := toM B hM
  obtain ⟨_, Rz⟩ := B.rec
  refine hc_VI (kn := 2) E hS B (m12_verse l D tN (fun q : Nat => s.heap.size ≤ q) ((xs (i.toInt + 1).toNat)) ((xs (i.toInt + 2).toNat))) (good_V w_f867440d w_fea7cff4 w_14980fef w_2e12d08c w_89fd4800) Rz rfl ⟨rfl, by decide +kernel⟩ rfl rfl rfl ⟨Nat.le_of_ble_eq_true rfl, Nat.le_of_ble_eq_true rfl⟩ rfl hl (Nat.le_of_ble_eq_true rfl) dL_law_316 ⟨by show _ ≤ 600000; omega, by show _ ≤ 7302250; omega⟩ (fun v_11 H locs w_12 hS => ?_)
  obtain ⟨ni2_13, na2_14, na3_15, hv_16, ex_17, ex_18, ex_19, ex_20, B⟩ := w_12
  obtain ⟨_, B, hM⟩ := back B
  obtain ⟨hq_21, hx_22⟩ := R1_verse hxR1 ex_7 ex_8 ex_9 ex_10 ex_17 ex_18 ex_19 ex_20
  refine at_n (n := 319) (k1 := cells + 0) (k2 := slots + 0) rfl rfl rfl ?_
  refine lv_pop hx hb dL_law_319 rfl ?_
  refine lv_goto (tgt := 1569) hx hb dL_law_320 (by decide) ?_
  refine W.widen (k := cells + 8) (n := slots + 160) (by omega) (by omega) ?_
  refine kk _ _ _ (LI.mk B hM ⟨by omega, by omega, by omega, by omega, by omega⟩ hp hk (by omega) hx_22) hS hl
set_option maxHeartbeats 4000000 in
set_option maxRecDepth 100000 in
theorem law_case_3 {p : Program} {l : Launch} {e : Env} {s : State} {m : MethodId} {below : List Frame} {meth : Method} {c : Code} {b : Nat} {xs : Nat → Int32} {L : Nat} (C0 : lw_At p s m meth c b L xs) {D : va_G} {ct : Nat → ClassId} {tN : Nat} (E : Ev p s m #[Value.ref b] c R_law 4 code D (TY ct) tN (fun q : Nat => s.heap.size ≤ q)) {ad am : Nat → Nat} {n : Nat} {H : Heap} {locs : List Loc} {cells slots : Nat} (hS : va_S (fun q : Nat => s.heap.size ≤ q) s.heap H locs) (h : LI D (fun q : Nat => s.heap.size ≤ q) ct ad am tN n H) {ls : Array Slot} {i : Int32} (hl : lv_has ls 4 [(3, .int i), (2, .ref (am 0)), (1, .ref (ad 0)), (0, .ref b)]) (hi0 : 0 ≤ i.toInt) (hi1 : i.toInt + 5 < (L : Int)) (hLb : (L : Int) ≤ 3072) (hin : i.toInt = 6 * (n : Int)) (hcl : cells + 8 ≤ 600000) (hsl : slots + 160 ≤ 7302250) (kk : ∀ (H1 : Heap) (locs1 : List Loc) (ls1 : Array Slot), LI D (fun q : Nat => s.heap.size ≤ q) ct ad am tN (n + 1) H1 → va_S (fun q : Nat => s.heap.size ≤ q) s.heap H1 locs1 → lv_has ls1 4 [(3, .int i), (2, .ref (am 0)), (1, .ref (ad 0)), (0, .ref b)] → W p l e room_1 s m #[Value.ref b] below meth c H1 locs1 (cells + 8) (slots + 160) (lw_Z below #[Value.ref b] s) (F0 m 1569 ls1 [])) : W p l e room_1 s m #[Value.ref b] below meth c H locs cells slots (lw_Z below #[Value.ref b] s) (F0 m 323 ls []) := by
  obtain ⟨hx, hb, hr0, hml, hown, hts, hX, hbl, hlocks, hgv⟩ := id C0
  refine h _ (fun i0 i1 i2 i3 i4 i5 i6 i7 i8 i9 i10 i11 i12 i13 i14 i15 i16 i17 i18 i19 i20 i21 i22 i23 i24 i25 i26 i27 i28 i29 i30 i31 i32 i33 i34 i35 a1 a2 a4 a5 a7 a8 a10 a11 a13 a14 a15 a18 a19 a20 a21 a22 a23 a24 a25 a26 a29 a30 a31 a32 a43 a44 a45 a51 a52 a53 a54 a55 l46 r9n r9c og ogn ogc rtn rtc ptn ptc p0 p1 Pl j0 j1 j2 j3 j4 j5 j6 j7 j8 j9 j10 j11 j12 j13 j14 j15 j16 j17 j18 j19 j20 j21 j22 j23 j24 j25 j26 j27 j28 j29 b1 b2 b3 b4 b5 b6 b7 b8 b9 b10 b11 b12 b13 b14 b15 b16 b17 b18 b19 b20 b21 b22 b23 b24 b25 b26 b27 b28 b29 b30 b31 b32 b33 b34 b35 b36 b37 b38 b39 b40 b41 b42 b43 b44 b45 b46 b47 b48 b49 b50 b51 b52 b53 b55 b56 b57 b58 b61 b62 b63 b64 b65 b66 iam B hM hr hp hk hcn hxR1 => ?_)
  refine lv_aload_n hx hb dL_law_323 rfl (lv_at hl 2 rfl) ?_
  refine law_arg (kv := 1) C0 E hS hl (by decide) (by decide) (by omega) (by omega) (by omega) dL_law_324 dL_law_325 dL_law_326 dL_law_327 dL_law_328 ?_
  refine at_pc (n := 329) rfl ?_
  refine law_arg (kv := 2) C0 E hS hl (by decide) (by decide) (by omega) (by omega) (by omega) dL_law_329 dL_law_330 dL_law_331 dL_law_332 dL_law_333 ?_
  refine at_pc (n := 334) rfl ?_
  refine law_arg (kv := 3) C0 E hS hl (by decide) (by decide) (by omega) (by omega) (by omega) dL_law_334 dL_law_335 dL_law_336 dL_law_337 dL_law_338 ?_
  refine at_pc (n := 339) rfl ?_
  obtain ⟨_, Rz⟩ := B.rec0
  refine hc_VI (kn := 3) E hS B (x11_source l D tN (fun q : Nat => s.heap.size ≤ q) ((xs (i.toInt + 1).toNat)) ((xs (i.toInt + 2).toNat)) ((xs (i.toInt + 3).toNat))) (good_V w_08dc768e w_6aabcebe w_1de4bfd3 w_93c426f0 w_e127f6cd) Rz rfl ⟨rfl, by decide +kernel⟩ rfl rfl rfl ⟨Nat.le_of_ble_eq_true rfl, Nat.le_of_ble_eq_true rfl⟩ rfl hl (Nat.le_of_ble_eq_true rfl) dL_law_339 ⟨by show _ ≤ 600000; omega, by show _ ≤ 7302250; omega⟩ (fun v_1 H locs w_2 hS => ?_)
  have B0 := B
  obtain ⟨ni0_3, nr9n_4, nr9c_5, nPl_6, hpl_7, hv_8, ex_9, ex_10, ex_11, ex_12, B⟩ := w_2
  refine at_n (n := 342) (k1 := cells + 1) (k2 := slots + 8) rfl rfl rfl ?_
  refine lv_pop hx hb dL_law_342 rfl ?_
  refine lv_aload_n hx hb dL_law_343 rfl (lv_at hl 1 rfl) ?_
  refine law_arg (kv := 1) C0 E hS hl (by decide) (by decide) (by omega) (by omega) (by omega) dL_law_344 dL_law_345 dL_law_346 dL_law_347 dL_law_348 ?_
  refine at_pc (n := 349) rfl ?_
  refine law_arg (kv := 2) C0 E hS hl (by decide) (by decide) (by omega) (by omega) (by omega) dL_law_349 dL_law_350 dL_law_351 dL_law_352 dL_law_353 ?_
  refine at_pc (n := 354) rfl ?_
  refine law_arg (kv := 3) C0 E hS hl (by decide) (by decide) (by omega) (by omega) (by omega) dL_law_354 dL_law_355 dL_law_356 dL_law_357 dL_law_358 ?_
  refine at_pc (n := 359) rfl ?_
  obtain ⟨Rw, B, back⟩ := toM B hM
  obtain ⟨_, Rz⟩ := B.rec
  refine hc_VI (kn := 3) E hS B (m12_source l D tN (fun q : Nat => s.heap.size ≤ q) ((xs (i.toInt + 1).toNat)) ((xs (i.toInt + 2).toNat)) ((xs (i.toInt + 3).toNat))) (good_V w_bca25014 w_af762e43 w_a480646b w_2e12d08c w_d91a24a1) Rz rfl ⟨rfl, by decide +kernel⟩ rfl rfl rfl ⟨Nat.le_of_ble_eq_true rfl, Nat.le_of_ble_eq_true rfl⟩ rfl hl (Nat.le_of_ble_eq_true rfl) dL_law_359 ⟨by show _ ≤ 600000; omega, by show _ ≤ 7302250; omega⟩ (fun v_13 H locs w_14 hS => ?_)
  obtain ⟨ni0_15, na4_16, na5_17, hv_18, ex_19, ex_20, ex_21, ex_22, B⟩ := w_14
  obtain ⟨_, B, hM⟩ := back B
  obtain ⟨hq_23, hx_24⟩ := R1_source hxR1 ex_9 ex_10 ex_11 ex_12 ex_19 ex_20 ex_21 ex_22
  refine at_n (n := 362) (k1 := cells + 1) (k2 := slots + 8) rfl rfl rfl ?_
  refine lv_pop hx hb dL_law_362 rfl ?_
  refine lv_goto (tgt := 1569) hx hb dL_law_363 (by decide) ?_
  refine W.widen (k := cells + 8) (n := slots + 160) (by omega) (by omega) ?_
  refine kk _ _ _ (LI.mk B hM hr hp hk (by omega) hx_24) hS hl
set_option maxHeartbeats 4000000 in
set_option maxRecDepth 100000 in
theorem law_case_4 {p : Program} {l : Launch} {e : Env} {s : State} {m : MethodId} {below : List Frame} {meth : Method} {c : Code} {b : Nat} {xs : Nat → Int32} {L : Nat} (C0 : lw_At p s m meth c b L xs) {D : va_G} {ct : Nat → ClassId} {tN : Nat} (E : Ev p s m #[Value.ref b] c R_law 4 code D (TY ct) tN (fun q : Nat => s.heap.size ≤ q)) {ad am : Nat → Nat} {n : Nat} {H : Heap} {locs : List Loc} {cells slots : Nat} (hS : va_S (fun q : Nat => s.heap.size ≤ q) s.heap H locs) (h : LI D (fun q : Nat => s.heap.size ≤ q) ct ad am tN n H) {ls : Array Slot} {i : Int32} (hl : lv_has ls 4 [(3, .int i), (2, .ref (am 0)), (1, .ref (ad 0)), (0, .ref b)]) (hi0 : 0 ≤ i.toInt) (hi1 : i.toInt + 5 < (L : Int)) (hLb : (L : Int) ≤ 3072) (hin : i.toInt = 6 * (n : Int)) (hcl : cells + 8 ≤ 600000) (hsl : slots + 160 ≤ 7302250) (kk : ∀ (H1 : Heap) (locs1 : List Loc) (ls1 : Array Slot), LI D (fun q : Nat => s.heap.size ≤ q) ct ad am tN (n + 1) H1 → va_S (fun q : Nat => s.heap.size ≤ q) s.heap H1 locs1 → lv_has ls1 4 [(3, .int i), (2, .ref (am 0)), (1, .ref (ad 0)), (0, .ref b)] → W p l e room_1 s m #[Value.ref b] below meth c H1 locs1 (cells + 8) (slots + 160) (lw_Z below #[Value.ref b] s) (F0 m 1569 ls1 [])) : W p l e room_1 s m #[Value.ref b] below meth c H locs cells slots (lw_Z below #[Value.ref b] s) (F0 m 366 ls []) := by
  obtain ⟨hx, hb, hr0, hml, hown, hts, hX, hbl, hlocks, hgv⟩ := id C0
  refine h _ (fun i0 i1 i2 i3 i4 i5 i6 i7 i8 i9 i10 i11 i12 i13 i14 i15 i16 i17 i18 i19 i20 i21 i22 i23 i24 i25 i26 i27 i28 i29 i30 i31 i32 i33 i34 i35 a1 a2 a4 a5 a7 a8 a10 a11 a13 a14 a15 a18 a19 a20 a21 a22 a23 a24 a25 a26 a29 a30 a31 a32 a43 a44 a45 a51 a52 a53 a54 a55 l46 r9n r9c og ogn ogc rtn rtc ptn ptc p0 p1 Pl j0 j1 j2 j3 j4 j5 j6 j7 j8 j9 j10 j11 j12 j13 j14 j15 j16 j17 j18 j19 j20 j21 j22 j23 j24 j25 j26 j27 j28 j29 b1 b2 b3 b4 b5 b6 b7 b8 b9 b10 b11 b12 b13 b14 b15 b16 b17 b18 b19 b20 b21 b22 b23 b24 b25 b26 b27 b28 b29 b30 b31 b32 b33 b34 b35 b36 b37 b38 b39 b40 b41 b42 b43 b44 b45 b46 b47 b48 b49 b50 b51 b52 b53 b55 b56 b57 b58 b61 b62 b63 b64 b65 b66 iam B hM hr hp hk hcn hxR1 => ?_)
  refine lv_aload_n hx hb dL_law_366 rfl (lv_at hl 2 rfl) ?_
  refine law_arg (kv := 1) C0 E hS hl (by decide) (by decide) (by omega) (by omega) (by omega) dL_law_367 dL_law_368 dL_law_369 dL_law_370 dL_law_371 ?_
  refine at_pc (n := 372) rfl ?_
  obtain ⟨_, Rz⟩ := B.rec0
  refine hc_VI (kn := 1) E hS B (x11_word l D tN (fun q : Nat => s.heap.size ≤ q) ((xs (i.toInt + 1).toNat))) (good_V w_0ef5f88c w_51680d9f w_853afffb w_93c426f0 w_5fe7c7f7) Rz rfl ⟨rfl, by decide +kernel⟩ rfl rfl rfl ⟨Nat.le_of_ble_eq_true rfl, Nat.le_of_ble_eq_true rfl⟩ rfl hl (Nat.le_of_ble_eq_true rfl) dL_law_372 ⟨by show _ ≤ 600000; omega, by show _ ≤ 7302250; omega⟩ (fun v_1 H locs w_2 hS => ?_)
  have B0 := B
  obtain ⟨ni0_3, ni2_4, na4_5, na5_6, hv_7, ex_8, ex_9, ex_10, ex_11, ex_12, B⟩ := w_2
  refine at_n (n := 375) (k1 := cells + 0) (k2 := slots + 0) rfl rfl rfl ?_
  refine lv_pop hx hb dL_law_375 rfl ?_
  refine lv_aload_n hx hb dL_law_376 rfl (lv_at hl 1 rfl) ?_
  refine law_arg (kv := 1) C0 E hS hl (by decide) (by decide) (by omega) (by omega) (by omega) dL_law_377 dL_law_378 dL_law_379 dL_law_380 dL_law_381 ?_
  refine at_pc (n := 382) rfl ?_
  obtain ⟨Rw, B, back⟩ := toM B hM
  obtain ⟨_, Rz⟩ := B.rec
  refine hc_VI (kn := 1) E hS B (m12_word l D tN (fun q : Nat => s.heap.size ≤ q) ((xs (i.toInt + 1).toNat))) (good_V w_71cd4962 w_669947bc w_0cd3fd96 w_2e12d08c w_9577ca1f) Rz rfl ⟨rfl, by decide +kernel⟩ rfl rfl rfl ⟨Nat.le_of_ble_eq_true rfl, Nat.le_of_ble_eq_true rfl⟩ rfl hl (Nat.le_of_ble_eq_true rfl) dL_law_382 ⟨by show _ ≤ 600000; omega, by show _ ≤ 7302250; omega⟩ (fun v_13 H locs w_14 hS => ?_)
  obtain ⟨ni0_15, ni3_16, na6_17, na7_18, na13_19, na14_20, hv_21, ex_22, ex_23, ex_24, ex_25, ex_26, B⟩ := w_14
  obtain ⟨_, B, hM⟩ := back B
  obtain ⟨hq_27, hx_28⟩ := R1_word hxR1 ex_8 ex_9 ex_10 ex_11 ex_12 ex_22 ex_23 ex_24 ex_25 ex_26
  refine at_n (n := 385) (k1 := cells + 0) (k2 := slots + 0) rfl rfl rfl ?_
  refine lv_pop hx hb dL_law_385 rfl ?_
  refine lv_goto (tgt := 1569) hx hb dL_law_386 (by decide) ?_
  refine W.widen (k := cells + 8) (n := slots + 160) (by omega) (by omega) ?_
  refine kk _ _ _ (LI.mk B hM hr hp hk (by omega) hx_28) hS hl
set_option maxHeartbeats 4000000 in
set_option maxRecDepth 100000 in
theorem law_case_5 {p : Program} {l : Launch} {e : Env} {s : State} {m : MethodId} {below : List Frame} {meth : Method} {c : Code} {b : Nat} {xs : Nat → Int32} {L : Nat} (C0 : lw_At p s m meth c b L xs) {D : va_G} {ct : Nat → ClassId} {tN : Nat} (E : Ev p s m #[Value.ref b] c R_law 4 code D (TY ct) tN (fun q : Nat => s.heap.size ≤ q)) {ad am : Nat → Nat} {n : Nat} {H : Heap} {locs : List Loc} {cells slots : Nat} (hS : va_S (fun q : Nat => s.heap.size ≤ q) s.heap H locs) (h : LI D (fun q : Nat => s.heap.size ≤ q) ct ad am tN n H) {ls : Array Slot} {i : Int32} (hl : lv_has ls 4 [(3, .int i), (2, .ref (am 0)), (1, .ref (ad 0)), (0, .ref b)]) (hi0 : 0 ≤ i.toInt) (hi1 : i.toInt + 5 < (L : Int)) (hLb : (L : Int) ≤ 3072) (hin : i.toInt = 6 * (n : Int)) (hcl : cells + 8 ≤ 600000) (hsl : slots + 160 ≤ 7302250) (kk : ∀ (H1 : Heap) (locs1 : List Loc) (ls1 : Array Slot), LI D (fun q : Nat => s.heap.size ≤ q) ct ad am tN (n + 1) H1 → va_S (fun q : Nat => s.heap.size ≤ q) s.heap H1 locs1 → lv_has ls1 4 [(3, .int i), (2, .ref (am 0)), (1, .ref (ad 0)), (0, .ref b)] → W p l e room_1 s m #[Value.ref b] below meth c H1 locs1 (cells + 8) (slots + 160) (lw_Z below #[Value.ref b] s) (F0 m 1569 ls1 [])) : W p l e room_1 s m #[Value.ref b] below meth c H locs cells slots (lw_Z below #[Value.ref b] s) (F0 m 389 ls []) := by
  obtain ⟨hx, hb, hr0, hml, hown, hts, hX, hbl, hlocks, hgv⟩ := id C0
  refine h _ (fun i0 i1 i2 i3 i4 i5 i6 i7 i8 i9 i10 i11 i12 i13 i14 i15 i16 i17 i18 i19 i20 i21 i22 i23 i24 i25 i26 i27 i28 i29 i30 i31 i32 i33 i34 i35 a1 a2 a4 a5 a7 a8 a10 a11 a13 a14 a15 a18 a19 a20 a21 a22 a23 a24 a25 a26 a29 a30 a31 a32 a43 a44 a45 a51 a52 a53 a54 a55 l46 r9n r9c og ogn ogc rtn rtc ptn ptc p0 p1 Pl j0 j1 j2 j3 j4 j5 j6 j7 j8 j9 j10 j11 j12 j13 j14 j15 j16 j17 j18 j19 j20 j21 j22 j23 j24 j25 j26 j27 j28 j29 b1 b2 b3 b4 b5 b6 b7 b8 b9 b10 b11 b12 b13 b14 b15 b16 b17 b18 b19 b20 b21 b22 b23 b24 b25 b26 b27 b28 b29 b30 b31 b32 b33 b34 b35 b36 b37 b38 b39 b40 b41 b42 b43 b44 b45 b46 b47 b48 b49 b50 b51 b52 b53 b55 b56 b57 b58 b61 b62 b63 b64 b65 b66 iam B hM hr hp hk hcn hxR1 => ?_)
  refine lv_aload_n hx hb dL_law_389 rfl (lv_at hl 2 rfl) ?_
  refine law_arg (kv := 1) C0 E hS hl (by decide) (by decide) (by omega) (by omega) (by omega) dL_law_390 dL_law_391 dL_law_392 dL_law_393 dL_law_394 ?_
  refine at_pc (n := 395) rfl ?_
  refine law_arg (kv := 2) C0 E hS hl (by decide) (by decide) (by omega) (by omega) (by omega) dL_law_395 dL_law_396 dL_law_397 dL_law_398 dL_law_399 ?_
  refine at_pc (n := 400) rfl ?_
  refine law_arg (kv := 3) C0 E hS hl (by decide) (by decide) (by omega) (by omega) (by omega) dL_law_400 dL_law_401 dL_law_402 dL_law_403 dL_law_404 ?_
  refine at_pc (n := 405) rfl ?_
  obtain ⟨_, Rz⟩ := B.rec0
  refine hc_VI (kn := 3) E hS B (x11_spell l D tN (fun q : Nat => s.heap.size ≤ q) ((xs (i.toInt + 1).toNat)) ((xs (i.toInt + 2).toNat)) ((xs (i.toInt + 3).toNat))) (good_V w_62b4f508 w_cbc0d1a6 w_e6166115 w_93c426f0 w_c7e3cd7a) Rz rfl ⟨rfl, by decide +kernel⟩ rfl rfl rfl ⟨Nat.le_of_ble_eq_true rfl, Nat.le_of_ble_eq_true rfl⟩ rfl hl (Nat.le_of_ble_eq_true rfl) dL_law_405 ⟨by show _ ≤ 600000; omega, by show _ ≤ 7302250; omega⟩ (fun v_1 H locs w_2 hS => ?_)
  have B0 := B
  obtain ⟨ni0_3, na4_4, na5_5, hv_6, ex_7, ex_8, ex_9, ex_10, B⟩ := w_2
  refine at_n (n := 408) (k1 := cells + 0) (k2 := slots + 0) rfl rfl rfl ?_
  refine lv_pop hx hb dL_law_408 rfl ?_
  refine lv_aload_n hx hb dL_law_409 rfl (lv_at hl 1 rfl) ?_
  refine law_arg (kv := 1) C0 E hS hl (by decide) (by decide) (by omega) (by omega) (by omega) dL_law_410 dL_law_411 dL_law_412 dL_law_413 dL_law_414 ?_
  refine at_pc (n := 415) rfl ?_
  refine law_arg (kv := 2) C0 E hS hl (by decide) (by decide) (by omega) (by omega) (by omega) dL_law_415 dL_law_416 dL_law_417 dL_law_418 dL_law_419 ?_
  refine at_pc (n := 420) rfl ?_
  refine law_arg (kv := 3) C0 E hS hl (by decide) (by decide) (by omega) (by omega) (by omega) dL_law_420 dL_law_421 dL_law_422 dL_law_423 dL_law_424 ?_
  refine at_pc (n := 425) rfl ?_
  obtain ⟨Rw, B, back⟩ := toM B hM
  obtain ⟨_, Rz⟩ := B.rec
  refine hc_VI (kn := 3) E hS B (m12_spell l D tN (fun q : Nat => s.heap.size ≤ q) ((xs (i.toInt + 1).toNat)) ((xs (i.toInt + 2).toNat)) ((xs (i.toInt + 3).toNat))) (good_V w_1a711aa2 w_0dda84dc w_840705bf w_2e12d08c w_e4f3a393) Rz rfl ⟨rfl, by decide +kernel⟩ rfl rfl rfl ⟨Nat.le_of_ble_eq_true rfl, Nat.le_of_ble_eq_true rfl⟩ rfl hl (Nat.le_of_ble_eq_true rfl) dL_law_425 ⟨by show _ ≤ 600000; omega, by show _ ≤ 7302250; omega⟩ (fun v_11 H locs w_12 hS => ?_)
  obtain ⟨ni0_13, na6_14, na7_15, hv_16, ex_17, B⟩ := w_12
  obtain ⟨_, B, hM⟩ := back B
  obtain ⟨hq_18, hx_19⟩ := R1_spell hxR1 ex_7 ex_8 ex_9 ex_10 ex_17
  refine at_n (n := 428) (k1 := cells + 0) (k2 := slots + 0) rfl rfl rfl ?_
  refine lv_pop hx hb dL_law_428 rfl ?_
  refine lv_goto (tgt := 1569) hx hb dL_law_429 (by decide) ?_
  refine W.widen (k := cells + 8) (n := slots + 160) (by omega) (by omega) ?_
  refine kk _ _ _ (LI.mk B hM hr hp hk (by omega) hx_19) hS hl
set_option maxHeartbeats 4000000 in
set_option maxRecDepth 100000 in
theorem law_case_6 {p : Program} {l : Launch} {e : Env} {s : State} {m : MethodId} {below : List Frame} {meth : Method} {c : Code} {b : Nat} {xs : Nat → Int32} {L : Nat} (C0 : lw_At p s m meth c b L xs) {D : va_G} {ct : Nat → ClassId} {tN : Nat} (E : Ev p s m #[Value.ref b] c R_law 4 code D (TY ct) tN (fun q : Nat => s.heap.size ≤ q)) {ad am : Nat → Nat} {n : Nat} {H : Heap} {locs : List Loc} {cells slots : Nat} (hS : va_S (fun q : Nat => s.heap.size ≤ q) s.heap H locs) (h : LI D (fun q : Nat => s.heap.size ≤ q) ct ad am tN n H) {ls : Array Slot} {i : Int32} (hl : lv_has ls 4 [(3, .int i), (2, .ref (am 0)), (1, .ref (ad 0)), (0, .ref b)]) (hi0 : 0 ≤ i.toInt) (hi1 : i.toInt + 5 < (L : Int)) (hLb : (L : Int) ≤ 3072) (hin : i.toInt = 6 * (n : Int)) (hcl : cells + 8 ≤ 600000) (hsl : slots + 160 ≤ 7302250) (kk : ∀ (H1 : Heap) (locs1 : List Loc) (ls1 : Array Slot), LI D (fun q : Nat => s.heap.size ≤ q) ct ad am tN (n + 1) H1 → va_S (fun q : Nat => s.heap.size ≤ q) s.heap H1 locs1 → lv_has ls1 4 [(3, .int i), (2, .ref (am 0)), (1, .ref (ad 0)), (0, .ref b)] → W p l e room_1 s m #[Value.ref b] below meth c H1 locs1 (cells + 8) (slots + 160) (lw_Z below #[Value.ref b] s) (F0 m 1569 ls1 [])) : W p l e room_1 s m #[Value.ref b] below meth c H locs cells slots (lw_Z below #[Value.ref b] s) (F0 m 432 ls []) := by
  obtain ⟨hx, hb, hr0, hml, hown, hts, hX, hbl, hlocks, hgv⟩ := id C0
  refine h _ (fun i0 i1 i2 i3 i4 i5 i6 i7 i8 i9 i10 i11 i12 i13 i14 i15 i16 i17 i18 i19 i20 i21 i22 i23 i24 i25 i26 i27 i28 i29 i30 i31 i32 i33 i34 i35 a1 a2 a4 a5 a7 a8 a10 a11 a13 a14 a15 a18 a19 a20 a21 a22 a23 a24 a25 a26 a29 a30 a31 a32 a43 a44 a45 a51 a52 a53 a54 a55 l46 r9n r9c og ogn ogc rtn rtc ptn ptc p0 p1 Pl j0 j1 j2 j3 j4 j5 j6 j7 j8 j9 j10 j11 j12 j13 j14 j15 j16 j17 j18 j19 j20 j21 j22 j23 j24 j25 j26 j27 j28 j29 b1 b2 b3 b4 b5 b6 b7 b8 b9 b10 b11 b12 b13 b14 b15 b16 b17 b18 b19 b20 b21 b22 b23 b24 b25 b26 b27 b28 b29 b30 b31 b32 b33 b34 b35 b36 b37 b38 b39 b40 b41 b42 b43 b44 b45 b46 b47 b48 b49 b50 b51 b52 b53 b55 b56 b57 b58 b61 b62 b63 b64 b65 b66 iam B hM hr hp hk hcn hxR1 => ?_)
  refine lv_aload_n hx hb dL_law_432 rfl (lv_at hl 2 rfl) ?_
  refine law_arg (kv := 1) C0 E hS hl (by decide) (by decide) (by omega) (by omega) (by omega) dL_law_433 dL_law_434 dL_law_435 dL_law_436 dL_law_437 ?_
  refine at_pc (n := 438) rfl ?_
  obtain ⟨_, Rz⟩ := B.rec0
  refine hc_VI (kn := 1) E hS B (x11_syllables l D tN (fun q : Nat => s.heap.size ≤ q) ((xs (i.toInt + 1).toNat))) (good_V w_76f51035 w_741931f2 w_fe975664 w_93c426f0 w_66b4e743) Rz rfl ⟨rfl, by decide +kernel⟩ rfl rfl rfl ⟨Nat.le_of_ble_eq_true rfl, Nat.le_of_ble_eq_true rfl⟩ rfl hl (Nat.le_of_ble_eq_true rfl) dL_law_438 ⟨by show _ ≤ 600000; omega, by show _ ≤ 7302250; omega⟩ (fun v_1 H locs w_2 hS => ?_)
  have B0 := B
  obtain ⟨hv_3, ex_4, B⟩ := w_2
  refine at_n (n := 441) (k1 := cells + 0) (k2 := slots + 0) rfl rfl rfl ?_
  refine lv_pop hx hb dL_law_441 rfl ?_
  refine lv_aload_n hx hb dL_law_442 rfl (lv_at hl 1 rfl) ?_
  refine law_arg (kv := 1) C0 E hS hl (by decide) (by decide) (by omega) (by omega) (by omega) dL_law_443 dL_law_444 dL_law_445 dL_law_446 dL_law_447 ?_
  refine at_pc (n := 448) rfl ?_
  obtain ⟨Rw, B, back⟩ := toM B hM
  obtain ⟨_, Rz⟩ := B.rec
  refine hc_VI (kn := 1) E hS B (m12_syllables l D tN (fun q : Nat => s.heap.size ≤ q) ((xs (i.toInt + 1).toNat))) (good_V w_8249f05f w_7fb9e405 w_bef4a4e9 w_2e12d08c w_49367758) Rz rfl ⟨rfl, by decide +kernel⟩ rfl rfl rfl ⟨Nat.le_of_ble_eq_true rfl, Nat.le_of_ble_eq_true rfl⟩ rfl hl (Nat.le_of_ble_eq_true rfl) dL_law_448 ⟨by show _ ≤ 600000; omega, by show _ ≤ 7302250; omega⟩ (fun v_5 H locs w_6 hS => ?_)
  obtain ⟨hv_7, ex_8, B⟩ := w_6
  obtain ⟨_, B, hM⟩ := back B
  have hq_9 := R1_syllables hxR1 ex_4 ex_8
  refine at_n (n := 451) (k1 := cells + 0) (k2 := slots + 0) rfl rfl rfl ?_
  refine lv_pop hx hb dL_law_451 rfl ?_
  refine lv_goto (tgt := 1569) hx hb dL_law_452 (by decide) ?_
  refine W.widen (k := cells + 8) (n := slots + 160) (by omega) (by omega) ?_
  refine kk _ _ _ (LI.mk B hM hr hp hk (by omega) hxR1) hS hl
set_option maxHeartbeats 4000000 in
set_option maxRecDepth 100000 in
theorem law_case_7 {p : Program} {l : Launch} {e : Env} {s : State} {m : MethodId} {below : List Frame} {meth : Method} {c : Code} {b : Nat} {xs : Nat → Int32} {L : Nat} (C0 : lw_At p s m meth c b L xs) {D : va_G} {ct : Nat → ClassId} {tN : Nat} (E : Ev p s m #[Value.ref b] c R_law 4 code D (TY ct) tN (fun q : Nat => s.heap.size ≤ q)) {ad am : Nat → Nat} {n : Nat} {H : Heap} {locs : List Loc} {cells slots : Nat} (hS : va_S (fun q : Nat => s.heap.size ≤ q) s.heap H locs) (h : LI D (fun q : Nat => s.heap.size ≤ q) ct ad am tN n H) {ls : Array Slot} {i : Int32} (hl : lv_has ls 4 [(3, .int i), (2, .ref (am 0)), (1, .ref (ad 0)), (0, .ref b)]) (hi0 : 0 ≤ i.toInt) (hi1 : i.toInt + 5 < (L : Int)) (hLb : (L : Int) ≤ 3072) (hin : i.toInt = 6 * (n : Int)) (hcl : cells + 8 ≤ 600000) (hsl : slots + 160 ≤ 7302250) (kk : ∀ (H1 : Heap) (locs1 : List Loc) (ls1 : Array Slot), LI D (fun q : Nat => s.heap.size ≤ q) ct ad am tN (n + 1) H1 → va_S (fun q : Nat => s.heap.size ≤ q) s.heap H1 locs1 → lv_has ls1 4 [(3, .int i), (2, .ref (am 0)), (1, .ref (ad 0)), (0, .ref b)] → W p l e room_1 s m #[Value.ref b] below meth c H1 locs1 (cells + 8) (slots + 160) (lw_Z below #[Value.ref b] s) (F0 m 1569 ls1 [])) : W p l e room_1 s m #[Value.ref b] below meth c H locs cells slots (lw_Z below #[Value.ref b] s) (F0 m 455 ls []) := by
  obtain ⟨hx, hb, hr0, hml, hown, hts, hX, hbl, hlocks, hgv⟩ := id C0
  refine h _ (fun i0 i1 i2 i3 i4 i5 i6 i7 i8 i9 i10 i11 i12 i13 i14 i15 i16 i17 i18 i19 i20 i21 i22 i23 i24 i25 i26 i27 i28 i29 i30 i31 i32 i33 i34 i35 a1 a2 a4 a5 a7 a8 a10 a11 a13 a14 a15 a18 a19 a20 a21 a22 a23 a24 a25 a26 a29 a30 a31 a32 a43 a44 a45 a51 a52 a53 a54 a55 l46 r9n r9c og ogn ogc rtn rtc ptn ptc p0 p1 Pl j0 j1 j2 j3 j4 j5 j6 j7 j8 j9 j10 j11 j12 j13 j14 j15 j16 j17 j18 j19 j20 j21 j22 j23 j24 j25 j26 j27 j28 j29 b1 b2 b3 b4 b5 b6 b7 b8 b9 b10 b11 b12 b13 b14 b15 b16 b17 b18 b19 b20 b21 b22 b23 b24 b25 b26 b27 b28 b29 b30 b31 b32 b33 b34 b35 b36 b37 b38 b39 b40 b41 b42 b43 b44 b45 b46 b47 b48 b49 b50 b51 b52 b53 b55 b56 b57 b58 b61 b62 b63 b64 b65 b66 iam B hM hr hp hk hcn hxR1 => ?_)
  obtain ⟨hr1, hr2, hr3, hr4, hr5⟩ := id hr
  refine lv_aload_n hx hb dL_law_455 rfl (lv_at hl 2 rfl) ?_
  refine law_arg (kv := 1) C0 E hS hl (by decide) (by decide) (by omega) (by omega) (by omega) dL_law_456 dL_law_457 dL_law_458 dL_law_459 dL_law_460 ?_
  refine at_pc (n := 461) rfl ?_
  refine law_arg (kv := 2) C0 E hS hl (by decide) (by decide) (by omega) (by omega) (by omega) dL_law_461 dL_law_462 dL_law_463 dL_law_464 dL_law_465 ?_
  refine at_pc (n := 466) rfl ?_
  obtain ⟨_, Rz⟩ := B.rec0
  refine hc_VI (kn := 2) E hS B (x11_company l D tN (fun q : Nat => s.heap.size ≤ q) ((xs (i.toInt + 1).toNat)) ((xs (i.toInt + 2).toNat))) (good_V w_cdf4ffaa w_4ffbb267 w_e5218748 w_93c426f0 w_330518b2) Rz rfl ⟨rfl, by decide +kernel⟩ rfl rfl rfl ⟨Nat.le_of_ble_eq_true rfl, Nat.le_of_ble_eq_true rfl⟩ rfl hl (Nat.le_of_ble_eq_true rfl) dL_law_466 ⟨by show _ ≤ 600000; omega, by show _ ≤ 7302250; omega⟩ (fun v_1 H locs w_2 hS => ?_)
  have B0 := B
  obtain ⟨ni6_3, na13_4, na14_5, hv_6, ex_7, ex_8, ex_9, ex_10, B⟩ := w_2
  refine at_n (n := 469) (k1 := cells + 0) (k2 := slots + 0) rfl rfl rfl ?_
  refine lv_pop hx hb dL_law_469 rfl ?_
  refine lv_aload_n hx hb dL_law_470 rfl (lv_at hl 1 rfl) ?_
  refine law_arg (kv := 1) C0 E hS hl (by decide) (by decide) (by omega) (by omega) (by omega) dL_law_471 dL_law_472 dL_law_473 dL_law_474 dL_law_475 ?_
  refine at_pc (n := 476) rfl ?_
  refine law_arg (kv := 2) C0 E hS hl (by decide) (by decide) (by omega) (by omega) (by omega) dL_law_476 dL_law_477 dL_law_478 dL_law_479 dL_law_480 ?_
  refine at_pc (n := 481) rfl ?_
  obtain ⟨Rw, B, back⟩ := toM B hM
  obtain ⟨_, Rz⟩ := B.rec
  refine hc_VI (kn := 2) E hS B (m12_company l D tN (fun q : Nat => s.heap.size ≤ q) ((xs (i.toInt + 1).toNat)) ((xs (i.toInt + 2).toNat))) (good_V w_5e0cc9b0 w_c1a5c1e0 w_5cef9fd8 w_2e12d08c w_ebf44de7) Rz rfl ⟨rfl, by decide +kernel⟩ rfl rfl rfl ⟨Nat.le_of_ble_eq_true rfl, Nat.le_of_ble_eq_true rfl⟩ rfl hl (Nat.le_of_ble_eq_true rfl) dL_law_481 ⟨by show _ ≤ 600000; omega, by show _ ≤ 7302250; omega⟩ (fun v_11 H locs w_12 hS => ?_)
  obtain ⟨ni4_13, na8_14, na9_15, hv_16, ex_17, ex_18, ex_19, B⟩ := w_12
  obtain ⟨_, B, hM⟩ := back B
  obtain ⟨hq_20, hx_21⟩ := R1_company hxR1 ex_7 ex_8 ex_9 ex_10 ex_17 ex_18 ex_19
  refine at_n (n := 484) (k1 := cells + 0) (k2 := slots + 0) rfl rfl rfl ?_
  refine lv_pop hx hb dL_law_484 rfl ?_
  refine lv_goto (tgt := 1569) hx hb dL_law_485 (by decide) ?_
  refine W.widen (k := cells + 8) (n := slots + 160) (by omega) (by omega) ?_
  refine kk _ _ _ (LI.mk B hM ⟨by omega, by omega, by omega, by omega, by omega⟩ hp hk (by omega) hx_21) hS hl
set_option maxHeartbeats 4000000 in
set_option maxRecDepth 100000 in
theorem law_case_8 {p : Program} {l : Launch} {e : Env} {s : State} {m : MethodId} {below : List Frame} {meth : Method} {c : Code} {b : Nat} {xs : Nat → Int32} {L : Nat} (C0 : lw_At p s m meth c b L xs) {D : va_G} {ct : Nat → ClassId} {tN : Nat} (E : Ev p s m #[Value.ref b] c R_law 4 code D (TY ct) tN (fun q : Nat => s.heap.size ≤ q)) {ad am : Nat → Nat} {n : Nat} {H : Heap} {locs : List Loc} {cells slots : Nat} (hS : va_S (fun q : Nat => s.heap.size ≤ q) s.heap H locs) (h : LI D (fun q : Nat => s.heap.size ≤ q) ct ad am tN n H) {ls : Array Slot} {i : Int32} (hl : lv_has ls 4 [(3, .int i), (2, .ref (am 0)), (1, .ref (ad 0)), (0, .ref b)]) (hi0 : 0 ≤ i.toInt) (hi1 : i.toInt + 5 < (L : Int)) (hLb : (L : Int) ≤ 3072) (hin : i.toInt = 6 * (n : Int)) (hcl : cells + 8 ≤ 600000) (hsl : slots + 160 ≤ 7302250) (kk : ∀ (H1 : Heap) (locs1 : List Loc) (ls1 : Array Slot), LI D (fun q : Nat => s.heap.size ≤ q) ct ad am tN (n + 1) H1 → va_S (fun q : Nat => s.heap.size ≤ q) s.heap H1 locs1 → lv_has ls1 4 [(3, .int i), (2, .ref (am 0)), (1, .ref (ad 0)), (0, .ref b)] → W p l e room_1 s m #[Value.ref b] below meth c H1 locs1 (cells + 8) (slots + 160) (lw_Z below #[Value.ref b] s) (F0 m 1569 ls1 [])) : W p l e room_1 s m #[Value.ref b] below meth c H locs cells slots (lw_Z below #[Value.ref b] s) (F0 m 488 ls []) := by
  obtain ⟨hx, hb, hr0, hml, hown, hts, hX, hbl, hlocks, hgv⟩ := id C0
  refine h _ (fun i0 i1 i2 i3 i4 i5 i6 i7 i8 i9 i10 i11 i12 i13 i14 i15 i16 i17 i18 i19 i20 i21 i22 i23 i24 i25 i26 i27 i28 i29 i30 i31 i32 i33 i34 i35 a1 a2 a4 a5 a7 a8 a10 a11 a13 a14 a15 a18 a19 a20 a21 a22 a23 a24 a25 a26 a29 a30 a31 a32 a43 a44 a45 a51 a52 a53 a54 a55 l46 r9n r9c og ogn ogc rtn rtc ptn ptc p0 p1 Pl j0 j1 j2 j3 j4 j5 j6 j7 j8 j9 j10 j11 j12 j13 j14 j15 j16 j17 j18 j19 j20 j21 j22 j23 j24 j25 j26 j27 j28 j29 b1 b2 b3 b4 b5 b6 b7 b8 b9 b10 b11 b12 b13 b14 b15 b16 b17 b18 b19 b20 b21 b22 b23 b24 b25 b26 b27 b28 b29 b30 b31 b32 b33 b34 b35 b36 b37 b38 b39 b40 b41 b42 b43 b44 b45 b46 b47 b48 b49 b50 b51 b52 b53 b55 b56 b57 b58 b61 b62 b63 b64 b65 b66 iam B hM hr hp hk hcn hxR1 => ?_)
  refine lv_aload_n hx hb dL_law_488 rfl (lv_at hl 2 rfl) ?_
  refine law_arg (kv := 1) C0 E hS hl (by decide) (by decide) (by omega) (by omega) (by omega) dL_law_489 dL_law_490 dL_law_491 dL_law_492 dL_law_493 ?_
  refine at_pc (n := 494) rfl ?_
  obtain ⟨_, Rz⟩ := B.rec0
  refine hc_VI (kn := 1) E hS B (x11_centre l D tN (fun q : Nat => s.heap.size ≤ q) ((xs (i.toInt + 1).toNat))) (good_V w_4fb6f3c0 w_4e6b044f w_85c28d62 w_93c426f0 w_6325bd97) Rz rfl ⟨rfl, by decide +kernel⟩ rfl rfl rfl ⟨Nat.le_of_ble_eq_true rfl, Nat.le_of_ble_eq_true rfl⟩ rfl hl (Nat.le_of_ble_eq_true rfl) dL_law_494 ⟨by show _ ≤ 600000; omega, by show _ ≤ 7302250; omega⟩ (fun v_1 H locs w_2 hS => ?_)
  have B0 := B
  obtain ⟨ni5_3, hv_4, B⟩ := w_2
  refine at_n (n := 497) (k1 := cells + 0) (k2 := slots + 0) rfl rfl rfl ?_
  refine lv_pop hx hb dL_law_497 rfl ?_
  refine lv_aload_n hx hb dL_law_498 rfl (lv_at hl 1 rfl) ?_
  refine law_arg (kv := 1) C0 E hS hl (by decide) (by decide) (by omega) (by omega) (by omega) dL_law_499 dL_law_500 dL_law_501 dL_law_502 dL_law_503 ?_
  refine at_pc (n := 504) rfl ?_
  obtain ⟨Rw, B, back⟩ := toM B hM
  obtain ⟨_, Rz⟩ := B.rec
  refine hc_VI (kn := 1) E hS B (m12_centre l D tN (fun q : Nat => s.heap.size ≤ q) ((xs (i.toInt + 1).toNat))) (good_V w_fd22f426 w_098d4d0a w_c280c607 w_2e12d08c w_91b44d7d) Rz rfl ⟨rfl, by decide +kernel⟩ rfl rfl rfl ⟨Nat.le_of_ble_eq_true rfl, Nat.le_of_ble_eq_true rfl⟩ rfl hl (Nat.le_of_ble_eq_true rfl) dL_law_504 ⟨by show _ ≤ 600000; omega, by show _ ≤ 7302250; omega⟩ (fun v_5 H locs w_6 hS => ?_)
  obtain ⟨ni8_7, hv_8, ex_9, ex_10, B⟩ := w_6
  obtain ⟨_, B, hM⟩ := back B
  refine at_n (n := 507) (k1 := cells + 0) (k2 := slots + 0) rfl rfl rfl ?_
  refine lv_pop hx hb dL_law_507 rfl ?_
  refine lv_goto (tgt := 1569) hx hb dL_law_508 (by decide) ?_
  refine W.widen (k := cells + 8) (n := slots + 160) (by omega) (by omega) ?_
  refine kk _ _ _ (LI.mk B hM hr hp hk (by omega) hxR1) hS hl
set_option maxHeartbeats 4000000 in
set_option maxRecDepth 100000 in
theorem law_case_9 {p : Program} {l : Launch} {e : Env} {s : State} {m : MethodId} {below : List Frame} {meth : Method} {c : Code} {b : Nat} {xs : Nat → Int32} {L : Nat} (C0 : lw_At p s m meth c b L xs) {D : va_G} {ct : Nat → ClassId} {tN : Nat} (E : Ev p s m #[Value.ref b] c R_law 4 code D (TY ct) tN (fun q : Nat => s.heap.size ≤ q)) {ad am : Nat → Nat} {n : Nat} {H : Heap} {locs : List Loc} {cells slots : Nat} (hS : va_S (fun q : Nat => s.heap.size ≤ q) s.heap H locs) (h : LI D (fun q : Nat => s.heap.size ≤ q) ct ad am tN n H) {ls : Array Slot} {i : Int32} (hl : lv_has ls 4 [(3, .int i), (2, .ref (am 0)), (1, .ref (ad 0)), (0, .ref b)]) (hi0 : 0 ≤ i.toInt) (hi1 : i.toInt + 5 < (L : Int)) (hLb : (L : Int) ≤ 3072) (hin : i.toInt = 6 * (n : Int)) (hcl : cells + 8 ≤ 600000) (hsl : slots + 160 ≤ 7302250) (kk : ∀ (H1 : Heap) (locs1 : List Loc) (ls1 : Array Slot), LI D (fun q : Nat => s.heap.size ≤ q) ct ad am tN (n + 1) H1 → va_S (fun q : Nat => s.heap.size ≤ q) s.heap H1 locs1 → lv_has ls1 4 [(3, .int i), (2, .ref (am 0)), (1, .ref (ad 0)), (0, .ref b)] → W p l e room_1 s m #[Value.ref b] below meth c H1 locs1 (cells + 8) (slots + 160) (lw_Z below #[Value.ref b] s) (F0 m 1569 ls1 [])) : W p l e room_1 s m #[Value.ref b] below meth c H locs cells slots (lw_Z below #[Value.ref b] s) (F0 m 511 ls []) := by
  obtain ⟨hx, hb, hr0, hml, hown, hts, hX, hbl, hlocks, hgv⟩ := id C0
  refine h _ (fun i0 i1 i2 i3 i4 i5 i6 i7 i8 i9 i10 i11 i12 i13 i14 i15 i16 i17 i18 i19 i20 i21 i22 i23 i24 i25 i26 i27 i28 i29 i30 i31 i32 i33 i34 i35 a1 a2 a4 a5 a7 a8 a10 a11 a13 a14 a15 a18 a19 a20 a21 a22 a23 a24 a25 a26 a29 a30 a31 a32 a43 a44 a45 a51 a52 a53 a54 a55 l46 r9n r9c og ogn ogc rtn rtc ptn ptc p0 p1 Pl j0 j1 j2 j3 j4 j5 j6 j7 j8 j9 j10 j11 j12 j13 j14 j15 j16 j17 j18 j19 j20 j21 j22 j23 j24 j25 j26 j27 j28 j29 b1 b2 b3 b4 b5 b6 b7 b8 b9 b10 b11 b12 b13 b14 b15 b16 b17 b18 b19 b20 b21 b22 b23 b24 b25 b26 b27 b28 b29 b30 b31 b32 b33 b34 b35 b36 b37 b38 b39 b40 b41 b42 b43 b44 b45 b46 b47 b48 b49 b50 b51 b52 b53 b55 b56 b57 b58 b61 b62 b63 b64 b65 b66 iam B hM hr hp hk hcn hxR1 => ?_)
  obtain ⟨hr1, hr2, hr3, hr4, hr5⟩ := id hr
  refine lv_aload_n hx hb dL_law_511 rfl (lv_at hl 2 rfl) ?_
  refine law_arg (kv := 1) C0 E hS hl (by decide) (by decide) (by omega) (by omega) (by omega) dL_law_512 dL_law_513 dL_law_514 dL_law_515 dL_law_516 ?_
  refine at_pc (n := 517) rfl ?_
  refine law_arg (kv := 2) C0 E hS hl (by decide) (by decide) (by omega) (by omega) (by omega) dL_law_517 dL_law_518 dL_law_519 dL_law_520 dL_law_521 ?_
  refine at_pc (n := 522) rfl ?_
  refine b_eq (tgt := 529) E rfl dL_law_522 (by decide) (fun c_1 => ?_) (fun c_1 => ?_)
  · skip
    refine lv_iconst (v := 0) hx hb dL_law_529 (by decide) ?_
    obtain ⟨_, Rz⟩ := B.rec0
    refine hc_VI (kn := 2) E hS B (x11_scholar l D tN (fun q : Nat => s.heap.size ≤ q) ((xs (i.toInt + 1).toNat)) ((0 : Int32))) (good_V w_1883b9e3 w_9b9d7b56 w_4fc22653 w_93c426f0 w_257efaef) Rz rfl ⟨rfl, by decide +kernel⟩ rfl rfl rfl ⟨Nat.le_of_ble_eq_true rfl, Nat.le_of_ble_eq_true rfl⟩ rfl hl (Nat.le_of_ble_eq_true rfl) dL_law_530 ⟨by show _ ≤ 600000; omega, by show _ ≤ 7302250; omega⟩ (fun v_2 H locs w_3 hS => ?_)
    have B0 := B
    obtain ⟨ni4_4, ni7_5, na15_6, hv_7, ex_8, ex_9, ex_10, B⟩ := w_3
    refine at_n (n := 533) (k1 := cells + 0) (k2 := slots + 0) rfl rfl rfl ?_
    refine lv_pop hx hb dL_law_533 rfl ?_
    refine lv_aload_n hx hb dL_law_534 rfl (lv_at hl 1 rfl) ?_
    refine law_arg (kv := 1) C0 E hS hl (by decide) (by decide) (by omega) (by omega) (by omega) dL_law_535 dL_law_536 dL_law_537 dL_law_538 dL_law_539 ?_
    refine at_pc (n := 540) rfl ?_
    refine law_arg (kv := 2) C0 E hS hl (by decide) (by decide) (by omega) (by omega) (by omega) dL_law_540 dL_law_541 dL_law_542 dL_law_543 dL_law_544 ?_
    refine at_pc (n := 545) rfl ?_
    refine b_eq (tgt := 552) E rfl dL_law_545 (by decide) (fun c_11 => ?_) (fun c_11 => ?_)
    · skip
      refine lv_iconst (v := 0) hx hb dL_law_552 (by decide) ?_
      obtain ⟨Rw, B, back⟩ := toM B hM
      obtain ⟨_, Rz⟩ := B.rec
      refine hc_VI (kn := 2) E hS B (m12_scholar l D tN (fun q : Nat => s.heap.size ≤ q) ((xs (i.toInt + 1).toNat)) ((0 : Int32))) (good_V w_7b26d0fd w_949935a0 w_7a8e0231 w_2e12d08c w_fab7e5e0) Rz rfl ⟨rfl, by decide +kernel⟩ rfl rfl rfl ⟨Nat.le_of_ble_eq_true rfl, Nat.le_of_ble_eq_true rfl⟩ rfl hl (Nat.le_of_ble_eq_true rfl) dL_law_553 ⟨by show _ ≤ 600000; omega, by show _ ≤ 7302250; omega⟩ (fun v_12 H locs w_13 hS => ?_)
      obtain ⟨ni5_14, na10_15, na11_16, hv_17, ex_18, ex_19, B⟩ := w_13
      obtain ⟨_, B, hM⟩ := back B
      obtain ⟨hq_20, hx_21⟩ := R1_scholar hxR1 ex_8 ex_9 ex_10 ex_18 ex_19
      refine at_n (n := 556) (k1 := cells + 0) (k2 := slots + 0) rfl rfl rfl ?_
      refine lv_pop hx hb dL_law_556 rfl ?_
      refine lv_goto (tgt := 1569) hx hb dL_law_557 (by decide) ?_
      refine W.widen (k := cells + 8) (n := slots + 160) (by omega) (by omega) ?_
      refine kk _ _ _ (LI.mk B hM ⟨by omega, by omega, by omega, by omega, by omega⟩ hp hk (by omega) hx_21) hS hl
    · exfalso; omega
  · skip
    refine lv_iconst (v := 1) hx hb dL_law_525 (by decide) ?_
    refine lv_goto (tgt := 530) hx hb dL_law_526 (by decide) ?_
    obtain ⟨_, Rz⟩ := B.rec0
    refine hc_VI (kn := 2) E hS B (x11_scholar l D tN (fun q : Nat => s.heap.size ≤ q) ((xs (i.toInt + 1).toNat)) ((1 : Int32))) (good_V w_1883b9e3 w_9b9d7b56 w_4fc22653 w_93c426f0 w_257efaef) Rz rfl ⟨rfl, by decide +kernel⟩ rfl rfl rfl ⟨Nat.le_of_ble_eq_true rfl, Nat.le_of_ble_eq_true rfl⟩ rfl hl (Nat.le_of_ble_eq_true rfl) dL_law_530 ⟨by show _ ≤ 600000; omega, by show _ ≤ 7302250; omega⟩ (fun v_22 H locs w_23 hS => ?_)
    have B0 := B
    obtain ⟨ni4_24, ni7_25, na15_26, hv_27, ex_28, ex_29, ex_30, B⟩ := w_23
    refine at_n (n := 533) (k1 := cells + 0) (k2 := slots + 0) rfl rfl rfl ?_
    refine lv_pop hx hb dL_law_533 rfl ?_
    refine lv_aload_n hx hb dL_law_534 rfl (lv_at hl 1 rfl) ?_
    refine law_arg (kv := 1) C0 E hS hl (by decide) (by decide) (by omega) (by omega) (by omega) dL_law_535 dL_law_536 dL_law_537 dL_law_538 dL_law_539 ?_
    refine at_pc (n := 540) rfl ?_
    refine law_arg (kv := 2) C0 E hS hl (by decide) (by decide) (by omega) (by omega) (by omega) dL_law_540 dL_law_541 dL_law_542 dL_law_543 dL_law_544 ?_
    refine at_pc (n := 545) rfl ?_
    refine b_eq (tgt := 552) E rfl dL_law_545 (by decide) (fun c_31 => ?_) (fun c_31 => ?_)
    · exfalso; omega
    · skip
      refine lv_iconst (v := 1) hx hb dL_law_548 (by decide) ?_
      refine lv_goto (tgt := 553) hx hb dL_law_549 (by decide) ?_
      obtain ⟨Rw, B, back⟩ := toM B hM
      obtain ⟨_, Rz⟩ := B.rec
      refine hc_VI (kn := 2) E hS B (m12_scholar l D tN (fun q : Nat => s.heap.size ≤ q) ((xs (i.toInt + 1).toNat)) ((1 : Int32))) (good_V w_7b26d0fd w_949935a0 w_7a8e0231 w_2e12d08c w_fab7e5e0) Rz rfl ⟨rfl, by decide +kernel⟩ rfl rfl rfl ⟨Nat.le_of_ble_eq_true rfl, Nat.le_of_ble_eq_true rfl⟩ rfl hl (Nat.le_of_ble_eq_true rfl) dL_law_553 ⟨by show _ ≤ 600000; omega, by show _ ≤ 7302250; omega⟩ (fun v_32 H locs w_33 hS => ?_)
      obtain ⟨ni5_34, na10_35, na11_36, hv_37, ex_38, ex_39, B⟩ := w_33
      obtain ⟨_, B, hM⟩ := back B
      obtain ⟨hq_40, hx_41⟩ := R1_scholar hxR1 ex_28 ex_29 ex_30 ex_38 ex_39
      refine at_n (n := 556) (k1 := cells + 0) (k2 := slots + 0) rfl rfl rfl ?_
      refine lv_pop hx hb dL_law_556 rfl ?_
      refine lv_goto (tgt := 1569) hx hb dL_law_557 (by decide) ?_
      refine W.widen (k := cells + 8) (n := slots + 160) (by omega) (by omega) ?_
      refine kk _ _ _ (LI.mk B hM ⟨by omega, by omega, by omega, by omega, by omega⟩ hp hk (by omega) hx_41) hS hl
