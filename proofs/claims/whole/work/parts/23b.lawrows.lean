theorem d_LW_law_234 : decode code 234 = .ok (.iload_n 3, 1) := by decide +kernel
theorem d_LW_law_235 : decode code 235 = .ok (.iconst 1, 1) := by decide +kernel
theorem d_LW_law_236 : decode code 236 = .ok (.iadd, 1) := by decide +kernel
theorem d_LW_law_237 : decode code 237 = .ok (.iaload, 1) := by decide +kernel
theorem d_LW_law_238 : decode code 238 = .ok (.invokevirtual 31, 3) := by decide +kernel
theorem d_LW_law_241 : decode code 241 = .ok (.if_icmp .eq 384, 3) := by decide +kernel
theorem d_LW_law_244 : decode code 244 = .ok (.iconst 0, 1) := by decide +kernel
theorem d_LW_law_245 : decode code 245 = .ok (.ireturn, 1) := by decide +kernel
theorem d_LW_law_246 : decode code 246 = .ok (.aload_n 1, 1) := by decide +kernel
theorem d_LW_law_247 : decode code 247 = .ok (.aload_n 0, 1) := by decide +kernel
theorem d_LW_law_248 : decode code 248 = .ok (.iload_n 3, 1) := by decide +kernel
theorem d_LW_law_249 : decode code 249 = .ok (.iconst 1, 1) := by decide +kernel
theorem d_LW_law_250 : decode code 250 = .ok (.iadd, 1) := by decide +kernel
theorem d_LW_law_251 : decode code 251 = .ok (.iaload, 1) := by decide +kernel
theorem d_LW_law_252 : decode code 252 = .ok (.invokevirtual 32, 3) := by decide +kernel
theorem d_LW_law_255 : decode code 255 = .ok (.aload_n 2, 1) := by decide +kernel
theorem d_LW_law_256 : decode code 256 = .ok (.aload_n 0, 1) := by decide +kernel
theorem d_LW_law_257 : decode code 257 = .ok (.iload_n 3, 1) := by decide +kernel
theorem d_LW_law_258 : decode code 258 = .ok (.iconst 1, 1) := by decide +kernel
theorem d_LW_law_259 : decode code 259 = .ok (.iadd, 1) := by decide +kernel
theorem d_LW_law_260 : decode code 260 = .ok (.iaload, 1) := by decide +kernel
theorem d_LW_law_261 : decode code 261 = .ok (.invokevirtual 35, 3) := by decide +kernel
theorem d_LW_law_264 : decode code 264 = .ok (.if_icmp .eq 361, 3) := by decide +kernel
theorem d_LW_law_267 : decode code 267 = .ok (.iconst 0, 1) := by decide +kernel
theorem d_LW_law_268 : decode code 268 = .ok (.ireturn, 1) := by decide +kernel
theorem d_LW_law_269 : decode code 269 = .ok (.aload_n 1, 1) := by decide +kernel
theorem d_LW_law_270 : decode code 270 = .ok (.aload_n 0, 1) := by decide +kernel
theorem d_LW_law_271 : decode code 271 = .ok (.iload_n 3, 1) := by decide +kernel
theorem d_LW_law_272 : decode code 272 = .ok (.iconst 1, 1) := by decide +kernel
theorem d_LW_law_273 : decode code 273 = .ok (.iadd, 1) := by decide +kernel
theorem d_LW_law_274 : decode code 274 = .ok (.iaload, 1) := by decide +kernel
theorem d_LW_law_275 : decode code 275 = .ok (.aload_n 0, 1) := by decide +kernel
theorem d_LW_law_276 : decode code 276 = .ok (.iload_n 3, 1) := by decide +kernel
theorem d_LW_law_277 : decode code 277 = .ok (.iconst 2, 1) := by decide +kernel
theorem d_LW_law_278 : decode code 278 = .ok (.iadd, 1) := by decide +kernel
theorem d_LW_law_279 : decode code 279 = .ok (.iaload, 1) := by decide +kernel
theorem d_LW_law_280 : decode code 280 = .ok (.invokevirtual 36, 3) := by decide +kernel
theorem d_LW_law_283 : decode code 283 = .ok (.aload_n 2, 1) := by decide +kernel
theorem d_LW_law_284 : decode code 284 = .ok (.aload_n 0, 1) := by decide +kernel
theorem d_LW_law_285 : decode code 285 = .ok (.iload_n 3, 1) := by decide +kernel
theorem d_LW_law_286 : decode code 286 = .ok (.iconst 1, 1) := by decide +kernel
theorem d_LW_law_287 : decode code 287 = .ok (.iadd, 1) := by decide +kernel
theorem d_LW_law_288 : decode code 288 = .ok (.iaload, 1) := by decide +kernel
theorem d_LW_law_289 : decode code 289 = .ok (.aload_n 0, 1) := by decide +kernel
theorem d_LW_law_290 : decode code 290 = .ok (.iload_n 3, 1) := by decide +kernel
theorem d_LW_law_291 : decode code 291 = .ok (.iconst 2, 1) := by decide +kernel
theorem d_LW_law_292 : decode code 292 = .ok (.iadd, 1) := by decide +kernel
theorem d_LW_law_293 : decode code 293 = .ok (.iaload, 1) := by decide +kernel
theorem d_LW_law_294 : decode code 294 = .ok (.invokevirtual 39, 3) := by decide +kernel
theorem d_LW_law_297 : decode code 297 = .ok (.if_icmp .eq 328, 3) := by decide +kernel
theorem d_LW_law_300 : decode code 300 = .ok (.iconst 0, 1) := by decide +kernel
theorem d_LW_law_301 : decode code 301 = .ok (.ireturn, 1) := by decide +kernel
theorem d_LW_law_302 : decode code 302 = .ok (.aload_n 1, 1) := by decide +kernel
theorem d_LW_law_303 : decode code 303 = .ok (.aload_n 0, 1) := by decide +kernel
theorem d_LW_law_304 : decode code 304 = .ok (.iload_n 3, 1) := by decide +kernel
theorem d_LW_law_305 : decode code 305 = .ok (.iconst 1, 1) := by decide +kernel
theorem d_LW_law_306 : decode code 306 = .ok (.iadd, 1) := by decide +kernel
theorem d_LW_law_307 : decode code 307 = .ok (.iaload, 1) := by decide +kernel
theorem d_LW_law_308 : decode code 308 = .ok (.aload_n 0, 1) := by decide +kernel
theorem d_LW_law_309 : decode code 309 = .ok (.iload_n 3, 1) := by decide +kernel
theorem d_LW_law_310 : decode code 310 = .ok (.iconst 2, 1) := by decide +kernel
theorem d_LW_law_311 : decode code 311 = .ok (.iadd, 1) := by decide +kernel
theorem d_LW_law_312 : decode code 312 = .ok (.iaload, 1) := by decide +kernel
theorem d_LW_law_313 : decode code 313 = .ok (.invokevirtual 40, 3) := by decide +kernel
theorem d_LW_law_316 : decode code 316 = .ok (.aload_n 2, 1) := by decide +kernel
theorem d_LW_law_317 : decode code 317 = .ok (.aload_n 0, 1) := by decide +kernel
theorem d_LW_law_318 : decode code 318 = .ok (.iload_n 3, 1) := by decide +kernel
theorem d_LW_law_319 : decode code 319 = .ok (.iconst 1, 1) := by decide +kernel
theorem d_LW_law_320 : decode code 320 = .ok (.iadd, 1) := by decide +kernel
theorem d_LW_law_321 : decode code 321 = .ok (.iaload, 1) := by decide +kernel
theorem d_LW_law_322 : decode code 322 = .ok (.aload_n 0, 1) := by decide +kernel
theorem d_LW_law_323 : decode code 323 = .ok (.iload_n 3, 1) := by decide +kernel
theorem d_LW_law_324 : decode code 324 = .ok (.iconst 2, 1) := by decide +kernel
theorem d_LW_law_325 : decode code 325 = .ok (.iadd, 1) := by decide +kernel
theorem d_LW_law_326 : decode code 326 = .ok (.iaload, 1) := by decide +kernel
theorem d_LW_law_327 : decode code 327 = .ok (.invokevirtual 43, 3) := by decide +kernel
theorem d_LW_law_330 : decode code 330 = .ok (.if_icmp .eq 295, 3) := by decide +kernel
theorem d_LW_law_333 : decode code 333 = .ok (.iconst 0, 1) := by decide +kernel
theorem d_LW_law_334 : decode code 334 = .ok (.ireturn, 1) := by decide +kernel
theorem d_LW_law_335 : decode code 335 = .ok (.aload_n 1, 1) := by decide +kernel
theorem d_LW_law_336 : decode code 336 = .ok (.aload_n 0, 1) := by decide +kernel
theorem d_LW_law_337 : decode code 337 = .ok (.iload_n 3, 1) := by decide +kernel
theorem d_LW_law_338 : decode code 338 = .ok (.iconst 1, 1) := by decide +kernel
theorem d_LW_law_339 : decode code 339 = .ok (.iadd, 1) := by decide +kernel
theorem d_LW_law_340 : decode code 340 = .ok (.iaload, 1) := by decide +kernel
theorem d_LW_law_341 : decode code 341 = .ok (.aload_n 0, 1) := by decide +kernel
theorem d_LW_law_342 : decode code 342 = .ok (.iload_n 3, 1) := by decide +kernel
theorem d_LW_law_343 : decode code 343 = .ok (.iconst 2, 1) := by decide +kernel
theorem d_LW_law_344 : decode code 344 = .ok (.iadd, 1) := by decide +kernel
theorem d_LW_law_345 : decode code 345 = .ok (.iaload, 1) := by decide +kernel
theorem d_LW_law_346 : decode code 346 = .ok (.invokevirtual 44, 3) := by decide +kernel
theorem d_LW_law_349 : decode code 349 = .ok (.aload_n 2, 1) := by decide +kernel
theorem d_LW_law_350 : decode code 350 = .ok (.aload_n 0, 1) := by decide +kernel
theorem d_LW_law_351 : decode code 351 = .ok (.iload_n 3, 1) := by decide +kernel
theorem d_LW_law_352 : decode code 352 = .ok (.iconst 1, 1) := by decide +kernel
theorem d_LW_law_353 : decode code 353 = .ok (.iadd, 1) := by decide +kernel
theorem d_LW_law_354 : decode code 354 = .ok (.iaload, 1) := by decide +kernel
theorem d_LW_law_355 : decode code 355 = .ok (.aload_n 0, 1) := by decide +kernel
theorem d_LW_law_356 : decode code 356 = .ok (.iload_n 3, 1) := by decide +kernel
theorem d_LW_law_357 : decode code 357 = .ok (.iconst 2, 1) := by decide +kernel
theorem d_LW_law_358 : decode code 358 = .ok (.iadd, 1) := by decide +kernel
theorem d_LW_law_359 : decode code 359 = .ok (.iaload, 1) := by decide +kernel
theorem d_LW_law_360 : decode code 360 = .ok (.invokevirtual 47, 3) := by decide +kernel
theorem d_LW_law_363 : decode code 363 = .ok (.if_icmp .eq 262, 3) := by decide +kernel
theorem d_LW_law_366 : decode code 366 = .ok (.iconst 0, 1) := by decide +kernel
theorem d_LW_law_367 : decode code 367 = .ok (.ireturn, 1) := by decide +kernel
theorem d_LW_law_368 : decode code 368 = .ok (.aload_n 1, 1) := by decide +kernel
theorem d_LW_law_369 : decode code 369 = .ok (.aload_n 0, 1) := by decide +kernel
theorem d_LW_law_370 : decode code 370 = .ok (.iload_n 3, 1) := by decide +kernel
theorem d_LW_law_371 : decode code 371 = .ok (.iconst 1, 1) := by decide +kernel
theorem d_LW_law_372 : decode code 372 = .ok (.iadd, 1) := by decide +kernel
theorem d_LW_law_373 : decode code 373 = .ok (.iaload, 1) := by decide +kernel
theorem d_LW_law_374 : decode code 374 = .ok (.invokevirtual 48, 3) := by decide +kernel
theorem d_LW_law_377 : decode code 377 = .ok (.aload_n 2, 1) := by decide +kernel
theorem d_LW_law_378 : decode code 378 = .ok (.aload_n 0, 1) := by decide +kernel
theorem d_LW_law_379 : decode code 379 = .ok (.iload_n 3, 1) := by decide +kernel
theorem d_LW_law_380 : decode code 380 = .ok (.iconst 1, 1) := by decide +kernel
theorem d_LW_law_381 : decode code 381 = .ok (.iadd, 1) := by decide +kernel
theorem d_LW_law_382 : decode code 382 = .ok (.iaload, 1) := by decide +kernel
theorem d_LW_law_383 : decode code 383 = .ok (.invokevirtual 51, 3) := by decide +kernel
