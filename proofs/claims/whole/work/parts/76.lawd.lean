/-! THE BYTECODE OF THE LAW -/
theorem d_L_law_0 : decode (zmc m_L_law) 0 = .ok (.new 7, 3) := by decide +kernel
theorem d_L_law_3 : decode (zmc m_L_law) 3 = .ok (.dup, 1) := by decide +kernel
theorem d_L_law_4 : decode (zmc m_L_law) 4 = .ok (.invokespecial 9, 3) := by decide +kernel
theorem d_L_law_7 : decode (zmc m_L_law) 7 = .ok (.astore_n 1, 1) := by decide +kernel
theorem d_L_law_8 : decode (zmc m_L_law) 8 = .ok (.new 10, 3) := by decide +kernel
theorem d_L_law_11 : decode (zmc m_L_law) 11 = .ok (.dup, 1) := by decide +kernel
theorem d_L_law_12 : decode (zmc m_L_law) 12 = .ok (.invokespecial 12, 3) := by decide +kernel
theorem d_L_law_15 : decode (zmc m_L_law) 15 = .ok (.astore_n 2, 1) := by decide +kernel
theorem d_L_law_16 : decode (zmc m_L_law) 16 = .ok (.iconst 0, 1) := by decide +kernel
theorem d_L_law_17 : decode (zmc m_L_law) 17 = .ok (.istore_n 3, 1) := by decide +kernel
theorem d_L_law_18 : decode (zmc m_L_law) 18 = .ok (.iload_n 3, 1) := by decide +kernel
theorem d_L_law_19 : decode (zmc m_L_law) 19 = .ok (.aload_n 0, 1) := by decide +kernel
theorem d_L_law_20 : decode (zmc m_L_law) 20 = .ok (.arraylength, 1) := by decide +kernel
theorem d_L_law_21 : decode (zmc m_L_law) 21 = .ok (.bipush 6, 2) := by decide +kernel
theorem d_L_law_23 : decode (zmc m_L_law) 23 = .ok (.isub, 1) := by decide +kernel
theorem d_L_law_24 : decode (zmc m_L_law) 24 = .ok (.if_icmp .gt 1400, 3) := by decide +kernel
theorem d_L_law_27 : decode (zmc m_L_law) 27 = .ok (.aload_n 0, 1) := by decide +kernel
theorem d_L_law_28 : decode (zmc m_L_law) 28 = .ok (.iload_n 3, 1) := by decide +kernel
theorem d_L_law_29 : decode (zmc m_L_law) 29 = .ok (.iaload, 1) := by decide +kernel
theorem d_L_law_30 : decode (zmc m_L_law) 30 = .ok (.bipush 63, 2) := by decide +kernel
theorem d_L_law_32 : decode (zmc m_L_law) 32 = .ok (.iand, 1) := by decide +kernel
theorem d_L_law_33 : decode (zmc m_L_law) 33 = .ok (.tableswitch 1385 0 40 #[179, 202, 245, 268, 291, 334, 367, 390, 403, 426, 459, 493, 527, 550, 573, 596, 619, 662, 675, 698, 731, 764, 797, 850, 873, 896, 919, 942, 955, 968, 981, 994, 1017, 1060, 1083, 1116, 1159, 1232, 1266, 1329, 1362], 179) := by decide +kernel
theorem d_L_law_212 : decode (zmc m_L_law) 212 = .ok (.aload_n 1, 1) := by decide +kernel
theorem d_L_law_213 : decode (zmc m_L_law) 213 = .ok (.aload_n 0, 1) := by decide +kernel
theorem d_L_law_214 : decode (zmc m_L_law) 214 = .ok (.iload_n 3, 1) := by decide +kernel
theorem d_L_law_215 : decode (zmc m_L_law) 215 = .ok (.iconst 1, 1) := by decide +kernel
theorem d_L_law_216 : decode (zmc m_L_law) 216 = .ok (.iadd, 1) := by decide +kernel
theorem d_L_law_217 : decode (zmc m_L_law) 217 = .ok (.iaload, 1) := by decide +kernel
theorem d_L_law_218 : decode (zmc m_L_law) 218 = .ok (.invokevirtual 13, 3) := by decide +kernel
theorem d_L_law_221 : decode (zmc m_L_law) 221 = .ok (.aload_n 2, 1) := by decide +kernel
theorem d_L_law_222 : decode (zmc m_L_law) 222 = .ok (.aload_n 0, 1) := by decide +kernel
theorem d_L_law_223 : decode (zmc m_L_law) 223 = .ok (.iload_n 3, 1) := by decide +kernel
theorem d_L_law_224 : decode (zmc m_L_law) 224 = .ok (.iconst 1, 1) := by decide +kernel
theorem d_L_law_225 : decode (zmc m_L_law) 225 = .ok (.iadd, 1) := by decide +kernel
theorem d_L_law_226 : decode (zmc m_L_law) 226 = .ok (.iaload, 1) := by decide +kernel
theorem d_L_law_227 : decode (zmc m_L_law) 227 = .ok (.invokevirtual 17, 3) := by decide +kernel
theorem d_L_law_230 : decode (zmc m_L_law) 230 = .ok (.if_icmp .eq 1188, 3) := by decide +kernel
theorem d_L_law_233 : decode (zmc m_L_law) 233 = .ok (.iconst 0, 1) := by decide +kernel
theorem d_L_law_234 : decode (zmc m_L_law) 234 = .ok (.ireturn, 1) := by decide +kernel
theorem d_L_law_235 : decode (zmc m_L_law) 235 = .ok (.aload_n 1, 1) := by decide +kernel
theorem d_L_law_236 : decode (zmc m_L_law) 236 = .ok (.aload_n 0, 1) := by decide +kernel
theorem d_L_law_237 : decode (zmc m_L_law) 237 = .ok (.iload_n 3, 1) := by decide +kernel
theorem d_L_law_238 : decode (zmc m_L_law) 238 = .ok (.iconst 1, 1) := by decide +kernel
theorem d_L_law_239 : decode (zmc m_L_law) 239 = .ok (.iadd, 1) := by decide +kernel
theorem d_L_law_240 : decode (zmc m_L_law) 240 = .ok (.iaload, 1) := by decide +kernel
theorem d_L_law_241 : decode (zmc m_L_law) 241 = .ok (.aload_n 0, 1) := by decide +kernel
theorem d_L_law_242 : decode (zmc m_L_law) 242 = .ok (.iload_n 3, 1) := by decide +kernel
theorem d_L_law_243 : decode (zmc m_L_law) 243 = .ok (.iconst 2, 1) := by decide +kernel
theorem d_L_law_244 : decode (zmc m_L_law) 244 = .ok (.iadd, 1) := by decide +kernel
theorem d_L_law_245 : decode (zmc m_L_law) 245 = .ok (.iaload, 1) := by decide +kernel
theorem d_L_law_246 : decode (zmc m_L_law) 246 = .ok (.aload_n 0, 1) := by decide +kernel
theorem d_L_law_247 : decode (zmc m_L_law) 247 = .ok (.iload_n 3, 1) := by decide +kernel
theorem d_L_law_248 : decode (zmc m_L_law) 248 = .ok (.iconst 3, 1) := by decide +kernel
theorem d_L_law_249 : decode (zmc m_L_law) 249 = .ok (.iadd, 1) := by decide +kernel
theorem d_L_law_250 : decode (zmc m_L_law) 250 = .ok (.iaload, 1) := by decide +kernel
theorem d_L_law_251 : decode (zmc m_L_law) 251 = .ok (.invokevirtual 18, 3) := by decide +kernel
theorem d_L_law_254 : decode (zmc m_L_law) 254 = .ok (.aload_n 2, 1) := by decide +kernel
theorem d_L_law_255 : decode (zmc m_L_law) 255 = .ok (.aload_n 0, 1) := by decide +kernel
theorem d_L_law_256 : decode (zmc m_L_law) 256 = .ok (.iload_n 3, 1) := by decide +kernel
theorem d_L_law_257 : decode (zmc m_L_law) 257 = .ok (.iconst 1, 1) := by decide +kernel
theorem d_L_law_258 : decode (zmc m_L_law) 258 = .ok (.iadd, 1) := by decide +kernel
theorem d_L_law_259 : decode (zmc m_L_law) 259 = .ok (.iaload, 1) := by decide +kernel
theorem d_L_law_260 : decode (zmc m_L_law) 260 = .ok (.aload_n 0, 1) := by decide +kernel
theorem d_L_law_261 : decode (zmc m_L_law) 261 = .ok (.iload_n 3, 1) := by decide +kernel
theorem d_L_law_262 : decode (zmc m_L_law) 262 = .ok (.iconst 2, 1) := by decide +kernel
theorem d_L_law_263 : decode (zmc m_L_law) 263 = .ok (.iadd, 1) := by decide +kernel
theorem d_L_law_264 : decode (zmc m_L_law) 264 = .ok (.iaload, 1) := by decide +kernel
theorem d_L_law_265 : decode (zmc m_L_law) 265 = .ok (.aload_n 0, 1) := by decide +kernel
theorem d_L_law_266 : decode (zmc m_L_law) 266 = .ok (.iload_n 3, 1) := by decide +kernel
theorem d_L_law_267 : decode (zmc m_L_law) 267 = .ok (.iconst 3, 1) := by decide +kernel
theorem d_L_law_268 : decode (zmc m_L_law) 268 = .ok (.iadd, 1) := by decide +kernel
theorem d_L_law_269 : decode (zmc m_L_law) 269 = .ok (.iaload, 1) := by decide +kernel
theorem d_L_law_270 : decode (zmc m_L_law) 270 = .ok (.invokevirtual 22, 3) := by decide +kernel
theorem d_L_law_273 : decode (zmc m_L_law) 273 = .ok (.if_icmp .eq 1145, 3) := by decide +kernel
theorem d_L_law_276 : decode (zmc m_L_law) 276 = .ok (.iconst 0, 1) := by decide +kernel
theorem d_L_law_277 : decode (zmc m_L_law) 277 = .ok (.ireturn, 1) := by decide +kernel
theorem d_L_law_278 : decode (zmc m_L_law) 278 = .ok (.aload_n 1, 1) := by decide +kernel
theorem d_L_law_279 : decode (zmc m_L_law) 279 = .ok (.aload_n 0, 1) := by decide +kernel
theorem d_L_law_280 : decode (zmc m_L_law) 280 = .ok (.iload_n 3, 1) := by decide +kernel
theorem d_L_law_281 : decode (zmc m_L_law) 281 = .ok (.iconst 1, 1) := by decide +kernel
theorem d_L_law_282 : decode (zmc m_L_law) 282 = .ok (.iadd, 1) := by decide +kernel
theorem d_L_law_283 : decode (zmc m_L_law) 283 = .ok (.iaload, 1) := by decide +kernel
theorem d_L_law_284 : decode (zmc m_L_law) 284 = .ok (.invokevirtual 23, 3) := by decide +kernel
theorem d_L_law_287 : decode (zmc m_L_law) 287 = .ok (.aload_n 2, 1) := by decide +kernel
theorem d_L_law_288 : decode (zmc m_L_law) 288 = .ok (.aload_n 0, 1) := by decide +kernel
theorem d_L_law_289 : decode (zmc m_L_law) 289 = .ok (.iload_n 3, 1) := by decide +kernel
theorem d_L_law_290 : decode (zmc m_L_law) 290 = .ok (.iconst 1, 1) := by decide +kernel
theorem d_L_law_291 : decode (zmc m_L_law) 291 = .ok (.iadd, 1) := by decide +kernel
theorem d_L_law_292 : decode (zmc m_L_law) 292 = .ok (.iaload, 1) := by decide +kernel
theorem d_L_law_293 : decode (zmc m_L_law) 293 = .ok (.invokevirtual 26, 3) := by decide +kernel
theorem d_L_law_296 : decode (zmc m_L_law) 296 = .ok (.if_icmp .eq 1122, 3) := by decide +kernel
theorem d_L_law_299 : decode (zmc m_L_law) 299 = .ok (.iconst 0, 1) := by decide +kernel
theorem d_L_law_300 : decode (zmc m_L_law) 300 = .ok (.ireturn, 1) := by decide +kernel
theorem d_L_law_301 : decode (zmc m_L_law) 301 = .ok (.aload_n 1, 1) := by decide +kernel
theorem d_L_law_302 : decode (zmc m_L_law) 302 = .ok (.aload_n 0, 1) := by decide +kernel
theorem d_L_law_303 : decode (zmc m_L_law) 303 = .ok (.iload_n 3, 1) := by decide +kernel
theorem d_L_law_304 : decode (zmc m_L_law) 304 = .ok (.iconst 1, 1) := by decide +kernel
theorem d_L_law_305 : decode (zmc m_L_law) 305 = .ok (.iadd, 1) := by decide +kernel
theorem d_L_law_306 : decode (zmc m_L_law) 306 = .ok (.iaload, 1) := by decide +kernel
theorem d_L_law_307 : decode (zmc m_L_law) 307 = .ok (.invokevirtual 27, 3) := by decide +kernel
theorem d_L_law_310 : decode (zmc m_L_law) 310 = .ok (.aload_n 2, 1) := by decide +kernel
theorem d_L_law_311 : decode (zmc m_L_law) 311 = .ok (.aload_n 0, 1) := by decide +kernel
theorem d_L_law_312 : decode (zmc m_L_law) 312 = .ok (.iload_n 3, 1) := by decide +kernel
theorem d_L_law_313 : decode (zmc m_L_law) 313 = .ok (.iconst 1, 1) := by decide +kernel
theorem d_L_law_314 : decode (zmc m_L_law) 314 = .ok (.iadd, 1) := by decide +kernel
theorem d_L_law_315 : decode (zmc m_L_law) 315 = .ok (.iaload, 1) := by decide +kernel
theorem d_L_law_316 : decode (zmc m_L_law) 316 = .ok (.invokevirtual 30, 3) := by decide +kernel
theorem d_L_law_319 : decode (zmc m_L_law) 319 = .ok (.if_icmp .eq 1099, 3) := by decide +kernel
theorem d_L_law_322 : decode (zmc m_L_law) 322 = .ok (.iconst 0, 1) := by decide +kernel
theorem d_L_law_323 : decode (zmc m_L_law) 323 = .ok (.ireturn, 1) := by decide +kernel
theorem d_L_law_324 : decode (zmc m_L_law) 324 = .ok (.aload_n 1, 1) := by decide +kernel
theorem d_L_law_325 : decode (zmc m_L_law) 325 = .ok (.aload_n 0, 1) := by decide +kernel
theorem d_L_law_326 : decode (zmc m_L_law) 326 = .ok (.iload_n 3, 1) := by decide +kernel
theorem d_L_law_327 : decode (zmc m_L_law) 327 = .ok (.iconst 1, 1) := by decide +kernel
theorem d_L_law_328 : decode (zmc m_L_law) 328 = .ok (.iadd, 1) := by decide +kernel
theorem d_L_law_329 : decode (zmc m_L_law) 329 = .ok (.iaload, 1) := by decide +kernel
theorem d_L_law_330 : decode (zmc m_L_law) 330 = .ok (.aload_n 0, 1) := by decide +kernel
theorem d_L_law_331 : decode (zmc m_L_law) 331 = .ok (.iload_n 3, 1) := by decide +kernel
theorem d_L_law_332 : decode (zmc m_L_law) 332 = .ok (.iconst 2, 1) := by decide +kernel
theorem d_L_law_333 : decode (zmc m_L_law) 333 = .ok (.iadd, 1) := by decide +kernel
theorem d_L_law_334 : decode (zmc m_L_law) 334 = .ok (.iaload, 1) := by decide +kernel
theorem d_L_law_335 : decode (zmc m_L_law) 335 = .ok (.aload_n 0, 1) := by decide +kernel
theorem d_L_law_336 : decode (zmc m_L_law) 336 = .ok (.iload_n 3, 1) := by decide +kernel
theorem d_L_law_337 : decode (zmc m_L_law) 337 = .ok (.iconst 3, 1) := by decide +kernel
theorem d_L_law_338 : decode (zmc m_L_law) 338 = .ok (.iadd, 1) := by decide +kernel
theorem d_L_law_339 : decode (zmc m_L_law) 339 = .ok (.iaload, 1) := by decide +kernel
theorem d_L_law_340 : decode (zmc m_L_law) 340 = .ok (.invokevirtual 31, 3) := by decide +kernel
theorem d_L_law_343 : decode (zmc m_L_law) 343 = .ok (.aload_n 2, 1) := by decide +kernel
theorem d_L_law_344 : decode (zmc m_L_law) 344 = .ok (.aload_n 0, 1) := by decide +kernel
theorem d_L_law_345 : decode (zmc m_L_law) 345 = .ok (.iload_n 3, 1) := by decide +kernel
theorem d_L_law_346 : decode (zmc m_L_law) 346 = .ok (.iconst 1, 1) := by decide +kernel
theorem d_L_law_347 : decode (zmc m_L_law) 347 = .ok (.iadd, 1) := by decide +kernel
theorem d_L_law_348 : decode (zmc m_L_law) 348 = .ok (.iaload, 1) := by decide +kernel
theorem d_L_law_349 : decode (zmc m_L_law) 349 = .ok (.aload_n 0, 1) := by decide +kernel
theorem d_L_law_350 : decode (zmc m_L_law) 350 = .ok (.iload_n 3, 1) := by decide +kernel
theorem d_L_law_351 : decode (zmc m_L_law) 351 = .ok (.iconst 2, 1) := by decide +kernel
theorem d_L_law_352 : decode (zmc m_L_law) 352 = .ok (.iadd, 1) := by decide +kernel
theorem d_L_law_353 : decode (zmc m_L_law) 353 = .ok (.iaload, 1) := by decide +kernel
theorem d_L_law_354 : decode (zmc m_L_law) 354 = .ok (.aload_n 0, 1) := by decide +kernel
theorem d_L_law_355 : decode (zmc m_L_law) 355 = .ok (.iload_n 3, 1) := by decide +kernel
theorem d_L_law_356 : decode (zmc m_L_law) 356 = .ok (.iconst 3, 1) := by decide +kernel
theorem d_L_law_357 : decode (zmc m_L_law) 357 = .ok (.iadd, 1) := by decide +kernel
theorem d_L_law_358 : decode (zmc m_L_law) 358 = .ok (.iaload, 1) := by decide +kernel
theorem d_L_law_359 : decode (zmc m_L_law) 359 = .ok (.invokevirtual 34, 3) := by decide +kernel
theorem d_L_law_362 : decode (zmc m_L_law) 362 = .ok (.if_icmp .eq 1056, 3) := by decide +kernel
theorem d_L_law_365 : decode (zmc m_L_law) 365 = .ok (.iconst 0, 1) := by decide +kernel
theorem d_L_law_366 : decode (zmc m_L_law) 366 = .ok (.ireturn, 1) := by decide +kernel
theorem d_L_law_367 : decode (zmc m_L_law) 367 = .ok (.aload_n 1, 1) := by decide +kernel
theorem d_L_law_368 : decode (zmc m_L_law) 368 = .ok (.aload_n 0, 1) := by decide +kernel
theorem d_L_law_369 : decode (zmc m_L_law) 369 = .ok (.iload_n 3, 1) := by decide +kernel
theorem d_L_law_370 : decode (zmc m_L_law) 370 = .ok (.iconst 1, 1) := by decide +kernel
theorem d_L_law_371 : decode (zmc m_L_law) 371 = .ok (.iadd, 1) := by decide +kernel
theorem d_L_law_372 : decode (zmc m_L_law) 372 = .ok (.iaload, 1) := by decide +kernel
theorem d_L_law_373 : decode (zmc m_L_law) 373 = .ok (.aload_n 0, 1) := by decide +kernel
theorem d_L_law_374 : decode (zmc m_L_law) 374 = .ok (.iload_n 3, 1) := by decide +kernel
theorem d_L_law_375 : decode (zmc m_L_law) 375 = .ok (.iconst 2, 1) := by decide +kernel
theorem d_L_law_376 : decode (zmc m_L_law) 376 = .ok (.iadd, 1) := by decide +kernel
theorem d_L_law_377 : decode (zmc m_L_law) 377 = .ok (.iaload, 1) := by decide +kernel
theorem d_L_law_378 : decode (zmc m_L_law) 378 = .ok (.invokevirtual 35, 3) := by decide +kernel
theorem d_L_law_381 : decode (zmc m_L_law) 381 = .ok (.aload_n 2, 1) := by decide +kernel
theorem d_L_law_382 : decode (zmc m_L_law) 382 = .ok (.aload_n 0, 1) := by decide +kernel
theorem d_L_law_383 : decode (zmc m_L_law) 383 = .ok (.iload_n 3, 1) := by decide +kernel
theorem d_L_law_384 : decode (zmc m_L_law) 384 = .ok (.iconst 1, 1) := by decide +kernel
theorem d_L_law_385 : decode (zmc m_L_law) 385 = .ok (.iadd, 1) := by decide +kernel
theorem d_L_law_386 : decode (zmc m_L_law) 386 = .ok (.iaload, 1) := by decide +kernel
theorem d_L_law_387 : decode (zmc m_L_law) 387 = .ok (.aload_n 0, 1) := by decide +kernel
theorem d_L_law_388 : decode (zmc m_L_law) 388 = .ok (.iload_n 3, 1) := by decide +kernel
theorem d_L_law_389 : decode (zmc m_L_law) 389 = .ok (.iconst 2, 1) := by decide +kernel
theorem d_L_law_390 : decode (zmc m_L_law) 390 = .ok (.iadd, 1) := by decide +kernel
theorem d_L_law_391 : decode (zmc m_L_law) 391 = .ok (.iaload, 1) := by decide +kernel
theorem d_L_law_392 : decode (zmc m_L_law) 392 = .ok (.invokevirtual 39, 3) := by decide +kernel
theorem d_L_law_395 : decode (zmc m_L_law) 395 = .ok (.if_icmp .eq 1023, 3) := by decide +kernel
theorem d_L_law_398 : decode (zmc m_L_law) 398 = .ok (.iconst 0, 1) := by decide +kernel
theorem d_L_law_399 : decode (zmc m_L_law) 399 = .ok (.ireturn, 1) := by decide +kernel
theorem d_L_law_400 : decode (zmc m_L_law) 400 = .ok (.aload_n 1, 1) := by decide +kernel
theorem d_L_law_401 : decode (zmc m_L_law) 401 = .ok (.aload_n 0, 1) := by decide +kernel
theorem d_L_law_402 : decode (zmc m_L_law) 402 = .ok (.iload_n 3, 1) := by decide +kernel
theorem d_L_law_403 : decode (zmc m_L_law) 403 = .ok (.iconst 1, 1) := by decide +kernel
theorem d_L_law_404 : decode (zmc m_L_law) 404 = .ok (.iadd, 1) := by decide +kernel
theorem d_L_law_405 : decode (zmc m_L_law) 405 = .ok (.iaload, 1) := by decide +kernel
theorem d_L_law_406 : decode (zmc m_L_law) 406 = .ok (.invokevirtual 40, 3) := by decide +kernel
theorem d_L_law_409 : decode (zmc m_L_law) 409 = .ok (.aload_n 2, 1) := by decide +kernel
theorem d_L_law_410 : decode (zmc m_L_law) 410 = .ok (.aload_n 0, 1) := by decide +kernel
theorem d_L_law_411 : decode (zmc m_L_law) 411 = .ok (.iload_n 3, 1) := by decide +kernel
theorem d_L_law_412 : decode (zmc m_L_law) 412 = .ok (.iconst 1, 1) := by decide +kernel
theorem d_L_law_413 : decode (zmc m_L_law) 413 = .ok (.iadd, 1) := by decide +kernel
theorem d_L_law_414 : decode (zmc m_L_law) 414 = .ok (.iaload, 1) := by decide +kernel
theorem d_L_law_415 : decode (zmc m_L_law) 415 = .ok (.invokevirtual 43, 3) := by decide +kernel
theorem d_L_law_418 : decode (zmc m_L_law) 418 = .ok (.if_icmp .eq 1000, 3) := by decide +kernel
theorem d_L_law_421 : decode (zmc m_L_law) 421 = .ok (.iconst 0, 1) := by decide +kernel
theorem d_L_law_422 : decode (zmc m_L_law) 422 = .ok (.ireturn, 1) := by decide +kernel
theorem d_L_law_423 : decode (zmc m_L_law) 423 = .ok (.aload_n 1, 1) := by decide +kernel
theorem d_L_law_424 : decode (zmc m_L_law) 424 = .ok (.invokevirtual 44, 3) := by decide +kernel
theorem d_L_law_427 : decode (zmc m_L_law) 427 = .ok (.aload_n 2, 1) := by decide +kernel
theorem d_L_law_428 : decode (zmc m_L_law) 428 = .ok (.invokevirtual 48, 3) := by decide +kernel
theorem d_L_law_431 : decode (zmc m_L_law) 431 = .ok (.if_icmp .eq 987, 3) := by decide +kernel
theorem d_L_law_434 : decode (zmc m_L_law) 434 = .ok (.iconst 0, 1) := by decide +kernel
theorem d_L_law_435 : decode (zmc m_L_law) 435 = .ok (.ireturn, 1) := by decide +kernel
theorem d_L_law_436 : decode (zmc m_L_law) 436 = .ok (.aload_n 1, 1) := by decide +kernel
theorem d_L_law_437 : decode (zmc m_L_law) 437 = .ok (.aload_n 0, 1) := by decide +kernel
theorem d_L_law_438 : decode (zmc m_L_law) 438 = .ok (.iload_n 3, 1) := by decide +kernel
theorem d_L_law_439 : decode (zmc m_L_law) 439 = .ok (.iconst 1, 1) := by decide +kernel
theorem d_L_law_440 : decode (zmc m_L_law) 440 = .ok (.iadd, 1) := by decide +kernel
theorem d_L_law_441 : decode (zmc m_L_law) 441 = .ok (.iaload, 1) := by decide +kernel
theorem d_L_law_442 : decode (zmc m_L_law) 442 = .ok (.invokevirtual 49, 3) := by decide +kernel
theorem d_L_law_445 : decode (zmc m_L_law) 445 = .ok (.aload_n 2, 1) := by decide +kernel
theorem d_L_law_446 : decode (zmc m_L_law) 446 = .ok (.aload_n 0, 1) := by decide +kernel
theorem d_L_law_447 : decode (zmc m_L_law) 447 = .ok (.iload_n 3, 1) := by decide +kernel
theorem d_L_law_448 : decode (zmc m_L_law) 448 = .ok (.iconst 1, 1) := by decide +kernel
theorem d_L_law_449 : decode (zmc m_L_law) 449 = .ok (.iadd, 1) := by decide +kernel
theorem d_L_law_450 : decode (zmc m_L_law) 450 = .ok (.iaload, 1) := by decide +kernel
theorem d_L_law_451 : decode (zmc m_L_law) 451 = .ok (.invokevirtual 52, 3) := by decide +kernel
theorem d_L_law_454 : decode (zmc m_L_law) 454 = .ok (.if_icmp .eq 964, 3) := by decide +kernel
theorem d_L_law_457 : decode (zmc m_L_law) 457 = .ok (.iconst 0, 1) := by decide +kernel
theorem d_L_law_458 : decode (zmc m_L_law) 458 = .ok (.ireturn, 1) := by decide +kernel
theorem d_L_law_459 : decode (zmc m_L_law) 459 = .ok (.aload_n 1, 1) := by decide +kernel
theorem d_L_law_460 : decode (zmc m_L_law) 460 = .ok (.aload_n 0, 1) := by decide +kernel
theorem d_L_law_461 : decode (zmc m_L_law) 461 = .ok (.iload_n 3, 1) := by decide +kernel
theorem d_L_law_462 : decode (zmc m_L_law) 462 = .ok (.iconst 1, 1) := by decide +kernel
theorem d_L_law_463 : decode (zmc m_L_law) 463 = .ok (.iadd, 1) := by decide +kernel
theorem d_L_law_464 : decode (zmc m_L_law) 464 = .ok (.iaload, 1) := by decide +kernel
theorem d_L_law_465 : decode (zmc m_L_law) 465 = .ok (.aload_n 0, 1) := by decide +kernel
theorem d_L_law_466 : decode (zmc m_L_law) 466 = .ok (.iload_n 3, 1) := by decide +kernel
theorem d_L_law_467 : decode (zmc m_L_law) 467 = .ok (.iconst 2, 1) := by decide +kernel
theorem d_L_law_468 : decode (zmc m_L_law) 468 = .ok (.iadd, 1) := by decide +kernel
theorem d_L_law_469 : decode (zmc m_L_law) 469 = .ok (.iaload, 1) := by decide +kernel
theorem d_L_law_470 : decode (zmc m_L_law) 470 = .ok (.invokevirtual 53, 3) := by decide +kernel
theorem d_L_law_473 : decode (zmc m_L_law) 473 = .ok (.aload_n 2, 1) := by decide +kernel
theorem d_L_law_474 : decode (zmc m_L_law) 474 = .ok (.aload_n 0, 1) := by decide +kernel
theorem d_L_law_475 : decode (zmc m_L_law) 475 = .ok (.iload_n 3, 1) := by decide +kernel
theorem d_L_law_476 : decode (zmc m_L_law) 476 = .ok (.iconst 1, 1) := by decide +kernel
theorem d_L_law_477 : decode (zmc m_L_law) 477 = .ok (.iadd, 1) := by decide +kernel
theorem d_L_law_478 : decode (zmc m_L_law) 478 = .ok (.iaload, 1) := by decide +kernel
theorem d_L_law_479 : decode (zmc m_L_law) 479 = .ok (.aload_n 0, 1) := by decide +kernel
theorem d_L_law_480 : decode (zmc m_L_law) 480 = .ok (.iload_n 3, 1) := by decide +kernel
theorem d_L_law_481 : decode (zmc m_L_law) 481 = .ok (.iconst 2, 1) := by decide +kernel
theorem d_L_law_482 : decode (zmc m_L_law) 482 = .ok (.iadd, 1) := by decide +kernel
theorem d_L_law_483 : decode (zmc m_L_law) 483 = .ok (.iaload, 1) := by decide +kernel
theorem d_L_law_484 : decode (zmc m_L_law) 484 = .ok (.invokevirtual 56, 3) := by decide +kernel
theorem d_L_law_487 : decode (zmc m_L_law) 487 = .ok (.if_icmp .eq 931, 3) := by decide +kernel
theorem d_L_law_490 : decode (zmc m_L_law) 490 = .ok (.iconst 0, 1) := by decide +kernel
theorem d_L_law_491 : decode (zmc m_L_law) 491 = .ok (.ireturn, 1) := by decide +kernel
theorem d_L_law_492 : decode (zmc m_L_law) 492 = .ok (.aload_n 1, 1) := by decide +kernel
theorem d_L_law_493 : decode (zmc m_L_law) 493 = .ok (.aload_n 0, 1) := by decide +kernel
theorem d_L_law_494 : decode (zmc m_L_law) 494 = .ok (.iload_n 3, 1) := by decide +kernel
theorem d_L_law_495 : decode (zmc m_L_law) 495 = .ok (.iconst 1, 1) := by decide +kernel
theorem d_L_law_496 : decode (zmc m_L_law) 496 = .ok (.iadd, 1) := by decide +kernel
theorem d_L_law_497 : decode (zmc m_L_law) 497 = .ok (.iaload, 1) := by decide +kernel
theorem d_L_law_498 : decode (zmc m_L_law) 498 = .ok (.aload_n 0, 1) := by decide +kernel
theorem d_L_law_499 : decode (zmc m_L_law) 499 = .ok (.iload_n 3, 1) := by decide +kernel
theorem d_L_law_500 : decode (zmc m_L_law) 500 = .ok (.iconst 2, 1) := by decide +kernel
theorem d_L_law_501 : decode (zmc m_L_law) 501 = .ok (.iadd, 1) := by decide +kernel
theorem d_L_law_502 : decode (zmc m_L_law) 502 = .ok (.iaload, 1) := by decide +kernel
theorem d_L_law_503 : decode (zmc m_L_law) 503 = .ok (.invokevirtual 57, 3) := by decide +kernel
theorem d_L_law_506 : decode (zmc m_L_law) 506 = .ok (.aload_n 2, 1) := by decide +kernel
theorem d_L_law_507 : decode (zmc m_L_law) 507 = .ok (.aload_n 0, 1) := by decide +kernel
theorem d_L_law_508 : decode (zmc m_L_law) 508 = .ok (.iload_n 3, 1) := by decide +kernel
theorem d_L_law_509 : decode (zmc m_L_law) 509 = .ok (.iconst 1, 1) := by decide +kernel
theorem d_L_law_510 : decode (zmc m_L_law) 510 = .ok (.iadd, 1) := by decide +kernel
theorem d_L_law_511 : decode (zmc m_L_law) 511 = .ok (.iaload, 1) := by decide +kernel
theorem d_L_law_512 : decode (zmc m_L_law) 512 = .ok (.aload_n 0, 1) := by decide +kernel
theorem d_L_law_513 : decode (zmc m_L_law) 513 = .ok (.iload_n 3, 1) := by decide +kernel
theorem d_L_law_514 : decode (zmc m_L_law) 514 = .ok (.iconst 2, 1) := by decide +kernel
theorem d_L_law_515 : decode (zmc m_L_law) 515 = .ok (.iadd, 1) := by decide +kernel
theorem d_L_law_516 : decode (zmc m_L_law) 516 = .ok (.iaload, 1) := by decide +kernel
theorem d_L_law_517 : decode (zmc m_L_law) 517 = .ok (.invokevirtual 61, 3) := by decide +kernel
theorem d_L_law_520 : decode (zmc m_L_law) 520 = .ok (.lcmp, 1) := by decide +kernel
theorem d_L_law_521 : decode (zmc m_L_law) 521 = .ok (.ifCond .eq 897, 3) := by decide +kernel
theorem d_L_law_524 : decode (zmc m_L_law) 524 = .ok (.iconst 0, 1) := by decide +kernel
theorem d_L_law_525 : decode (zmc m_L_law) 525 = .ok (.ireturn, 1) := by decide +kernel
theorem d_L_law_526 : decode (zmc m_L_law) 526 = .ok (.aload_n 1, 1) := by decide +kernel
theorem d_L_law_527 : decode (zmc m_L_law) 527 = .ok (.aload_n 0, 1) := by decide +kernel
theorem d_L_law_528 : decode (zmc m_L_law) 528 = .ok (.iload_n 3, 1) := by decide +kernel
theorem d_L_law_529 : decode (zmc m_L_law) 529 = .ok (.iconst 1, 1) := by decide +kernel
theorem d_L_law_530 : decode (zmc m_L_law) 530 = .ok (.iadd, 1) := by decide +kernel
theorem d_L_law_531 : decode (zmc m_L_law) 531 = .ok (.iaload, 1) := by decide +kernel
theorem d_L_law_532 : decode (zmc m_L_law) 532 = .ok (.aload_n 0, 1) := by decide +kernel
theorem d_L_law_533 : decode (zmc m_L_law) 533 = .ok (.iload_n 3, 1) := by decide +kernel
theorem d_L_law_534 : decode (zmc m_L_law) 534 = .ok (.iconst 2, 1) := by decide +kernel
theorem d_L_law_535 : decode (zmc m_L_law) 535 = .ok (.iadd, 1) := by decide +kernel
theorem d_L_law_536 : decode (zmc m_L_law) 536 = .ok (.iaload, 1) := by decide +kernel
theorem d_L_law_537 : decode (zmc m_L_law) 537 = .ok (.invokevirtual 62, 3) := by decide +kernel
theorem d_L_law_540 : decode (zmc m_L_law) 540 = .ok (.aload_n 2, 1) := by decide +kernel
theorem d_L_law_541 : decode (zmc m_L_law) 541 = .ok (.aload_n 0, 1) := by decide +kernel
theorem d_L_law_542 : decode (zmc m_L_law) 542 = .ok (.iload_n 3, 1) := by decide +kernel
theorem d_L_law_543 : decode (zmc m_L_law) 543 = .ok (.iconst 1, 1) := by decide +kernel
theorem d_L_law_544 : decode (zmc m_L_law) 544 = .ok (.iadd, 1) := by decide +kernel
theorem d_L_law_545 : decode (zmc m_L_law) 545 = .ok (.iaload, 1) := by decide +kernel
theorem d_L_law_546 : decode (zmc m_L_law) 546 = .ok (.aload_n 0, 1) := by decide +kernel
theorem d_L_law_547 : decode (zmc m_L_law) 547 = .ok (.iload_n 3, 1) := by decide +kernel
theorem d_L_law_548 : decode (zmc m_L_law) 548 = .ok (.iconst 2, 1) := by decide +kernel
theorem d_L_law_549 : decode (zmc m_L_law) 549 = .ok (.iadd, 1) := by decide +kernel
theorem d_L_law_550 : decode (zmc m_L_law) 550 = .ok (.iaload, 1) := by decide +kernel
theorem d_L_law_551 : decode (zmc m_L_law) 551 = .ok (.invokevirtual 65, 3) := by decide +kernel
theorem d_L_law_554 : decode (zmc m_L_law) 554 = .ok (.lcmp, 1) := by decide +kernel
theorem d_L_law_555 : decode (zmc m_L_law) 555 = .ok (.ifCond .eq 863, 3) := by decide +kernel
theorem d_L_law_558 : decode (zmc m_L_law) 558 = .ok (.iconst 0, 1) := by decide +kernel
theorem d_L_law_559 : decode (zmc m_L_law) 559 = .ok (.ireturn, 1) := by decide +kernel
theorem d_L_law_560 : decode (zmc m_L_law) 560 = .ok (.aload_n 1, 1) := by decide +kernel
theorem d_L_law_561 : decode (zmc m_L_law) 561 = .ok (.aload_n 0, 1) := by decide +kernel
theorem d_L_law_562 : decode (zmc m_L_law) 562 = .ok (.iload_n 3, 1) := by decide +kernel
theorem d_L_law_563 : decode (zmc m_L_law) 563 = .ok (.iconst 1, 1) := by decide +kernel
theorem d_L_law_564 : decode (zmc m_L_law) 564 = .ok (.iadd, 1) := by decide +kernel
theorem d_L_law_565 : decode (zmc m_L_law) 565 = .ok (.iaload, 1) := by decide +kernel
theorem d_L_law_566 : decode (zmc m_L_law) 566 = .ok (.invokevirtual 66, 3) := by decide +kernel
theorem d_L_law_569 : decode (zmc m_L_law) 569 = .ok (.aload_n 2, 1) := by decide +kernel
theorem d_L_law_570 : decode (zmc m_L_law) 570 = .ok (.aload_n 0, 1) := by decide +kernel
theorem d_L_law_571 : decode (zmc m_L_law) 571 = .ok (.iload_n 3, 1) := by decide +kernel
theorem d_L_law_572 : decode (zmc m_L_law) 572 = .ok (.iconst 1, 1) := by decide +kernel
theorem d_L_law_573 : decode (zmc m_L_law) 573 = .ok (.iadd, 1) := by decide +kernel
theorem d_L_law_574 : decode (zmc m_L_law) 574 = .ok (.iaload, 1) := by decide +kernel
theorem d_L_law_575 : decode (zmc m_L_law) 575 = .ok (.invokevirtual 69, 3) := by decide +kernel
theorem d_L_law_578 : decode (zmc m_L_law) 578 = .ok (.if_icmp .eq 840, 3) := by decide +kernel
theorem d_L_law_581 : decode (zmc m_L_law) 581 = .ok (.iconst 0, 1) := by decide +kernel
theorem d_L_law_582 : decode (zmc m_L_law) 582 = .ok (.ireturn, 1) := by decide +kernel
theorem d_L_law_583 : decode (zmc m_L_law) 583 = .ok (.aload_n 1, 1) := by decide +kernel
theorem d_L_law_584 : decode (zmc m_L_law) 584 = .ok (.aload_n 0, 1) := by decide +kernel
theorem d_L_law_585 : decode (zmc m_L_law) 585 = .ok (.iload_n 3, 1) := by decide +kernel
theorem d_L_law_586 : decode (zmc m_L_law) 586 = .ok (.iconst 1, 1) := by decide +kernel
theorem d_L_law_587 : decode (zmc m_L_law) 587 = .ok (.iadd, 1) := by decide +kernel
theorem d_L_law_588 : decode (zmc m_L_law) 588 = .ok (.iaload, 1) := by decide +kernel
theorem d_L_law_589 : decode (zmc m_L_law) 589 = .ok (.invokevirtual 70, 3) := by decide +kernel
theorem d_L_law_592 : decode (zmc m_L_law) 592 = .ok (.aload_n 2, 1) := by decide +kernel
theorem d_L_law_593 : decode (zmc m_L_law) 593 = .ok (.aload_n 0, 1) := by decide +kernel
theorem d_L_law_594 : decode (zmc m_L_law) 594 = .ok (.iload_n 3, 1) := by decide +kernel
theorem d_L_law_595 : decode (zmc m_L_law) 595 = .ok (.iconst 1, 1) := by decide +kernel
theorem d_L_law_596 : decode (zmc m_L_law) 596 = .ok (.iadd, 1) := by decide +kernel
theorem d_L_law_597 : decode (zmc m_L_law) 597 = .ok (.iaload, 1) := by decide +kernel
theorem d_L_law_598 : decode (zmc m_L_law) 598 = .ok (.invokevirtual 73, 3) := by decide +kernel
theorem d_L_law_601 : decode (zmc m_L_law) 601 = .ok (.if_icmp .eq 817, 3) := by decide +kernel
theorem d_L_law_604 : decode (zmc m_L_law) 604 = .ok (.iconst 0, 1) := by decide +kernel
theorem d_L_law_605 : decode (zmc m_L_law) 605 = .ok (.ireturn, 1) := by decide +kernel
theorem d_L_law_606 : decode (zmc m_L_law) 606 = .ok (.aload_n 1, 1) := by decide +kernel
theorem d_L_law_607 : decode (zmc m_L_law) 607 = .ok (.aload_n 0, 1) := by decide +kernel
theorem d_L_law_608 : decode (zmc m_L_law) 608 = .ok (.iload_n 3, 1) := by decide +kernel
theorem d_L_law_609 : decode (zmc m_L_law) 609 = .ok (.iconst 1, 1) := by decide +kernel
theorem d_L_law_610 : decode (zmc m_L_law) 610 = .ok (.iadd, 1) := by decide +kernel
theorem d_L_law_611 : decode (zmc m_L_law) 611 = .ok (.iaload, 1) := by decide +kernel
theorem d_L_law_612 : decode (zmc m_L_law) 612 = .ok (.invokevirtual 74, 3) := by decide +kernel
theorem d_L_law_615 : decode (zmc m_L_law) 615 = .ok (.aload_n 2, 1) := by decide +kernel
theorem d_L_law_616 : decode (zmc m_L_law) 616 = .ok (.aload_n 0, 1) := by decide +kernel
theorem d_L_law_617 : decode (zmc m_L_law) 617 = .ok (.iload_n 3, 1) := by decide +kernel
theorem d_L_law_618 : decode (zmc m_L_law) 618 = .ok (.iconst 1, 1) := by decide +kernel
theorem d_L_law_619 : decode (zmc m_L_law) 619 = .ok (.iadd, 1) := by decide +kernel
theorem d_L_law_620 : decode (zmc m_L_law) 620 = .ok (.iaload, 1) := by decide +kernel
theorem d_L_law_621 : decode (zmc m_L_law) 621 = .ok (.invokevirtual 77, 3) := by decide +kernel
theorem d_L_law_624 : decode (zmc m_L_law) 624 = .ok (.if_icmp .eq 794, 3) := by decide +kernel
theorem d_L_law_627 : decode (zmc m_L_law) 627 = .ok (.iconst 0, 1) := by decide +kernel
theorem d_L_law_628 : decode (zmc m_L_law) 628 = .ok (.ireturn, 1) := by decide +kernel
theorem d_L_law_629 : decode (zmc m_L_law) 629 = .ok (.aload_n 1, 1) := by decide +kernel
theorem d_L_law_630 : decode (zmc m_L_law) 630 = .ok (.aload_n 0, 1) := by decide +kernel
theorem d_L_law_631 : decode (zmc m_L_law) 631 = .ok (.iload_n 3, 1) := by decide +kernel
theorem d_L_law_632 : decode (zmc m_L_law) 632 = .ok (.iconst 1, 1) := by decide +kernel
theorem d_L_law_633 : decode (zmc m_L_law) 633 = .ok (.iadd, 1) := by decide +kernel
theorem d_L_law_634 : decode (zmc m_L_law) 634 = .ok (.iaload, 1) := by decide +kernel
theorem d_L_law_635 : decode (zmc m_L_law) 635 = .ok (.invokevirtual 78, 3) := by decide +kernel
theorem d_L_law_638 : decode (zmc m_L_law) 638 = .ok (.aload_n 2, 1) := by decide +kernel
theorem d_L_law_639 : decode (zmc m_L_law) 639 = .ok (.aload_n 0, 1) := by decide +kernel
theorem d_L_law_640 : decode (zmc m_L_law) 640 = .ok (.iload_n 3, 1) := by decide +kernel
theorem d_L_law_641 : decode (zmc m_L_law) 641 = .ok (.iconst 1, 1) := by decide +kernel
theorem d_L_law_642 : decode (zmc m_L_law) 642 = .ok (.iadd, 1) := by decide +kernel
theorem d_L_law_643 : decode (zmc m_L_law) 643 = .ok (.iaload, 1) := by decide +kernel
theorem d_L_law_644 : decode (zmc m_L_law) 644 = .ok (.invokevirtual 81, 3) := by decide +kernel
theorem d_L_law_647 : decode (zmc m_L_law) 647 = .ok (.if_icmp .eq 771, 3) := by decide +kernel
theorem d_L_law_650 : decode (zmc m_L_law) 650 = .ok (.iconst 0, 1) := by decide +kernel
theorem d_L_law_651 : decode (zmc m_L_law) 651 = .ok (.ireturn, 1) := by decide +kernel
theorem d_L_law_652 : decode (zmc m_L_law) 652 = .ok (.aload_n 1, 1) := by decide +kernel
theorem d_L_law_653 : decode (zmc m_L_law) 653 = .ok (.aload_n 0, 1) := by decide +kernel
theorem d_L_law_654 : decode (zmc m_L_law) 654 = .ok (.iload_n 3, 1) := by decide +kernel
theorem d_L_law_655 : decode (zmc m_L_law) 655 = .ok (.iconst 1, 1) := by decide +kernel
theorem d_L_law_656 : decode (zmc m_L_law) 656 = .ok (.iadd, 1) := by decide +kernel
theorem d_L_law_657 : decode (zmc m_L_law) 657 = .ok (.iaload, 1) := by decide +kernel
theorem d_L_law_658 : decode (zmc m_L_law) 658 = .ok (.aload_n 0, 1) := by decide +kernel
theorem d_L_law_659 : decode (zmc m_L_law) 659 = .ok (.iload_n 3, 1) := by decide +kernel
theorem d_L_law_660 : decode (zmc m_L_law) 660 = .ok (.iconst 2, 1) := by decide +kernel
theorem d_L_law_661 : decode (zmc m_L_law) 661 = .ok (.iadd, 1) := by decide +kernel
theorem d_L_law_662 : decode (zmc m_L_law) 662 = .ok (.iaload, 1) := by decide +kernel
theorem d_L_law_663 : decode (zmc m_L_law) 663 = .ok (.aload_n 0, 1) := by decide +kernel
theorem d_L_law_664 : decode (zmc m_L_law) 664 = .ok (.iload_n 3, 1) := by decide +kernel
theorem d_L_law_665 : decode (zmc m_L_law) 665 = .ok (.iconst 3, 1) := by decide +kernel
theorem d_L_law_666 : decode (zmc m_L_law) 666 = .ok (.iadd, 1) := by decide +kernel
theorem d_L_law_667 : decode (zmc m_L_law) 667 = .ok (.iaload, 1) := by decide +kernel
theorem d_L_law_668 : decode (zmc m_L_law) 668 = .ok (.invokevirtual 82, 3) := by decide +kernel
theorem d_L_law_671 : decode (zmc m_L_law) 671 = .ok (.aload_n 2, 1) := by decide +kernel
theorem d_L_law_672 : decode (zmc m_L_law) 672 = .ok (.aload_n 0, 1) := by decide +kernel
theorem d_L_law_673 : decode (zmc m_L_law) 673 = .ok (.iload_n 3, 1) := by decide +kernel
theorem d_L_law_674 : decode (zmc m_L_law) 674 = .ok (.iconst 1, 1) := by decide +kernel
theorem d_L_law_675 : decode (zmc m_L_law) 675 = .ok (.iadd, 1) := by decide +kernel
theorem d_L_law_676 : decode (zmc m_L_law) 676 = .ok (.iaload, 1) := by decide +kernel
theorem d_L_law_677 : decode (zmc m_L_law) 677 = .ok (.aload_n 0, 1) := by decide +kernel
theorem d_L_law_678 : decode (zmc m_L_law) 678 = .ok (.iload_n 3, 1) := by decide +kernel
theorem d_L_law_679 : decode (zmc m_L_law) 679 = .ok (.iconst 2, 1) := by decide +kernel
theorem d_L_law_680 : decode (zmc m_L_law) 680 = .ok (.iadd, 1) := by decide +kernel
theorem d_L_law_681 : decode (zmc m_L_law) 681 = .ok (.iaload, 1) := by decide +kernel
theorem d_L_law_682 : decode (zmc m_L_law) 682 = .ok (.aload_n 0, 1) := by decide +kernel
theorem d_L_law_683 : decode (zmc m_L_law) 683 = .ok (.iload_n 3, 1) := by decide +kernel
theorem d_L_law_684 : decode (zmc m_L_law) 684 = .ok (.iconst 3, 1) := by decide +kernel
theorem d_L_law_685 : decode (zmc m_L_law) 685 = .ok (.iadd, 1) := by decide +kernel
theorem d_L_law_686 : decode (zmc m_L_law) 686 = .ok (.iaload, 1) := by decide +kernel
theorem d_L_law_687 : decode (zmc m_L_law) 687 = .ok (.invokevirtual 85, 3) := by decide +kernel
theorem d_L_law_690 : decode (zmc m_L_law) 690 = .ok (.if_icmp .eq 728, 3) := by decide +kernel
theorem d_L_law_693 : decode (zmc m_L_law) 693 = .ok (.iconst 0, 1) := by decide +kernel
theorem d_L_law_694 : decode (zmc m_L_law) 694 = .ok (.ireturn, 1) := by decide +kernel
theorem d_L_law_695 : decode (zmc m_L_law) 695 = .ok (.aload_n 1, 1) := by decide +kernel
theorem d_L_law_696 : decode (zmc m_L_law) 696 = .ok (.invokevirtual 86, 3) := by decide +kernel
theorem d_L_law_699 : decode (zmc m_L_law) 699 = .ok (.aload_n 2, 1) := by decide +kernel
theorem d_L_law_700 : decode (zmc m_L_law) 700 = .ok (.invokevirtual 89, 3) := by decide +kernel
theorem d_L_law_703 : decode (zmc m_L_law) 703 = .ok (.if_icmp .eq 715, 3) := by decide +kernel
theorem d_L_law_706 : decode (zmc m_L_law) 706 = .ok (.iconst 0, 1) := by decide +kernel
theorem d_L_law_707 : decode (zmc m_L_law) 707 = .ok (.ireturn, 1) := by decide +kernel
theorem d_L_law_708 : decode (zmc m_L_law) 708 = .ok (.aload_n 1, 1) := by decide +kernel
theorem d_L_law_709 : decode (zmc m_L_law) 709 = .ok (.aload_n 0, 1) := by decide +kernel
theorem d_L_law_710 : decode (zmc m_L_law) 710 = .ok (.iload_n 3, 1) := by decide +kernel
theorem d_L_law_711 : decode (zmc m_L_law) 711 = .ok (.iconst 1, 1) := by decide +kernel
theorem d_L_law_712 : decode (zmc m_L_law) 712 = .ok (.iadd, 1) := by decide +kernel
theorem d_L_law_713 : decode (zmc m_L_law) 713 = .ok (.iaload, 1) := by decide +kernel
theorem d_L_law_714 : decode (zmc m_L_law) 714 = .ok (.invokevirtual 90, 3) := by decide +kernel
theorem d_L_law_717 : decode (zmc m_L_law) 717 = .ok (.aload_n 2, 1) := by decide +kernel
theorem d_L_law_718 : decode (zmc m_L_law) 718 = .ok (.aload_n 0, 1) := by decide +kernel
theorem d_L_law_719 : decode (zmc m_L_law) 719 = .ok (.iload_n 3, 1) := by decide +kernel
theorem d_L_law_720 : decode (zmc m_L_law) 720 = .ok (.iconst 1, 1) := by decide +kernel
theorem d_L_law_721 : decode (zmc m_L_law) 721 = .ok (.iadd, 1) := by decide +kernel
theorem d_L_law_722 : decode (zmc m_L_law) 722 = .ok (.iaload, 1) := by decide +kernel
theorem d_L_law_723 : decode (zmc m_L_law) 723 = .ok (.invokevirtual 93, 3) := by decide +kernel
theorem d_L_law_726 : decode (zmc m_L_law) 726 = .ok (.if_icmp .eq 692, 3) := by decide +kernel
theorem d_L_law_729 : decode (zmc m_L_law) 729 = .ok (.iconst 0, 1) := by decide +kernel
theorem d_L_law_730 : decode (zmc m_L_law) 730 = .ok (.ireturn, 1) := by decide +kernel
theorem d_L_law_731 : decode (zmc m_L_law) 731 = .ok (.aload_n 1, 1) := by decide +kernel
theorem d_L_law_732 : decode (zmc m_L_law) 732 = .ok (.aload_n 0, 1) := by decide +kernel
theorem d_L_law_733 : decode (zmc m_L_law) 733 = .ok (.iload_n 3, 1) := by decide +kernel
theorem d_L_law_734 : decode (zmc m_L_law) 734 = .ok (.iconst 1, 1) := by decide +kernel
theorem d_L_law_735 : decode (zmc m_L_law) 735 = .ok (.iadd, 1) := by decide +kernel
theorem d_L_law_736 : decode (zmc m_L_law) 736 = .ok (.iaload, 1) := by decide +kernel
theorem d_L_law_737 : decode (zmc m_L_law) 737 = .ok (.aload_n 0, 1) := by decide +kernel
theorem d_L_law_738 : decode (zmc m_L_law) 738 = .ok (.iload_n 3, 1) := by decide +kernel
theorem d_L_law_739 : decode (zmc m_L_law) 739 = .ok (.iconst 2, 1) := by decide +kernel
theorem d_L_law_740 : decode (zmc m_L_law) 740 = .ok (.iadd, 1) := by decide +kernel
theorem d_L_law_741 : decode (zmc m_L_law) 741 = .ok (.iaload, 1) := by decide +kernel
theorem d_L_law_742 : decode (zmc m_L_law) 742 = .ok (.invokevirtual 94, 3) := by decide +kernel
theorem d_L_law_745 : decode (zmc m_L_law) 745 = .ok (.aload_n 2, 1) := by decide +kernel
theorem d_L_law_746 : decode (zmc m_L_law) 746 = .ok (.aload_n 0, 1) := by decide +kernel
theorem d_L_law_747 : decode (zmc m_L_law) 747 = .ok (.iload_n 3, 1) := by decide +kernel
theorem d_L_law_748 : decode (zmc m_L_law) 748 = .ok (.iconst 1, 1) := by decide +kernel
theorem d_L_law_749 : decode (zmc m_L_law) 749 = .ok (.iadd, 1) := by decide +kernel
theorem d_L_law_750 : decode (zmc m_L_law) 750 = .ok (.iaload, 1) := by decide +kernel
theorem d_L_law_751 : decode (zmc m_L_law) 751 = .ok (.aload_n 0, 1) := by decide +kernel
theorem d_L_law_752 : decode (zmc m_L_law) 752 = .ok (.iload_n 3, 1) := by decide +kernel
theorem d_L_law_753 : decode (zmc m_L_law) 753 = .ok (.iconst 2, 1) := by decide +kernel
theorem d_L_law_754 : decode (zmc m_L_law) 754 = .ok (.iadd, 1) := by decide +kernel
theorem d_L_law_755 : decode (zmc m_L_law) 755 = .ok (.iaload, 1) := by decide +kernel
theorem d_L_law_756 : decode (zmc m_L_law) 756 = .ok (.invokevirtual 97, 3) := by decide +kernel
theorem d_L_law_759 : decode (zmc m_L_law) 759 = .ok (.if_icmp .eq 659, 3) := by decide +kernel
theorem d_L_law_762 : decode (zmc m_L_law) 762 = .ok (.iconst 0, 1) := by decide +kernel
theorem d_L_law_763 : decode (zmc m_L_law) 763 = .ok (.ireturn, 1) := by decide +kernel
theorem d_L_law_764 : decode (zmc m_L_law) 764 = .ok (.aload_n 1, 1) := by decide +kernel
theorem d_L_law_765 : decode (zmc m_L_law) 765 = .ok (.aload_n 0, 1) := by decide +kernel
theorem d_L_law_766 : decode (zmc m_L_law) 766 = .ok (.iload_n 3, 1) := by decide +kernel
theorem d_L_law_767 : decode (zmc m_L_law) 767 = .ok (.iconst 1, 1) := by decide +kernel
theorem d_L_law_768 : decode (zmc m_L_law) 768 = .ok (.iadd, 1) := by decide +kernel
theorem d_L_law_769 : decode (zmc m_L_law) 769 = .ok (.iaload, 1) := by decide +kernel
theorem d_L_law_770 : decode (zmc m_L_law) 770 = .ok (.aload_n 0, 1) := by decide +kernel
theorem d_L_law_771 : decode (zmc m_L_law) 771 = .ok (.iload_n 3, 1) := by decide +kernel
theorem d_L_law_772 : decode (zmc m_L_law) 772 = .ok (.iconst 2, 1) := by decide +kernel
theorem d_L_law_773 : decode (zmc m_L_law) 773 = .ok (.iadd, 1) := by decide +kernel
theorem d_L_law_774 : decode (zmc m_L_law) 774 = .ok (.iaload, 1) := by decide +kernel
theorem d_L_law_775 : decode (zmc m_L_law) 775 = .ok (.invokevirtual 98, 3) := by decide +kernel
theorem d_L_law_778 : decode (zmc m_L_law) 778 = .ok (.aload_n 2, 1) := by decide +kernel
theorem d_L_law_779 : decode (zmc m_L_law) 779 = .ok (.aload_n 0, 1) := by decide +kernel
theorem d_L_law_780 : decode (zmc m_L_law) 780 = .ok (.iload_n 3, 1) := by decide +kernel
theorem d_L_law_781 : decode (zmc m_L_law) 781 = .ok (.iconst 1, 1) := by decide +kernel
theorem d_L_law_782 : decode (zmc m_L_law) 782 = .ok (.iadd, 1) := by decide +kernel
theorem d_L_law_783 : decode (zmc m_L_law) 783 = .ok (.iaload, 1) := by decide +kernel
theorem d_L_law_784 : decode (zmc m_L_law) 784 = .ok (.aload_n 0, 1) := by decide +kernel
theorem d_L_law_785 : decode (zmc m_L_law) 785 = .ok (.iload_n 3, 1) := by decide +kernel
theorem d_L_law_786 : decode (zmc m_L_law) 786 = .ok (.iconst 2, 1) := by decide +kernel
theorem d_L_law_787 : decode (zmc m_L_law) 787 = .ok (.iadd, 1) := by decide +kernel
theorem d_L_law_788 : decode (zmc m_L_law) 788 = .ok (.iaload, 1) := by decide +kernel
theorem d_L_law_789 : decode (zmc m_L_law) 789 = .ok (.invokevirtual 101, 3) := by decide +kernel
theorem d_L_law_792 : decode (zmc m_L_law) 792 = .ok (.if_icmp .eq 626, 3) := by decide +kernel
theorem d_L_law_795 : decode (zmc m_L_law) 795 = .ok (.iconst 0, 1) := by decide +kernel
theorem d_L_law_796 : decode (zmc m_L_law) 796 = .ok (.ireturn, 1) := by decide +kernel
theorem d_L_law_797 : decode (zmc m_L_law) 797 = .ok (.aload_n 1, 1) := by decide +kernel
theorem d_L_law_798 : decode (zmc m_L_law) 798 = .ok (.aload_n 0, 1) := by decide +kernel
theorem d_L_law_799 : decode (zmc m_L_law) 799 = .ok (.iload_n 3, 1) := by decide +kernel
theorem d_L_law_800 : decode (zmc m_L_law) 800 = .ok (.iconst 1, 1) := by decide +kernel
theorem d_L_law_801 : decode (zmc m_L_law) 801 = .ok (.iadd, 1) := by decide +kernel
theorem d_L_law_802 : decode (zmc m_L_law) 802 = .ok (.iaload, 1) := by decide +kernel
theorem d_L_law_803 : decode (zmc m_L_law) 803 = .ok (.aload_n 0, 1) := by decide +kernel
theorem d_L_law_804 : decode (zmc m_L_law) 804 = .ok (.iload_n 3, 1) := by decide +kernel
theorem d_L_law_805 : decode (zmc m_L_law) 805 = .ok (.iconst 2, 1) := by decide +kernel
theorem d_L_law_806 : decode (zmc m_L_law) 806 = .ok (.iadd, 1) := by decide +kernel
theorem d_L_law_807 : decode (zmc m_L_law) 807 = .ok (.iaload, 1) := by decide +kernel
theorem d_L_law_808 : decode (zmc m_L_law) 808 = .ok (.invokevirtual 102, 3) := by decide +kernel
theorem d_L_law_811 : decode (zmc m_L_law) 811 = .ok (.aload_n 2, 1) := by decide +kernel
theorem d_L_law_812 : decode (zmc m_L_law) 812 = .ok (.aload_n 0, 1) := by decide +kernel
theorem d_L_law_813 : decode (zmc m_L_law) 813 = .ok (.iload_n 3, 1) := by decide +kernel
theorem d_L_law_814 : decode (zmc m_L_law) 814 = .ok (.iconst 1, 1) := by decide +kernel
theorem d_L_law_815 : decode (zmc m_L_law) 815 = .ok (.iadd, 1) := by decide +kernel
theorem d_L_law_816 : decode (zmc m_L_law) 816 = .ok (.iaload, 1) := by decide +kernel
theorem d_L_law_817 : decode (zmc m_L_law) 817 = .ok (.aload_n 0, 1) := by decide +kernel
theorem d_L_law_818 : decode (zmc m_L_law) 818 = .ok (.iload_n 3, 1) := by decide +kernel
theorem d_L_law_819 : decode (zmc m_L_law) 819 = .ok (.iconst 2, 1) := by decide +kernel
theorem d_L_law_820 : decode (zmc m_L_law) 820 = .ok (.iadd, 1) := by decide +kernel
theorem d_L_law_821 : decode (zmc m_L_law) 821 = .ok (.iaload, 1) := by decide +kernel
theorem d_L_law_822 : decode (zmc m_L_law) 822 = .ok (.invokevirtual 105, 3) := by decide +kernel
theorem d_L_law_825 : decode (zmc m_L_law) 825 = .ok (.if_icmp .eq 593, 3) := by decide +kernel
theorem d_L_law_828 : decode (zmc m_L_law) 828 = .ok (.iconst 0, 1) := by decide +kernel
theorem d_L_law_829 : decode (zmc m_L_law) 829 = .ok (.ireturn, 1) := by decide +kernel
theorem d_L_law_830 : decode (zmc m_L_law) 830 = .ok (.aload_n 1, 1) := by decide +kernel
theorem d_L_law_831 : decode (zmc m_L_law) 831 = .ok (.aload_n 0, 1) := by decide +kernel
theorem d_L_law_832 : decode (zmc m_L_law) 832 = .ok (.iload_n 3, 1) := by decide +kernel
theorem d_L_law_833 : decode (zmc m_L_law) 833 = .ok (.iconst 1, 1) := by decide +kernel
theorem d_L_law_834 : decode (zmc m_L_law) 834 = .ok (.iadd, 1) := by decide +kernel
theorem d_L_law_835 : decode (zmc m_L_law) 835 = .ok (.iaload, 1) := by decide +kernel
theorem d_L_law_836 : decode (zmc m_L_law) 836 = .ok (.aload_n 0, 1) := by decide +kernel
theorem d_L_law_837 : decode (zmc m_L_law) 837 = .ok (.iload_n 3, 1) := by decide +kernel
theorem d_L_law_838 : decode (zmc m_L_law) 838 = .ok (.iconst 2, 1) := by decide +kernel
theorem d_L_law_839 : decode (zmc m_L_law) 839 = .ok (.iadd, 1) := by decide +kernel
theorem d_L_law_840 : decode (zmc m_L_law) 840 = .ok (.iaload, 1) := by decide +kernel
theorem d_L_law_841 : decode (zmc m_L_law) 841 = .ok (.aload_n 0, 1) := by decide +kernel
theorem d_L_law_842 : decode (zmc m_L_law) 842 = .ok (.iload_n 3, 1) := by decide +kernel
theorem d_L_law_843 : decode (zmc m_L_law) 843 = .ok (.iconst 3, 1) := by decide +kernel
theorem d_L_law_844 : decode (zmc m_L_law) 844 = .ok (.iadd, 1) := by decide +kernel
theorem d_L_law_845 : decode (zmc m_L_law) 845 = .ok (.iaload, 1) := by decide +kernel
theorem d_L_law_846 : decode (zmc m_L_law) 846 = .ok (.aload_n 0, 1) := by decide +kernel
theorem d_L_law_847 : decode (zmc m_L_law) 847 = .ok (.iload_n 3, 1) := by decide +kernel
theorem d_L_law_848 : decode (zmc m_L_law) 848 = .ok (.iconst 4, 1) := by decide +kernel
theorem d_L_law_849 : decode (zmc m_L_law) 849 = .ok (.iadd, 1) := by decide +kernel
theorem d_L_law_850 : decode (zmc m_L_law) 850 = .ok (.iaload, 1) := by decide +kernel
theorem d_L_law_851 : decode (zmc m_L_law) 851 = .ok (.invokevirtual 106, 3) := by decide +kernel
theorem d_L_law_854 : decode (zmc m_L_law) 854 = .ok (.aload_n 2, 1) := by decide +kernel
theorem d_L_law_855 : decode (zmc m_L_law) 855 = .ok (.aload_n 0, 1) := by decide +kernel
theorem d_L_law_856 : decode (zmc m_L_law) 856 = .ok (.iload_n 3, 1) := by decide +kernel
theorem d_L_law_857 : decode (zmc m_L_law) 857 = .ok (.iconst 1, 1) := by decide +kernel
theorem d_L_law_858 : decode (zmc m_L_law) 858 = .ok (.iadd, 1) := by decide +kernel
theorem d_L_law_859 : decode (zmc m_L_law) 859 = .ok (.iaload, 1) := by decide +kernel
theorem d_L_law_860 : decode (zmc m_L_law) 860 = .ok (.aload_n 0, 1) := by decide +kernel
theorem d_L_law_861 : decode (zmc m_L_law) 861 = .ok (.iload_n 3, 1) := by decide +kernel
theorem d_L_law_862 : decode (zmc m_L_law) 862 = .ok (.iconst 2, 1) := by decide +kernel
theorem d_L_law_863 : decode (zmc m_L_law) 863 = .ok (.iadd, 1) := by decide +kernel
theorem d_L_law_864 : decode (zmc m_L_law) 864 = .ok (.iaload, 1) := by decide +kernel
theorem d_L_law_865 : decode (zmc m_L_law) 865 = .ok (.aload_n 0, 1) := by decide +kernel
theorem d_L_law_866 : decode (zmc m_L_law) 866 = .ok (.iload_n 3, 1) := by decide +kernel
theorem d_L_law_867 : decode (zmc m_L_law) 867 = .ok (.iconst 3, 1) := by decide +kernel
theorem d_L_law_868 : decode (zmc m_L_law) 868 = .ok (.iadd, 1) := by decide +kernel
theorem d_L_law_869 : decode (zmc m_L_law) 869 = .ok (.iaload, 1) := by decide +kernel
theorem d_L_law_870 : decode (zmc m_L_law) 870 = .ok (.aload_n 0, 1) := by decide +kernel
theorem d_L_law_871 : decode (zmc m_L_law) 871 = .ok (.iload_n 3, 1) := by decide +kernel
theorem d_L_law_872 : decode (zmc m_L_law) 872 = .ok (.iconst 4, 1) := by decide +kernel
theorem d_L_law_873 : decode (zmc m_L_law) 873 = .ok (.iadd, 1) := by decide +kernel
theorem d_L_law_874 : decode (zmc m_L_law) 874 = .ok (.iaload, 1) := by decide +kernel
theorem d_L_law_875 : decode (zmc m_L_law) 875 = .ok (.invokevirtual 110, 3) := by decide +kernel
theorem d_L_law_878 : decode (zmc m_L_law) 878 = .ok (.if_icmp .eq 540, 3) := by decide +kernel
theorem d_L_law_881 : decode (zmc m_L_law) 881 = .ok (.iconst 0, 1) := by decide +kernel
theorem d_L_law_882 : decode (zmc m_L_law) 882 = .ok (.ireturn, 1) := by decide +kernel
theorem d_L_law_883 : decode (zmc m_L_law) 883 = .ok (.aload_n 1, 1) := by decide +kernel
theorem d_L_law_884 : decode (zmc m_L_law) 884 = .ok (.aload_n 0, 1) := by decide +kernel
theorem d_L_law_885 : decode (zmc m_L_law) 885 = .ok (.iload_n 3, 1) := by decide +kernel
theorem d_L_law_886 : decode (zmc m_L_law) 886 = .ok (.iconst 1, 1) := by decide +kernel
theorem d_L_law_887 : decode (zmc m_L_law) 887 = .ok (.iadd, 1) := by decide +kernel
theorem d_L_law_888 : decode (zmc m_L_law) 888 = .ok (.iaload, 1) := by decide +kernel
theorem d_L_law_889 : decode (zmc m_L_law) 889 = .ok (.invokevirtual 111, 3) := by decide +kernel
theorem d_L_law_892 : decode (zmc m_L_law) 892 = .ok (.aload_n 2, 1) := by decide +kernel
theorem d_L_law_893 : decode (zmc m_L_law) 893 = .ok (.aload_n 0, 1) := by decide +kernel
theorem d_L_law_894 : decode (zmc m_L_law) 894 = .ok (.iload_n 3, 1) := by decide +kernel
theorem d_L_law_895 : decode (zmc m_L_law) 895 = .ok (.iconst 1, 1) := by decide +kernel
theorem d_L_law_896 : decode (zmc m_L_law) 896 = .ok (.iadd, 1) := by decide +kernel
theorem d_L_law_897 : decode (zmc m_L_law) 897 = .ok (.iaload, 1) := by decide +kernel
theorem d_L_law_898 : decode (zmc m_L_law) 898 = .ok (.invokevirtual 114, 3) := by decide +kernel
theorem d_L_law_901 : decode (zmc m_L_law) 901 = .ok (.if_icmp .eq 517, 3) := by decide +kernel
theorem d_L_law_904 : decode (zmc m_L_law) 904 = .ok (.iconst 0, 1) := by decide +kernel
theorem d_L_law_905 : decode (zmc m_L_law) 905 = .ok (.ireturn, 1) := by decide +kernel
theorem d_L_law_906 : decode (zmc m_L_law) 906 = .ok (.aload_n 1, 1) := by decide +kernel
theorem d_L_law_907 : decode (zmc m_L_law) 907 = .ok (.aload_n 0, 1) := by decide +kernel
theorem d_L_law_908 : decode (zmc m_L_law) 908 = .ok (.iload_n 3, 1) := by decide +kernel
theorem d_L_law_909 : decode (zmc m_L_law) 909 = .ok (.iconst 1, 1) := by decide +kernel
theorem d_L_law_910 : decode (zmc m_L_law) 910 = .ok (.iadd, 1) := by decide +kernel
theorem d_L_law_911 : decode (zmc m_L_law) 911 = .ok (.iaload, 1) := by decide +kernel
theorem d_L_law_912 : decode (zmc m_L_law) 912 = .ok (.invokevirtual 115, 3) := by decide +kernel
theorem d_L_law_915 : decode (zmc m_L_law) 915 = .ok (.aload_n 2, 1) := by decide +kernel
theorem d_L_law_916 : decode (zmc m_L_law) 916 = .ok (.aload_n 0, 1) := by decide +kernel
theorem d_L_law_917 : decode (zmc m_L_law) 917 = .ok (.iload_n 3, 1) := by decide +kernel
theorem d_L_law_918 : decode (zmc m_L_law) 918 = .ok (.iconst 1, 1) := by decide +kernel
theorem d_L_law_919 : decode (zmc m_L_law) 919 = .ok (.iadd, 1) := by decide +kernel
theorem d_L_law_920 : decode (zmc m_L_law) 920 = .ok (.iaload, 1) := by decide +kernel
theorem d_L_law_921 : decode (zmc m_L_law) 921 = .ok (.invokevirtual 118, 3) := by decide +kernel
theorem d_L_law_924 : decode (zmc m_L_law) 924 = .ok (.if_icmp .eq 494, 3) := by decide +kernel
theorem d_L_law_927 : decode (zmc m_L_law) 927 = .ok (.iconst 0, 1) := by decide +kernel
theorem d_L_law_928 : decode (zmc m_L_law) 928 = .ok (.ireturn, 1) := by decide +kernel
theorem d_L_law_929 : decode (zmc m_L_law) 929 = .ok (.aload_n 1, 1) := by decide +kernel
theorem d_L_law_930 : decode (zmc m_L_law) 930 = .ok (.aload_n 0, 1) := by decide +kernel
theorem d_L_law_931 : decode (zmc m_L_law) 931 = .ok (.iload_n 3, 1) := by decide +kernel
theorem d_L_law_932 : decode (zmc m_L_law) 932 = .ok (.iconst 1, 1) := by decide +kernel
theorem d_L_law_933 : decode (zmc m_L_law) 933 = .ok (.iadd, 1) := by decide +kernel
theorem d_L_law_934 : decode (zmc m_L_law) 934 = .ok (.iaload, 1) := by decide +kernel
theorem d_L_law_935 : decode (zmc m_L_law) 935 = .ok (.invokevirtual 119, 3) := by decide +kernel
theorem d_L_law_938 : decode (zmc m_L_law) 938 = .ok (.aload_n 2, 1) := by decide +kernel
theorem d_L_law_939 : decode (zmc m_L_law) 939 = .ok (.aload_n 0, 1) := by decide +kernel
theorem d_L_law_940 : decode (zmc m_L_law) 940 = .ok (.iload_n 3, 1) := by decide +kernel
theorem d_L_law_941 : decode (zmc m_L_law) 941 = .ok (.iconst 1, 1) := by decide +kernel
theorem d_L_law_942 : decode (zmc m_L_law) 942 = .ok (.iadd, 1) := by decide +kernel
theorem d_L_law_943 : decode (zmc m_L_law) 943 = .ok (.iaload, 1) := by decide +kernel
theorem d_L_law_944 : decode (zmc m_L_law) 944 = .ok (.invokevirtual 122, 3) := by decide +kernel
theorem d_L_law_947 : decode (zmc m_L_law) 947 = .ok (.if_icmp .eq 471, 3) := by decide +kernel
theorem d_L_law_950 : decode (zmc m_L_law) 950 = .ok (.iconst 0, 1) := by decide +kernel
theorem d_L_law_951 : decode (zmc m_L_law) 951 = .ok (.ireturn, 1) := by decide +kernel
theorem d_L_law_952 : decode (zmc m_L_law) 952 = .ok (.aload_n 1, 1) := by decide +kernel
theorem d_L_law_953 : decode (zmc m_L_law) 953 = .ok (.aload_n 0, 1) := by decide +kernel
theorem d_L_law_954 : decode (zmc m_L_law) 954 = .ok (.iload_n 3, 1) := by decide +kernel
theorem d_L_law_955 : decode (zmc m_L_law) 955 = .ok (.iconst 1, 1) := by decide +kernel
theorem d_L_law_956 : decode (zmc m_L_law) 956 = .ok (.iadd, 1) := by decide +kernel
theorem d_L_law_957 : decode (zmc m_L_law) 957 = .ok (.iaload, 1) := by decide +kernel
theorem d_L_law_958 : decode (zmc m_L_law) 958 = .ok (.invokevirtual 123, 3) := by decide +kernel
theorem d_L_law_961 : decode (zmc m_L_law) 961 = .ok (.aload_n 2, 1) := by decide +kernel
theorem d_L_law_962 : decode (zmc m_L_law) 962 = .ok (.aload_n 0, 1) := by decide +kernel
theorem d_L_law_963 : decode (zmc m_L_law) 963 = .ok (.iload_n 3, 1) := by decide +kernel
theorem d_L_law_964 : decode (zmc m_L_law) 964 = .ok (.iconst 1, 1) := by decide +kernel
theorem d_L_law_965 : decode (zmc m_L_law) 965 = .ok (.iadd, 1) := by decide +kernel
theorem d_L_law_966 : decode (zmc m_L_law) 966 = .ok (.iaload, 1) := by decide +kernel
theorem d_L_law_967 : decode (zmc m_L_law) 967 = .ok (.invokevirtual 126, 3) := by decide +kernel
theorem d_L_law_970 : decode (zmc m_L_law) 970 = .ok (.if_icmp .eq 448, 3) := by decide +kernel
theorem d_L_law_973 : decode (zmc m_L_law) 973 = .ok (.iconst 0, 1) := by decide +kernel
theorem d_L_law_974 : decode (zmc m_L_law) 974 = .ok (.ireturn, 1) := by decide +kernel
theorem d_L_law_975 : decode (zmc m_L_law) 975 = .ok (.aload_n 1, 1) := by decide +kernel
theorem d_L_law_976 : decode (zmc m_L_law) 976 = .ok (.invokevirtual 127, 3) := by decide +kernel
theorem d_L_law_979 : decode (zmc m_L_law) 979 = .ok (.aload_n 2, 1) := by decide +kernel
theorem d_L_law_980 : decode (zmc m_L_law) 980 = .ok (.invokevirtual 130, 3) := by decide +kernel
theorem d_L_law_983 : decode (zmc m_L_law) 983 = .ok (.if_icmp .eq 435, 3) := by decide +kernel
theorem d_L_law_986 : decode (zmc m_L_law) 986 = .ok (.iconst 0, 1) := by decide +kernel
theorem d_L_law_987 : decode (zmc m_L_law) 987 = .ok (.ireturn, 1) := by decide +kernel
theorem d_L_law_988 : decode (zmc m_L_law) 988 = .ok (.aload_n 1, 1) := by decide +kernel
theorem d_L_law_989 : decode (zmc m_L_law) 989 = .ok (.invokevirtual 131, 3) := by decide +kernel
theorem d_L_law_992 : decode (zmc m_L_law) 992 = .ok (.aload_n 2, 1) := by decide +kernel
theorem d_L_law_993 : decode (zmc m_L_law) 993 = .ok (.invokevirtual 134, 3) := by decide +kernel
theorem d_L_law_996 : decode (zmc m_L_law) 996 = .ok (.if_icmp .eq 422, 3) := by decide +kernel
theorem d_L_law_999 : decode (zmc m_L_law) 999 = .ok (.iconst 0, 1) := by decide +kernel
theorem d_L_law_1000 : decode (zmc m_L_law) 1000 = .ok (.ireturn, 1) := by decide +kernel
theorem d_L_law_1001 : decode (zmc m_L_law) 1001 = .ok (.aload_n 1, 1) := by decide +kernel
theorem d_L_law_1002 : decode (zmc m_L_law) 1002 = .ok (.invokevirtual 135, 3) := by decide +kernel
theorem d_L_law_1005 : decode (zmc m_L_law) 1005 = .ok (.aload_n 2, 1) := by decide +kernel
theorem d_L_law_1006 : decode (zmc m_L_law) 1006 = .ok (.invokevirtual 138, 3) := by decide +kernel
theorem d_L_law_1009 : decode (zmc m_L_law) 1009 = .ok (.if_icmp .eq 409, 3) := by decide +kernel
theorem d_L_law_1012 : decode (zmc m_L_law) 1012 = .ok (.iconst 0, 1) := by decide +kernel
theorem d_L_law_1013 : decode (zmc m_L_law) 1013 = .ok (.ireturn, 1) := by decide +kernel
theorem d_L_law_1014 : decode (zmc m_L_law) 1014 = .ok (.aload_n 1, 1) := by decide +kernel
theorem d_L_law_1015 : decode (zmc m_L_law) 1015 = .ok (.invokevirtual 139, 3) := by decide +kernel
theorem d_L_law_1018 : decode (zmc m_L_law) 1018 = .ok (.aload_n 2, 1) := by decide +kernel
theorem d_L_law_1019 : decode (zmc m_L_law) 1019 = .ok (.invokevirtual 142, 3) := by decide +kernel
theorem d_L_law_1022 : decode (zmc m_L_law) 1022 = .ok (.if_icmp .eq 396, 3) := by decide +kernel
theorem d_L_law_1025 : decode (zmc m_L_law) 1025 = .ok (.iconst 0, 1) := by decide +kernel
theorem d_L_law_1026 : decode (zmc m_L_law) 1026 = .ok (.ireturn, 1) := by decide +kernel
theorem d_L_law_1027 : decode (zmc m_L_law) 1027 = .ok (.aload_n 1, 1) := by decide +kernel
theorem d_L_law_1028 : decode (zmc m_L_law) 1028 = .ok (.aload_n 0, 1) := by decide +kernel
theorem d_L_law_1029 : decode (zmc m_L_law) 1029 = .ok (.iload_n 3, 1) := by decide +kernel
theorem d_L_law_1030 : decode (zmc m_L_law) 1030 = .ok (.iconst 1, 1) := by decide +kernel
theorem d_L_law_1031 : decode (zmc m_L_law) 1031 = .ok (.iadd, 1) := by decide +kernel
theorem d_L_law_1032 : decode (zmc m_L_law) 1032 = .ok (.iaload, 1) := by decide +kernel
theorem d_L_law_1033 : decode (zmc m_L_law) 1033 = .ok (.invokevirtual 143, 3) := by decide +kernel
theorem d_L_law_1036 : decode (zmc m_L_law) 1036 = .ok (.aload_n 2, 1) := by decide +kernel
theorem d_L_law_1037 : decode (zmc m_L_law) 1037 = .ok (.aload_n 0, 1) := by decide +kernel
theorem d_L_law_1038 : decode (zmc m_L_law) 1038 = .ok (.iload_n 3, 1) := by decide +kernel
theorem d_L_law_1039 : decode (zmc m_L_law) 1039 = .ok (.iconst 1, 1) := by decide +kernel
theorem d_L_law_1040 : decode (zmc m_L_law) 1040 = .ok (.iadd, 1) := by decide +kernel
theorem d_L_law_1041 : decode (zmc m_L_law) 1041 = .ok (.iaload, 1) := by decide +kernel
theorem d_L_law_1042 : decode (zmc m_L_law) 1042 = .ok (.invokevirtual 146, 3) := by decide +kernel
theorem d_L_law_1045 : decode (zmc m_L_law) 1045 = .ok (.if_icmp .eq 373, 3) := by decide +kernel
theorem d_L_law_1048 : decode (zmc m_L_law) 1048 = .ok (.iconst 0, 1) := by decide +kernel
theorem d_L_law_1049 : decode (zmc m_L_law) 1049 = .ok (.ireturn, 1) := by decide +kernel
theorem d_L_law_1050 : decode (zmc m_L_law) 1050 = .ok (.aload_n 1, 1) := by decide +kernel
theorem d_L_law_1051 : decode (zmc m_L_law) 1051 = .ok (.aload_n 0, 1) := by decide +kernel
theorem d_L_law_1052 : decode (zmc m_L_law) 1052 = .ok (.iload_n 3, 1) := by decide +kernel
theorem d_L_law_1053 : decode (zmc m_L_law) 1053 = .ok (.iconst 1, 1) := by decide +kernel
theorem d_L_law_1054 : decode (zmc m_L_law) 1054 = .ok (.iadd, 1) := by decide +kernel
theorem d_L_law_1055 : decode (zmc m_L_law) 1055 = .ok (.iaload, 1) := by decide +kernel
theorem d_L_law_1056 : decode (zmc m_L_law) 1056 = .ok (.aload_n 0, 1) := by decide +kernel
theorem d_L_law_1057 : decode (zmc m_L_law) 1057 = .ok (.iload_n 3, 1) := by decide +kernel
theorem d_L_law_1058 : decode (zmc m_L_law) 1058 = .ok (.iconst 2, 1) := by decide +kernel
theorem d_L_law_1059 : decode (zmc m_L_law) 1059 = .ok (.iadd, 1) := by decide +kernel
theorem d_L_law_1060 : decode (zmc m_L_law) 1060 = .ok (.iaload, 1) := by decide +kernel
theorem d_L_law_1061 : decode (zmc m_L_law) 1061 = .ok (.aload_n 0, 1) := by decide +kernel
theorem d_L_law_1062 : decode (zmc m_L_law) 1062 = .ok (.iload_n 3, 1) := by decide +kernel
theorem d_L_law_1063 : decode (zmc m_L_law) 1063 = .ok (.iconst 3, 1) := by decide +kernel
theorem d_L_law_1064 : decode (zmc m_L_law) 1064 = .ok (.iadd, 1) := by decide +kernel
theorem d_L_law_1065 : decode (zmc m_L_law) 1065 = .ok (.iaload, 1) := by decide +kernel
theorem d_L_law_1066 : decode (zmc m_L_law) 1066 = .ok (.invokevirtual 147, 3) := by decide +kernel
theorem d_L_law_1069 : decode (zmc m_L_law) 1069 = .ok (.aload_n 2, 1) := by decide +kernel
theorem d_L_law_1070 : decode (zmc m_L_law) 1070 = .ok (.aload_n 0, 1) := by decide +kernel
theorem d_L_law_1071 : decode (zmc m_L_law) 1071 = .ok (.iload_n 3, 1) := by decide +kernel
theorem d_L_law_1072 : decode (zmc m_L_law) 1072 = .ok (.iconst 1, 1) := by decide +kernel
theorem d_L_law_1073 : decode (zmc m_L_law) 1073 = .ok (.iadd, 1) := by decide +kernel
theorem d_L_law_1074 : decode (zmc m_L_law) 1074 = .ok (.iaload, 1) := by decide +kernel
theorem d_L_law_1075 : decode (zmc m_L_law) 1075 = .ok (.aload_n 0, 1) := by decide +kernel
theorem d_L_law_1076 : decode (zmc m_L_law) 1076 = .ok (.iload_n 3, 1) := by decide +kernel
theorem d_L_law_1077 : decode (zmc m_L_law) 1077 = .ok (.iconst 2, 1) := by decide +kernel
theorem d_L_law_1078 : decode (zmc m_L_law) 1078 = .ok (.iadd, 1) := by decide +kernel
theorem d_L_law_1079 : decode (zmc m_L_law) 1079 = .ok (.iaload, 1) := by decide +kernel
theorem d_L_law_1080 : decode (zmc m_L_law) 1080 = .ok (.aload_n 0, 1) := by decide +kernel
theorem d_L_law_1081 : decode (zmc m_L_law) 1081 = .ok (.iload_n 3, 1) := by decide +kernel
theorem d_L_law_1082 : decode (zmc m_L_law) 1082 = .ok (.iconst 3, 1) := by decide +kernel
theorem d_L_law_1083 : decode (zmc m_L_law) 1083 = .ok (.iadd, 1) := by decide +kernel
theorem d_L_law_1084 : decode (zmc m_L_law) 1084 = .ok (.iaload, 1) := by decide +kernel
theorem d_L_law_1085 : decode (zmc m_L_law) 1085 = .ok (.invokevirtual 150, 3) := by decide +kernel
theorem d_L_law_1088 : decode (zmc m_L_law) 1088 = .ok (.if_icmp .eq 330, 3) := by decide +kernel
theorem d_L_law_1091 : decode (zmc m_L_law) 1091 = .ok (.iconst 0, 1) := by decide +kernel
theorem d_L_law_1092 : decode (zmc m_L_law) 1092 = .ok (.ireturn, 1) := by decide +kernel
theorem d_L_law_1093 : decode (zmc m_L_law) 1093 = .ok (.aload_n 1, 1) := by decide +kernel
theorem d_L_law_1094 : decode (zmc m_L_law) 1094 = .ok (.aload_n 0, 1) := by decide +kernel
theorem d_L_law_1095 : decode (zmc m_L_law) 1095 = .ok (.iload_n 3, 1) := by decide +kernel
theorem d_L_law_1096 : decode (zmc m_L_law) 1096 = .ok (.iconst 1, 1) := by decide +kernel
theorem d_L_law_1097 : decode (zmc m_L_law) 1097 = .ok (.iadd, 1) := by decide +kernel
theorem d_L_law_1098 : decode (zmc m_L_law) 1098 = .ok (.iaload, 1) := by decide +kernel
theorem d_L_law_1099 : decode (zmc m_L_law) 1099 = .ok (.invokevirtual 151, 3) := by decide +kernel
theorem d_L_law_1102 : decode (zmc m_L_law) 1102 = .ok (.aload_n 2, 1) := by decide +kernel
theorem d_L_law_1103 : decode (zmc m_L_law) 1103 = .ok (.aload_n 0, 1) := by decide +kernel
theorem d_L_law_1104 : decode (zmc m_L_law) 1104 = .ok (.iload_n 3, 1) := by decide +kernel
theorem d_L_law_1105 : decode (zmc m_L_law) 1105 = .ok (.iconst 1, 1) := by decide +kernel
theorem d_L_law_1106 : decode (zmc m_L_law) 1106 = .ok (.iadd, 1) := by decide +kernel
theorem d_L_law_1107 : decode (zmc m_L_law) 1107 = .ok (.iaload, 1) := by decide +kernel
theorem d_L_law_1108 : decode (zmc m_L_law) 1108 = .ok (.invokevirtual 154, 3) := by decide +kernel
theorem d_L_law_1111 : decode (zmc m_L_law) 1111 = .ok (.if_icmp .eq 307, 3) := by decide +kernel
theorem d_L_law_1114 : decode (zmc m_L_law) 1114 = .ok (.iconst 0, 1) := by decide +kernel
theorem d_L_law_1115 : decode (zmc m_L_law) 1115 = .ok (.ireturn, 1) := by decide +kernel
theorem d_L_law_1116 : decode (zmc m_L_law) 1116 = .ok (.aload_n 1, 1) := by decide +kernel
theorem d_L_law_1117 : decode (zmc m_L_law) 1117 = .ok (.aload_n 0, 1) := by decide +kernel
theorem d_L_law_1118 : decode (zmc m_L_law) 1118 = .ok (.iload_n 3, 1) := by decide +kernel
theorem d_L_law_1119 : decode (zmc m_L_law) 1119 = .ok (.iconst 1, 1) := by decide +kernel
theorem d_L_law_1120 : decode (zmc m_L_law) 1120 = .ok (.iadd, 1) := by decide +kernel
theorem d_L_law_1121 : decode (zmc m_L_law) 1121 = .ok (.iaload, 1) := by decide +kernel
theorem d_L_law_1122 : decode (zmc m_L_law) 1122 = .ok (.aload_n 0, 1) := by decide +kernel
theorem d_L_law_1123 : decode (zmc m_L_law) 1123 = .ok (.iload_n 3, 1) := by decide +kernel
theorem d_L_law_1124 : decode (zmc m_L_law) 1124 = .ok (.iconst 2, 1) := by decide +kernel
theorem d_L_law_1125 : decode (zmc m_L_law) 1125 = .ok (.iadd, 1) := by decide +kernel
theorem d_L_law_1126 : decode (zmc m_L_law) 1126 = .ok (.iaload, 1) := by decide +kernel
theorem d_L_law_1127 : decode (zmc m_L_law) 1127 = .ok (.invokevirtual 155, 3) := by decide +kernel
theorem d_L_law_1130 : decode (zmc m_L_law) 1130 = .ok (.aload_n 2, 1) := by decide +kernel
theorem d_L_law_1131 : decode (zmc m_L_law) 1131 = .ok (.aload_n 0, 1) := by decide +kernel
theorem d_L_law_1132 : decode (zmc m_L_law) 1132 = .ok (.iload_n 3, 1) := by decide +kernel
theorem d_L_law_1133 : decode (zmc m_L_law) 1133 = .ok (.iconst 1, 1) := by decide +kernel
theorem d_L_law_1134 : decode (zmc m_L_law) 1134 = .ok (.iadd, 1) := by decide +kernel
theorem d_L_law_1135 : decode (zmc m_L_law) 1135 = .ok (.iaload, 1) := by decide +kernel
theorem d_L_law_1136 : decode (zmc m_L_law) 1136 = .ok (.aload_n 0, 1) := by decide +kernel
theorem d_L_law_1137 : decode (zmc m_L_law) 1137 = .ok (.iload_n 3, 1) := by decide +kernel
theorem d_L_law_1138 : decode (zmc m_L_law) 1138 = .ok (.iconst 2, 1) := by decide +kernel
theorem d_L_law_1139 : decode (zmc m_L_law) 1139 = .ok (.iadd, 1) := by decide +kernel
theorem d_L_law_1140 : decode (zmc m_L_law) 1140 = .ok (.iaload, 1) := by decide +kernel
theorem d_L_law_1141 : decode (zmc m_L_law) 1141 = .ok (.invokevirtual 158, 3) := by decide +kernel
theorem d_L_law_1144 : decode (zmc m_L_law) 1144 = .ok (.if_icmp .eq 274, 3) := by decide +kernel
theorem d_L_law_1147 : decode (zmc m_L_law) 1147 = .ok (.iconst 0, 1) := by decide +kernel
theorem d_L_law_1148 : decode (zmc m_L_law) 1148 = .ok (.ireturn, 1) := by decide +kernel
theorem d_L_law_1149 : decode (zmc m_L_law) 1149 = .ok (.aload_n 1, 1) := by decide +kernel
theorem d_L_law_1150 : decode (zmc m_L_law) 1150 = .ok (.aload_n 0, 1) := by decide +kernel
theorem d_L_law_1151 : decode (zmc m_L_law) 1151 = .ok (.iload_n 3, 1) := by decide +kernel
theorem d_L_law_1152 : decode (zmc m_L_law) 1152 = .ok (.iconst 1, 1) := by decide +kernel
theorem d_L_law_1153 : decode (zmc m_L_law) 1153 = .ok (.iadd, 1) := by decide +kernel
theorem d_L_law_1154 : decode (zmc m_L_law) 1154 = .ok (.iaload, 1) := by decide +kernel
theorem d_L_law_1155 : decode (zmc m_L_law) 1155 = .ok (.aload_n 0, 1) := by decide +kernel
theorem d_L_law_1156 : decode (zmc m_L_law) 1156 = .ok (.iload_n 3, 1) := by decide +kernel
theorem d_L_law_1157 : decode (zmc m_L_law) 1157 = .ok (.iconst 2, 1) := by decide +kernel
theorem d_L_law_1158 : decode (zmc m_L_law) 1158 = .ok (.iadd, 1) := by decide +kernel
theorem d_L_law_1159 : decode (zmc m_L_law) 1159 = .ok (.iaload, 1) := by decide +kernel
theorem d_L_law_1160 : decode (zmc m_L_law) 1160 = .ok (.aload_n 0, 1) := by decide +kernel
theorem d_L_law_1161 : decode (zmc m_L_law) 1161 = .ok (.iload_n 3, 1) := by decide +kernel
theorem d_L_law_1162 : decode (zmc m_L_law) 1162 = .ok (.iconst 3, 1) := by decide +kernel
theorem d_L_law_1163 : decode (zmc m_L_law) 1163 = .ok (.iadd, 1) := by decide +kernel
theorem d_L_law_1164 : decode (zmc m_L_law) 1164 = .ok (.iaload, 1) := by decide +kernel
theorem d_L_law_1165 : decode (zmc m_L_law) 1165 = .ok (.invokevirtual 159, 3) := by decide +kernel
theorem d_L_law_1168 : decode (zmc m_L_law) 1168 = .ok (.aload_n 2, 1) := by decide +kernel
theorem d_L_law_1169 : decode (zmc m_L_law) 1169 = .ok (.aload_n 0, 1) := by decide +kernel
theorem d_L_law_1170 : decode (zmc m_L_law) 1170 = .ok (.iload_n 3, 1) := by decide +kernel
theorem d_L_law_1171 : decode (zmc m_L_law) 1171 = .ok (.iconst 1, 1) := by decide +kernel
theorem d_L_law_1172 : decode (zmc m_L_law) 1172 = .ok (.iadd, 1) := by decide +kernel
theorem d_L_law_1173 : decode (zmc m_L_law) 1173 = .ok (.iaload, 1) := by decide +kernel
theorem d_L_law_1174 : decode (zmc m_L_law) 1174 = .ok (.aload_n 0, 1) := by decide +kernel
theorem d_L_law_1175 : decode (zmc m_L_law) 1175 = .ok (.iload_n 3, 1) := by decide +kernel
theorem d_L_law_1176 : decode (zmc m_L_law) 1176 = .ok (.iconst 2, 1) := by decide +kernel
theorem d_L_law_1177 : decode (zmc m_L_law) 1177 = .ok (.iadd, 1) := by decide +kernel
theorem d_L_law_1178 : decode (zmc m_L_law) 1178 = .ok (.iaload, 1) := by decide +kernel
theorem d_L_law_1179 : decode (zmc m_L_law) 1179 = .ok (.aload_n 0, 1) := by decide +kernel
theorem d_L_law_1180 : decode (zmc m_L_law) 1180 = .ok (.iload_n 3, 1) := by decide +kernel
theorem d_L_law_1181 : decode (zmc m_L_law) 1181 = .ok (.iconst 3, 1) := by decide +kernel
theorem d_L_law_1182 : decode (zmc m_L_law) 1182 = .ok (.iadd, 1) := by decide +kernel
theorem d_L_law_1183 : decode (zmc m_L_law) 1183 = .ok (.iaload, 1) := by decide +kernel
theorem d_L_law_1184 : decode (zmc m_L_law) 1184 = .ok (.invokevirtual 162, 3) := by decide +kernel
theorem d_L_law_1187 : decode (zmc m_L_law) 1187 = .ok (.if_icmp .eq 231, 3) := by decide +kernel
theorem d_L_law_1190 : decode (zmc m_L_law) 1190 = .ok (.iconst 0, 1) := by decide +kernel
theorem d_L_law_1191 : decode (zmc m_L_law) 1191 = .ok (.ireturn, 1) := by decide +kernel
theorem d_L_law_1192 : decode (zmc m_L_law) 1192 = .ok (.aload_n 1, 1) := by decide +kernel
theorem d_L_law_1193 : decode (zmc m_L_law) 1193 = .ok (.aload_n 0, 1) := by decide +kernel
theorem d_L_law_1194 : decode (zmc m_L_law) 1194 = .ok (.iload_n 3, 1) := by decide +kernel
theorem d_L_law_1195 : decode (zmc m_L_law) 1195 = .ok (.iconst 1, 1) := by decide +kernel
theorem d_L_law_1196 : decode (zmc m_L_law) 1196 = .ok (.iadd, 1) := by decide +kernel
theorem d_L_law_1197 : decode (zmc m_L_law) 1197 = .ok (.iaload, 1) := by decide +kernel
theorem d_L_law_1198 : decode (zmc m_L_law) 1198 = .ok (.aload_n 0, 1) := by decide +kernel
theorem d_L_law_1199 : decode (zmc m_L_law) 1199 = .ok (.iload_n 3, 1) := by decide +kernel
theorem d_L_law_1200 : decode (zmc m_L_law) 1200 = .ok (.iconst 2, 1) := by decide +kernel
theorem d_L_law_1201 : decode (zmc m_L_law) 1201 = .ok (.iadd, 1) := by decide +kernel
theorem d_L_law_1202 : decode (zmc m_L_law) 1202 = .ok (.iaload, 1) := by decide +kernel
theorem d_L_law_1203 : decode (zmc m_L_law) 1203 = .ok (.aload_n 0, 1) := by decide +kernel
theorem d_L_law_1204 : decode (zmc m_L_law) 1204 = .ok (.iload_n 3, 1) := by decide +kernel
theorem d_L_law_1205 : decode (zmc m_L_law) 1205 = .ok (.iconst 3, 1) := by decide +kernel
theorem d_L_law_1206 : decode (zmc m_L_law) 1206 = .ok (.iadd, 1) := by decide +kernel
theorem d_L_law_1207 : decode (zmc m_L_law) 1207 = .ok (.iaload, 1) := by decide +kernel
theorem d_L_law_1208 : decode (zmc m_L_law) 1208 = .ok (.i2l, 1) := by decide +kernel
theorem d_L_law_1209 : decode (zmc m_L_law) 1209 = .ok (.bipush 32, 2) := by decide +kernel
theorem d_L_law_1211 : decode (zmc m_L_law) 1211 = .ok (.lshl, 1) := by decide +kernel
theorem d_L_law_1212 : decode (zmc m_L_law) 1212 = .ok (.aload_n 0, 1) := by decide +kernel
theorem d_L_law_1213 : decode (zmc m_L_law) 1213 = .ok (.iload_n 3, 1) := by decide +kernel
theorem d_L_law_1214 : decode (zmc m_L_law) 1214 = .ok (.iconst 4, 1) := by decide +kernel
theorem d_L_law_1215 : decode (zmc m_L_law) 1215 = .ok (.iadd, 1) := by decide +kernel
theorem d_L_law_1216 : decode (zmc m_L_law) 1216 = .ok (.iaload, 1) := by decide +kernel
theorem d_L_law_1217 : decode (zmc m_L_law) 1217 = .ok (.i2l, 1) := by decide +kernel
theorem d_L_law_1218 : decode (zmc m_L_law) 1218 = .ok (.ldc2_w 163, 3) := by decide +kernel
theorem d_L_law_1221 : decode (zmc m_L_law) 1221 = .ok (.land, 1) := by decide +kernel
theorem d_L_law_1222 : decode (zmc m_L_law) 1222 = .ok (.lor, 1) := by decide +kernel
theorem d_L_law_1223 : decode (zmc m_L_law) 1223 = .ok (.invokevirtual 165, 3) := by decide +kernel
theorem d_L_law_1226 : decode (zmc m_L_law) 1226 = .ok (.aload_n 2, 1) := by decide +kernel
theorem d_L_law_1227 : decode (zmc m_L_law) 1227 = .ok (.aload_n 0, 1) := by decide +kernel
theorem d_L_law_1228 : decode (zmc m_L_law) 1228 = .ok (.iload_n 3, 1) := by decide +kernel
theorem d_L_law_1229 : decode (zmc m_L_law) 1229 = .ok (.iconst 1, 1) := by decide +kernel
theorem d_L_law_1230 : decode (zmc m_L_law) 1230 = .ok (.iadd, 1) := by decide +kernel
theorem d_L_law_1231 : decode (zmc m_L_law) 1231 = .ok (.iaload, 1) := by decide +kernel
theorem d_L_law_1232 : decode (zmc m_L_law) 1232 = .ok (.aload_n 0, 1) := by decide +kernel
theorem d_L_law_1233 : decode (zmc m_L_law) 1233 = .ok (.iload_n 3, 1) := by decide +kernel
theorem d_L_law_1234 : decode (zmc m_L_law) 1234 = .ok (.iconst 2, 1) := by decide +kernel
theorem d_L_law_1235 : decode (zmc m_L_law) 1235 = .ok (.iadd, 1) := by decide +kernel
theorem d_L_law_1236 : decode (zmc m_L_law) 1236 = .ok (.iaload, 1) := by decide +kernel
theorem d_L_law_1237 : decode (zmc m_L_law) 1237 = .ok (.aload_n 0, 1) := by decide +kernel
theorem d_L_law_1238 : decode (zmc m_L_law) 1238 = .ok (.iload_n 3, 1) := by decide +kernel
theorem d_L_law_1239 : decode (zmc m_L_law) 1239 = .ok (.iconst 3, 1) := by decide +kernel
theorem d_L_law_1240 : decode (zmc m_L_law) 1240 = .ok (.iadd, 1) := by decide +kernel
theorem d_L_law_1241 : decode (zmc m_L_law) 1241 = .ok (.iaload, 1) := by decide +kernel
theorem d_L_law_1242 : decode (zmc m_L_law) 1242 = .ok (.i2l, 1) := by decide +kernel
theorem d_L_law_1243 : decode (zmc m_L_law) 1243 = .ok (.bipush 32, 2) := by decide +kernel
theorem d_L_law_1245 : decode (zmc m_L_law) 1245 = .ok (.lshl, 1) := by decide +kernel
theorem d_L_law_1246 : decode (zmc m_L_law) 1246 = .ok (.aload_n 0, 1) := by decide +kernel
theorem d_L_law_1247 : decode (zmc m_L_law) 1247 = .ok (.iload_n 3, 1) := by decide +kernel
theorem d_L_law_1248 : decode (zmc m_L_law) 1248 = .ok (.iconst 4, 1) := by decide +kernel
theorem d_L_law_1249 : decode (zmc m_L_law) 1249 = .ok (.iadd, 1) := by decide +kernel
theorem d_L_law_1250 : decode (zmc m_L_law) 1250 = .ok (.iaload, 1) := by decide +kernel
theorem d_L_law_1251 : decode (zmc m_L_law) 1251 = .ok (.i2l, 1) := by decide +kernel
theorem d_L_law_1252 : decode (zmc m_L_law) 1252 = .ok (.ldc2_w 163, 3) := by decide +kernel
theorem d_L_law_1255 : decode (zmc m_L_law) 1255 = .ok (.land, 1) := by decide +kernel
theorem d_L_law_1256 : decode (zmc m_L_law) 1256 = .ok (.lor, 1) := by decide +kernel
theorem d_L_law_1257 : decode (zmc m_L_law) 1257 = .ok (.invokevirtual 169, 3) := by decide +kernel
theorem d_L_law_1260 : decode (zmc m_L_law) 1260 = .ok (.if_icmp .eq 158, 3) := by decide +kernel
theorem d_L_law_1263 : decode (zmc m_L_law) 1263 = .ok (.iconst 0, 1) := by decide +kernel
theorem d_L_law_1264 : decode (zmc m_L_law) 1264 = .ok (.ireturn, 1) := by decide +kernel
theorem d_L_law_1265 : decode (zmc m_L_law) 1265 = .ok (.aload_n 1, 1) := by decide +kernel
theorem d_L_law_1266 : decode (zmc m_L_law) 1266 = .ok (.aload_n 0, 1) := by decide +kernel
theorem d_L_law_1267 : decode (zmc m_L_law) 1267 = .ok (.iload_n 3, 1) := by decide +kernel
theorem d_L_law_1268 : decode (zmc m_L_law) 1268 = .ok (.iconst 1, 1) := by decide +kernel
theorem d_L_law_1269 : decode (zmc m_L_law) 1269 = .ok (.iadd, 1) := by decide +kernel
theorem d_L_law_1270 : decode (zmc m_L_law) 1270 = .ok (.iaload, 1) := by decide +kernel
theorem d_L_law_1271 : decode (zmc m_L_law) 1271 = .ok (.aload_n 0, 1) := by decide +kernel
theorem d_L_law_1272 : decode (zmc m_L_law) 1272 = .ok (.iload_n 3, 1) := by decide +kernel
theorem d_L_law_1273 : decode (zmc m_L_law) 1273 = .ok (.iconst 2, 1) := by decide +kernel
theorem d_L_law_1274 : decode (zmc m_L_law) 1274 = .ok (.iadd, 1) := by decide +kernel
theorem d_L_law_1275 : decode (zmc m_L_law) 1275 = .ok (.iaload, 1) := by decide +kernel
theorem d_L_law_1276 : decode (zmc m_L_law) 1276 = .ok (.invokevirtual 170, 3) := by decide +kernel
theorem d_L_law_1279 : decode (zmc m_L_law) 1279 = .ok (.aload_n 2, 1) := by decide +kernel
theorem d_L_law_1280 : decode (zmc m_L_law) 1280 = .ok (.aload_n 0, 1) := by decide +kernel
theorem d_L_law_1281 : decode (zmc m_L_law) 1281 = .ok (.iload_n 3, 1) := by decide +kernel
theorem d_L_law_1282 : decode (zmc m_L_law) 1282 = .ok (.iconst 1, 1) := by decide +kernel
theorem d_L_law_1283 : decode (zmc m_L_law) 1283 = .ok (.iadd, 1) := by decide +kernel
theorem d_L_law_1284 : decode (zmc m_L_law) 1284 = .ok (.iaload, 1) := by decide +kernel
theorem d_L_law_1285 : decode (zmc m_L_law) 1285 = .ok (.aload_n 0, 1) := by decide +kernel
theorem d_L_law_1286 : decode (zmc m_L_law) 1286 = .ok (.iload_n 3, 1) := by decide +kernel
theorem d_L_law_1287 : decode (zmc m_L_law) 1287 = .ok (.iconst 2, 1) := by decide +kernel
theorem d_L_law_1288 : decode (zmc m_L_law) 1288 = .ok (.iadd, 1) := by decide +kernel
theorem d_L_law_1289 : decode (zmc m_L_law) 1289 = .ok (.iaload, 1) := by decide +kernel
theorem d_L_law_1290 : decode (zmc m_L_law) 1290 = .ok (.invokevirtual 173, 3) := by decide +kernel
theorem d_L_law_1293 : decode (zmc m_L_law) 1293 = .ok (.lcmp, 1) := by decide +kernel
theorem d_L_law_1294 : decode (zmc m_L_law) 1294 = .ok (.ifCond .eq 124, 3) := by decide +kernel
theorem d_L_law_1297 : decode (zmc m_L_law) 1297 = .ok (.iconst 0, 1) := by decide +kernel
theorem d_L_law_1298 : decode (zmc m_L_law) 1298 = .ok (.ireturn, 1) := by decide +kernel
theorem d_L_law_1299 : decode (zmc m_L_law) 1299 = .ok (.aload_n 1, 1) := by decide +kernel
theorem d_L_law_1300 : decode (zmc m_L_law) 1300 = .ok (.aload_n 0, 1) := by decide +kernel
theorem d_L_law_1301 : decode (zmc m_L_law) 1301 = .ok (.iload_n 3, 1) := by decide +kernel
theorem d_L_law_1302 : decode (zmc m_L_law) 1302 = .ok (.iconst 1, 1) := by decide +kernel
theorem d_L_law_1303 : decode (zmc m_L_law) 1303 = .ok (.iadd, 1) := by decide +kernel
theorem d_L_law_1304 : decode (zmc m_L_law) 1304 = .ok (.iaload, 1) := by decide +kernel
theorem d_L_law_1305 : decode (zmc m_L_law) 1305 = .ok (.aload_n 0, 1) := by decide +kernel
theorem d_L_law_1306 : decode (zmc m_L_law) 1306 = .ok (.iload_n 3, 1) := by decide +kernel
theorem d_L_law_1307 : decode (zmc m_L_law) 1307 = .ok (.iconst 2, 1) := by decide +kernel
theorem d_L_law_1308 : decode (zmc m_L_law) 1308 = .ok (.iadd, 1) := by decide +kernel
theorem d_L_law_1309 : decode (zmc m_L_law) 1309 = .ok (.iaload, 1) := by decide +kernel
theorem d_L_law_1310 : decode (zmc m_L_law) 1310 = .ok (.aload_n 0, 1) := by decide +kernel
theorem d_L_law_1311 : decode (zmc m_L_law) 1311 = .ok (.iload_n 3, 1) := by decide +kernel
theorem d_L_law_1312 : decode (zmc m_L_law) 1312 = .ok (.iconst 3, 1) := by decide +kernel
theorem d_L_law_1313 : decode (zmc m_L_law) 1313 = .ok (.iadd, 1) := by decide +kernel
theorem d_L_law_1314 : decode (zmc m_L_law) 1314 = .ok (.iaload, 1) := by decide +kernel
theorem d_L_law_1315 : decode (zmc m_L_law) 1315 = .ok (.aload_n 0, 1) := by decide +kernel
theorem d_L_law_1316 : decode (zmc m_L_law) 1316 = .ok (.iload_n 3, 1) := by decide +kernel
theorem d_L_law_1317 : decode (zmc m_L_law) 1317 = .ok (.iconst 4, 1) := by decide +kernel
theorem d_L_law_1318 : decode (zmc m_L_law) 1318 = .ok (.iadd, 1) := by decide +kernel
theorem d_L_law_1319 : decode (zmc m_L_law) 1319 = .ok (.iaload, 1) := by decide +kernel
theorem d_L_law_1320 : decode (zmc m_L_law) 1320 = .ok (.aload_n 0, 1) := by decide +kernel
theorem d_L_law_1321 : decode (zmc m_L_law) 1321 = .ok (.iload_n 3, 1) := by decide +kernel
theorem d_L_law_1322 : decode (zmc m_L_law) 1322 = .ok (.iconst 5, 1) := by decide +kernel
theorem d_L_law_1323 : decode (zmc m_L_law) 1323 = .ok (.iadd, 1) := by decide +kernel
theorem d_L_law_1324 : decode (zmc m_L_law) 1324 = .ok (.iaload, 1) := by decide +kernel
theorem d_L_law_1325 : decode (zmc m_L_law) 1325 = .ok (.invokevirtual 174, 3) := by decide +kernel
theorem d_L_law_1328 : decode (zmc m_L_law) 1328 = .ok (.aload_n 2, 1) := by decide +kernel
theorem d_L_law_1329 : decode (zmc m_L_law) 1329 = .ok (.aload_n 0, 1) := by decide +kernel
theorem d_L_law_1330 : decode (zmc m_L_law) 1330 = .ok (.iload_n 3, 1) := by decide +kernel
theorem d_L_law_1331 : decode (zmc m_L_law) 1331 = .ok (.iconst 1, 1) := by decide +kernel
theorem d_L_law_1332 : decode (zmc m_L_law) 1332 = .ok (.iadd, 1) := by decide +kernel
theorem d_L_law_1333 : decode (zmc m_L_law) 1333 = .ok (.iaload, 1) := by decide +kernel
theorem d_L_law_1334 : decode (zmc m_L_law) 1334 = .ok (.aload_n 0, 1) := by decide +kernel
theorem d_L_law_1335 : decode (zmc m_L_law) 1335 = .ok (.iload_n 3, 1) := by decide +kernel
theorem d_L_law_1336 : decode (zmc m_L_law) 1336 = .ok (.iconst 2, 1) := by decide +kernel
theorem d_L_law_1337 : decode (zmc m_L_law) 1337 = .ok (.iadd, 1) := by decide +kernel
theorem d_L_law_1338 : decode (zmc m_L_law) 1338 = .ok (.iaload, 1) := by decide +kernel
theorem d_L_law_1339 : decode (zmc m_L_law) 1339 = .ok (.aload_n 0, 1) := by decide +kernel
theorem d_L_law_1340 : decode (zmc m_L_law) 1340 = .ok (.iload_n 3, 1) := by decide +kernel
theorem d_L_law_1341 : decode (zmc m_L_law) 1341 = .ok (.iconst 3, 1) := by decide +kernel
theorem d_L_law_1342 : decode (zmc m_L_law) 1342 = .ok (.iadd, 1) := by decide +kernel
theorem d_L_law_1343 : decode (zmc m_L_law) 1343 = .ok (.iaload, 1) := by decide +kernel
theorem d_L_law_1344 : decode (zmc m_L_law) 1344 = .ok (.aload_n 0, 1) := by decide +kernel
theorem d_L_law_1345 : decode (zmc m_L_law) 1345 = .ok (.iload_n 3, 1) := by decide +kernel
theorem d_L_law_1346 : decode (zmc m_L_law) 1346 = .ok (.iconst 4, 1) := by decide +kernel
theorem d_L_law_1347 : decode (zmc m_L_law) 1347 = .ok (.iadd, 1) := by decide +kernel
theorem d_L_law_1348 : decode (zmc m_L_law) 1348 = .ok (.iaload, 1) := by decide +kernel
theorem d_L_law_1349 : decode (zmc m_L_law) 1349 = .ok (.aload_n 0, 1) := by decide +kernel
theorem d_L_law_1350 : decode (zmc m_L_law) 1350 = .ok (.iload_n 3, 1) := by decide +kernel
theorem d_L_law_1351 : decode (zmc m_L_law) 1351 = .ok (.iconst 5, 1) := by decide +kernel
theorem d_L_law_1352 : decode (zmc m_L_law) 1352 = .ok (.iadd, 1) := by decide +kernel
theorem d_L_law_1353 : decode (zmc m_L_law) 1353 = .ok (.iaload, 1) := by decide +kernel
theorem d_L_law_1354 : decode (zmc m_L_law) 1354 = .ok (.invokevirtual 178, 3) := by decide +kernel
theorem d_L_law_1357 : decode (zmc m_L_law) 1357 = .ok (.if_icmp .eq 61, 3) := by decide +kernel
theorem d_L_law_1360 : decode (zmc m_L_law) 1360 = .ok (.iconst 0, 1) := by decide +kernel
theorem d_L_law_1361 : decode (zmc m_L_law) 1361 = .ok (.ireturn, 1) := by decide +kernel
theorem d_L_law_1362 : decode (zmc m_L_law) 1362 = .ok (.aload_n 1, 1) := by decide +kernel
theorem d_L_law_1363 : decode (zmc m_L_law) 1363 = .ok (.aload_n 0, 1) := by decide +kernel
theorem d_L_law_1364 : decode (zmc m_L_law) 1364 = .ok (.iload_n 3, 1) := by decide +kernel
theorem d_L_law_1365 : decode (zmc m_L_law) 1365 = .ok (.iconst 1, 1) := by decide +kernel
theorem d_L_law_1366 : decode (zmc m_L_law) 1366 = .ok (.iadd, 1) := by decide +kernel
theorem d_L_law_1367 : decode (zmc m_L_law) 1367 = .ok (.iaload, 1) := by decide +kernel
theorem d_L_law_1368 : decode (zmc m_L_law) 1368 = .ok (.aload_n 0, 1) := by decide +kernel
theorem d_L_law_1369 : decode (zmc m_L_law) 1369 = .ok (.iload_n 3, 1) := by decide +kernel
theorem d_L_law_1370 : decode (zmc m_L_law) 1370 = .ok (.iconst 2, 1) := by decide +kernel
theorem d_L_law_1371 : decode (zmc m_L_law) 1371 = .ok (.iadd, 1) := by decide +kernel
theorem d_L_law_1372 : decode (zmc m_L_law) 1372 = .ok (.iaload, 1) := by decide +kernel
theorem d_L_law_1373 : decode (zmc m_L_law) 1373 = .ok (.invokevirtual 179, 3) := by decide +kernel
theorem d_L_law_1376 : decode (zmc m_L_law) 1376 = .ok (.aload_n 2, 1) := by decide +kernel
theorem d_L_law_1377 : decode (zmc m_L_law) 1377 = .ok (.aload_n 0, 1) := by decide +kernel
theorem d_L_law_1378 : decode (zmc m_L_law) 1378 = .ok (.iload_n 3, 1) := by decide +kernel
theorem d_L_law_1379 : decode (zmc m_L_law) 1379 = .ok (.iconst 1, 1) := by decide +kernel
theorem d_L_law_1380 : decode (zmc m_L_law) 1380 = .ok (.iadd, 1) := by decide +kernel
theorem d_L_law_1381 : decode (zmc m_L_law) 1381 = .ok (.iaload, 1) := by decide +kernel
theorem d_L_law_1382 : decode (zmc m_L_law) 1382 = .ok (.aload_n 0, 1) := by decide +kernel
theorem d_L_law_1383 : decode (zmc m_L_law) 1383 = .ok (.iload_n 3, 1) := by decide +kernel
theorem d_L_law_1384 : decode (zmc m_L_law) 1384 = .ok (.iconst 2, 1) := by decide +kernel
theorem d_L_law_1385 : decode (zmc m_L_law) 1385 = .ok (.iadd, 1) := by decide +kernel
theorem d_L_law_1386 : decode (zmc m_L_law) 1386 = .ok (.iaload, 1) := by decide +kernel
theorem d_L_law_1387 : decode (zmc m_L_law) 1387 = .ok (.invokevirtual 182, 3) := by decide +kernel
theorem d_L_law_1390 : decode (zmc m_L_law) 1390 = .ok (.if_icmp .eq 28, 3) := by decide +kernel
theorem d_L_law_1393 : decode (zmc m_L_law) 1393 = .ok (.iconst 0, 1) := by decide +kernel
theorem d_L_law_1394 : decode (zmc m_L_law) 1394 = .ok (.ireturn, 1) := by decide +kernel
theorem d_L_law_1395 : decode (zmc m_L_law) 1395 = .ok (.aload_n 1, 1) := by decide +kernel
theorem d_L_law_1396 : decode (zmc m_L_law) 1396 = .ok (.aload_n 0, 1) := by decide +kernel
theorem d_L_law_1397 : decode (zmc m_L_law) 1397 = .ok (.iload_n 3, 1) := by decide +kernel
theorem d_L_law_1398 : decode (zmc m_L_law) 1398 = .ok (.iconst 1, 1) := by decide +kernel
theorem d_L_law_1399 : decode (zmc m_L_law) 1399 = .ok (.iadd, 1) := by decide +kernel
theorem d_L_law_1400 : decode (zmc m_L_law) 1400 = .ok (.iaload, 1) := by decide +kernel
theorem d_L_law_1401 : decode (zmc m_L_law) 1401 = .ok (.invokevirtual 183, 3) := by decide +kernel
theorem d_L_law_1404 : decode (zmc m_L_law) 1404 = .ok (.aload_n 2, 1) := by decide +kernel
theorem d_L_law_1405 : decode (zmc m_L_law) 1405 = .ok (.aload_n 0, 1) := by decide +kernel
theorem d_L_law_1406 : decode (zmc m_L_law) 1406 = .ok (.iload_n 3, 1) := by decide +kernel
theorem d_L_law_1407 : decode (zmc m_L_law) 1407 = .ok (.iconst 1, 1) := by decide +kernel
theorem d_L_law_1408 : decode (zmc m_L_law) 1408 = .ok (.iadd, 1) := by decide +kernel
theorem d_L_law_1409 : decode (zmc m_L_law) 1409 = .ok (.iaload, 1) := by decide +kernel
theorem d_L_law_1410 : decode (zmc m_L_law) 1410 = .ok (.invokevirtual 186, 3) := by decide +kernel
theorem d_L_law_1413 : decode (zmc m_L_law) 1413 = .ok (.if_icmp .eq 5, 3) := by decide +kernel
theorem d_L_law_1416 : decode (zmc m_L_law) 1416 = .ok (.iconst 0, 1) := by decide +kernel
theorem d_L_law_1417 : decode (zmc m_L_law) 1417 = .ok (.ireturn, 1) := by decide +kernel
theorem d_L_law_1418 : decode (zmc m_L_law) 1418 = .ok (.iinc 3 6, 3) := by decide +kernel
theorem d_L_law_1421 : decode (zmc m_L_law) 1421 = .ok (.goto (-1403), 3) := by decide +kernel
theorem d_L_law_1424 : decode (zmc m_L_law) 1424 = .ok (.iconst 1, 1) := by decide +kernel
theorem d_L_law_1425 : decode (zmc m_L_law) 1425 = .ok (.ireturn, 1) := by decide +kernel
