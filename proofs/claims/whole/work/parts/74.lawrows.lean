/-! THE LAW: ROWS AND LINKS -/
theorem dXL_law_0 : decode code 0 = .ok (.new 7, 3) := by decide +kernel
theorem dXL_law_3 : decode code 3 = .ok (.dup, 1) := by decide +kernel
theorem dXL_law_4 : decode code 4 = .ok (.invokespecial 9, 3) := by decide +kernel
theorem dXL_law_7 : decode code 7 = .ok (.astore_n 1, 1) := by decide +kernel
theorem dXL_law_8 : decode code 8 = .ok (.new 10, 3) := by decide +kernel
theorem dXL_law_11 : decode code 11 = .ok (.dup, 1) := by decide +kernel
theorem dXL_law_12 : decode code 12 = .ok (.invokespecial 12, 3) := by decide +kernel
theorem dXL_law_15 : decode code 15 = .ok (.astore_n 2, 1) := by decide +kernel
theorem dXL_law_16 : decode code 16 = .ok (.iconst 0, 1) := by decide +kernel
theorem dXL_law_17 : decode code 17 = .ok (.istore_n 3, 1) := by decide +kernel
theorem dXL_law_18 : decode code 18 = .ok (.iload_n 3, 1) := by decide +kernel
theorem dXL_law_19 : decode code 19 = .ok (.aload_n 0, 1) := by decide +kernel
theorem dXL_law_20 : decode code 20 = .ok (.arraylength, 1) := by decide +kernel
theorem dXL_law_21 : decode code 21 = .ok (.bipush 6, 2) := by decide +kernel
theorem dXL_law_23 : decode code 23 = .ok (.isub, 1) := by decide +kernel
theorem dXL_law_24 : decode code 24 = .ok (.if_icmp .gt 1376, 3) := by decide +kernel
theorem dXL_law_27 : decode code 27 = .ok (.aload_n 0, 1) := by decide +kernel
theorem dXL_law_28 : decode code 28 = .ok (.iload_n 3, 1) := by decide +kernel
theorem dXL_law_29 : decode code 29 = .ok (.iaload, 1) := by decide +kernel
theorem dXL_law_30 : decode code 30 = .ok (.bipush 63, 2) := by decide +kernel
theorem dXL_law_32 : decode code 32 = .ok (.iand, 1) := by decide +kernel
theorem dXL_law_33 : decode code 33 = .ok (.tableswitch 1361 0 38 #[171, 214, 287, 350, 384, 417, 440, 473, 542, 575, 608, 657, 690, 713, 726, 749, 772, 805, 838, 881, 914, 937, 960, 983, 1006, 1029, 1042, 1065, 1088, 1101, 1144, 1177, 1200, 1223, 1246, 1289, 1312, 1325, 1338], 171) := by decide +kernel
theorem dXL_law_204 : decode code 204 = .ok (.aload_n 1, 1) := by decide +kernel
theorem dXL_law_205 : decode code 205 = .ok (.aload_n 0, 1) := by decide +kernel
theorem dXL_law_206 : decode code 206 = .ok (.iload_n 3, 1) := by decide +kernel
theorem dXL_law_207 : decode code 207 = .ok (.iconst 1, 1) := by decide +kernel
theorem dXL_law_208 : decode code 208 = .ok (.iadd, 1) := by decide +kernel
theorem dXL_law_209 : decode code 209 = .ok (.iaload, 1) := by decide +kernel
theorem dXL_law_210 : decode code 210 = .ok (.aload_n 0, 1) := by decide +kernel
theorem dXL_law_211 : decode code 211 = .ok (.iload_n 3, 1) := by decide +kernel
theorem dXL_law_212 : decode code 212 = .ok (.iconst 2, 1) := by decide +kernel
theorem dXL_law_213 : decode code 213 = .ok (.iadd, 1) := by decide +kernel
theorem dXL_law_214 : decode code 214 = .ok (.iaload, 1) := by decide +kernel
theorem dXL_law_215 : decode code 215 = .ok (.aload_n 0, 1) := by decide +kernel
theorem dXL_law_216 : decode code 216 = .ok (.iload_n 3, 1) := by decide +kernel
theorem dXL_law_217 : decode code 217 = .ok (.iconst 3, 1) := by decide +kernel
theorem dXL_law_218 : decode code 218 = .ok (.iadd, 1) := by decide +kernel
theorem dXL_law_219 : decode code 219 = .ok (.iaload, 1) := by decide +kernel
theorem dXL_law_220 : decode code 220 = .ok (.invokevirtual 13, 3) := by decide +kernel
theorem dXL_law_223 : decode code 223 = .ok (.aload_n 2, 1) := by decide +kernel
theorem dXL_law_224 : decode code 224 = .ok (.aload_n 0, 1) := by decide +kernel
theorem dXL_law_225 : decode code 225 = .ok (.iload_n 3, 1) := by decide +kernel
theorem dXL_law_226 : decode code 226 = .ok (.iconst 1, 1) := by decide +kernel
theorem dXL_law_227 : decode code 227 = .ok (.iadd, 1) := by decide +kernel
theorem dXL_law_228 : decode code 228 = .ok (.iaload, 1) := by decide +kernel
theorem dXL_law_229 : decode code 229 = .ok (.aload_n 0, 1) := by decide +kernel
theorem dXL_law_230 : decode code 230 = .ok (.iload_n 3, 1) := by decide +kernel
theorem dXL_law_231 : decode code 231 = .ok (.iconst 2, 1) := by decide +kernel
theorem dXL_law_232 : decode code 232 = .ok (.iadd, 1) := by decide +kernel
theorem dXL_law_233 : decode code 233 = .ok (.iaload, 1) := by decide +kernel
theorem dXL_law_234 : decode code 234 = .ok (.aload_n 0, 1) := by decide +kernel
theorem dXL_law_235 : decode code 235 = .ok (.iload_n 3, 1) := by decide +kernel
theorem dXL_law_236 : decode code 236 = .ok (.iconst 3, 1) := by decide +kernel
theorem dXL_law_237 : decode code 237 = .ok (.iadd, 1) := by decide +kernel
theorem dXL_law_238 : decode code 238 = .ok (.iaload, 1) := by decide +kernel
theorem dXL_law_239 : decode code 239 = .ok (.invokevirtual 17, 3) := by decide +kernel
theorem dXL_law_242 : decode code 242 = .ok (.if_icmp .eq 1152, 3) := by decide +kernel
theorem dXL_law_245 : decode code 245 = .ok (.iconst 0, 1) := by decide +kernel
theorem dXL_law_246 : decode code 246 = .ok (.ireturn, 1) := by decide +kernel
theorem dXL_law_247 : decode code 247 = .ok (.aload_n 1, 1) := by decide +kernel
theorem dXL_law_248 : decode code 248 = .ok (.aload_n 0, 1) := by decide +kernel
theorem dXL_law_249 : decode code 249 = .ok (.iload_n 3, 1) := by decide +kernel
theorem dXL_law_250 : decode code 250 = .ok (.iconst 1, 1) := by decide +kernel
theorem dXL_law_251 : decode code 251 = .ok (.iadd, 1) := by decide +kernel
theorem dXL_law_252 : decode code 252 = .ok (.iaload, 1) := by decide +kernel
theorem dXL_law_253 : decode code 253 = .ok (.aload_n 0, 1) := by decide +kernel
theorem dXL_law_254 : decode code 254 = .ok (.iload_n 3, 1) := by decide +kernel
theorem dXL_law_255 : decode code 255 = .ok (.iconst 2, 1) := by decide +kernel
theorem dXL_law_256 : decode code 256 = .ok (.iadd, 1) := by decide +kernel
theorem dXL_law_257 : decode code 257 = .ok (.iaload, 1) := by decide +kernel
theorem dXL_law_258 : decode code 258 = .ok (.aload_n 0, 1) := by decide +kernel
theorem dXL_law_259 : decode code 259 = .ok (.iload_n 3, 1) := by decide +kernel
theorem dXL_law_260 : decode code 260 = .ok (.iconst 3, 1) := by decide +kernel
theorem dXL_law_261 : decode code 261 = .ok (.iadd, 1) := by decide +kernel
theorem dXL_law_262 : decode code 262 = .ok (.iaload, 1) := by decide +kernel
theorem dXL_law_263 : decode code 263 = .ok (.i2l, 1) := by decide +kernel
theorem dXL_law_264 : decode code 264 = .ok (.bipush 32, 2) := by decide +kernel
theorem dXL_law_266 : decode code 266 = .ok (.lshl, 1) := by decide +kernel
theorem dXL_law_267 : decode code 267 = .ok (.aload_n 0, 1) := by decide +kernel
theorem dXL_law_268 : decode code 268 = .ok (.iload_n 3, 1) := by decide +kernel
theorem dXL_law_269 : decode code 269 = .ok (.iconst 4, 1) := by decide +kernel
theorem dXL_law_270 : decode code 270 = .ok (.iadd, 1) := by decide +kernel
theorem dXL_law_271 : decode code 271 = .ok (.iaload, 1) := by decide +kernel
theorem dXL_law_272 : decode code 272 = .ok (.i2l, 1) := by decide +kernel
theorem dXL_law_273 : decode code 273 = .ok (.ldc2_w 18, 3) := by decide +kernel
theorem dXL_law_276 : decode code 276 = .ok (.land, 1) := by decide +kernel
theorem dXL_law_277 : decode code 277 = .ok (.lor, 1) := by decide +kernel
theorem dXL_law_278 : decode code 278 = .ok (.invokevirtual 20, 3) := by decide +kernel
theorem dXL_law_281 : decode code 281 = .ok (.aload_n 2, 1) := by decide +kernel
theorem dXL_law_282 : decode code 282 = .ok (.aload_n 0, 1) := by decide +kernel
theorem dXL_law_283 : decode code 283 = .ok (.iload_n 3, 1) := by decide +kernel
theorem dXL_law_284 : decode code 284 = .ok (.iconst 1, 1) := by decide +kernel
theorem dXL_law_285 : decode code 285 = .ok (.iadd, 1) := by decide +kernel
theorem dXL_law_286 : decode code 286 = .ok (.iaload, 1) := by decide +kernel
theorem dXL_law_287 : decode code 287 = .ok (.aload_n 0, 1) := by decide +kernel
theorem dXL_law_288 : decode code 288 = .ok (.iload_n 3, 1) := by decide +kernel
theorem dXL_law_289 : decode code 289 = .ok (.iconst 2, 1) := by decide +kernel
theorem dXL_law_290 : decode code 290 = .ok (.iadd, 1) := by decide +kernel
theorem dXL_law_291 : decode code 291 = .ok (.iaload, 1) := by decide +kernel
theorem dXL_law_292 : decode code 292 = .ok (.aload_n 0, 1) := by decide +kernel
theorem dXL_law_293 : decode code 293 = .ok (.iload_n 3, 1) := by decide +kernel
theorem dXL_law_294 : decode code 294 = .ok (.iconst 3, 1) := by decide +kernel
theorem dXL_law_295 : decode code 295 = .ok (.iadd, 1) := by decide +kernel
theorem dXL_law_296 : decode code 296 = .ok (.iaload, 1) := by decide +kernel
theorem dXL_law_297 : decode code 297 = .ok (.i2l, 1) := by decide +kernel
theorem dXL_law_298 : decode code 298 = .ok (.bipush 32, 2) := by decide +kernel
theorem dXL_law_300 : decode code 300 = .ok (.lshl, 1) := by decide +kernel
theorem dXL_law_301 : decode code 301 = .ok (.aload_n 0, 1) := by decide +kernel
theorem dXL_law_302 : decode code 302 = .ok (.iload_n 3, 1) := by decide +kernel
theorem dXL_law_303 : decode code 303 = .ok (.iconst 4, 1) := by decide +kernel
theorem dXL_law_304 : decode code 304 = .ok (.iadd, 1) := by decide +kernel
theorem dXL_law_305 : decode code 305 = .ok (.iaload, 1) := by decide +kernel
theorem dXL_law_306 : decode code 306 = .ok (.i2l, 1) := by decide +kernel
theorem dXL_law_307 : decode code 307 = .ok (.ldc2_w 18, 3) := by decide +kernel
theorem dXL_law_310 : decode code 310 = .ok (.land, 1) := by decide +kernel
theorem dXL_law_311 : decode code 311 = .ok (.lor, 1) := by decide +kernel
theorem dXL_law_312 : decode code 312 = .ok (.invokevirtual 24, 3) := by decide +kernel
theorem dXL_law_315 : decode code 315 = .ok (.if_icmp .eq 1079, 3) := by decide +kernel
theorem dXL_law_318 : decode code 318 = .ok (.iconst 0, 1) := by decide +kernel
theorem dXL_law_319 : decode code 319 = .ok (.ireturn, 1) := by decide +kernel
theorem dXL_law_320 : decode code 320 = .ok (.aload_n 1, 1) := by decide +kernel
theorem dXL_law_321 : decode code 321 = .ok (.aload_n 0, 1) := by decide +kernel
theorem dXL_law_322 : decode code 322 = .ok (.iload_n 3, 1) := by decide +kernel
theorem dXL_law_323 : decode code 323 = .ok (.iconst 1, 1) := by decide +kernel
theorem dXL_law_324 : decode code 324 = .ok (.iadd, 1) := by decide +kernel
theorem dXL_law_325 : decode code 325 = .ok (.iaload, 1) := by decide +kernel
theorem dXL_law_326 : decode code 326 = .ok (.aload_n 0, 1) := by decide +kernel
theorem dXL_law_327 : decode code 327 = .ok (.iload_n 3, 1) := by decide +kernel
theorem dXL_law_328 : decode code 328 = .ok (.iconst 2, 1) := by decide +kernel
theorem dXL_law_329 : decode code 329 = .ok (.iadd, 1) := by decide +kernel
theorem dXL_law_330 : decode code 330 = .ok (.iaload, 1) := by decide +kernel
theorem dXL_law_331 : decode code 331 = .ok (.aload_n 0, 1) := by decide +kernel
theorem dXL_law_332 : decode code 332 = .ok (.iload_n 3, 1) := by decide +kernel
theorem dXL_law_333 : decode code 333 = .ok (.iconst 3, 1) := by decide +kernel
theorem dXL_law_334 : decode code 334 = .ok (.iadd, 1) := by decide +kernel
theorem dXL_law_335 : decode code 335 = .ok (.iaload, 1) := by decide +kernel
theorem dXL_law_336 : decode code 336 = .ok (.aload_n 0, 1) := by decide +kernel
theorem dXL_law_337 : decode code 337 = .ok (.iload_n 3, 1) := by decide +kernel
theorem dXL_law_338 : decode code 338 = .ok (.iconst 4, 1) := by decide +kernel
theorem dXL_law_339 : decode code 339 = .ok (.iadd, 1) := by decide +kernel
theorem dXL_law_340 : decode code 340 = .ok (.iaload, 1) := by decide +kernel
theorem dXL_law_341 : decode code 341 = .ok (.aload_n 0, 1) := by decide +kernel
theorem dXL_law_342 : decode code 342 = .ok (.iload_n 3, 1) := by decide +kernel
theorem dXL_law_343 : decode code 343 = .ok (.iconst 5, 1) := by decide +kernel
theorem dXL_law_344 : decode code 344 = .ok (.iadd, 1) := by decide +kernel
theorem dXL_law_345 : decode code 345 = .ok (.iaload, 1) := by decide +kernel
theorem dXL_law_346 : decode code 346 = .ok (.invokevirtual 25, 3) := by decide +kernel
theorem dXL_law_349 : decode code 349 = .ok (.aload_n 2, 1) := by decide +kernel
theorem dXL_law_350 : decode code 350 = .ok (.aload_n 0, 1) := by decide +kernel
theorem dXL_law_351 : decode code 351 = .ok (.iload_n 3, 1) := by decide +kernel
theorem dXL_law_352 : decode code 352 = .ok (.iconst 1, 1) := by decide +kernel
theorem dXL_law_353 : decode code 353 = .ok (.iadd, 1) := by decide +kernel
theorem dXL_law_354 : decode code 354 = .ok (.iaload, 1) := by decide +kernel
theorem dXL_law_355 : decode code 355 = .ok (.aload_n 0, 1) := by decide +kernel
theorem dXL_law_356 : decode code 356 = .ok (.iload_n 3, 1) := by decide +kernel
theorem dXL_law_357 : decode code 357 = .ok (.iconst 2, 1) := by decide +kernel
theorem dXL_law_358 : decode code 358 = .ok (.iadd, 1) := by decide +kernel
theorem dXL_law_359 : decode code 359 = .ok (.iaload, 1) := by decide +kernel
theorem dXL_law_360 : decode code 360 = .ok (.aload_n 0, 1) := by decide +kernel
theorem dXL_law_361 : decode code 361 = .ok (.iload_n 3, 1) := by decide +kernel
theorem dXL_law_362 : decode code 362 = .ok (.iconst 3, 1) := by decide +kernel
theorem dXL_law_363 : decode code 363 = .ok (.iadd, 1) := by decide +kernel
theorem dXL_law_364 : decode code 364 = .ok (.iaload, 1) := by decide +kernel
theorem dXL_law_365 : decode code 365 = .ok (.aload_n 0, 1) := by decide +kernel
theorem dXL_law_366 : decode code 366 = .ok (.iload_n 3, 1) := by decide +kernel
theorem dXL_law_367 : decode code 367 = .ok (.iconst 4, 1) := by decide +kernel
theorem dXL_law_368 : decode code 368 = .ok (.iadd, 1) := by decide +kernel
theorem dXL_law_369 : decode code 369 = .ok (.iaload, 1) := by decide +kernel
theorem dXL_law_370 : decode code 370 = .ok (.aload_n 0, 1) := by decide +kernel
theorem dXL_law_371 : decode code 371 = .ok (.iload_n 3, 1) := by decide +kernel
theorem dXL_law_372 : decode code 372 = .ok (.iconst 5, 1) := by decide +kernel
theorem dXL_law_373 : decode code 373 = .ok (.iadd, 1) := by decide +kernel
theorem dXL_law_374 : decode code 374 = .ok (.iaload, 1) := by decide +kernel
theorem dXL_law_375 : decode code 375 = .ok (.invokevirtual 29, 3) := by decide +kernel
theorem dXL_law_378 : decode code 378 = .ok (.if_icmp .eq 1016, 3) := by decide +kernel
theorem dXL_law_381 : decode code 381 = .ok (.iconst 0, 1) := by decide +kernel
theorem dXL_law_382 : decode code 382 = .ok (.ireturn, 1) := by decide +kernel
theorem dXL_law_383 : decode code 383 = .ok (.aload_n 1, 1) := by decide +kernel
theorem dXL_law_384 : decode code 384 = .ok (.aload_n 0, 1) := by decide +kernel
theorem dXL_law_385 : decode code 385 = .ok (.iload_n 3, 1) := by decide +kernel
theorem dXL_law_386 : decode code 386 = .ok (.iconst 1, 1) := by decide +kernel
theorem dXL_law_387 : decode code 387 = .ok (.iadd, 1) := by decide +kernel
theorem dXL_law_388 : decode code 388 = .ok (.iaload, 1) := by decide +kernel
theorem dXL_law_389 : decode code 389 = .ok (.aload_n 0, 1) := by decide +kernel
theorem dXL_law_390 : decode code 390 = .ok (.iload_n 3, 1) := by decide +kernel
theorem dXL_law_391 : decode code 391 = .ok (.iconst 2, 1) := by decide +kernel
theorem dXL_law_392 : decode code 392 = .ok (.iadd, 1) := by decide +kernel
theorem dXL_law_393 : decode code 393 = .ok (.iaload, 1) := by decide +kernel
theorem dXL_law_394 : decode code 394 = .ok (.invokevirtual 30, 3) := by decide +kernel
theorem dXL_law_397 : decode code 397 = .ok (.aload_n 2, 1) := by decide +kernel
theorem dXL_law_398 : decode code 398 = .ok (.aload_n 0, 1) := by decide +kernel
theorem dXL_law_399 : decode code 399 = .ok (.iload_n 3, 1) := by decide +kernel
theorem dXL_law_400 : decode code 400 = .ok (.iconst 1, 1) := by decide +kernel
theorem dXL_law_401 : decode code 401 = .ok (.iadd, 1) := by decide +kernel
theorem dXL_law_402 : decode code 402 = .ok (.iaload, 1) := by decide +kernel
theorem dXL_law_403 : decode code 403 = .ok (.aload_n 0, 1) := by decide +kernel
theorem dXL_law_404 : decode code 404 = .ok (.iload_n 3, 1) := by decide +kernel
theorem dXL_law_405 : decode code 405 = .ok (.iconst 2, 1) := by decide +kernel
theorem dXL_law_406 : decode code 406 = .ok (.iadd, 1) := by decide +kernel
theorem dXL_law_407 : decode code 407 = .ok (.iaload, 1) := by decide +kernel
theorem dXL_law_408 : decode code 408 = .ok (.invokevirtual 34, 3) := by decide +kernel
theorem dXL_law_411 : decode code 411 = .ok (.lcmp, 1) := by decide +kernel
theorem dXL_law_412 : decode code 412 = .ok (.ifCond .eq 982, 3) := by decide +kernel
theorem dXL_law_415 : decode code 415 = .ok (.iconst 0, 1) := by decide +kernel
theorem dXL_law_416 : decode code 416 = .ok (.ireturn, 1) := by decide +kernel
theorem dXL_law_417 : decode code 417 = .ok (.aload_n 1, 1) := by decide +kernel
theorem dXL_law_418 : decode code 418 = .ok (.aload_n 0, 1) := by decide +kernel
theorem dXL_law_419 : decode code 419 = .ok (.iload_n 3, 1) := by decide +kernel
theorem dXL_law_420 : decode code 420 = .ok (.iconst 1, 1) := by decide +kernel
theorem dXL_law_421 : decode code 421 = .ok (.iadd, 1) := by decide +kernel
theorem dXL_law_422 : decode code 422 = .ok (.iaload, 1) := by decide +kernel
theorem dXL_law_423 : decode code 423 = .ok (.aload_n 0, 1) := by decide +kernel
theorem dXL_law_424 : decode code 424 = .ok (.iload_n 3, 1) := by decide +kernel
theorem dXL_law_425 : decode code 425 = .ok (.iconst 2, 1) := by decide +kernel
theorem dXL_law_426 : decode code 426 = .ok (.iadd, 1) := by decide +kernel
theorem dXL_law_427 : decode code 427 = .ok (.iaload, 1) := by decide +kernel
theorem dXL_law_428 : decode code 428 = .ok (.invokevirtual 35, 3) := by decide +kernel
theorem dXL_law_431 : decode code 431 = .ok (.aload_n 2, 1) := by decide +kernel
theorem dXL_law_432 : decode code 432 = .ok (.aload_n 0, 1) := by decide +kernel
theorem dXL_law_433 : decode code 433 = .ok (.iload_n 3, 1) := by decide +kernel
theorem dXL_law_434 : decode code 434 = .ok (.iconst 1, 1) := by decide +kernel
theorem dXL_law_435 : decode code 435 = .ok (.iadd, 1) := by decide +kernel
theorem dXL_law_436 : decode code 436 = .ok (.iaload, 1) := by decide +kernel
theorem dXL_law_437 : decode code 437 = .ok (.aload_n 0, 1) := by decide +kernel
theorem dXL_law_438 : decode code 438 = .ok (.iload_n 3, 1) := by decide +kernel
theorem dXL_law_439 : decode code 439 = .ok (.iconst 2, 1) := by decide +kernel
theorem dXL_law_440 : decode code 440 = .ok (.iadd, 1) := by decide +kernel
theorem dXL_law_441 : decode code 441 = .ok (.iaload, 1) := by decide +kernel
theorem dXL_law_442 : decode code 442 = .ok (.invokevirtual 39, 3) := by decide +kernel
theorem dXL_law_445 : decode code 445 = .ok (.if_icmp .eq 949, 3) := by decide +kernel
theorem dXL_law_448 : decode code 448 = .ok (.iconst 0, 1) := by decide +kernel
theorem dXL_law_449 : decode code 449 = .ok (.ireturn, 1) := by decide +kernel
theorem dXL_law_450 : decode code 450 = .ok (.aload_n 1, 1) := by decide +kernel
theorem dXL_law_451 : decode code 451 = .ok (.aload_n 0, 1) := by decide +kernel
theorem dXL_law_452 : decode code 452 = .ok (.iload_n 3, 1) := by decide +kernel
theorem dXL_law_453 : decode code 453 = .ok (.iconst 1, 1) := by decide +kernel
theorem dXL_law_454 : decode code 454 = .ok (.iadd, 1) := by decide +kernel
theorem dXL_law_455 : decode code 455 = .ok (.iaload, 1) := by decide +kernel
theorem dXL_law_456 : decode code 456 = .ok (.invokevirtual 40, 3) := by decide +kernel
theorem dXL_law_459 : decode code 459 = .ok (.aload_n 2, 1) := by decide +kernel
theorem dXL_law_460 : decode code 460 = .ok (.aload_n 0, 1) := by decide +kernel
theorem dXL_law_461 : decode code 461 = .ok (.iload_n 3, 1) := by decide +kernel
theorem dXL_law_462 : decode code 462 = .ok (.iconst 1, 1) := by decide +kernel
theorem dXL_law_463 : decode code 463 = .ok (.iadd, 1) := by decide +kernel
theorem dXL_law_464 : decode code 464 = .ok (.iaload, 1) := by decide +kernel
theorem dXL_law_465 : decode code 465 = .ok (.invokevirtual 44, 3) := by decide +kernel
theorem dXL_law_468 : decode code 468 = .ok (.if_icmp .eq 926, 3) := by decide +kernel
theorem dXL_law_471 : decode code 471 = .ok (.iconst 0, 1) := by decide +kernel
theorem dXL_law_472 : decode code 472 = .ok (.ireturn, 1) := by decide +kernel
theorem dXL_law_473 : decode code 473 = .ok (.aload_n 1, 1) := by decide +kernel
theorem dXL_law_474 : decode code 474 = .ok (.aload_n 0, 1) := by decide +kernel
theorem dXL_law_475 : decode code 475 = .ok (.iload_n 3, 1) := by decide +kernel
theorem dXL_law_476 : decode code 476 = .ok (.iconst 1, 1) := by decide +kernel
theorem dXL_law_477 : decode code 477 = .ok (.iadd, 1) := by decide +kernel
theorem dXL_law_478 : decode code 478 = .ok (.iaload, 1) := by decide +kernel
theorem dXL_law_479 : decode code 479 = .ok (.aload_n 0, 1) := by decide +kernel
theorem dXL_law_480 : decode code 480 = .ok (.iload_n 3, 1) := by decide +kernel
theorem dXL_law_481 : decode code 481 = .ok (.iconst 2, 1) := by decide +kernel
theorem dXL_law_482 : decode code 482 = .ok (.iadd, 1) := by decide +kernel
theorem dXL_law_483 : decode code 483 = .ok (.iaload, 1) := by decide +kernel
theorem dXL_law_484 : decode code 484 = .ok (.invokevirtual 45, 3) := by decide +kernel
theorem dXL_law_487 : decode code 487 = .ok (.aload_n 2, 1) := by decide +kernel
theorem dXL_law_488 : decode code 488 = .ok (.aload_n 0, 1) := by decide +kernel
theorem dXL_law_489 : decode code 489 = .ok (.iload_n 3, 1) := by decide +kernel
theorem dXL_law_490 : decode code 490 = .ok (.iconst 1, 1) := by decide +kernel
theorem dXL_law_491 : decode code 491 = .ok (.iadd, 1) := by decide +kernel
theorem dXL_law_492 : decode code 492 = .ok (.iaload, 1) := by decide +kernel
theorem dXL_law_493 : decode code 493 = .ok (.aload_n 0, 1) := by decide +kernel
theorem dXL_law_494 : decode code 494 = .ok (.iload_n 3, 1) := by decide +kernel
theorem dXL_law_495 : decode code 495 = .ok (.iconst 2, 1) := by decide +kernel
theorem dXL_law_496 : decode code 496 = .ok (.iadd, 1) := by decide +kernel
theorem dXL_law_497 : decode code 497 = .ok (.iaload, 1) := by decide +kernel
theorem dXL_law_498 : decode code 498 = .ok (.invokevirtual 48, 3) := by decide +kernel
theorem dXL_law_501 : decode code 501 = .ok (.if_icmp .eq 893, 3) := by decide +kernel
theorem dXL_law_504 : decode code 504 = .ok (.iconst 0, 1) := by decide +kernel
theorem dXL_law_505 : decode code 505 = .ok (.ireturn, 1) := by decide +kernel
theorem dXL_law_506 : decode code 506 = .ok (.aload_n 1, 1) := by decide +kernel
theorem dXL_law_507 : decode code 507 = .ok (.aload_n 0, 1) := by decide +kernel
theorem dXL_law_508 : decode code 508 = .ok (.iload_n 3, 1) := by decide +kernel
theorem dXL_law_509 : decode code 509 = .ok (.iconst 1, 1) := by decide +kernel
theorem dXL_law_510 : decode code 510 = .ok (.iadd, 1) := by decide +kernel
theorem dXL_law_511 : decode code 511 = .ok (.iaload, 1) := by decide +kernel
theorem dXL_law_512 : decode code 512 = .ok (.aload_n 0, 1) := by decide +kernel
theorem dXL_law_513 : decode code 513 = .ok (.iload_n 3, 1) := by decide +kernel
theorem dXL_law_514 : decode code 514 = .ok (.iconst 2, 1) := by decide +kernel
theorem dXL_law_515 : decode code 515 = .ok (.iadd, 1) := by decide +kernel
theorem dXL_law_516 : decode code 516 = .ok (.iaload, 1) := by decide +kernel
theorem dXL_law_517 : decode code 517 = .ok (.aload_n 0, 1) := by decide +kernel
theorem dXL_law_518 : decode code 518 = .ok (.iload_n 3, 1) := by decide +kernel
theorem dXL_law_519 : decode code 519 = .ok (.iconst 3, 1) := by decide +kernel
theorem dXL_law_520 : decode code 520 = .ok (.iadd, 1) := by decide +kernel
theorem dXL_law_521 : decode code 521 = .ok (.iaload, 1) := by decide +kernel
theorem dXL_law_522 : decode code 522 = .ok (.aload_n 0, 1) := by decide +kernel
theorem dXL_law_523 : decode code 523 = .ok (.iload_n 3, 1) := by decide +kernel
theorem dXL_law_524 : decode code 524 = .ok (.iconst 4, 1) := by decide +kernel
theorem dXL_law_525 : decode code 525 = .ok (.iadd, 1) := by decide +kernel
theorem dXL_law_526 : decode code 526 = .ok (.iaload, 1) := by decide +kernel
theorem dXL_law_527 : decode code 527 = .ok (.ifCond .eq 7, 3) := by decide +kernel
theorem dXL_law_530 : decode code 530 = .ok (.iconst 1, 1) := by decide +kernel
theorem dXL_law_531 : decode code 531 = .ok (.goto 4, 3) := by decide +kernel
theorem dXL_law_534 : decode code 534 = .ok (.iconst 0, 1) := by decide +kernel
theorem dXL_law_535 : decode code 535 = .ok (.invokevirtual 49, 3) := by decide +kernel
theorem dXL_law_538 : decode code 538 = .ok (.aload_n 2, 1) := by decide +kernel
theorem dXL_law_539 : decode code 539 = .ok (.aload_n 0, 1) := by decide +kernel
theorem dXL_law_540 : decode code 540 = .ok (.iload_n 3, 1) := by decide +kernel
theorem dXL_law_541 : decode code 541 = .ok (.iconst 1, 1) := by decide +kernel
theorem dXL_law_542 : decode code 542 = .ok (.iadd, 1) := by decide +kernel
theorem dXL_law_543 : decode code 543 = .ok (.iaload, 1) := by decide +kernel
theorem dXL_law_544 : decode code 544 = .ok (.aload_n 0, 1) := by decide +kernel
theorem dXL_law_545 : decode code 545 = .ok (.iload_n 3, 1) := by decide +kernel
theorem dXL_law_546 : decode code 546 = .ok (.iconst 2, 1) := by decide +kernel
theorem dXL_law_547 : decode code 547 = .ok (.iadd, 1) := by decide +kernel
theorem dXL_law_548 : decode code 548 = .ok (.iaload, 1) := by decide +kernel
theorem dXL_law_549 : decode code 549 = .ok (.aload_n 0, 1) := by decide +kernel
theorem dXL_law_550 : decode code 550 = .ok (.iload_n 3, 1) := by decide +kernel
theorem dXL_law_551 : decode code 551 = .ok (.iconst 3, 1) := by decide +kernel
theorem dXL_law_552 : decode code 552 = .ok (.iadd, 1) := by decide +kernel
theorem dXL_law_553 : decode code 553 = .ok (.iaload, 1) := by decide +kernel
theorem dXL_law_554 : decode code 554 = .ok (.aload_n 0, 1) := by decide +kernel
theorem dXL_law_555 : decode code 555 = .ok (.iload_n 3, 1) := by decide +kernel
theorem dXL_law_556 : decode code 556 = .ok (.iconst 4, 1) := by decide +kernel
theorem dXL_law_557 : decode code 557 = .ok (.iadd, 1) := by decide +kernel
theorem dXL_law_558 : decode code 558 = .ok (.iaload, 1) := by decide +kernel
theorem dXL_law_559 : decode code 559 = .ok (.ifCond .eq 7, 3) := by decide +kernel
theorem dXL_law_562 : decode code 562 = .ok (.iconst 1, 1) := by decide +kernel
theorem dXL_law_563 : decode code 563 = .ok (.goto 4, 3) := by decide +kernel
theorem dXL_law_566 : decode code 566 = .ok (.iconst 0, 1) := by decide +kernel
theorem dXL_law_567 : decode code 567 = .ok (.invokevirtual 53, 3) := by decide +kernel
theorem dXL_law_570 : decode code 570 = .ok (.if_icmp .eq 824, 3) := by decide +kernel
theorem dXL_law_573 : decode code 573 = .ok (.iconst 0, 1) := by decide +kernel
theorem dXL_law_574 : decode code 574 = .ok (.ireturn, 1) := by decide +kernel
theorem dXL_law_575 : decode code 575 = .ok (.aload_n 1, 1) := by decide +kernel
theorem dXL_law_576 : decode code 576 = .ok (.aload_n 0, 1) := by decide +kernel
theorem dXL_law_577 : decode code 577 = .ok (.iload_n 3, 1) := by decide +kernel
theorem dXL_law_578 : decode code 578 = .ok (.iconst 1, 1) := by decide +kernel
theorem dXL_law_579 : decode code 579 = .ok (.iadd, 1) := by decide +kernel
theorem dXL_law_580 : decode code 580 = .ok (.iaload, 1) := by decide +kernel
theorem dXL_law_581 : decode code 581 = .ok (.aload_n 0, 1) := by decide +kernel
theorem dXL_law_582 : decode code 582 = .ok (.iload_n 3, 1) := by decide +kernel
theorem dXL_law_583 : decode code 583 = .ok (.iconst 2, 1) := by decide +kernel
theorem dXL_law_584 : decode code 584 = .ok (.iadd, 1) := by decide +kernel
theorem dXL_law_585 : decode code 585 = .ok (.iaload, 1) := by decide +kernel
theorem dXL_law_586 : decode code 586 = .ok (.invokevirtual 54, 3) := by decide +kernel
theorem dXL_law_589 : decode code 589 = .ok (.aload_n 2, 1) := by decide +kernel
theorem dXL_law_590 : decode code 590 = .ok (.aload_n 0, 1) := by decide +kernel
theorem dXL_law_591 : decode code 591 = .ok (.iload_n 3, 1) := by decide +kernel
theorem dXL_law_592 : decode code 592 = .ok (.iconst 1, 1) := by decide +kernel
theorem dXL_law_593 : decode code 593 = .ok (.iadd, 1) := by decide +kernel
theorem dXL_law_594 : decode code 594 = .ok (.iaload, 1) := by decide +kernel
theorem dXL_law_595 : decode code 595 = .ok (.aload_n 0, 1) := by decide +kernel
theorem dXL_law_596 : decode code 596 = .ok (.iload_n 3, 1) := by decide +kernel
theorem dXL_law_597 : decode code 597 = .ok (.iconst 2, 1) := by decide +kernel
theorem dXL_law_598 : decode code 598 = .ok (.iadd, 1) := by decide +kernel
theorem dXL_law_599 : decode code 599 = .ok (.iaload, 1) := by decide +kernel
theorem dXL_law_600 : decode code 600 = .ok (.invokevirtual 57, 3) := by decide +kernel
theorem dXL_law_603 : decode code 603 = .ok (.if_icmp .eq 791, 3) := by decide +kernel
theorem dXL_law_606 : decode code 606 = .ok (.iconst 0, 1) := by decide +kernel
theorem dXL_law_607 : decode code 607 = .ok (.ireturn, 1) := by decide +kernel
theorem dXL_law_608 : decode code 608 = .ok (.aload_n 1, 1) := by decide +kernel
theorem dXL_law_609 : decode code 609 = .ok (.aload_n 0, 1) := by decide +kernel
theorem dXL_law_610 : decode code 610 = .ok (.iload_n 3, 1) := by decide +kernel
theorem dXL_law_611 : decode code 611 = .ok (.iconst 1, 1) := by decide +kernel
theorem dXL_law_612 : decode code 612 = .ok (.iadd, 1) := by decide +kernel
theorem dXL_law_613 : decode code 613 = .ok (.iaload, 1) := by decide +kernel
theorem dXL_law_614 : decode code 614 = .ok (.aload_n 0, 1) := by decide +kernel
theorem dXL_law_615 : decode code 615 = .ok (.iload_n 3, 1) := by decide +kernel
theorem dXL_law_616 : decode code 616 = .ok (.iconst 2, 1) := by decide +kernel
theorem dXL_law_617 : decode code 617 = .ok (.iadd, 1) := by decide +kernel
theorem dXL_law_618 : decode code 618 = .ok (.iaload, 1) := by decide +kernel
theorem dXL_law_619 : decode code 619 = .ok (.invokevirtual 58, 3) := by decide +kernel
theorem dXL_law_622 : decode code 622 = .ok (.aload_n 2, 1) := by decide +kernel
theorem dXL_law_623 : decode code 623 = .ok (.aload_n 0, 1) := by decide +kernel
theorem dXL_law_624 : decode code 624 = .ok (.iload_n 3, 1) := by decide +kernel
theorem dXL_law_625 : decode code 625 = .ok (.iconst 1, 1) := by decide +kernel
theorem dXL_law_626 : decode code 626 = .ok (.iadd, 1) := by decide +kernel
theorem dXL_law_627 : decode code 627 = .ok (.iaload, 1) := by decide +kernel
theorem dXL_law_628 : decode code 628 = .ok (.aload_n 0, 1) := by decide +kernel
theorem dXL_law_629 : decode code 629 = .ok (.iload_n 3, 1) := by decide +kernel
theorem dXL_law_630 : decode code 630 = .ok (.iconst 2, 1) := by decide +kernel
theorem dXL_law_631 : decode code 631 = .ok (.iadd, 1) := by decide +kernel
theorem dXL_law_632 : decode code 632 = .ok (.iaload, 1) := by decide +kernel
theorem dXL_law_633 : decode code 633 = .ok (.invokevirtual 61, 3) := by decide +kernel
theorem dXL_law_636 : decode code 636 = .ok (.if_icmp .eq 758, 3) := by decide +kernel
theorem dXL_law_639 : decode code 639 = .ok (.iconst 0, 1) := by decide +kernel
theorem dXL_law_640 : decode code 640 = .ok (.ireturn, 1) := by decide +kernel
theorem dXL_law_641 : decode code 641 = .ok (.aload_n 1, 1) := by decide +kernel
theorem dXL_law_642 : decode code 642 = .ok (.aload_n 0, 1) := by decide +kernel
theorem dXL_law_643 : decode code 643 = .ok (.iload_n 3, 1) := by decide +kernel
theorem dXL_law_644 : decode code 644 = .ok (.iconst 1, 1) := by decide +kernel
theorem dXL_law_645 : decode code 645 = .ok (.iadd, 1) := by decide +kernel
theorem dXL_law_646 : decode code 646 = .ok (.iaload, 1) := by decide +kernel
theorem dXL_law_647 : decode code 647 = .ok (.aload_n 0, 1) := by decide +kernel
theorem dXL_law_648 : decode code 648 = .ok (.iload_n 3, 1) := by decide +kernel
theorem dXL_law_649 : decode code 649 = .ok (.iconst 2, 1) := by decide +kernel
theorem dXL_law_650 : decode code 650 = .ok (.iadd, 1) := by decide +kernel
theorem dXL_law_651 : decode code 651 = .ok (.iaload, 1) := by decide +kernel
theorem dXL_law_652 : decode code 652 = .ok (.ifCond .eq 7, 3) := by decide +kernel
theorem dXL_law_655 : decode code 655 = .ok (.iconst 1, 1) := by decide +kernel
theorem dXL_law_656 : decode code 656 = .ok (.goto 4, 3) := by decide +kernel
theorem dXL_law_659 : decode code 659 = .ok (.iconst 0, 1) := by decide +kernel
theorem dXL_law_660 : decode code 660 = .ok (.invokevirtual 62, 3) := by decide +kernel
theorem dXL_law_663 : decode code 663 = .ok (.aload_n 2, 1) := by decide +kernel
theorem dXL_law_664 : decode code 664 = .ok (.aload_n 0, 1) := by decide +kernel
theorem dXL_law_665 : decode code 665 = .ok (.iload_n 3, 1) := by decide +kernel
theorem dXL_law_666 : decode code 666 = .ok (.iconst 1, 1) := by decide +kernel
theorem dXL_law_667 : decode code 667 = .ok (.iadd, 1) := by decide +kernel
theorem dXL_law_668 : decode code 668 = .ok (.iaload, 1) := by decide +kernel
theorem dXL_law_669 : decode code 669 = .ok (.aload_n 0, 1) := by decide +kernel
theorem dXL_law_670 : decode code 670 = .ok (.iload_n 3, 1) := by decide +kernel
theorem dXL_law_671 : decode code 671 = .ok (.iconst 2, 1) := by decide +kernel
theorem dXL_law_672 : decode code 672 = .ok (.iadd, 1) := by decide +kernel
theorem dXL_law_673 : decode code 673 = .ok (.iaload, 1) := by decide +kernel
theorem dXL_law_674 : decode code 674 = .ok (.ifCond .eq 7, 3) := by decide +kernel
theorem dXL_law_677 : decode code 677 = .ok (.iconst 1, 1) := by decide +kernel
theorem dXL_law_678 : decode code 678 = .ok (.goto 4, 3) := by decide +kernel
theorem dXL_law_681 : decode code 681 = .ok (.iconst 0, 1) := by decide +kernel
theorem dXL_law_682 : decode code 682 = .ok (.invokevirtual 66, 3) := by decide +kernel
theorem dXL_law_685 : decode code 685 = .ok (.if_icmp .eq 709, 3) := by decide +kernel
theorem dXL_law_688 : decode code 688 = .ok (.iconst 0, 1) := by decide +kernel
theorem dXL_law_689 : decode code 689 = .ok (.ireturn, 1) := by decide +kernel
theorem dXL_law_690 : decode code 690 = .ok (.aload_n 1, 1) := by decide +kernel
theorem dXL_law_691 : decode code 691 = .ok (.aload_n 0, 1) := by decide +kernel
theorem dXL_law_692 : decode code 692 = .ok (.iload_n 3, 1) := by decide +kernel
theorem dXL_law_693 : decode code 693 = .ok (.iconst 1, 1) := by decide +kernel
theorem dXL_law_694 : decode code 694 = .ok (.iadd, 1) := by decide +kernel
theorem dXL_law_695 : decode code 695 = .ok (.iaload, 1) := by decide +kernel
theorem dXL_law_696 : decode code 696 = .ok (.aload_n 0, 1) := by decide +kernel
theorem dXL_law_697 : decode code 697 = .ok (.iload_n 3, 1) := by decide +kernel
theorem dXL_law_698 : decode code 698 = .ok (.iconst 2, 1) := by decide +kernel
theorem dXL_law_699 : decode code 699 = .ok (.iadd, 1) := by decide +kernel
theorem dXL_law_700 : decode code 700 = .ok (.iaload, 1) := by decide +kernel
theorem dXL_law_701 : decode code 701 = .ok (.invokevirtual 67, 3) := by decide +kernel
theorem dXL_law_704 : decode code 704 = .ok (.aload_n 2, 1) := by decide +kernel
theorem dXL_law_705 : decode code 705 = .ok (.aload_n 0, 1) := by decide +kernel
theorem dXL_law_706 : decode code 706 = .ok (.iload_n 3, 1) := by decide +kernel
theorem dXL_law_707 : decode code 707 = .ok (.iconst 1, 1) := by decide +kernel
theorem dXL_law_708 : decode code 708 = .ok (.iadd, 1) := by decide +kernel
theorem dXL_law_709 : decode code 709 = .ok (.iaload, 1) := by decide +kernel
theorem dXL_law_710 : decode code 710 = .ok (.aload_n 0, 1) := by decide +kernel
theorem dXL_law_711 : decode code 711 = .ok (.iload_n 3, 1) := by decide +kernel
theorem dXL_law_712 : decode code 712 = .ok (.iconst 2, 1) := by decide +kernel
theorem dXL_law_713 : decode code 713 = .ok (.iadd, 1) := by decide +kernel
theorem dXL_law_714 : decode code 714 = .ok (.iaload, 1) := by decide +kernel
theorem dXL_law_715 : decode code 715 = .ok (.invokevirtual 70, 3) := by decide +kernel
theorem dXL_law_718 : decode code 718 = .ok (.if_icmp .eq 676, 3) := by decide +kernel
theorem dXL_law_721 : decode code 721 = .ok (.iconst 0, 1) := by decide +kernel
theorem dXL_law_722 : decode code 722 = .ok (.ireturn, 1) := by decide +kernel
theorem dXL_law_723 : decode code 723 = .ok (.aload_n 1, 1) := by decide +kernel
theorem dXL_law_724 : decode code 724 = .ok (.aload_n 0, 1) := by decide +kernel
theorem dXL_law_725 : decode code 725 = .ok (.iload_n 3, 1) := by decide +kernel
theorem dXL_law_726 : decode code 726 = .ok (.iconst 1, 1) := by decide +kernel
theorem dXL_law_727 : decode code 727 = .ok (.iadd, 1) := by decide +kernel
theorem dXL_law_728 : decode code 728 = .ok (.iaload, 1) := by decide +kernel
theorem dXL_law_729 : decode code 729 = .ok (.invokevirtual 71, 3) := by decide +kernel
theorem dXL_law_732 : decode code 732 = .ok (.aload_n 2, 1) := by decide +kernel
theorem dXL_law_733 : decode code 733 = .ok (.aload_n 0, 1) := by decide +kernel
theorem dXL_law_734 : decode code 734 = .ok (.iload_n 3, 1) := by decide +kernel
theorem dXL_law_735 : decode code 735 = .ok (.iconst 1, 1) := by decide +kernel
theorem dXL_law_736 : decode code 736 = .ok (.iadd, 1) := by decide +kernel
theorem dXL_law_737 : decode code 737 = .ok (.iaload, 1) := by decide +kernel
theorem dXL_law_738 : decode code 738 = .ok (.invokevirtual 74, 3) := by decide +kernel
theorem dXL_law_741 : decode code 741 = .ok (.if_icmp .eq 653, 3) := by decide +kernel
theorem dXL_law_744 : decode code 744 = .ok (.iconst 0, 1) := by decide +kernel
theorem dXL_law_745 : decode code 745 = .ok (.ireturn, 1) := by decide +kernel
theorem dXL_law_746 : decode code 746 = .ok (.aload_n 1, 1) := by decide +kernel
theorem dXL_law_747 : decode code 747 = .ok (.invokevirtual 75, 3) := by decide +kernel
theorem dXL_law_750 : decode code 750 = .ok (.aload_n 2, 1) := by decide +kernel
theorem dXL_law_751 : decode code 751 = .ok (.invokevirtual 79, 3) := by decide +kernel
theorem dXL_law_754 : decode code 754 = .ok (.if_icmp .eq 640, 3) := by decide +kernel
theorem dXL_law_757 : decode code 757 = .ok (.iconst 0, 1) := by decide +kernel
theorem dXL_law_758 : decode code 758 = .ok (.ireturn, 1) := by decide +kernel
theorem dXL_law_759 : decode code 759 = .ok (.aload_n 1, 1) := by decide +kernel
theorem dXL_law_760 : decode code 760 = .ok (.aload_n 0, 1) := by decide +kernel
theorem dXL_law_761 : decode code 761 = .ok (.iload_n 3, 1) := by decide +kernel
theorem dXL_law_762 : decode code 762 = .ok (.iconst 1, 1) := by decide +kernel
theorem dXL_law_763 : decode code 763 = .ok (.iadd, 1) := by decide +kernel
theorem dXL_law_764 : decode code 764 = .ok (.iaload, 1) := by decide +kernel
theorem dXL_law_765 : decode code 765 = .ok (.invokevirtual 80, 3) := by decide +kernel
theorem dXL_law_768 : decode code 768 = .ok (.aload_n 2, 1) := by decide +kernel
theorem dXL_law_769 : decode code 769 = .ok (.aload_n 0, 1) := by decide +kernel
theorem dXL_law_770 : decode code 770 = .ok (.iload_n 3, 1) := by decide +kernel
theorem dXL_law_771 : decode code 771 = .ok (.iconst 1, 1) := by decide +kernel
theorem dXL_law_772 : decode code 772 = .ok (.iadd, 1) := by decide +kernel
theorem dXL_law_773 : decode code 773 = .ok (.iaload, 1) := by decide +kernel
theorem dXL_law_774 : decode code 774 = .ok (.invokevirtual 83, 3) := by decide +kernel
theorem dXL_law_777 : decode code 777 = .ok (.if_icmp .eq 617, 3) := by decide +kernel
theorem dXL_law_780 : decode code 780 = .ok (.iconst 0, 1) := by decide +kernel
theorem dXL_law_781 : decode code 781 = .ok (.ireturn, 1) := by decide +kernel
theorem dXL_law_782 : decode code 782 = .ok (.aload_n 1, 1) := by decide +kernel
theorem dXL_law_783 : decode code 783 = .ok (.aload_n 0, 1) := by decide +kernel
theorem dXL_law_784 : decode code 784 = .ok (.iload_n 3, 1) := by decide +kernel
theorem dXL_law_785 : decode code 785 = .ok (.iconst 1, 1) := by decide +kernel
theorem dXL_law_786 : decode code 786 = .ok (.iadd, 1) := by decide +kernel
theorem dXL_law_787 : decode code 787 = .ok (.iaload, 1) := by decide +kernel
theorem dXL_law_788 : decode code 788 = .ok (.invokevirtual 84, 3) := by decide +kernel
theorem dXL_law_791 : decode code 791 = .ok (.aload_n 2, 1) := by decide +kernel
theorem dXL_law_792 : decode code 792 = .ok (.aload_n 0, 1) := by decide +kernel
theorem dXL_law_793 : decode code 793 = .ok (.iload_n 3, 1) := by decide +kernel
theorem dXL_law_794 : decode code 794 = .ok (.iconst 1, 1) := by decide +kernel
theorem dXL_law_795 : decode code 795 = .ok (.iadd, 1) := by decide +kernel
theorem dXL_law_796 : decode code 796 = .ok (.iaload, 1) := by decide +kernel
theorem dXL_law_797 : decode code 797 = .ok (.invokevirtual 87, 3) := by decide +kernel
theorem dXL_law_800 : decode code 800 = .ok (.if_icmp .eq 594, 3) := by decide +kernel
theorem dXL_law_803 : decode code 803 = .ok (.iconst 0, 1) := by decide +kernel
theorem dXL_law_804 : decode code 804 = .ok (.ireturn, 1) := by decide +kernel
theorem dXL_law_805 : decode code 805 = .ok (.aload_n 1, 1) := by decide +kernel
theorem dXL_law_806 : decode code 806 = .ok (.aload_n 0, 1) := by decide +kernel
theorem dXL_law_807 : decode code 807 = .ok (.iload_n 3, 1) := by decide +kernel
theorem dXL_law_808 : decode code 808 = .ok (.iconst 1, 1) := by decide +kernel
theorem dXL_law_809 : decode code 809 = .ok (.iadd, 1) := by decide +kernel
theorem dXL_law_810 : decode code 810 = .ok (.iaload, 1) := by decide +kernel
theorem dXL_law_811 : decode code 811 = .ok (.aload_n 0, 1) := by decide +kernel
theorem dXL_law_812 : decode code 812 = .ok (.iload_n 3, 1) := by decide +kernel
theorem dXL_law_813 : decode code 813 = .ok (.iconst 2, 1) := by decide +kernel
theorem dXL_law_814 : decode code 814 = .ok (.iadd, 1) := by decide +kernel
theorem dXL_law_815 : decode code 815 = .ok (.iaload, 1) := by decide +kernel
theorem dXL_law_816 : decode code 816 = .ok (.invokevirtual 88, 3) := by decide +kernel
theorem dXL_law_819 : decode code 819 = .ok (.aload_n 2, 1) := by decide +kernel
theorem dXL_law_820 : decode code 820 = .ok (.aload_n 0, 1) := by decide +kernel
theorem dXL_law_821 : decode code 821 = .ok (.iload_n 3, 1) := by decide +kernel
theorem dXL_law_822 : decode code 822 = .ok (.iconst 1, 1) := by decide +kernel
theorem dXL_law_823 : decode code 823 = .ok (.iadd, 1) := by decide +kernel
theorem dXL_law_824 : decode code 824 = .ok (.iaload, 1) := by decide +kernel
theorem dXL_law_825 : decode code 825 = .ok (.aload_n 0, 1) := by decide +kernel
theorem dXL_law_826 : decode code 826 = .ok (.iload_n 3, 1) := by decide +kernel
theorem dXL_law_827 : decode code 827 = .ok (.iconst 2, 1) := by decide +kernel
theorem dXL_law_828 : decode code 828 = .ok (.iadd, 1) := by decide +kernel
theorem dXL_law_829 : decode code 829 = .ok (.iaload, 1) := by decide +kernel
theorem dXL_law_830 : decode code 830 = .ok (.invokevirtual 91, 3) := by decide +kernel
theorem dXL_law_833 : decode code 833 = .ok (.if_icmp .eq 561, 3) := by decide +kernel
theorem dXL_law_836 : decode code 836 = .ok (.iconst 0, 1) := by decide +kernel
theorem dXL_law_837 : decode code 837 = .ok (.ireturn, 1) := by decide +kernel
theorem dXL_law_838 : decode code 838 = .ok (.aload_n 1, 1) := by decide +kernel
theorem dXL_law_839 : decode code 839 = .ok (.aload_n 0, 1) := by decide +kernel
theorem dXL_law_840 : decode code 840 = .ok (.iload_n 3, 1) := by decide +kernel
theorem dXL_law_841 : decode code 841 = .ok (.iconst 1, 1) := by decide +kernel
theorem dXL_law_842 : decode code 842 = .ok (.iadd, 1) := by decide +kernel
theorem dXL_law_843 : decode code 843 = .ok (.iaload, 1) := by decide +kernel
theorem dXL_law_844 : decode code 844 = .ok (.aload_n 0, 1) := by decide +kernel
theorem dXL_law_845 : decode code 845 = .ok (.iload_n 3, 1) := by decide +kernel
theorem dXL_law_846 : decode code 846 = .ok (.iconst 2, 1) := by decide +kernel
theorem dXL_law_847 : decode code 847 = .ok (.iadd, 1) := by decide +kernel
theorem dXL_law_848 : decode code 848 = .ok (.iaload, 1) := by decide +kernel
theorem dXL_law_849 : decode code 849 = .ok (.invokevirtual 92, 3) := by decide +kernel
theorem dXL_law_852 : decode code 852 = .ok (.aload_n 2, 1) := by decide +kernel
theorem dXL_law_853 : decode code 853 = .ok (.aload_n 0, 1) := by decide +kernel
theorem dXL_law_854 : decode code 854 = .ok (.iload_n 3, 1) := by decide +kernel
theorem dXL_law_855 : decode code 855 = .ok (.iconst 1, 1) := by decide +kernel
theorem dXL_law_856 : decode code 856 = .ok (.iadd, 1) := by decide +kernel
theorem dXL_law_857 : decode code 857 = .ok (.iaload, 1) := by decide +kernel
theorem dXL_law_858 : decode code 858 = .ok (.aload_n 0, 1) := by decide +kernel
theorem dXL_law_859 : decode code 859 = .ok (.iload_n 3, 1) := by decide +kernel
theorem dXL_law_860 : decode code 860 = .ok (.iconst 2, 1) := by decide +kernel
theorem dXL_law_861 : decode code 861 = .ok (.iadd, 1) := by decide +kernel
theorem dXL_law_862 : decode code 862 = .ok (.iaload, 1) := by decide +kernel
theorem dXL_law_863 : decode code 863 = .ok (.invokevirtual 95, 3) := by decide +kernel
theorem dXL_law_866 : decode code 866 = .ok (.if_icmp .eq 528, 3) := by decide +kernel
theorem dXL_law_869 : decode code 869 = .ok (.iconst 0, 1) := by decide +kernel
theorem dXL_law_870 : decode code 870 = .ok (.ireturn, 1) := by decide +kernel
theorem dXL_law_871 : decode code 871 = .ok (.aload_n 1, 1) := by decide +kernel
theorem dXL_law_872 : decode code 872 = .ok (.aload_n 0, 1) := by decide +kernel
theorem dXL_law_873 : decode code 873 = .ok (.iload_n 3, 1) := by decide +kernel
theorem dXL_law_874 : decode code 874 = .ok (.iconst 1, 1) := by decide +kernel
theorem dXL_law_875 : decode code 875 = .ok (.iadd, 1) := by decide +kernel
theorem dXL_law_876 : decode code 876 = .ok (.iaload, 1) := by decide +kernel
theorem dXL_law_877 : decode code 877 = .ok (.aload_n 0, 1) := by decide +kernel
theorem dXL_law_878 : decode code 878 = .ok (.iload_n 3, 1) := by decide +kernel
theorem dXL_law_879 : decode code 879 = .ok (.iconst 2, 1) := by decide +kernel
theorem dXL_law_880 : decode code 880 = .ok (.iadd, 1) := by decide +kernel
theorem dXL_law_881 : decode code 881 = .ok (.iaload, 1) := by decide +kernel
theorem dXL_law_882 : decode code 882 = .ok (.aload_n 0, 1) := by decide +kernel
theorem dXL_law_883 : decode code 883 = .ok (.iload_n 3, 1) := by decide +kernel
theorem dXL_law_884 : decode code 884 = .ok (.iconst 3, 1) := by decide +kernel
theorem dXL_law_885 : decode code 885 = .ok (.iadd, 1) := by decide +kernel
theorem dXL_law_886 : decode code 886 = .ok (.iaload, 1) := by decide +kernel
theorem dXL_law_887 : decode code 887 = .ok (.invokevirtual 96, 3) := by decide +kernel
theorem dXL_law_890 : decode code 890 = .ok (.aload_n 2, 1) := by decide +kernel
theorem dXL_law_891 : decode code 891 = .ok (.aload_n 0, 1) := by decide +kernel
theorem dXL_law_892 : decode code 892 = .ok (.iload_n 3, 1) := by decide +kernel
theorem dXL_law_893 : decode code 893 = .ok (.iconst 1, 1) := by decide +kernel
theorem dXL_law_894 : decode code 894 = .ok (.iadd, 1) := by decide +kernel
theorem dXL_law_895 : decode code 895 = .ok (.iaload, 1) := by decide +kernel
theorem dXL_law_896 : decode code 896 = .ok (.aload_n 0, 1) := by decide +kernel
theorem dXL_law_897 : decode code 897 = .ok (.iload_n 3, 1) := by decide +kernel
theorem dXL_law_898 : decode code 898 = .ok (.iconst 2, 1) := by decide +kernel
theorem dXL_law_899 : decode code 899 = .ok (.iadd, 1) := by decide +kernel
theorem dXL_law_900 : decode code 900 = .ok (.iaload, 1) := by decide +kernel
theorem dXL_law_901 : decode code 901 = .ok (.aload_n 0, 1) := by decide +kernel
theorem dXL_law_902 : decode code 902 = .ok (.iload_n 3, 1) := by decide +kernel
theorem dXL_law_903 : decode code 903 = .ok (.iconst 3, 1) := by decide +kernel
theorem dXL_law_904 : decode code 904 = .ok (.iadd, 1) := by decide +kernel
theorem dXL_law_905 : decode code 905 = .ok (.iaload, 1) := by decide +kernel
theorem dXL_law_906 : decode code 906 = .ok (.invokevirtual 99, 3) := by decide +kernel
theorem dXL_law_909 : decode code 909 = .ok (.if_icmp .eq 485, 3) := by decide +kernel
theorem dXL_law_912 : decode code 912 = .ok (.iconst 0, 1) := by decide +kernel
theorem dXL_law_913 : decode code 913 = .ok (.ireturn, 1) := by decide +kernel
theorem dXL_law_914 : decode code 914 = .ok (.aload_n 1, 1) := by decide +kernel
theorem dXL_law_915 : decode code 915 = .ok (.aload_n 0, 1) := by decide +kernel
theorem dXL_law_916 : decode code 916 = .ok (.iload_n 3, 1) := by decide +kernel
theorem dXL_law_917 : decode code 917 = .ok (.iconst 1, 1) := by decide +kernel
theorem dXL_law_918 : decode code 918 = .ok (.iadd, 1) := by decide +kernel
theorem dXL_law_919 : decode code 919 = .ok (.iaload, 1) := by decide +kernel
theorem dXL_law_920 : decode code 920 = .ok (.aload_n 0, 1) := by decide +kernel
theorem dXL_law_921 : decode code 921 = .ok (.iload_n 3, 1) := by decide +kernel
theorem dXL_law_922 : decode code 922 = .ok (.iconst 2, 1) := by decide +kernel
theorem dXL_law_923 : decode code 923 = .ok (.iadd, 1) := by decide +kernel
theorem dXL_law_924 : decode code 924 = .ok (.iaload, 1) := by decide +kernel
theorem dXL_law_925 : decode code 925 = .ok (.invokevirtual 100, 3) := by decide +kernel
theorem dXL_law_928 : decode code 928 = .ok (.aload_n 2, 1) := by decide +kernel
theorem dXL_law_929 : decode code 929 = .ok (.aload_n 0, 1) := by decide +kernel
theorem dXL_law_930 : decode code 930 = .ok (.iload_n 3, 1) := by decide +kernel
theorem dXL_law_931 : decode code 931 = .ok (.iconst 1, 1) := by decide +kernel
theorem dXL_law_932 : decode code 932 = .ok (.iadd, 1) := by decide +kernel
theorem dXL_law_933 : decode code 933 = .ok (.iaload, 1) := by decide +kernel
theorem dXL_law_934 : decode code 934 = .ok (.aload_n 0, 1) := by decide +kernel
theorem dXL_law_935 : decode code 935 = .ok (.iload_n 3, 1) := by decide +kernel
theorem dXL_law_936 : decode code 936 = .ok (.iconst 2, 1) := by decide +kernel
theorem dXL_law_937 : decode code 937 = .ok (.iadd, 1) := by decide +kernel
theorem dXL_law_938 : decode code 938 = .ok (.iaload, 1) := by decide +kernel
theorem dXL_law_939 : decode code 939 = .ok (.invokevirtual 103, 3) := by decide +kernel
theorem dXL_law_942 : decode code 942 = .ok (.if_icmp .eq 452, 3) := by decide +kernel
theorem dXL_law_945 : decode code 945 = .ok (.iconst 0, 1) := by decide +kernel
theorem dXL_law_946 : decode code 946 = .ok (.ireturn, 1) := by decide +kernel
theorem dXL_law_947 : decode code 947 = .ok (.aload_n 1, 1) := by decide +kernel
theorem dXL_law_948 : decode code 948 = .ok (.aload_n 0, 1) := by decide +kernel
theorem dXL_law_949 : decode code 949 = .ok (.iload_n 3, 1) := by decide +kernel
theorem dXL_law_950 : decode code 950 = .ok (.iconst 1, 1) := by decide +kernel
theorem dXL_law_951 : decode code 951 = .ok (.iadd, 1) := by decide +kernel
theorem dXL_law_952 : decode code 952 = .ok (.iaload, 1) := by decide +kernel
theorem dXL_law_953 : decode code 953 = .ok (.invokevirtual 104, 3) := by decide +kernel
theorem dXL_law_956 : decode code 956 = .ok (.aload_n 2, 1) := by decide +kernel
theorem dXL_law_957 : decode code 957 = .ok (.aload_n 0, 1) := by decide +kernel
theorem dXL_law_958 : decode code 958 = .ok (.iload_n 3, 1) := by decide +kernel
theorem dXL_law_959 : decode code 959 = .ok (.iconst 1, 1) := by decide +kernel
theorem dXL_law_960 : decode code 960 = .ok (.iadd, 1) := by decide +kernel
theorem dXL_law_961 : decode code 961 = .ok (.iaload, 1) := by decide +kernel
theorem dXL_law_962 : decode code 962 = .ok (.invokevirtual 107, 3) := by decide +kernel
theorem dXL_law_965 : decode code 965 = .ok (.if_icmp .eq 429, 3) := by decide +kernel
theorem dXL_law_968 : decode code 968 = .ok (.iconst 0, 1) := by decide +kernel
theorem dXL_law_969 : decode code 969 = .ok (.ireturn, 1) := by decide +kernel
theorem dXL_law_970 : decode code 970 = .ok (.aload_n 1, 1) := by decide +kernel
theorem dXL_law_971 : decode code 971 = .ok (.aload_n 0, 1) := by decide +kernel
theorem dXL_law_972 : decode code 972 = .ok (.iload_n 3, 1) := by decide +kernel
theorem dXL_law_973 : decode code 973 = .ok (.iconst 1, 1) := by decide +kernel
theorem dXL_law_974 : decode code 974 = .ok (.iadd, 1) := by decide +kernel
theorem dXL_law_975 : decode code 975 = .ok (.iaload, 1) := by decide +kernel
theorem dXL_law_976 : decode code 976 = .ok (.invokevirtual 108, 3) := by decide +kernel
theorem dXL_law_979 : decode code 979 = .ok (.aload_n 2, 1) := by decide +kernel
theorem dXL_law_980 : decode code 980 = .ok (.aload_n 0, 1) := by decide +kernel
theorem dXL_law_981 : decode code 981 = .ok (.iload_n 3, 1) := by decide +kernel
theorem dXL_law_982 : decode code 982 = .ok (.iconst 1, 1) := by decide +kernel
theorem dXL_law_983 : decode code 983 = .ok (.iadd, 1) := by decide +kernel
theorem dXL_law_984 : decode code 984 = .ok (.iaload, 1) := by decide +kernel
theorem dXL_law_985 : decode code 985 = .ok (.invokevirtual 111, 3) := by decide +kernel
theorem dXL_law_988 : decode code 988 = .ok (.if_icmp .eq 406, 3) := by decide +kernel
theorem dXL_law_991 : decode code 991 = .ok (.iconst 0, 1) := by decide +kernel
theorem dXL_law_992 : decode code 992 = .ok (.ireturn, 1) := by decide +kernel
theorem dXL_law_993 : decode code 993 = .ok (.aload_n 1, 1) := by decide +kernel
theorem dXL_law_994 : decode code 994 = .ok (.aload_n 0, 1) := by decide +kernel
theorem dXL_law_995 : decode code 995 = .ok (.iload_n 3, 1) := by decide +kernel
theorem dXL_law_996 : decode code 996 = .ok (.iconst 1, 1) := by decide +kernel
theorem dXL_law_997 : decode code 997 = .ok (.iadd, 1) := by decide +kernel
theorem dXL_law_998 : decode code 998 = .ok (.iaload, 1) := by decide +kernel
theorem dXL_law_999 : decode code 999 = .ok (.invokevirtual 112, 3) := by decide +kernel
theorem dXL_law_1002 : decode code 1002 = .ok (.aload_n 2, 1) := by decide +kernel
theorem dXL_law_1003 : decode code 1003 = .ok (.aload_n 0, 1) := by decide +kernel
theorem dXL_law_1004 : decode code 1004 = .ok (.iload_n 3, 1) := by decide +kernel
theorem dXL_law_1005 : decode code 1005 = .ok (.iconst 1, 1) := by decide +kernel
theorem dXL_law_1006 : decode code 1006 = .ok (.iadd, 1) := by decide +kernel
theorem dXL_law_1007 : decode code 1007 = .ok (.iaload, 1) := by decide +kernel
theorem dXL_law_1008 : decode code 1008 = .ok (.invokevirtual 115, 3) := by decide +kernel
theorem dXL_law_1011 : decode code 1011 = .ok (.if_icmp .eq 383, 3) := by decide +kernel
theorem dXL_law_1014 : decode code 1014 = .ok (.iconst 0, 1) := by decide +kernel
theorem dXL_law_1015 : decode code 1015 = .ok (.ireturn, 1) := by decide +kernel
theorem dXL_law_1016 : decode code 1016 = .ok (.aload_n 1, 1) := by decide +kernel
theorem dXL_law_1017 : decode code 1017 = .ok (.aload_n 0, 1) := by decide +kernel
theorem dXL_law_1018 : decode code 1018 = .ok (.iload_n 3, 1) := by decide +kernel
theorem dXL_law_1019 : decode code 1019 = .ok (.iconst 1, 1) := by decide +kernel
theorem dXL_law_1020 : decode code 1020 = .ok (.iadd, 1) := by decide +kernel
theorem dXL_law_1021 : decode code 1021 = .ok (.iaload, 1) := by decide +kernel
theorem dXL_law_1022 : decode code 1022 = .ok (.invokevirtual 116, 3) := by decide +kernel
theorem dXL_law_1025 : decode code 1025 = .ok (.aload_n 2, 1) := by decide +kernel
theorem dXL_law_1026 : decode code 1026 = .ok (.aload_n 0, 1) := by decide +kernel
theorem dXL_law_1027 : decode code 1027 = .ok (.iload_n 3, 1) := by decide +kernel
theorem dXL_law_1028 : decode code 1028 = .ok (.iconst 1, 1) := by decide +kernel
theorem dXL_law_1029 : decode code 1029 = .ok (.iadd, 1) := by decide +kernel
theorem dXL_law_1030 : decode code 1030 = .ok (.iaload, 1) := by decide +kernel
theorem dXL_law_1031 : decode code 1031 = .ok (.invokevirtual 119, 3) := by decide +kernel
theorem dXL_law_1034 : decode code 1034 = .ok (.if_icmp .eq 360, 3) := by decide +kernel
theorem dXL_law_1037 : decode code 1037 = .ok (.iconst 0, 1) := by decide +kernel
theorem dXL_law_1038 : decode code 1038 = .ok (.ireturn, 1) := by decide +kernel
theorem dXL_law_1039 : decode code 1039 = .ok (.aload_n 1, 1) := by decide +kernel
theorem dXL_law_1040 : decode code 1040 = .ok (.aload_n 0, 1) := by decide +kernel
theorem dXL_law_1041 : decode code 1041 = .ok (.iload_n 3, 1) := by decide +kernel
theorem dXL_law_1042 : decode code 1042 = .ok (.iconst 1, 1) := by decide +kernel
theorem dXL_law_1043 : decode code 1043 = .ok (.iadd, 1) := by decide +kernel
theorem dXL_law_1044 : decode code 1044 = .ok (.iaload, 1) := by decide +kernel
theorem dXL_law_1045 : decode code 1045 = .ok (.invokevirtual 120, 3) := by decide +kernel
theorem dXL_law_1048 : decode code 1048 = .ok (.aload_n 2, 1) := by decide +kernel
theorem dXL_law_1049 : decode code 1049 = .ok (.aload_n 0, 1) := by decide +kernel
theorem dXL_law_1050 : decode code 1050 = .ok (.iload_n 3, 1) := by decide +kernel
theorem dXL_law_1051 : decode code 1051 = .ok (.iconst 1, 1) := by decide +kernel
theorem dXL_law_1052 : decode code 1052 = .ok (.iadd, 1) := by decide +kernel
theorem dXL_law_1053 : decode code 1053 = .ok (.iaload, 1) := by decide +kernel
theorem dXL_law_1054 : decode code 1054 = .ok (.invokevirtual 123, 3) := by decide +kernel
theorem dXL_law_1057 : decode code 1057 = .ok (.if_icmp .eq 337, 3) := by decide +kernel
theorem dXL_law_1060 : decode code 1060 = .ok (.iconst 0, 1) := by decide +kernel
theorem dXL_law_1061 : decode code 1061 = .ok (.ireturn, 1) := by decide +kernel
theorem dXL_law_1062 : decode code 1062 = .ok (.aload_n 1, 1) := by decide +kernel
theorem dXL_law_1063 : decode code 1063 = .ok (.invokevirtual 124, 3) := by decide +kernel
theorem dXL_law_1066 : decode code 1066 = .ok (.aload_n 2, 1) := by decide +kernel
theorem dXL_law_1067 : decode code 1067 = .ok (.invokevirtual 127, 3) := by decide +kernel
theorem dXL_law_1070 : decode code 1070 = .ok (.if_icmp .eq 324, 3) := by decide +kernel
theorem dXL_law_1073 : decode code 1073 = .ok (.iconst 0, 1) := by decide +kernel
theorem dXL_law_1074 : decode code 1074 = .ok (.ireturn, 1) := by decide +kernel
theorem dXL_law_1075 : decode code 1075 = .ok (.aload_n 1, 1) := by decide +kernel
theorem dXL_law_1076 : decode code 1076 = .ok (.aload_n 0, 1) := by decide +kernel
theorem dXL_law_1077 : decode code 1077 = .ok (.iload_n 3, 1) := by decide +kernel
theorem dXL_law_1078 : decode code 1078 = .ok (.iconst 1, 1) := by decide +kernel
theorem dXL_law_1079 : decode code 1079 = .ok (.iadd, 1) := by decide +kernel
theorem dXL_law_1080 : decode code 1080 = .ok (.iaload, 1) := by decide +kernel
theorem dXL_law_1081 : decode code 1081 = .ok (.invokevirtual 128, 3) := by decide +kernel
theorem dXL_law_1084 : decode code 1084 = .ok (.aload_n 2, 1) := by decide +kernel
theorem dXL_law_1085 : decode code 1085 = .ok (.aload_n 0, 1) := by decide +kernel
theorem dXL_law_1086 : decode code 1086 = .ok (.iload_n 3, 1) := by decide +kernel
theorem dXL_law_1087 : decode code 1087 = .ok (.iconst 1, 1) := by decide +kernel
theorem dXL_law_1088 : decode code 1088 = .ok (.iadd, 1) := by decide +kernel
theorem dXL_law_1089 : decode code 1089 = .ok (.iaload, 1) := by decide +kernel
theorem dXL_law_1090 : decode code 1090 = .ok (.invokevirtual 131, 3) := by decide +kernel
theorem dXL_law_1093 : decode code 1093 = .ok (.if_icmp .eq 301, 3) := by decide +kernel
theorem dXL_law_1096 : decode code 1096 = .ok (.iconst 0, 1) := by decide +kernel
theorem dXL_law_1097 : decode code 1097 = .ok (.ireturn, 1) := by decide +kernel
theorem dXL_law_1098 : decode code 1098 = .ok (.aload_n 1, 1) := by decide +kernel
theorem dXL_law_1099 : decode code 1099 = .ok (.aload_n 0, 1) := by decide +kernel
theorem dXL_law_1100 : decode code 1100 = .ok (.iload_n 3, 1) := by decide +kernel
theorem dXL_law_1101 : decode code 1101 = .ok (.iconst 1, 1) := by decide +kernel
theorem dXL_law_1102 : decode code 1102 = .ok (.iadd, 1) := by decide +kernel
theorem dXL_law_1103 : decode code 1103 = .ok (.iaload, 1) := by decide +kernel
theorem dXL_law_1104 : decode code 1104 = .ok (.invokevirtual 132, 3) := by decide +kernel
theorem dXL_law_1107 : decode code 1107 = .ok (.aload_n 2, 1) := by decide +kernel
theorem dXL_law_1108 : decode code 1108 = .ok (.aload_n 0, 1) := by decide +kernel
theorem dXL_law_1109 : decode code 1109 = .ok (.iload_n 3, 1) := by decide +kernel
theorem dXL_law_1110 : decode code 1110 = .ok (.iconst 1, 1) := by decide +kernel
theorem dXL_law_1111 : decode code 1111 = .ok (.iadd, 1) := by decide +kernel
theorem dXL_law_1112 : decode code 1112 = .ok (.iaload, 1) := by decide +kernel
theorem dXL_law_1113 : decode code 1113 = .ok (.invokevirtual 135, 3) := by decide +kernel
theorem dXL_law_1116 : decode code 1116 = .ok (.if_icmp .eq 278, 3) := by decide +kernel
theorem dXL_law_1119 : decode code 1119 = .ok (.iconst 0, 1) := by decide +kernel
theorem dXL_law_1120 : decode code 1120 = .ok (.ireturn, 1) := by decide +kernel
theorem dXL_law_1121 : decode code 1121 = .ok (.aload_n 1, 1) := by decide +kernel
theorem dXL_law_1122 : decode code 1122 = .ok (.invokevirtual 136, 3) := by decide +kernel
theorem dXL_law_1125 : decode code 1125 = .ok (.aload_n 2, 1) := by decide +kernel
theorem dXL_law_1126 : decode code 1126 = .ok (.invokevirtual 139, 3) := by decide +kernel
theorem dXL_law_1129 : decode code 1129 = .ok (.if_icmp .eq 265, 3) := by decide +kernel
theorem dXL_law_1132 : decode code 1132 = .ok (.iconst 0, 1) := by decide +kernel
theorem dXL_law_1133 : decode code 1133 = .ok (.ireturn, 1) := by decide +kernel
theorem dXL_law_1134 : decode code 1134 = .ok (.aload_n 1, 1) := by decide +kernel
theorem dXL_law_1135 : decode code 1135 = .ok (.aload_n 0, 1) := by decide +kernel
theorem dXL_law_1136 : decode code 1136 = .ok (.iload_n 3, 1) := by decide +kernel
theorem dXL_law_1137 : decode code 1137 = .ok (.iconst 1, 1) := by decide +kernel
theorem dXL_law_1138 : decode code 1138 = .ok (.iadd, 1) := by decide +kernel
theorem dXL_law_1139 : decode code 1139 = .ok (.iaload, 1) := by decide +kernel
theorem dXL_law_1140 : decode code 1140 = .ok (.aload_n 0, 1) := by decide +kernel
theorem dXL_law_1141 : decode code 1141 = .ok (.iload_n 3, 1) := by decide +kernel
theorem dXL_law_1142 : decode code 1142 = .ok (.iconst 2, 1) := by decide +kernel
theorem dXL_law_1143 : decode code 1143 = .ok (.iadd, 1) := by decide +kernel
theorem dXL_law_1144 : decode code 1144 = .ok (.iaload, 1) := by decide +kernel
theorem dXL_law_1145 : decode code 1145 = .ok (.aload_n 0, 1) := by decide +kernel
theorem dXL_law_1146 : decode code 1146 = .ok (.iload_n 3, 1) := by decide +kernel
theorem dXL_law_1147 : decode code 1147 = .ok (.iconst 3, 1) := by decide +kernel
theorem dXL_law_1148 : decode code 1148 = .ok (.iadd, 1) := by decide +kernel
theorem dXL_law_1149 : decode code 1149 = .ok (.iaload, 1) := by decide +kernel
theorem dXL_law_1150 : decode code 1150 = .ok (.invokevirtual 140, 3) := by decide +kernel
theorem dXL_law_1153 : decode code 1153 = .ok (.aload_n 2, 1) := by decide +kernel
theorem dXL_law_1154 : decode code 1154 = .ok (.aload_n 0, 1) := by decide +kernel
theorem dXL_law_1155 : decode code 1155 = .ok (.iload_n 3, 1) := by decide +kernel
theorem dXL_law_1156 : decode code 1156 = .ok (.iconst 1, 1) := by decide +kernel
theorem dXL_law_1157 : decode code 1157 = .ok (.iadd, 1) := by decide +kernel
theorem dXL_law_1158 : decode code 1158 = .ok (.iaload, 1) := by decide +kernel
theorem dXL_law_1159 : decode code 1159 = .ok (.aload_n 0, 1) := by decide +kernel
theorem dXL_law_1160 : decode code 1160 = .ok (.iload_n 3, 1) := by decide +kernel
theorem dXL_law_1161 : decode code 1161 = .ok (.iconst 2, 1) := by decide +kernel
theorem dXL_law_1162 : decode code 1162 = .ok (.iadd, 1) := by decide +kernel
theorem dXL_law_1163 : decode code 1163 = .ok (.iaload, 1) := by decide +kernel
theorem dXL_law_1164 : decode code 1164 = .ok (.aload_n 0, 1) := by decide +kernel
theorem dXL_law_1165 : decode code 1165 = .ok (.iload_n 3, 1) := by decide +kernel
theorem dXL_law_1166 : decode code 1166 = .ok (.iconst 3, 1) := by decide +kernel
theorem dXL_law_1167 : decode code 1167 = .ok (.iadd, 1) := by decide +kernel
theorem dXL_law_1168 : decode code 1168 = .ok (.iaload, 1) := by decide +kernel
theorem dXL_law_1169 : decode code 1169 = .ok (.invokevirtual 143, 3) := by decide +kernel
theorem dXL_law_1172 : decode code 1172 = .ok (.if_icmp .eq 222, 3) := by decide +kernel
theorem dXL_law_1175 : decode code 1175 = .ok (.iconst 0, 1) := by decide +kernel
theorem dXL_law_1176 : decode code 1176 = .ok (.ireturn, 1) := by decide +kernel
theorem dXL_law_1177 : decode code 1177 = .ok (.aload_n 1, 1) := by decide +kernel
theorem dXL_law_1178 : decode code 1178 = .ok (.aload_n 0, 1) := by decide +kernel
theorem dXL_law_1179 : decode code 1179 = .ok (.iload_n 3, 1) := by decide +kernel
theorem dXL_law_1180 : decode code 1180 = .ok (.iconst 1, 1) := by decide +kernel
theorem dXL_law_1181 : decode code 1181 = .ok (.iadd, 1) := by decide +kernel
theorem dXL_law_1182 : decode code 1182 = .ok (.iaload, 1) := by decide +kernel
theorem dXL_law_1183 : decode code 1183 = .ok (.aload_n 0, 1) := by decide +kernel
theorem dXL_law_1184 : decode code 1184 = .ok (.iload_n 3, 1) := by decide +kernel
theorem dXL_law_1185 : decode code 1185 = .ok (.iconst 2, 1) := by decide +kernel
theorem dXL_law_1186 : decode code 1186 = .ok (.iadd, 1) := by decide +kernel
theorem dXL_law_1187 : decode code 1187 = .ok (.iaload, 1) := by decide +kernel
theorem dXL_law_1188 : decode code 1188 = .ok (.invokevirtual 144, 3) := by decide +kernel
theorem dXL_law_1191 : decode code 1191 = .ok (.aload_n 2, 1) := by decide +kernel
theorem dXL_law_1192 : decode code 1192 = .ok (.aload_n 0, 1) := by decide +kernel
theorem dXL_law_1193 : decode code 1193 = .ok (.iload_n 3, 1) := by decide +kernel
theorem dXL_law_1194 : decode code 1194 = .ok (.iconst 1, 1) := by decide +kernel
theorem dXL_law_1195 : decode code 1195 = .ok (.iadd, 1) := by decide +kernel
theorem dXL_law_1196 : decode code 1196 = .ok (.iaload, 1) := by decide +kernel
theorem dXL_law_1197 : decode code 1197 = .ok (.aload_n 0, 1) := by decide +kernel
theorem dXL_law_1198 : decode code 1198 = .ok (.iload_n 3, 1) := by decide +kernel
theorem dXL_law_1199 : decode code 1199 = .ok (.iconst 2, 1) := by decide +kernel
theorem dXL_law_1200 : decode code 1200 = .ok (.iadd, 1) := by decide +kernel
theorem dXL_law_1201 : decode code 1201 = .ok (.iaload, 1) := by decide +kernel
theorem dXL_law_1202 : decode code 1202 = .ok (.invokevirtual 147, 3) := by decide +kernel
theorem dXL_law_1205 : decode code 1205 = .ok (.if_icmp .eq 189, 3) := by decide +kernel
theorem dXL_law_1208 : decode code 1208 = .ok (.iconst 0, 1) := by decide +kernel
theorem dXL_law_1209 : decode code 1209 = .ok (.ireturn, 1) := by decide +kernel
theorem dXL_law_1210 : decode code 1210 = .ok (.aload_n 1, 1) := by decide +kernel
theorem dXL_law_1211 : decode code 1211 = .ok (.aload_n 0, 1) := by decide +kernel
theorem dXL_law_1212 : decode code 1212 = .ok (.iload_n 3, 1) := by decide +kernel
theorem dXL_law_1213 : decode code 1213 = .ok (.iconst 1, 1) := by decide +kernel
theorem dXL_law_1214 : decode code 1214 = .ok (.iadd, 1) := by decide +kernel
theorem dXL_law_1215 : decode code 1215 = .ok (.iaload, 1) := by decide +kernel
theorem dXL_law_1216 : decode code 1216 = .ok (.invokevirtual 148, 3) := by decide +kernel
theorem dXL_law_1219 : decode code 1219 = .ok (.aload_n 2, 1) := by decide +kernel
theorem dXL_law_1220 : decode code 1220 = .ok (.aload_n 0, 1) := by decide +kernel
theorem dXL_law_1221 : decode code 1221 = .ok (.iload_n 3, 1) := by decide +kernel
theorem dXL_law_1222 : decode code 1222 = .ok (.iconst 1, 1) := by decide +kernel
theorem dXL_law_1223 : decode code 1223 = .ok (.iadd, 1) := by decide +kernel
theorem dXL_law_1224 : decode code 1224 = .ok (.iaload, 1) := by decide +kernel
theorem dXL_law_1225 : decode code 1225 = .ok (.invokevirtual 151, 3) := by decide +kernel
theorem dXL_law_1228 : decode code 1228 = .ok (.if_icmp .eq 166, 3) := by decide +kernel
theorem dXL_law_1231 : decode code 1231 = .ok (.iconst 0, 1) := by decide +kernel
theorem dXL_law_1232 : decode code 1232 = .ok (.ireturn, 1) := by decide +kernel
theorem dXL_law_1233 : decode code 1233 = .ok (.aload_n 1, 1) := by decide +kernel
theorem dXL_law_1234 : decode code 1234 = .ok (.aload_n 0, 1) := by decide +kernel
theorem dXL_law_1235 : decode code 1235 = .ok (.iload_n 3, 1) := by decide +kernel
theorem dXL_law_1236 : decode code 1236 = .ok (.iconst 1, 1) := by decide +kernel
theorem dXL_law_1237 : decode code 1237 = .ok (.iadd, 1) := by decide +kernel
theorem dXL_law_1238 : decode code 1238 = .ok (.iaload, 1) := by decide +kernel
theorem dXL_law_1239 : decode code 1239 = .ok (.invokevirtual 152, 3) := by decide +kernel
theorem dXL_law_1242 : decode code 1242 = .ok (.aload_n 2, 1) := by decide +kernel
theorem dXL_law_1243 : decode code 1243 = .ok (.aload_n 0, 1) := by decide +kernel
theorem dXL_law_1244 : decode code 1244 = .ok (.iload_n 3, 1) := by decide +kernel
theorem dXL_law_1245 : decode code 1245 = .ok (.iconst 1, 1) := by decide +kernel
theorem dXL_law_1246 : decode code 1246 = .ok (.iadd, 1) := by decide +kernel
theorem dXL_law_1247 : decode code 1247 = .ok (.iaload, 1) := by decide +kernel
theorem dXL_law_1248 : decode code 1248 = .ok (.invokevirtual 155, 3) := by decide +kernel
theorem dXL_law_1251 : decode code 1251 = .ok (.if_icmp .eq 143, 3) := by decide +kernel
theorem dXL_law_1254 : decode code 1254 = .ok (.iconst 0, 1) := by decide +kernel
theorem dXL_law_1255 : decode code 1255 = .ok (.ireturn, 1) := by decide +kernel
theorem dXL_law_1256 : decode code 1256 = .ok (.aload_n 1, 1) := by decide +kernel
theorem dXL_law_1257 : decode code 1257 = .ok (.aload_n 0, 1) := by decide +kernel
theorem dXL_law_1258 : decode code 1258 = .ok (.iload_n 3, 1) := by decide +kernel
theorem dXL_law_1259 : decode code 1259 = .ok (.iconst 1, 1) := by decide +kernel
theorem dXL_law_1260 : decode code 1260 = .ok (.iadd, 1) := by decide +kernel
theorem dXL_law_1261 : decode code 1261 = .ok (.iaload, 1) := by decide +kernel
theorem dXL_law_1262 : decode code 1262 = .ok (.invokevirtual 156, 3) := by decide +kernel
theorem dXL_law_1265 : decode code 1265 = .ok (.aload_n 2, 1) := by decide +kernel
theorem dXL_law_1266 : decode code 1266 = .ok (.aload_n 0, 1) := by decide +kernel
theorem dXL_law_1267 : decode code 1267 = .ok (.iload_n 3, 1) := by decide +kernel
theorem dXL_law_1268 : decode code 1268 = .ok (.iconst 1, 1) := by decide +kernel
theorem dXL_law_1269 : decode code 1269 = .ok (.iadd, 1) := by decide +kernel
theorem dXL_law_1270 : decode code 1270 = .ok (.iaload, 1) := by decide +kernel
theorem dXL_law_1271 : decode code 1271 = .ok (.invokevirtual 159, 3) := by decide +kernel
theorem dXL_law_1274 : decode code 1274 = .ok (.if_icmp .eq 120, 3) := by decide +kernel
theorem dXL_law_1277 : decode code 1277 = .ok (.iconst 0, 1) := by decide +kernel
theorem dXL_law_1278 : decode code 1278 = .ok (.ireturn, 1) := by decide +kernel
theorem dXL_law_1279 : decode code 1279 = .ok (.aload_n 1, 1) := by decide +kernel
theorem dXL_law_1280 : decode code 1280 = .ok (.aload_n 0, 1) := by decide +kernel
theorem dXL_law_1281 : decode code 1281 = .ok (.iload_n 3, 1) := by decide +kernel
theorem dXL_law_1282 : decode code 1282 = .ok (.iconst 1, 1) := by decide +kernel
theorem dXL_law_1283 : decode code 1283 = .ok (.iadd, 1) := by decide +kernel
theorem dXL_law_1284 : decode code 1284 = .ok (.iaload, 1) := by decide +kernel
theorem dXL_law_1285 : decode code 1285 = .ok (.aload_n 0, 1) := by decide +kernel
theorem dXL_law_1286 : decode code 1286 = .ok (.iload_n 3, 1) := by decide +kernel
theorem dXL_law_1287 : decode code 1287 = .ok (.iconst 2, 1) := by decide +kernel
theorem dXL_law_1288 : decode code 1288 = .ok (.iadd, 1) := by decide +kernel
theorem dXL_law_1289 : decode code 1289 = .ok (.iaload, 1) := by decide +kernel
theorem dXL_law_1290 : decode code 1290 = .ok (.aload_n 0, 1) := by decide +kernel
theorem dXL_law_1291 : decode code 1291 = .ok (.iload_n 3, 1) := by decide +kernel
theorem dXL_law_1292 : decode code 1292 = .ok (.iconst 3, 1) := by decide +kernel
theorem dXL_law_1293 : decode code 1293 = .ok (.iadd, 1) := by decide +kernel
theorem dXL_law_1294 : decode code 1294 = .ok (.iaload, 1) := by decide +kernel
theorem dXL_law_1295 : decode code 1295 = .ok (.invokevirtual 160, 3) := by decide +kernel
theorem dXL_law_1298 : decode code 1298 = .ok (.aload_n 2, 1) := by decide +kernel
theorem dXL_law_1299 : decode code 1299 = .ok (.aload_n 0, 1) := by decide +kernel
theorem dXL_law_1300 : decode code 1300 = .ok (.iload_n 3, 1) := by decide +kernel
theorem dXL_law_1301 : decode code 1301 = .ok (.iconst 1, 1) := by decide +kernel
theorem dXL_law_1302 : decode code 1302 = .ok (.iadd, 1) := by decide +kernel
theorem dXL_law_1303 : decode code 1303 = .ok (.iaload, 1) := by decide +kernel
theorem dXL_law_1304 : decode code 1304 = .ok (.aload_n 0, 1) := by decide +kernel
theorem dXL_law_1305 : decode code 1305 = .ok (.iload_n 3, 1) := by decide +kernel
theorem dXL_law_1306 : decode code 1306 = .ok (.iconst 2, 1) := by decide +kernel
theorem dXL_law_1307 : decode code 1307 = .ok (.iadd, 1) := by decide +kernel
theorem dXL_law_1308 : decode code 1308 = .ok (.iaload, 1) := by decide +kernel
theorem dXL_law_1309 : decode code 1309 = .ok (.aload_n 0, 1) := by decide +kernel
theorem dXL_law_1310 : decode code 1310 = .ok (.iload_n 3, 1) := by decide +kernel
theorem dXL_law_1311 : decode code 1311 = .ok (.iconst 3, 1) := by decide +kernel
theorem dXL_law_1312 : decode code 1312 = .ok (.iadd, 1) := by decide +kernel
theorem dXL_law_1313 : decode code 1313 = .ok (.iaload, 1) := by decide +kernel
theorem dXL_law_1314 : decode code 1314 = .ok (.invokevirtual 163, 3) := by decide +kernel
theorem dXL_law_1317 : decode code 1317 = .ok (.if_icmp .eq 77, 3) := by decide +kernel
theorem dXL_law_1320 : decode code 1320 = .ok (.iconst 0, 1) := by decide +kernel
theorem dXL_law_1321 : decode code 1321 = .ok (.ireturn, 1) := by decide +kernel
theorem dXL_law_1322 : decode code 1322 = .ok (.aload_n 1, 1) := by decide +kernel
theorem dXL_law_1323 : decode code 1323 = .ok (.aload_n 0, 1) := by decide +kernel
theorem dXL_law_1324 : decode code 1324 = .ok (.iload_n 3, 1) := by decide +kernel
theorem dXL_law_1325 : decode code 1325 = .ok (.iconst 1, 1) := by decide +kernel
theorem dXL_law_1326 : decode code 1326 = .ok (.iadd, 1) := by decide +kernel
theorem dXL_law_1327 : decode code 1327 = .ok (.iaload, 1) := by decide +kernel
theorem dXL_law_1328 : decode code 1328 = .ok (.invokevirtual 164, 3) := by decide +kernel
theorem dXL_law_1331 : decode code 1331 = .ok (.aload_n 2, 1) := by decide +kernel
theorem dXL_law_1332 : decode code 1332 = .ok (.aload_n 0, 1) := by decide +kernel
theorem dXL_law_1333 : decode code 1333 = .ok (.iload_n 3, 1) := by decide +kernel
theorem dXL_law_1334 : decode code 1334 = .ok (.iconst 1, 1) := by decide +kernel
theorem dXL_law_1335 : decode code 1335 = .ok (.iadd, 1) := by decide +kernel
theorem dXL_law_1336 : decode code 1336 = .ok (.iaload, 1) := by decide +kernel
theorem dXL_law_1337 : decode code 1337 = .ok (.invokevirtual 167, 3) := by decide +kernel
theorem dXL_law_1340 : decode code 1340 = .ok (.if_icmp .eq 54, 3) := by decide +kernel
theorem dXL_law_1343 : decode code 1343 = .ok (.iconst 0, 1) := by decide +kernel
theorem dXL_law_1344 : decode code 1344 = .ok (.ireturn, 1) := by decide +kernel
theorem dXL_law_1345 : decode code 1345 = .ok (.aload_n 1, 1) := by decide +kernel
theorem dXL_law_1346 : decode code 1346 = .ok (.invokevirtual 168, 3) := by decide +kernel
theorem dXL_law_1349 : decode code 1349 = .ok (.aload_n 2, 1) := by decide +kernel
theorem dXL_law_1350 : decode code 1350 = .ok (.invokevirtual 171, 3) := by decide +kernel
theorem dXL_law_1353 : decode code 1353 = .ok (.if_icmp .eq 41, 3) := by decide +kernel
theorem dXL_law_1356 : decode code 1356 = .ok (.iconst 0, 1) := by decide +kernel
theorem dXL_law_1357 : decode code 1357 = .ok (.ireturn, 1) := by decide +kernel
theorem dXL_law_1358 : decode code 1358 = .ok (.aload_n 1, 1) := by decide +kernel
theorem dXL_law_1359 : decode code 1359 = .ok (.invokevirtual 172, 3) := by decide +kernel
theorem dXL_law_1362 : decode code 1362 = .ok (.aload_n 2, 1) := by decide +kernel
theorem dXL_law_1363 : decode code 1363 = .ok (.invokevirtual 175, 3) := by decide +kernel
theorem dXL_law_1366 : decode code 1366 = .ok (.if_icmp .eq 28, 3) := by decide +kernel
theorem dXL_law_1369 : decode code 1369 = .ok (.iconst 0, 1) := by decide +kernel
theorem dXL_law_1370 : decode code 1370 = .ok (.ireturn, 1) := by decide +kernel
theorem dXL_law_1371 : decode code 1371 = .ok (.aload_n 1, 1) := by decide +kernel
theorem dXL_law_1372 : decode code 1372 = .ok (.aload_n 0, 1) := by decide +kernel
theorem dXL_law_1373 : decode code 1373 = .ok (.iload_n 3, 1) := by decide +kernel
theorem dXL_law_1374 : decode code 1374 = .ok (.iconst 1, 1) := by decide +kernel
theorem dXL_law_1375 : decode code 1375 = .ok (.iadd, 1) := by decide +kernel
theorem dXL_law_1376 : decode code 1376 = .ok (.iaload, 1) := by decide +kernel
theorem dXL_law_1377 : decode code 1377 = .ok (.invokevirtual 176, 3) := by decide +kernel
theorem dXL_law_1380 : decode code 1380 = .ok (.aload_n 2, 1) := by decide +kernel
theorem dXL_law_1381 : decode code 1381 = .ok (.aload_n 0, 1) := by decide +kernel
theorem dXL_law_1382 : decode code 1382 = .ok (.iload_n 3, 1) := by decide +kernel
theorem dXL_law_1383 : decode code 1383 = .ok (.iconst 1, 1) := by decide +kernel
theorem dXL_law_1384 : decode code 1384 = .ok (.iadd, 1) := by decide +kernel
theorem dXL_law_1385 : decode code 1385 = .ok (.iaload, 1) := by decide +kernel
theorem dXL_law_1386 : decode code 1386 = .ok (.invokevirtual 179, 3) := by decide +kernel
theorem dXL_law_1389 : decode code 1389 = .ok (.if_icmp .eq 5, 3) := by decide +kernel
theorem dXL_law_1392 : decode code 1392 = .ok (.iconst 0, 1) := by decide +kernel
theorem dXL_law_1393 : decode code 1393 = .ok (.ireturn, 1) := by decide +kernel
theorem dXL_law_1394 : decode code 1394 = .ok (.iinc 3 6, 3) := by decide +kernel
theorem dXL_law_1397 : decode code 1397 = .ok (.goto (-1379), 3) := by decide +kernel
theorem dXL_law_1400 : decode code 1400 = .ok (.iconst 1, 1) := by decide +kernel
theorem dXL_law_1401 : decode code 1401 = .ok (.ireturn, 1) := by decide +kernel
theorem clXL_7 : Cond.classLink R_law 7 RX6 ∈ TB := TB_of 80 (by decide +kernel) (by decide +kernel)
theorem lXL_9 : Cond.methodLink R_law 9 yX6_init ∈ TB := TB_of 82 (by decide +kernel) (by decide +kernel)
theorem lXL_13 : Cond.methodLink R_law 13 yX6_row ∈ TB := TB_of 316 (by decide +kernel) (by decide +kernel)
theorem lXL_20 : Cond.methodLink R_law 20 yX6_set ∈ TB := TB_of 339 (by decide +kernel) (by decide +kernel)
theorem lXL_25 : Cond.methodLink R_law 25 yX6_copy ∈ TB := TB_of 363 (by decide +kernel) (by decide +kernel)
theorem lXL_30 : Cond.methodLink R_law 30 yX6_element ∈ TB := TB_of 374 (by decide +kernel) (by decide +kernel)
theorem lXL_35 : Cond.methodLink R_law 35 yX6_show ∈ TB := TB_of 382 (by decide +kernel) (by decide +kernel)
theorem lXL_40 : Cond.methodLink R_law 40 yX6_holds ∈ TB := TB_of 394 (by decide +kernel) (by decide +kernel)
theorem lXL_45 : Cond.methodLink R_law 45 yX6_says ∈ TB := TB_of 398 (by decide +kernel) (by decide +kernel)
theorem lXL_49 : Cond.methodLink R_law 49 yX6_person ∈ TB := TB_of 421 (by decide +kernel) (by decide +kernel)
theorem lXL_54 : Cond.methodLink R_law 54 yX6_friend ∈ TB := TB_of 438 (by decide +kernel) (by decide +kernel)
theorem lXL_58 : Cond.methodLink R_law 58 yX6_ask ∈ TB := TB_of 442 (by decide +kernel) (by decide +kernel)
theorem lXL_62 : Cond.methodLink R_law 62 yX6_go ∈ TB := TB_of 464 (by decide +kernel) (by decide +kernel)
theorem lXL_67 : Cond.methodLink R_law 67 yX6_personOf ∈ TB := TB_of 468 (by decide +kernel) (by decide +kernel)
theorem lXL_71 : Cond.methodLink R_law 71 yX6_school ∈ TB := TB_of 476 (by decide +kernel) (by decide +kernel)
theorem lXL_75 : Cond.methodLink R_law 75 yX6_fault ∈ TB := TB_of 612 (by decide +kernel) (by decide +kernel)
theorem lXL_80 : Cond.methodLink R_law 80 yX6_will ∈ TB := TB_of 616 (by decide +kernel) (by decide +kernel)
theorem lXL_84 : Cond.methodLink R_law 84 yX6_tonight ∈ TB := TB_of 638 (by decide +kernel) (by decide +kernel)
theorem lXL_88 : Cond.methodLink R_law 88 yX6_ahead ∈ TB := TB_of 667 (by decide +kernel) (by decide +kernel)
theorem lXL_92 : Cond.methodLink R_law 92 yX6_worst ∈ TB := TB_of 703 (by decide +kernel) (by decide +kernel)
theorem lXL_96 : Cond.methodLink R_law 96 yX6_ones ∈ TB := TB_of 707 (by decide +kernel) (by decide +kernel)
theorem lXL_100 : Cond.methodLink R_law 100 yX6_ring ∈ TB := TB_of 711 (by decide +kernel) (by decide +kernel)
theorem lXL_104 : Cond.methodLink R_law 104 yX6_begin ∈ TB := TB_of 715 (by decide +kernel) (by decide +kernel)
theorem lXL_108 : Cond.methodLink R_law 108 yX6_room ∈ TB := TB_of 719 (by decide +kernel) (by decide +kernel)
theorem lXL_112 : Cond.methodLink R_law 112 yX6_take ∈ TB := TB_of 723 (by decide +kernel) (by decide +kernel)
theorem lXL_116 : Cond.methodLink R_law 116 yX6_price ∈ TB := TB_of 732 (by decide +kernel) (by decide +kernel)
theorem lXL_120 : Cond.methodLink R_law 120 yX6_lost ∈ TB := TB_of 740 (by decide +kernel) (by decide +kernel)
theorem lXL_124 : Cond.methodLink R_law 124 yX6_pairs ∈ TB := TB_of 744 (by decide +kernel) (by decide +kernel)
theorem lXL_128 : Cond.methodLink R_law 128 yX6_chain ∈ TB := TB_of 748 (by decide +kernel) (by decide +kernel)
theorem lXL_132 : Cond.methodLink R_law 132 yX6_keeps ∈ TB := TB_of 753 (by decide +kernel) (by decide +kernel)
theorem lXL_136 : Cond.methodLink R_law 136 yX6_keep ∈ TB := TB_of 761 (by decide +kernel) (by decide +kernel)
theorem lXL_140 : Cond.methodLink R_law 140 yX6_friends ∈ TB := TB_of 765 (by decide +kernel) (by decide +kernel)
theorem lXL_144 : Cond.methodLink R_law 144 yX6_judge ∈ TB := TB_of 778 (by decide +kernel) (by decide +kernel)
theorem lXL_148 : Cond.methodLink R_law 148 yX6_evenings ∈ TB := TB_of 782 (by decide +kernel) (by decide +kernel)
theorem lXL_152 : Cond.methodLink R_law 152 yX6_drawn ∈ TB := TB_of 786 (by decide +kernel) (by decide +kernel)
theorem lXL_156 : Cond.methodLink R_law 156 yX6_seed ∈ TB := TB_of 795 (by decide +kernel) (by decide +kernel)
theorem lXL_160 : Cond.methodLink R_law 160 yX6_act ∈ TB := TB_of 799 (by decide +kernel) (by decide +kernel)
theorem lXL_164 : Cond.methodLink R_law 164 yX6_trace ∈ TB := TB_of 833 (by decide +kernel) (by decide +kernel)
theorem lXL_168 : Cond.methodLink R_law 168 yX6_image ∈ TB := TB_of 841 (by decide +kernel) (by decide +kernel)
theorem lXL_172 : Cond.methodLink R_law 172 yX6_restore ∈ TB := TB_of 845 (by decide +kernel) (by decide +kernel)
theorem lXL_176 : Cond.methodLink R_law 176 yX6_status ∈ TB := TB_of 849 (by decide +kernel) (by decide +kernel)
theorem clXL_10 : Cond.classLink R_law 10 RX7 ∈ TB := TB_of 857 (by decide +kernel) (by decide +kernel)
theorem lXL_12 : Cond.methodLink R_law 12 yX7_init ∈ TB := TB_of 859 (by decide +kernel) (by decide +kernel)
theorem lXL_17 : Cond.methodLink R_law 17 yX7_row ∈ TB := TB_of 1014 (by decide +kernel) (by decide +kernel)
theorem lXL_24 : Cond.methodLink R_law 24 yX7_set ∈ TB := TB_of 1026 (by decide +kernel) (by decide +kernel)
theorem lXL_29 : Cond.methodLink R_law 29 yX7_copy ∈ TB := TB_of 1030 (by decide +kernel) (by decide +kernel)
theorem lXL_34 : Cond.methodLink R_law 34 yX7_element ∈ TB := TB_of 1034 (by decide +kernel) (by decide +kernel)
theorem lXL_39 : Cond.methodLink R_law 39 yX7_show ∈ TB := TB_of 1038 (by decide +kernel) (by decide +kernel)
theorem lXL_44 : Cond.methodLink R_law 44 yX7_holds ∈ TB := TB_of 1046 (by decide +kernel) (by decide +kernel)
theorem lXL_48 : Cond.methodLink R_law 48 yX7_says ∈ TB := TB_of 1050 (by decide +kernel) (by decide +kernel)
theorem lXL_53 : Cond.methodLink R_law 53 yX7_person ∈ TB := TB_of 1058 (by decide +kernel) (by decide +kernel)
theorem lXL_57 : Cond.methodLink R_law 57 yX7_friend ∈ TB := TB_of 1070 (by decide +kernel) (by decide +kernel)
theorem lXL_61 : Cond.methodLink R_law 61 yX7_ask ∈ TB := TB_of 1078 (by decide +kernel) (by decide +kernel)
theorem lXL_66 : Cond.methodLink R_law 66 yX7_go ∈ TB := TB_of 1090 (by decide +kernel) (by decide +kernel)
theorem lXL_70 : Cond.methodLink R_law 70 yX7_personOf ∈ TB := TB_of 1094 (by decide +kernel) (by decide +kernel)
theorem lXL_74 : Cond.methodLink R_law 74 yX7_school ∈ TB := TB_of 1098 (by decide +kernel) (by decide +kernel)
theorem lXL_79 : Cond.methodLink R_law 79 yX7_fault ∈ TB := TB_of 1146 (by decide +kernel) (by decide +kernel)
theorem lXL_83 : Cond.methodLink R_law 83 yX7_will ∈ TB := TB_of 1150 (by decide +kernel) (by decide +kernel)
theorem lXL_87 : Cond.methodLink R_law 87 yX7_tonight ∈ TB := TB_of 1158 (by decide +kernel) (by decide +kernel)
theorem lXL_91 : Cond.methodLink R_law 91 yX7_ahead ∈ TB := TB_of 1170 (by decide +kernel) (by decide +kernel)
theorem lXL_95 : Cond.methodLink R_law 95 yX7_worst ∈ TB := TB_of 1190 (by decide +kernel) (by decide +kernel)
theorem lXL_99 : Cond.methodLink R_law 99 yX7_ones ∈ TB := TB_of 1194 (by decide +kernel) (by decide +kernel)
theorem lXL_123 : Cond.methodLink R_law 123 yX7_lost ∈ TB := TB_of 1198 (by decide +kernel) (by decide +kernel)
theorem lXL_103 : Cond.methodLink R_law 103 yX7_ring ∈ TB := TB_of 1202 (by decide +kernel) (by decide +kernel)
theorem lXL_107 : Cond.methodLink R_law 107 yX7_begin ∈ TB := TB_of 1210 (by decide +kernel) (by decide +kernel)
theorem lXL_111 : Cond.methodLink R_law 111 yX7_room ∈ TB := TB_of 1214 (by decide +kernel) (by decide +kernel)
theorem lXL_115 : Cond.methodLink R_law 115 yX7_take ∈ TB := TB_of 1218 (by decide +kernel) (by decide +kernel)
theorem lXL_119 : Cond.methodLink R_law 119 yX7_price ∈ TB := TB_of 1222 (by decide +kernel) (by decide +kernel)
theorem lXL_135 : Cond.methodLink R_law 135 yX7_keeps ∈ TB := TB_of 1230 (by decide +kernel) (by decide +kernel)
theorem lXL_139 : Cond.methodLink R_law 139 yX7_keep ∈ TB := TB_of 1238 (by decide +kernel) (by decide +kernel)
theorem lXL_127 : Cond.methodLink R_law 127 yX7_pairs ∈ TB := TB_of 1242 (by decide +kernel) (by decide +kernel)
theorem lXL_131 : Cond.methodLink R_law 131 yX7_chain ∈ TB := TB_of 1246 (by decide +kernel) (by decide +kernel)
theorem lXL_143 : Cond.methodLink R_law 143 yX7_friends ∈ TB := TB_of 1250 (by decide +kernel) (by decide +kernel)
theorem lXL_147 : Cond.methodLink R_law 147 yX7_judge ∈ TB := TB_of 1266 (by decide +kernel) (by decide +kernel)
theorem lXL_151 : Cond.methodLink R_law 151 yX7_evenings ∈ TB := TB_of 1270 (by decide +kernel) (by decide +kernel)
theorem lXL_155 : Cond.methodLink R_law 155 yX7_drawn ∈ TB := TB_of 1274 (by decide +kernel) (by decide +kernel)
theorem lXL_159 : Cond.methodLink R_law 159 yX7_seed ∈ TB := TB_of 1283 (by decide +kernel) (by decide +kernel)
theorem lXL_163 : Cond.methodLink R_law 163 yX7_act ∈ TB := TB_of 1287 (by decide +kernel) (by decide +kernel)
theorem lXL_167 : Cond.methodLink R_law 167 yX7_trace ∈ TB := TB_of 1307 (by decide +kernel) (by decide +kernel)
theorem lXL_171 : Cond.methodLink R_law 171 yX7_image ∈ TB := TB_of 1311 (by decide +kernel) (by decide +kernel)
theorem lXL_175 : Cond.methodLink R_law 175 yX7_restore ∈ TB := TB_of 1315 (by decide +kernel) (by decide +kernel)
theorem lXL_179 : Cond.methodLink R_law 179 yX7_status ∈ TB := TB_of 1319 (by decide +kernel) (by decide +kernel)
theorem qXL_18 : Cond.constantLong R_law 18 (4294967295 : Int64) ∈ TB := TB_of 1327 (by decide +kernel) (by decide +kernel)
theorem ixL (i k : Nat) : nI (6 * i) + nI k = nI (6 * i + k) := nI_add _ _
theorem lgc_self (x : Int64) : lg_cmp x x = 0 := (lg_cmp_eq x x).mpr rfl
