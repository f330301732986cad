theorem d_lw_law_194 : decode code 194 = .ok (.iaload, 1) := by decide +kernel
theorem d_lw_law_195 : decode code 195 = .ok (.i2l, 1) := by decide +kernel
theorem d_lw_law_196 : decode code 196 = .ok (.bipush 32, 2) := by decide +kernel
theorem d_lw_law_198 : decode code 198 = .ok (.lshl, 1) := by decide +kernel
theorem d_lw_law_199 : decode code 199 = .ok (.aload_n 0, 1) := by decide +kernel
theorem d_lw_law_200 : decode code 200 = .ok (.iload_n 3, 1) := by decide +kernel
theorem d_lw_law_201 : decode code 201 = .ok (.iconst 3, 1) := by decide +kernel
theorem d_lw_law_202 : decode code 202 = .ok (.iadd, 1) := by decide +kernel
theorem d_lw_law_203 : decode code 203 = .ok (.iaload, 1) := by decide +kernel
theorem d_lw_law_204 : decode code 204 = .ok (.i2l, 1) := by decide +kernel
theorem d_lw_law_205 : decode code 205 = .ok (.ldc2_w 23, 3) := by decide +kernel
theorem d_lw_law_208 : decode code 208 = .ok (.land, 1) := by decide +kernel
theorem d_lw_law_209 : decode code 209 = .ok (.lor, 1) := by decide +kernel
theorem d_lw_law_210 : decode code 210 = .ok (.invokevirtual 25, 3) := by decide +kernel
theorem d_lw_law_213 : decode code 213 = .ok (.aload_n 2, 1) := by decide +kernel
theorem d_lw_law_214 : decode code 214 = .ok (.aload_n 0, 1) := by decide +kernel
theorem d_lw_law_215 : decode code 215 = .ok (.iload_n 3, 1) := by decide +kernel
theorem d_lw_law_216 : decode code 216 = .ok (.iconst 1, 1) := by decide +kernel
theorem d_lw_law_217 : decode code 217 = .ok (.iadd, 1) := by decide +kernel
theorem d_lw_law_218 : decode code 218 = .ok (.iaload, 1) := by decide +kernel
theorem d_lw_law_219 : decode code 219 = .ok (.aload_n 0, 1) := by decide +kernel
theorem d_lw_law_220 : decode code 220 = .ok (.iload_n 3, 1) := by decide +kernel
theorem d_lw_law_221 : decode code 221 = .ok (.iconst 2, 1) := by decide +kernel
theorem d_lw_law_222 : decode code 222 = .ok (.iadd, 1) := by decide +kernel
theorem d_lw_law_223 : decode code 223 = .ok (.iaload, 1) := by decide +kernel
theorem d_lw_law_224 : decode code 224 = .ok (.i2l, 1) := by decide +kernel
theorem d_lw_law_225 : decode code 225 = .ok (.bipush 32, 2) := by decide +kernel
theorem d_lw_law_227 : decode code 227 = .ok (.lshl, 1) := by decide +kernel
theorem d_lw_law_228 : decode code 228 = .ok (.aload_n 0, 1) := by decide +kernel
theorem d_lw_law_229 : decode code 229 = .ok (.iload_n 3, 1) := by decide +kernel
theorem d_lw_law_230 : decode code 230 = .ok (.iconst 3, 1) := by decide +kernel
theorem d_lw_law_231 : decode code 231 = .ok (.iadd, 1) := by decide +kernel
theorem d_lw_law_232 : decode code 232 = .ok (.iaload, 1) := by decide +kernel
theorem d_lw_law_233 : decode code 233 = .ok (.i2l, 1) := by decide +kernel
theorem d_lw_law_234 : decode code 234 = .ok (.ldc2_w 23, 3) := by decide +kernel
theorem d_lw_law_237 : decode code 237 = .ok (.land, 1) := by decide +kernel
theorem d_lw_law_238 : decode code 238 = .ok (.lor, 1) := by decide +kernel
theorem d_lw_law_239 : decode code 239 = .ok (.invokevirtual 29, 3) := by decide +kernel
theorem d_lw_law_242 : decode code 242 = .ok (.if_icmp .eq 379, 3) := by decide +kernel
theorem d_lw_law_245 : decode code 245 = .ok (.iconst 0, 1) := by decide +kernel
theorem d_lw_law_246 : decode code 246 = .ok (.ireturn, 1) := by decide +kernel
theorem d_lw_law_247 : decode code 247 = .ok (.aload_n 1, 1) := by decide +kernel
theorem d_lw_law_248 : decode code 248 = .ok (.aload_n 0, 1) := by decide +kernel
theorem d_lw_law_249 : decode code 249 = .ok (.iload_n 3, 1) := by decide +kernel
theorem d_lw_law_250 : decode code 250 = .ok (.iconst 1, 1) := by decide +kernel
theorem d_lw_law_251 : decode code 251 = .ok (.iadd, 1) := by decide +kernel
theorem d_lw_law_252 : decode code 252 = .ok (.iaload, 1) := by decide +kernel
theorem d_lw_law_253 : decode code 253 = .ok (.aload_n 0, 1) := by decide +kernel
theorem d_lw_law_254 : decode code 254 = .ok (.iload_n 3, 1) := by decide +kernel
theorem d_lw_law_255 : decode code 255 = .ok (.iconst 2, 1) := by decide +kernel
theorem d_lw_law_256 : decode code 256 = .ok (.iadd, 1) := by decide +kernel
theorem d_lw_law_257 : decode code 257 = .ok (.iaload, 1) := by decide +kernel
theorem d_lw_law_258 : decode code 258 = .ok (.aload_n 0, 1) := by decide +kernel
theorem d_lw_law_259 : decode code 259 = .ok (.iload_n 3, 1) := by decide +kernel
theorem d_lw_law_260 : decode code 260 = .ok (.iconst 3, 1) := by decide +kernel
theorem d_lw_law_261 : decode code 261 = .ok (.iadd, 1) := by decide +kernel
theorem d_lw_law_262 : decode code 262 = .ok (.iaload, 1) := by decide +kernel
theorem d_lw_law_263 : decode code 263 = .ok (.aload_n 0, 1) := by decide +kernel
theorem d_lw_law_264 : decode code 264 = .ok (.iload_n 3, 1) := by decide +kernel
theorem d_lw_law_265 : decode code 265 = .ok (.iconst 4, 1) := by decide +kernel
theorem d_lw_law_266 : decode code 266 = .ok (.iadd, 1) := by decide +kernel
theorem d_lw_law_267 : decode code 267 = .ok (.iaload, 1) := by decide +kernel
theorem d_lw_law_268 : decode code 268 = .ok (.invokevirtual 30, 3) := by decide +kernel
theorem d_lw_law_271 : decode code 271 = .ok (.aload_n 2, 1) := by decide +kernel
theorem d_lw_law_272 : decode code 272 = .ok (.aload_n 0, 1) := by decide +kernel
theorem d_lw_law_273 : decode code 273 = .ok (.iload_n 3, 1) := by decide +kernel
theorem d_lw_law_274 : decode code 274 = .ok (.iconst 1, 1) := by decide +kernel
theorem d_lw_law_275 : decode code 275 = .ok (.iadd, 1) := by decide +kernel
theorem d_lw_law_276 : decode code 276 = .ok (.iaload, 1) := by decide +kernel
theorem d_lw_law_277 : decode code 277 = .ok (.aload_n 0, 1) := by decide +kernel
theorem d_lw_law_278 : decode code 278 = .ok (.iload_n 3, 1) := by decide +kernel
theorem d_lw_law_279 : decode code 279 = .ok (.iconst 2, 1) := by decide +kernel
theorem d_lw_law_280 : decode code 280 = .ok (.iadd, 1) := by decide +kernel
theorem d_lw_law_281 : decode code 281 = .ok (.iaload, 1) := by decide +kernel
theorem d_lw_law_282 : decode code 282 = .ok (.aload_n 0, 1) := by decide +kernel
theorem d_lw_law_283 : decode code 283 = .ok (.iload_n 3, 1) := by decide +kernel
theorem d_lw_law_284 : decode code 284 = .ok (.iconst 3, 1) := by decide +kernel
theorem d_lw_law_285 : decode code 285 = .ok (.iadd, 1) := by decide +kernel
theorem d_lw_law_286 : decode code 286 = .ok (.iaload, 1) := by decide +kernel
theorem d_lw_law_287 : decode code 287 = .ok (.aload_n 0, 1) := by decide +kernel
theorem d_lw_law_288 : decode code 288 = .ok (.iload_n 3, 1) := by decide +kernel
theorem d_lw_law_289 : decode code 289 = .ok (.iconst 4, 1) := by decide +kernel
theorem d_lw_law_290 : decode code 290 = .ok (.iadd, 1) := by decide +kernel
theorem d_lw_law_291 : decode code 291 = .ok (.iaload, 1) := by decide +kernel
theorem d_lw_law_292 : decode code 292 = .ok (.invokevirtual 34, 3) := by decide +kernel
theorem d_lw_law_295 : decode code 295 = .ok (.if_icmp .eq 326, 3) := by decide +kernel
theorem d_lw_law_298 : decode code 298 = .ok (.iconst 0, 1) := by decide +kernel
theorem d_lw_law_299 : decode code 299 = .ok (.ireturn, 1) := by decide +kernel
theorem d_lw_law_300 : decode code 300 = .ok (.aload_n 1, 1) := by decide +kernel
theorem d_lw_law_301 : decode code 301 = .ok (.aload_n 0, 1) := by decide +kernel
theorem d_lw_law_302 : decode code 302 = .ok (.iload_n 3, 1) := by decide +kernel
theorem d_lw_law_303 : decode code 303 = .ok (.iconst 1, 1) := by decide +kernel
theorem d_lw_law_304 : decode code 304 = .ok (.iadd, 1) := by decide +kernel
theorem d_lw_law_305 : decode code 305 = .ok (.iaload, 1) := by decide +kernel
theorem d_lw_law_306 : decode code 306 = .ok (.aload_n 0, 1) := by decide +kernel
theorem d_lw_law_307 : decode code 307 = .ok (.iload_n 3, 1) := by decide +kernel
theorem d_lw_law_308 : decode code 308 = .ok (.iconst 2, 1) := by decide +kernel
theorem d_lw_law_309 : decode code 309 = .ok (.iadd, 1) := by decide +kernel
theorem d_lw_law_310 : decode code 310 = .ok (.iaload, 1) := by decide +kernel
theorem d_lw_law_311 : decode code 311 = .ok (.aload_n 0, 1) := by decide +kernel
theorem d_lw_law_312 : decode code 312 = .ok (.iload_n 3, 1) := by decide +kernel
theorem d_lw_law_313 : decode code 313 = .ok (.iconst 3, 1) := by decide +kernel
theorem d_lw_law_314 : decode code 314 = .ok (.iadd, 1) := by decide +kernel
theorem d_lw_law_315 : decode code 315 = .ok (.iaload, 1) := by decide +kernel
theorem d_lw_law_316 : decode code 316 = .ok (.invokevirtual 35, 3) := by decide +kernel
theorem d_lw_law_319 : decode code 319 = .ok (.aload_n 2, 1) := by decide +kernel
theorem d_lw_law_320 : decode code 320 = .ok (.aload_n 0, 1) := by decide +kernel
theorem d_lw_law_321 : decode code 321 = .ok (.iload_n 3, 1) := by decide +kernel
theorem d_lw_law_322 : decode code 322 = .ok (.iconst 1, 1) := by decide +kernel
theorem d_lw_law_323 : decode code 323 = .ok (.iadd, 1) := by decide +kernel
theorem d_lw_law_324 : decode code 324 = .ok (.iaload, 1) := by decide +kernel
theorem d_lw_law_325 : decode code 325 = .ok (.aload_n 0, 1) := by decide +kernel
theorem d_lw_law_326 : decode code 326 = .ok (.iload_n 3, 1) := by decide +kernel
theorem d_lw_law_327 : decode code 327 = .ok (.iconst 2, 1) := by decide +kernel
theorem d_lw_law_328 : decode code 328 = .ok (.iadd, 1) := by decide +kernel
theorem d_lw_law_329 : decode code 329 = .ok (.iaload, 1) := by decide +kernel
theorem d_lw_law_330 : decode code 330 = .ok (.aload_n 0, 1) := by decide +kernel
theorem d_lw_law_331 : decode code 331 = .ok (.iload_n 3, 1) := by decide +kernel
theorem d_lw_law_332 : decode code 332 = .ok (.iconst 3, 1) := by decide +kernel
theorem d_lw_law_333 : decode code 333 = .ok (.iadd, 1) := by decide +kernel
theorem d_lw_law_334 : decode code 334 = .ok (.iaload, 1) := by decide +kernel
theorem d_lw_law_335 : decode code 335 = .ok (.invokevirtual 39, 3) := by decide +kernel
theorem d_lw_law_338 : decode code 338 = .ok (.if_icmp .eq 283, 3) := by decide +kernel
theorem d_lw_law_341 : decode code 341 = .ok (.iconst 0, 1) := by decide +kernel
theorem d_lw_law_342 : decode code 342 = .ok (.ireturn, 1) := by decide +kernel
theorem d_lw_law_343 : decode code 343 = .ok (.aload_n 1, 1) := by decide +kernel
theorem d_lw_law_344 : decode code 344 = .ok (.aload_n 0, 1) := by decide +kernel
theorem d_lw_law_345 : decode code 345 = .ok (.iload_n 3, 1) := by decide +kernel
theorem d_lw_law_346 : decode code 346 = .ok (.iconst 1, 1) := by decide +kernel
theorem d_lw_law_347 : decode code 347 = .ok (.iadd, 1) := by decide +kernel
theorem d_lw_law_348 : decode code 348 = .ok (.iaload, 1) := by decide +kernel
theorem d_lw_law_349 : decode code 349 = .ok (.aload_n 0, 1) := by decide +kernel
theorem d_lw_law_350 : decode code 350 = .ok (.iload_n 3, 1) := by decide +kernel
theorem d_lw_law_351 : decode code 351 = .ok (.iconst 2, 1) := by decide +kernel
theorem d_lw_law_352 : decode code 352 = .ok (.iadd, 1) := by decide +kernel
theorem d_lw_law_353 : decode code 353 = .ok (.iaload, 1) := by decide +kernel
theorem d_lw_law_354 : decode code 354 = .ok (.invokevirtual 40, 3) := by decide +kernel
theorem d_lw_law_357 : decode code 357 = .ok (.aload_n 2, 1) := by decide +kernel
theorem d_lw_law_358 : decode code 358 = .ok (.aload_n 0, 1) := by decide +kernel
theorem d_lw_law_359 : decode code 359 = .ok (.iload_n 3, 1) := by decide +kernel
theorem d_lw_law_360 : decode code 360 = .ok (.iconst 1, 1) := by decide +kernel
theorem d_lw_law_361 : decode code 361 = .ok (.iadd, 1) := by decide +kernel
theorem d_lw_law_362 : decode code 362 = .ok (.iaload, 1) := by decide +kernel
theorem d_lw_law_363 : decode code 363 = .ok (.aload_n 0, 1) := by decide +kernel
theorem d_lw_law_364 : decode code 364 = .ok (.iload_n 3, 1) := by decide +kernel
theorem d_lw_law_365 : decode code 365 = .ok (.iconst 2, 1) := by decide +kernel
theorem d_lw_law_366 : decode code 366 = .ok (.iadd, 1) := by decide +kernel
theorem d_lw_law_367 : decode code 367 = .ok (.iaload, 1) := by decide +kernel
theorem d_lw_law_368 : decode code 368 = .ok (.invokevirtual 44, 3) := by decide +kernel
theorem d_lw_law_371 : decode code 371 = .ok (.if_icmp .eq 250, 3) := by decide +kernel
theorem d_lw_law_374 : decode code 374 = .ok (.iconst 0, 1) := by decide +kernel
theorem d_lw_law_375 : decode code 375 = .ok (.ireturn, 1) := by decide +kernel
theorem d_lw_law_376 : decode code 376 = .ok (.aload_n 1, 1) := by decide +kernel
theorem d_lw_law_377 : decode code 377 = .ok (.aload_n 0, 1) := by decide +kernel
theorem d_lw_law_378 : decode code 378 = .ok (.iload_n 3, 1) := by decide +kernel
theorem d_lw_law_379 : decode code 379 = .ok (.iconst 1, 1) := by decide +kernel
theorem d_lw_law_380 : decode code 380 = .ok (.iadd, 1) := by decide +kernel
theorem d_lw_law_381 : decode code 381 = .ok (.iaload, 1) := by decide +kernel
theorem d_lw_law_382 : decode code 382 = .ok (.aload_n 0, 1) := by decide +kernel
theorem d_lw_law_383 : decode code 383 = .ok (.iload_n 3, 1) := by decide +kernel
theorem d_lw_law_384 : decode code 384 = .ok (.iconst 2, 1) := by decide +kernel
theorem d_lw_law_385 : decode code 385 = .ok (.iadd, 1) := by decide +kernel
theorem d_lw_law_386 : decode code 386 = .ok (.iaload, 1) := by decide +kernel
theorem d_lw_law_387 : decode code 387 = .ok (.aload_n 0, 1) := by decide +kernel
theorem d_lw_law_388 : decode code 388 = .ok (.iload_n 3, 1) := by decide +kernel
theorem d_lw_law_389 : decode code 389 = .ok (.iconst 3, 1) := by decide +kernel
theorem d_lw_law_390 : decode code 390 = .ok (.iadd, 1) := by decide +kernel
theorem d_lw_law_391 : decode code 391 = .ok (.iaload, 1) := by decide +kernel
theorem d_lw_law_392 : decode code 392 = .ok (.ifCond .eq 7, 3) := by decide +kernel
theorem d_lw_law_395 : decode code 395 = .ok (.iconst 1, 1) := by decide +kernel
theorem d_lw_law_396 : decode code 396 = .ok (.goto 4, 3) := by decide +kernel
theorem d_lw_law_399 : decode code 399 = .ok (.iconst 0, 1) := by decide +kernel
theorem d_lw_law_400 : decode code 400 = .ok (.invokevirtual 45, 3) := by decide +kernel
theorem d_lw_law_403 : decode code 403 = .ok (.aload_n 2, 1) := by decide +kernel
theorem d_lw_law_404 : decode code 404 = .ok (.aload_n 0, 1) := by decide +kernel
theorem d_lw_law_405 : decode code 405 = .ok (.iload_n 3, 1) := by decide +kernel
theorem d_lw_law_406 : decode code 406 = .ok (.iconst 1, 1) := by decide +kernel
theorem d_lw_law_407 : decode code 407 = .ok (.iadd, 1) := by decide +kernel
theorem d_lw_law_408 : decode code 408 = .ok (.iaload, 1) := by decide +kernel
theorem d_lw_law_409 : decode code 409 = .ok (.aload_n 0, 1) := by decide +kernel
theorem d_lw_law_410 : decode code 410 = .ok (.iload_n 3, 1) := by decide +kernel
theorem d_lw_law_411 : decode code 411 = .ok (.iconst 2, 1) := by decide +kernel
theorem d_lw_law_412 : decode code 412 = .ok (.iadd, 1) := by decide +kernel
theorem d_lw_law_413 : decode code 413 = .ok (.iaload, 1) := by decide +kernel
theorem d_lw_law_414 : decode code 414 = .ok (.aload_n 0, 1) := by decide +kernel
theorem d_lw_law_415 : decode code 415 = .ok (.iload_n 3, 1) := by decide +kernel
theorem d_lw_law_416 : decode code 416 = .ok (.iconst 3, 1) := by decide +kernel
theorem d_lw_law_417 : decode code 417 = .ok (.iadd, 1) := by decide +kernel
theorem d_lw_law_418 : decode code 418 = .ok (.iaload, 1) := by decide +kernel
theorem d_lw_law_419 : decode code 419 = .ok (.ifCond .eq 7, 3) := by decide +kernel
theorem d_lw_law_422 : decode code 422 = .ok (.iconst 1, 1) := by decide +kernel
theorem d_lw_law_423 : decode code 423 = .ok (.goto 4, 3) := by decide +kernel
theorem d_lw_law_426 : decode code 426 = .ok (.iconst 0, 1) := by decide +kernel
theorem d_lw_law_427 : decode code 427 = .ok (.invokevirtual 49, 3) := by decide +kernel
theorem d_lw_law_430 : decode code 430 = .ok (.if_icmp .eq 191, 3) := by decide +kernel
theorem d_lw_law_433 : decode code 433 = .ok (.iconst 0, 1) := by decide +kernel
theorem d_lw_law_434 : decode code 434 = .ok (.ireturn, 1) := by decide +kernel
theorem d_lw_law_435 : decode code 435 = .ok (.aload_n 1, 1) := by decide +kernel
theorem d_lw_law_436 : decode code 436 = .ok (.aload_n 0, 1) := by decide +kernel
theorem d_lw_law_437 : decode code 437 = .ok (.iload_n 3, 1) := by decide +kernel
theorem d_lw_law_438 : decode code 438 = .ok (.iconst 1, 1) := by decide +kernel
theorem d_lw_law_439 : decode code 439 = .ok (.iadd, 1) := by decide +kernel
theorem d_lw_law_440 : decode code 440 = .ok (.iaload, 1) := by decide +kernel
theorem d_lw_law_441 : decode code 441 = .ok (.aload_n 0, 1) := by decide +kernel
theorem d_lw_law_442 : decode code 442 = .ok (.iload_n 3, 1) := by decide +kernel
theorem d_lw_law_443 : decode code 443 = .ok (.iconst 2, 1) := by decide +kernel
theorem d_lw_law_444 : decode code 444 = .ok (.iadd, 1) := by decide +kernel
theorem d_lw_law_445 : decode code 445 = .ok (.iaload, 1) := by decide +kernel
theorem d_lw_law_446 : decode code 446 = .ok (.invokevirtual 50, 3) := by decide +kernel
theorem d_lw_law_449 : decode code 449 = .ok (.aload_n 2, 1) := by decide +kernel
theorem d_lw_law_450 : decode code 450 = .ok (.aload_n 0, 1) := by decide +kernel
theorem d_lw_law_451 : decode code 451 = .ok (.iload_n 3, 1) := by decide +kernel
theorem d_lw_law_452 : decode code 452 = .ok (.iconst 1, 1) := by decide +kernel
theorem d_lw_law_453 : decode code 453 = .ok (.iadd, 1) := by decide +kernel
theorem d_lw_law_454 : decode code 454 = .ok (.iaload, 1) := by decide +kernel
theorem d_lw_law_455 : decode code 455 = .ok (.aload_n 0, 1) := by decide +kernel
theorem d_lw_law_456 : decode code 456 = .ok (.iload_n 3, 1) := by decide +kernel
theorem d_lw_law_457 : decode code 457 = .ok (.iconst 2, 1) := by decide +kernel
theorem d_lw_law_458 : decode code 458 = .ok (.iadd, 1) := by decide +kernel
theorem d_lw_law_459 : decode code 459 = .ok (.iaload, 1) := by decide +kernel
theorem d_lw_law_460 : decode code 460 = .ok (.invokevirtual 53, 3) := by decide +kernel
theorem d_lw_law_463 : decode code 463 = .ok (.if_icmp .eq 158, 3) := by decide +kernel
theorem d_lw_law_466 : decode code 466 = .ok (.iconst 0, 1) := by decide +kernel
theorem d_lw_law_467 : decode code 467 = .ok (.ireturn, 1) := by decide +kernel
theorem d_lw_law_468 : decode code 468 = .ok (.aload_n 1, 1) := by decide +kernel
theorem d_lw_law_469 : decode code 469 = .ok (.invokevirtual 54, 3) := by decide +kernel
theorem d_lw_law_472 : decode code 472 = .ok (.aload_n 2, 1) := by decide +kernel
theorem d_lw_law_473 : decode code 473 = .ok (.invokevirtual 58, 3) := by decide +kernel
theorem d_lw_law_476 : decode code 476 = .ok (.if_icmp .eq 145, 3) := by decide +kernel
theorem d_lw_law_479 : decode code 479 = .ok (.iconst 0, 1) := by decide +kernel
theorem d_lw_law_480 : decode code 480 = .ok (.ireturn, 1) := by decide +kernel
theorem d_lw_law_481 : decode code 481 = .ok (.aload_n 1, 1) := by decide +kernel
theorem d_lw_law_482 : decode code 482 = .ok (.invokevirtual 59, 3) := by decide +kernel
theorem d_lw_law_485 : decode code 485 = .ok (.aload_n 2, 1) := by decide +kernel
theorem d_lw_law_486 : decode code 486 = .ok (.invokevirtual 63, 3) := by decide +kernel
theorem d_lw_law_489 : decode code 489 = .ok (.lcmp, 1) := by decide +kernel
theorem d_lw_law_490 : decode code 490 = .ok (.ifCond .eq 131, 3) := by decide +kernel
theorem d_lw_law_493 : decode code 493 = .ok (.iconst 0, 1) := by decide +kernel
theorem d_lw_law_494 : decode code 494 = .ok (.ireturn, 1) := by decide +kernel
theorem d_lw_law_495 : decode code 495 = .ok (.aload_n 1, 1) := by decide +kernel
theorem d_lw_law_496 : decode code 496 = .ok (.aload_n 0, 1) := by decide +kernel
theorem d_lw_law_497 : decode code 497 = .ok (.iload_n 3, 1) := by decide +kernel
theorem d_lw_law_498 : decode code 498 = .ok (.iconst 1, 1) := by decide +kernel
theorem d_lw_law_499 : decode code 499 = .ok (.iadd, 1) := by decide +kernel
theorem d_lw_law_500 : decode code 500 = .ok (.iaload, 1) := by decide +kernel
theorem d_lw_law_501 : decode code 501 = .ok (.invokevirtual 64, 3) := by decide +kernel
theorem d_lw_law_504 : decode code 504 = .ok (.aload_n 2, 1) := by decide +kernel
theorem d_lw_law_505 : decode code 505 = .ok (.aload_n 0, 1) := by decide +kernel
theorem d_lw_law_506 : decode code 506 = .ok (.iload_n 3, 1) := by decide +kernel
theorem d_lw_law_507 : decode code 507 = .ok (.iconst 1, 1) := by decide +kernel
theorem d_lw_law_508 : decode code 508 = .ok (.iadd, 1) := by decide +kernel
theorem d_lw_law_509 : decode code 509 = .ok (.iaload, 1) := by decide +kernel
theorem d_lw_law_510 : decode code 510 = .ok (.invokevirtual 67, 3) := by decide +kernel
theorem d_lw_law_513 : decode code 513 = .ok (.if_icmp .eq 108, 3) := by decide +kernel
theorem d_lw_law_516 : decode code 516 = .ok (.iconst 0, 1) := by decide +kernel
theorem d_lw_law_517 : decode code 517 = .ok (.ireturn, 1) := by decide +kernel
theorem d_lw_law_518 : decode code 518 = .ok (.aload_n 1, 1) := by decide +kernel
theorem d_lw_law_519 : decode code 519 = .ok (.aload_n 0, 1) := by decide +kernel
theorem d_lw_law_520 : decode code 520 = .ok (.iload_n 3, 1) := by decide +kernel
theorem d_lw_law_521 : decode code 521 = .ok (.iconst 1, 1) := by decide +kernel
theorem d_lw_law_522 : decode code 522 = .ok (.iadd, 1) := by decide +kernel
theorem d_lw_law_523 : decode code 523 = .ok (.iaload, 1) := by decide +kernel
theorem d_lw_law_524 : decode code 524 = .ok (.aload_n 0, 1) := by decide +kernel
theorem d_lw_law_525 : decode code 525 = .ok (.iload_n 3, 1) := by decide +kernel
theorem d_lw_law_526 : decode code 526 = .ok (.iconst 2, 1) := by decide +kernel
theorem d_lw_law_527 : decode code 527 = .ok (.iadd, 1) := by decide +kernel
theorem d_lw_law_528 : decode code 528 = .ok (.iaload, 1) := by decide +kernel
theorem d_lw_law_529 : decode code 529 = .ok (.invokevirtual 68, 3) := by decide +kernel
theorem d_lw_law_532 : decode code 532 = .ok (.aload_n 2, 1) := by decide +kernel
theorem d_lw_law_533 : decode code 533 = .ok (.aload_n 0, 1) := by decide +kernel
theorem d_lw_law_534 : decode code 534 = .ok (.iload_n 3, 1) := by decide +kernel
theorem d_lw_law_535 : decode code 535 = .ok (.iconst 1, 1) := by decide +kernel
theorem d_lw_law_536 : decode code 536 = .ok (.iadd, 1) := by decide +kernel
theorem d_lw_law_537 : decode code 537 = .ok (.iaload, 1) := by decide +kernel
theorem d_lw_law_538 : decode code 538 = .ok (.aload_n 0, 1) := by decide +kernel
theorem d_lw_law_539 : decode code 539 = .ok (.iload_n 3, 1) := by decide +kernel
theorem d_lw_law_540 : decode code 540 = .ok (.iconst 2, 1) := by decide +kernel
theorem d_lw_law_541 : decode code 541 = .ok (.iadd, 1) := by decide +kernel
theorem d_lw_law_542 : decode code 542 = .ok (.iaload, 1) := by decide +kernel
theorem d_lw_law_543 : decode code 543 = .ok (.invokevirtual 72, 3) := by decide +kernel
theorem d_lw_law_546 : decode code 546 = .ok (.if_icmp .eq 75, 3) := by decide +kernel
theorem d_lw_law_549 : decode code 549 = .ok (.iconst 0, 1) := by decide +kernel
theorem d_lw_law_550 : decode code 550 = .ok (.ireturn, 1) := by decide +kernel
theorem d_lw_law_551 : decode code 551 = .ok (.aload_n 1, 1) := by decide +kernel
theorem d_lw_law_552 : decode code 552 = .ok (.aload_n 0, 1) := by decide +kernel
theorem d_lw_law_553 : decode code 553 = .ok (.iload_n 3, 1) := by decide +kernel
theorem d_lw_law_554 : decode code 554 = .ok (.iconst 1, 1) := by decide +kernel
theorem d_lw_law_555 : decode code 555 = .ok (.iadd, 1) := by decide +kernel
theorem d_lw_law_556 : decode code 556 = .ok (.iaload, 1) := by decide +kernel
theorem d_lw_law_557 : decode code 557 = .ok (.invokevirtual 73, 3) := by decide +kernel
theorem d_lw_law_560 : decode code 560 = .ok (.aload_n 2, 1) := by decide +kernel
theorem d_lw_law_561 : decode code 561 = .ok (.aload_n 0, 1) := by decide +kernel
theorem d_lw_law_562 : decode code 562 = .ok (.iload_n 3, 1) := by decide +kernel
theorem d_lw_law_563 : decode code 563 = .ok (.iconst 1, 1) := by decide +kernel
theorem d_lw_law_564 : decode code 564 = .ok (.iadd, 1) := by decide +kernel
theorem d_lw_law_565 : decode code 565 = .ok (.iaload, 1) := by decide +kernel
theorem d_lw_law_566 : decode code 566 = .ok (.invokevirtual 76, 3) := by decide +kernel
theorem d_lw_law_569 : decode code 569 = .ok (.if_icmp .eq 52, 3) := by decide +kernel
theorem d_lw_law_572 : decode code 572 = .ok (.iconst 0, 1) := by decide +kernel
theorem d_lw_law_573 : decode code 573 = .ok (.ireturn, 1) := by decide +kernel
theorem d_lw_law_574 : decode code 574 = .ok (.aload_n 1, 1) := by decide +kernel
theorem d_lw_law_575 : decode code 575 = .ok (.aload_n 0, 1) := by decide +kernel
theorem d_lw_law_576 : decode code 576 = .ok (.iload_n 3, 1) := by decide +kernel
theorem d_lw_law_577 : decode code 577 = .ok (.iconst 1, 1) := by decide +kernel
theorem d_lw_law_578 : decode code 578 = .ok (.iadd, 1) := by decide +kernel
theorem d_lw_law_579 : decode code 579 = .ok (.iaload, 1) := by decide +kernel
theorem d_lw_law_580 : decode code 580 = .ok (.invokevirtual 77, 3) := by decide +kernel
theorem d_lw_law_583 : decode code 583 = .ok (.aload_n 2, 1) := by decide +kernel
theorem d_lw_law_584 : decode code 584 = .ok (.aload_n 0, 1) := by decide +kernel
theorem d_lw_law_585 : decode code 585 = .ok (.iload_n 3, 1) := by decide +kernel
theorem d_lw_law_586 : decode code 586 = .ok (.iconst 1, 1) := by decide +kernel
theorem d_lw_law_587 : decode code 587 = .ok (.iadd, 1) := by decide +kernel
theorem d_lw_law_588 : decode code 588 = .ok (.iaload, 1) := by decide +kernel
theorem d_lw_law_589 : decode code 589 = .ok (.invokevirtual 80, 3) := by decide +kernel
theorem d_lw_law_592 : decode code 592 = .ok (.if_icmp .eq 29, 3) := by decide +kernel
theorem d_lw_law_595 : decode code 595 = .ok (.iconst 0, 1) := by decide +kernel
theorem d_lw_law_596 : decode code 596 = .ok (.ireturn, 1) := by decide +kernel
theorem d_lw_law_597 : decode code 597 = .ok (.aload_n 1, 1) := by decide +kernel
theorem d_lw_law_598 : decode code 598 = .ok (.aload_n 0, 1) := by decide +kernel
theorem d_lw_law_599 : decode code 599 = .ok (.iload_n 3, 1) := by decide +kernel
theorem d_lw_law_600 : decode code 600 = .ok (.iconst 1, 1) := by decide +kernel
theorem d_lw_law_601 : decode code 601 = .ok (.iadd, 1) := by decide +kernel
theorem d_lw_law_602 : decode code 602 = .ok (.iaload, 1) := by decide +kernel
theorem d_lw_law_603 : decode code 603 = .ok (.invokevirtual 81, 3) := by decide +kernel
theorem d_lw_law_606 : decode code 606 = .ok (.aload_n 2, 1) := by decide +kernel
theorem d_lw_law_607 : decode code 607 = .ok (.aload_n 0, 1) := by decide +kernel
theorem d_lw_law_608 : decode code 608 = .ok (.iload_n 3, 1) := by decide +kernel
theorem d_lw_law_609 : decode code 609 = .ok (.iconst 1, 1) := by decide +kernel
theorem d_lw_law_610 : decode code 610 = .ok (.iadd, 1) := by decide +kernel
theorem d_lw_law_611 : decode code 611 = .ok (.iaload, 1) := by decide +kernel
theorem d_lw_law_612 : decode code 612 = .ok (.invokevirtual 85, 3) := by decide +kernel
theorem d_lw_law_615 : decode code 615 = .ok (.lcmp, 1) := by decide +kernel
theorem d_lw_law_616 : decode code 616 = .ok (.ifCond .eq 5, 3) := by decide +kernel
theorem d_lw_law_619 : decode code 619 = .ok (.iconst 0, 1) := by decide +kernel
theorem d_lw_law_620 : decode code 620 = .ok (.ireturn, 1) := by decide +kernel
theorem d_lw_law_621 : decode code 621 = .ok (.iinc 3 5, 3) := by decide +kernel
theorem d_lw_law_624 : decode code 624 = .ok (.goto (-606), 3) := by decide +kernel
theorem d_lw_law_627 : decode code 627 = .ok (.iconst 1, 1) := by decide +kernel
theorem d_lw_law_628 : decode code 628 = .ok (.ireturn, 1) := by decide +kernel
theorem d_ig_bitCount_0 : decode prog_8_method_49_code 0 = .ok (.iload_n 0, 1) := by decide +kernel
theorem d_ig_bitCount_1 : decode prog_8_method_49_code 1 = .ok (.iload_n 0, 1) := by decide +kernel
theorem d_ig_bitCount_2 : decode prog_8_method_49_code 2 = .ok (.iconst 1, 1) := by decide +kernel
theorem d_ig_bitCount_3 : decode prog_8_method_49_code 3 = .ok (.iushr, 1) := by decide +kernel
theorem d_ig_bitCount_4 : decode prog_8_method_49_code 4 = .ok (.ldc_w 265, 3) := by decide +kernel
theorem d_ig_bitCount_7 : decode prog_8_method_49_code 7 = .ok (.iand, 1) := by decide +kernel
theorem d_ig_bitCount_8 : decode prog_8_method_49_code 8 = .ok (.isub, 1) := by decide +kernel
theorem d_ig_bitCount_9 : decode prog_8_method_49_code 9 = .ok (.istore_n 0, 1) := by decide +kernel
theorem d_ig_bitCount_10 : decode prog_8_method_49_code 10 = .ok (.iload_n 0, 1) := by decide +kernel
theorem d_ig_bitCount_11 : decode prog_8_method_49_code 11 = .ok (.ldc_w 266, 3) := by decide +kernel
theorem d_ig_bitCount_14 : decode prog_8_method_49_code 14 = .ok (.iand, 1) := by decide +kernel
theorem d_ig_bitCount_15 : decode prog_8_method_49_code 15 = .ok (.iload_n 0, 1) := by decide +kernel
theorem d_ig_bitCount_16 : decode prog_8_method_49_code 16 = .ok (.iconst 2, 1) := by decide +kernel
theorem d_ig_bitCount_17 : decode prog_8_method_49_code 17 = .ok (.iushr, 1) := by decide +kernel
theorem d_ig_bitCount_18 : decode prog_8_method_49_code 18 = .ok (.ldc_w 266, 3) := by decide +kernel
theorem d_ig_bitCount_21 : decode prog_8_method_49_code 21 = .ok (.iand, 1) := by decide +kernel
theorem d_ig_bitCount_22 : decode prog_8_method_49_code 22 = .ok (.iadd, 1) := by decide +kernel
theorem d_ig_bitCount_23 : decode prog_8_method_49_code 23 = .ok (.istore_n 0, 1) := by decide +kernel
theorem d_ig_bitCount_24 : decode prog_8_method_49_code 24 = .ok (.iload_n 0, 1) := by decide +kernel
theorem d_ig_bitCount_25 : decode prog_8_method_49_code 25 = .ok (.iload_n 0, 1) := by decide +kernel
theorem d_ig_bitCount_26 : decode prog_8_method_49_code 26 = .ok (.iconst 4, 1) := by decide +kernel
theorem d_ig_bitCount_27 : decode prog_8_method_49_code 27 = .ok (.iushr, 1) := by decide +kernel
theorem d_ig_bitCount_28 : decode prog_8_method_49_code 28 = .ok (.iadd, 1) := by decide +kernel
theorem d_ig_bitCount_29 : decode prog_8_method_49_code 29 = .ok (.ldc_w 267, 3) := by decide +kernel
theorem d_ig_bitCount_32 : decode prog_8_method_49_code 32 = .ok (.iand, 1) := by decide +kernel
theorem d_ig_bitCount_33 : decode prog_8_method_49_code 33 = .ok (.istore_n 0, 1) := by decide +kernel
theorem d_ig_bitCount_34 : decode prog_8_method_49_code 34 = .ok (.iload_n 0, 1) := by decide +kernel
theorem d_ig_bitCount_35 : decode prog_8_method_49_code 35 = .ok (.iload_n 0, 1) := by decide +kernel
theorem d_ig_bitCount_36 : decode prog_8_method_49_code 36 = .ok (.bipush 8, 2) := by decide +kernel
theorem d_ig_bitCount_38 : decode prog_8_method_49_code 38 = .ok (.iushr, 1) := by decide +kernel
theorem d_ig_bitCount_39 : decode prog_8_method_49_code 39 = .ok (.iadd, 1) := by decide +kernel
theorem d_ig_bitCount_40 : decode prog_8_method_49_code 40 = .ok (.istore_n 0, 1) := by decide +kernel
theorem d_ig_bitCount_41 : decode prog_8_method_49_code 41 = .ok (.iload_n 0, 1) := by decide +kernel
theorem d_ig_bitCount_42 : decode prog_8_method_49_code 42 = .ok (.iload_n 0, 1) := by decide +kernel
theorem d_ig_bitCount_43 : decode prog_8_method_49_code 43 = .ok (.bipush 16, 2) := by decide +kernel
theorem d_ig_bitCount_45 : decode prog_8_method_49_code 45 = .ok (.iushr, 1) := by decide +kernel
theorem d_ig_bitCount_46 : decode prog_8_method_49_code 46 = .ok (.iadd, 1) := by decide +kernel
theorem d_ig_bitCount_47 : decode prog_8_method_49_code 47 = .ok (.istore_n 0, 1) := by decide +kernel
theorem d_ig_bitCount_48 : decode prog_8_method_49_code 48 = .ok (.iload_n 0, 1) := by decide +kernel
theorem d_ig_bitCount_49 : decode prog_8_method_49_code 49 = .ok (.bipush 63, 2) := by decide +kernel
theorem d_ig_bitCount_51 : decode prog_8_method_49_code 51 = .ok (.iand, 1) := by decide +kernel
theorem d_ig_bitCount_52 : decode prog_8_method_49_code 52 = .ok (.ireturn, 1) := by decide +kernel
theorem d_ar_fill_0 : decode prog_11_method_103_code 0 = .ok (.iconst 0, 1) := by decide +kernel
theorem d_ar_fill_1 : decode prog_11_method_103_code 1 = .ok (.istore_n 2, 1) := by decide +kernel
theorem d_ar_fill_2 : decode prog_11_method_103_code 2 = .ok (.aload_n 0, 1) := by decide +kernel
theorem d_ar_fill_3 : decode prog_11_method_103_code 3 = .ok (.arraylength, 1) := by decide +kernel
theorem d_ar_fill_4 : decode prog_11_method_103_code 4 = .ok (.istore_n 3, 1) := by decide +kernel
theorem d_ar_fill_5 : decode prog_11_method_103_code 5 = .ok (.iload_n 2, 1) := by decide +kernel
theorem d_ar_fill_6 : decode prog_11_method_103_code 6 = .ok (.iload_n 3, 1) := by decide +kernel
theorem d_ar_fill_7 : decode prog_11_method_103_code 7 = .ok (.if_icmp .ge 13, 3) := by decide +kernel
theorem d_ar_fill_10 : decode prog_11_method_103_code 10 = .ok (.aload_n 0, 1) := by decide +kernel
theorem d_ar_fill_11 : decode prog_11_method_103_code 11 = .ok (.iload_n 2, 1) := by decide +kernel
theorem d_ar_fill_12 : decode prog_11_method_103_code 12 = .ok (.iload_n 1, 1) := by decide +kernel
theorem d_ar_fill_13 : decode prog_11_method_103_code 13 = .ok (.iastore, 1) := by decide +kernel
theorem d_ar_fill_14 : decode prog_11_method_103_code 14 = .ok (.iinc 2 1, 3) := by decide +kernel
theorem d_ar_fill_17 : decode prog_11_method_103_code 17 = .ok (.goto (-12), 3) := by decide +kernel
theorem d_ar_fill_20 : decode prog_11_method_103_code 20 = .ok (.return_, 1) := by decide +kernel
