theorem d_LW_178 : decode code 178 = .ok (.ireturn, 1) := by decide +kernel
theorem d_LW_179 : decode code 179 = .ok (.aload_n 1, 1) := by decide +kernel
theorem d_LW_180 : decode code 180 = .ok (.invokevirtual 20, 3) := by decide +kernel
theorem d_LW_183 : decode code 183 = .ok (.aload_n 2, 1) := by decide +kernel
theorem d_LW_184 : decode code 184 = .ok (.invokevirtual 24, 3) := by decide +kernel
theorem d_LW_187 : decode code 187 = .ok (.if_icmp .eq 300, 3) := by decide +kernel
theorem d_LW_190 : decode code 190 = .ok (.iconst 0, 1) := by decide +kernel
theorem d_LW_191 : decode code 191 = .ok (.ireturn, 1) := by decide +kernel
theorem d_LW_192 : decode code 192 = .ok (.aload_n 1, 1) := by decide +kernel
theorem d_LW_193 : decode code 193 = .ok (.invokevirtual 25, 3) := by decide +kernel
theorem d_LW_196 : decode code 196 = .ok (.aload_n 2, 1) := by decide +kernel
theorem d_LW_197 : decode code 197 = .ok (.invokevirtual 28, 3) := by decide +kernel
theorem d_LW_200 : decode code 200 = .ok (.if_icmp .eq 287, 3) := by decide +kernel
theorem d_LW_203 : decode code 203 = .ok (.iconst 0, 1) := by decide +kernel
theorem d_LW_204 : decode code 204 = .ok (.ireturn, 1) := by decide +kernel
theorem d_LW_205 : decode code 205 = .ok (.aload_n 1, 1) := by decide +kernel
theorem d_LW_206 : decode code 206 = .ok (.aload_n 0, 1) := by decide +kernel
theorem d_LW_207 : decode code 207 = .ok (.iload_n 3, 1) := by decide +kernel
theorem d_LW_208 : decode code 208 = .ok (.iconst 1, 1) := by decide +kernel
theorem d_LW_209 : decode code 209 = .ok (.iadd, 1) := by decide +kernel
theorem d_LW_210 : decode code 210 = .ok (.iaload, 1) := by decide +kernel
theorem d_LW_211 : decode code 211 = .ok (.invokevirtual 29, 3) := by decide +kernel
theorem d_LW_214 : decode code 214 = .ok (.aload_n 2, 1) := by decide +kernel
theorem d_LW_215 : decode code 215 = .ok (.aload_n 0, 1) := by decide +kernel
theorem d_LW_216 : decode code 216 = .ok (.iload_n 3, 1) := by decide +kernel
theorem d_LW_217 : decode code 217 = .ok (.iconst 1, 1) := by decide +kernel
theorem d_LW_218 : decode code 218 = .ok (.iadd, 1) := by decide +kernel
theorem d_LW_219 : decode code 219 = .ok (.iaload, 1) := by decide +kernel
theorem d_LW_220 : decode code 220 = .ok (.invokevirtual 33, 3) := by decide +kernel
theorem d_LW_223 : decode code 223 = .ok (.if_icmp .eq 264, 3) := by decide +kernel
theorem d_LW_226 : decode code 226 = .ok (.iconst 0, 1) := by decide +kernel
theorem d_LW_227 : decode code 227 = .ok (.ireturn, 1) := by decide +kernel
theorem d_LW_228 : decode code 228 = .ok (.aload_n 1, 1) := by decide +kernel
theorem d_LW_229 : decode code 229 = .ok (.aload_n 0, 1) := by decide +kernel
theorem d_LW_230 : decode code 230 = .ok (.iload_n 3, 1) := by decide +kernel
theorem d_LW_231 : decode code 231 = .ok (.iconst 1, 1) := by decide +kernel
theorem d_LW_232 : decode code 232 = .ok (.iadd, 1) := by decide +kernel
theorem d_LW_233 : decode code 233 = .ok (.iaload, 1) := by decide +kernel
theorem d_LW_234 : decode code 234 = .ok (.invokevirtual 34, 3) := by decide +kernel
theorem d_LW_237 : decode code 237 = .ok (.aload_n 2, 1) := by decide +kernel
theorem d_LW_238 : decode code 238 = .ok (.aload_n 0, 1) := by decide +kernel
theorem d_LW_239 : decode code 239 = .ok (.iload_n 3, 1) := by decide +kernel
theorem d_LW_240 : decode code 240 = .ok (.iconst 1, 1) := by decide +kernel
theorem d_LW_241 : decode code 241 = .ok (.iadd, 1) := by decide +kernel
theorem d_LW_242 : decode code 242 = .ok (.iaload, 1) := by decide +kernel
theorem d_LW_243 : decode code 243 = .ok (.invokevirtual 37, 3) := by decide +kernel
theorem d_LW_246 : decode code 246 = .ok (.if_icmp .eq 241, 3) := by decide +kernel
theorem d_LW_249 : decode code 249 = .ok (.iconst 0, 1) := by decide +kernel
theorem d_LW_250 : decode code 250 = .ok (.ireturn, 1) := by decide +kernel
theorem d_LW_251 : decode code 251 = .ok (.aload_n 1, 1) := by decide +kernel
theorem d_LW_252 : decode code 252 = .ok (.aload_n 0, 1) := by decide +kernel
theorem d_LW_253 : decode code 253 = .ok (.iload_n 3, 1) := by decide +kernel
theorem d_LW_254 : decode code 254 = .ok (.iconst 1, 1) := by decide +kernel
theorem d_LW_255 : decode code 255 = .ok (.iadd, 1) := by decide +kernel
theorem d_LW_256 : decode code 256 = .ok (.iaload, 1) := by decide +kernel
theorem d_LW_257 : decode code 257 = .ok (.invokevirtual 38, 3) := by decide +kernel
theorem d_LW_260 : decode code 260 = .ok (.aload_n 2, 1) := by decide +kernel
theorem d_LW_261 : decode code 261 = .ok (.aload_n 0, 1) := by decide +kernel
theorem d_LW_262 : decode code 262 = .ok (.iload_n 3, 1) := by decide +kernel
theorem d_LW_263 : decode code 263 = .ok (.iconst 1, 1) := by decide +kernel
theorem d_LW_264 : decode code 264 = .ok (.iadd, 1) := by decide +kernel
theorem d_LW_265 : decode code 265 = .ok (.iaload, 1) := by decide +kernel
theorem d_LW_266 : decode code 266 = .ok (.invokevirtual 41, 3) := by decide +kernel
theorem d_LW_269 : decode code 269 = .ok (.if_icmp .eq 218, 3) := by decide +kernel
theorem d_LW_272 : decode code 272 = .ok (.iconst 0, 1) := by decide +kernel
theorem d_LW_273 : decode code 273 = .ok (.ireturn, 1) := by decide +kernel
theorem d_LW_274 : decode code 274 = .ok (.aload_n 1, 1) := by decide +kernel
theorem d_LW_275 : decode code 275 = .ok (.aload_n 0, 1) := by decide +kernel
theorem d_LW_276 : decode code 276 = .ok (.iload_n 3, 1) := by decide +kernel
theorem d_LW_277 : decode code 277 = .ok (.iconst 1, 1) := by decide +kernel
theorem d_LW_278 : decode code 278 = .ok (.iadd, 1) := by decide +kernel
theorem d_LW_279 : decode code 279 = .ok (.iaload, 1) := by decide +kernel
theorem d_LW_280 : decode code 280 = .ok (.invokevirtual 42, 3) := by decide +kernel
theorem d_LW_283 : decode code 283 = .ok (.aload_n 2, 1) := by decide +kernel
theorem d_LW_284 : decode code 284 = .ok (.aload_n 0, 1) := by decide +kernel
theorem d_LW_285 : decode code 285 = .ok (.iload_n 3, 1) := by decide +kernel
theorem d_LW_286 : decode code 286 = .ok (.iconst 1, 1) := by decide +kernel
theorem d_LW_287 : decode code 287 = .ok (.iadd, 1) := by decide +kernel
theorem d_LW_288 : decode code 288 = .ok (.iaload, 1) := by decide +kernel
theorem d_LW_289 : decode code 289 = .ok (.invokevirtual 45, 3) := by decide +kernel
theorem d_LW_292 : decode code 292 = .ok (.if_icmp .eq 195, 3) := by decide +kernel
theorem d_LW_295 : decode code 295 = .ok (.iconst 0, 1) := by decide +kernel
theorem d_LW_296 : decode code 296 = .ok (.ireturn, 1) := by decide +kernel
theorem d_LW_297 : decode code 297 = .ok (.aload_n 1, 1) := by decide +kernel
theorem d_LW_298 : decode code 298 = .ok (.aload_n 0, 1) := by decide +kernel
theorem d_LW_299 : decode code 299 = .ok (.iload_n 3, 1) := by decide +kernel
theorem d_LW_300 : decode code 300 = .ok (.iconst 1, 1) := by decide +kernel
theorem d_LW_301 : decode code 301 = .ok (.iadd, 1) := by decide +kernel
theorem d_LW_302 : decode code 302 = .ok (.iaload, 1) := by decide +kernel
theorem d_LW_303 : decode code 303 = .ok (.invokevirtual 46, 3) := by decide +kernel
theorem d_LW_306 : decode code 306 = .ok (.aload_n 2, 1) := by decide +kernel
theorem d_LW_307 : decode code 307 = .ok (.aload_n 0, 1) := by decide +kernel
theorem d_LW_308 : decode code 308 = .ok (.iload_n 3, 1) := by decide +kernel
theorem d_LW_309 : decode code 309 = .ok (.iconst 1, 1) := by decide +kernel
theorem d_LW_310 : decode code 310 = .ok (.iadd, 1) := by decide +kernel
theorem d_LW_311 : decode code 311 = .ok (.iaload, 1) := by decide +kernel
theorem d_LW_312 : decode code 312 = .ok (.invokevirtual 49, 3) := by decide +kernel
theorem d_LW_315 : decode code 315 = .ok (.if_icmp .eq 172, 3) := by decide +kernel
theorem d_LW_318 : decode code 318 = .ok (.iconst 0, 1) := by decide +kernel
theorem d_LW_319 : decode code 319 = .ok (.ireturn, 1) := by decide +kernel
theorem d_LW_320 : decode code 320 = .ok (.aload_n 1, 1) := by decide +kernel
theorem d_LW_321 : decode code 321 = .ok (.aload_n 0, 1) := by decide +kernel
theorem d_LW_322 : decode code 322 = .ok (.iload_n 3, 1) := by decide +kernel
theorem d_LW_323 : decode code 323 = .ok (.iconst 1, 1) := by decide +kernel
theorem d_LW_324 : decode code 324 = .ok (.iadd, 1) := by decide +kernel
theorem d_LW_325 : decode code 325 = .ok (.iaload, 1) := by decide +kernel
theorem d_LW_326 : decode code 326 = .ok (.invokevirtual 50, 3) := by decide +kernel
theorem d_LW_329 : decode code 329 = .ok (.aload_n 2, 1) := by decide +kernel
theorem d_LW_330 : decode code 330 = .ok (.aload_n 0, 1) := by decide +kernel
theorem d_LW_331 : decode code 331 = .ok (.iload_n 3, 1) := by decide +kernel
theorem d_LW_332 : decode code 332 = .ok (.iconst 1, 1) := by decide +kernel
theorem d_LW_333 : decode code 333 = .ok (.iadd, 1) := by decide +kernel
theorem d_LW_334 : decode code 334 = .ok (.iaload, 1) := by decide +kernel
theorem d_LW_335 : decode code 335 = .ok (.invokevirtual 53, 3) := by decide +kernel
theorem d_LW_338 : decode code 338 = .ok (.if_icmp .eq 149, 3) := by decide +kernel
theorem d_LW_341 : decode code 341 = .ok (.iconst 0, 1) := by decide +kernel
theorem d_LW_342 : decode code 342 = .ok (.ireturn, 1) := by decide +kernel
theorem d_LW_343 : decode code 343 = .ok (.aload_n 1, 1) := by decide +kernel
theorem d_LW_344 : decode code 344 = .ok (.invokevirtual 54, 3) := by decide +kernel
theorem d_LW_347 : decode code 347 = .ok (.aload_n 2, 1) := by decide +kernel
theorem d_LW_348 : decode code 348 = .ok (.invokevirtual 57, 3) := by decide +kernel
theorem d_LW_351 : decode code 351 = .ok (.if_icmp .eq 136, 3) := by decide +kernel
theorem d_LW_354 : decode code 354 = .ok (.iconst 0, 1) := by decide +kernel
theorem d_LW_355 : decode code 355 = .ok (.ireturn, 1) := by decide +kernel
theorem d_LW_356 : decode code 356 = .ok (.aload_n 1, 1) := by decide +kernel
theorem d_LW_357 : decode code 357 = .ok (.invokevirtual 58, 3) := by decide +kernel
theorem d_LW_360 : decode code 360 = .ok (.aload_n 2, 1) := by decide +kernel
theorem d_LW_361 : decode code 361 = .ok (.invokevirtual 61, 3) := by decide +kernel
theorem d_LW_364 : decode code 364 = .ok (.if_icmp .eq 123, 3) := by decide +kernel
theorem d_LW_367 : decode code 367 = .ok (.iconst 0, 1) := by decide +kernel
theorem d_LW_368 : decode code 368 = .ok (.ireturn, 1) := by decide +kernel
theorem d_LW_369 : decode code 369 = .ok (.aload_n 1, 1) := by decide +kernel
theorem d_LW_370 : decode code 370 = .ok (.invokevirtual 62, 3) := by decide +kernel
theorem d_LW_373 : decode code 373 = .ok (.aload_n 2, 1) := by decide +kernel
theorem d_LW_374 : decode code 374 = .ok (.invokevirtual 65, 3) := by decide +kernel
theorem d_LW_377 : decode code 377 = .ok (.if_icmp .eq 110, 3) := by decide +kernel
theorem d_LW_380 : decode code 380 = .ok (.iconst 0, 1) := by decide +kernel
theorem d_LW_381 : decode code 381 = .ok (.ireturn, 1) := by decide +kernel
theorem d_LW_382 : decode code 382 = .ok (.aload_n 1, 1) := by decide +kernel
theorem d_LW_383 : decode code 383 = .ok (.aload_n 0, 1) := by decide +kernel
theorem d_LW_384 : decode code 384 = .ok (.iload_n 3, 1) := by decide +kernel
theorem d_LW_385 : decode code 385 = .ok (.iconst 1, 1) := by decide +kernel
theorem d_LW_386 : decode code 386 = .ok (.iadd, 1) := by decide +kernel
theorem d_LW_387 : decode code 387 = .ok (.iaload, 1) := by decide +kernel
theorem d_LW_388 : decode code 388 = .ok (.invokevirtual 66, 3) := by decide +kernel
theorem d_LW_391 : decode code 391 = .ok (.aload_n 2, 1) := by decide +kernel
theorem d_LW_392 : decode code 392 = .ok (.aload_n 0, 1) := by decide +kernel
theorem d_LW_393 : decode code 393 = .ok (.iload_n 3, 1) := by decide +kernel
theorem d_LW_394 : decode code 394 = .ok (.iconst 1, 1) := by decide +kernel
theorem d_LW_395 : decode code 395 = .ok (.iadd, 1) := by decide +kernel
theorem d_LW_396 : decode code 396 = .ok (.iaload, 1) := by decide +kernel
theorem d_LW_397 : decode code 397 = .ok (.invokevirtual 69, 3) := by decide +kernel
theorem d_LW_400 : decode code 400 = .ok (.if_icmp .eq 87, 3) := by decide +kernel
theorem d_LW_403 : decode code 403 = .ok (.iconst 0, 1) := by decide +kernel
theorem d_LW_404 : decode code 404 = .ok (.ireturn, 1) := by decide +kernel
theorem d_LW_405 : decode code 405 = .ok (.aload_n 1, 1) := by decide +kernel
theorem d_LW_406 : decode code 406 = .ok (.invokevirtual 70, 3) := by decide +kernel
theorem d_LW_409 : decode code 409 = .ok (.aload_n 2, 1) := by decide +kernel
theorem d_LW_410 : decode code 410 = .ok (.invokevirtual 73, 3) := by decide +kernel
theorem d_LW_413 : decode code 413 = .ok (.if_icmp .eq 74, 3) := by decide +kernel
theorem d_LW_416 : decode code 416 = .ok (.iconst 0, 1) := by decide +kernel
theorem d_LW_417 : decode code 417 = .ok (.ireturn, 1) := by decide +kernel
theorem d_LW_418 : decode code 418 = .ok (.aload_n 1, 1) := by decide +kernel
theorem d_LW_419 : decode code 419 = .ok (.aload_n 0, 1) := by decide +kernel
theorem d_LW_420 : decode code 420 = .ok (.iload_n 3, 1) := by decide +kernel
theorem d_LW_421 : decode code 421 = .ok (.iconst 1, 1) := by decide +kernel
theorem d_LW_422 : decode code 422 = .ok (.iadd, 1) := by decide +kernel
theorem d_LW_423 : decode code 423 = .ok (.iaload, 1) := by decide +kernel
theorem d_LW_424 : decode code 424 = .ok (.invokevirtual 74, 3) := by decide +kernel
theorem d_LW_427 : decode code 427 = .ok (.aload_n 2, 1) := by decide +kernel
theorem d_LW_428 : decode code 428 = .ok (.aload_n 0, 1) := by decide +kernel
theorem d_LW_429 : decode code 429 = .ok (.iload_n 3, 1) := by decide +kernel
theorem d_LW_430 : decode code 430 = .ok (.iconst 1, 1) := by decide +kernel
theorem d_LW_431 : decode code 431 = .ok (.iadd, 1) := by decide +kernel
theorem d_LW_432 : decode code 432 = .ok (.iaload, 1) := by decide +kernel
theorem d_LW_433 : decode code 433 = .ok (.invokevirtual 77, 3) := by decide +kernel
theorem d_LW_436 : decode code 436 = .ok (.if_icmp .eq 51, 3) := by decide +kernel
theorem d_LW_439 : decode code 439 = .ok (.iconst 0, 1) := by decide +kernel
theorem d_LW_440 : decode code 440 = .ok (.ireturn, 1) := by decide +kernel
theorem d_LW_441 : decode code 441 = .ok (.aload_n 1, 1) := by decide +kernel
theorem d_LW_442 : decode code 442 = .ok (.aload_n 0, 1) := by decide +kernel
theorem d_LW_443 : decode code 443 = .ok (.iload_n 3, 1) := by decide +kernel
theorem d_LW_444 : decode code 444 = .ok (.iconst 1, 1) := by decide +kernel
theorem d_LW_445 : decode code 445 = .ok (.iadd, 1) := by decide +kernel
theorem d_LW_446 : decode code 446 = .ok (.iaload, 1) := by decide +kernel
theorem d_LW_447 : decode code 447 = .ok (.invokevirtual 78, 3) := by decide +kernel
theorem d_LW_450 : decode code 450 = .ok (.aload_n 2, 1) := by decide +kernel
theorem d_LW_451 : decode code 451 = .ok (.aload_n 0, 1) := by decide +kernel
theorem d_LW_452 : decode code 452 = .ok (.iload_n 3, 1) := by decide +kernel
theorem d_LW_453 : decode code 453 = .ok (.iconst 1, 1) := by decide +kernel
theorem d_LW_454 : decode code 454 = .ok (.iadd, 1) := by decide +kernel
theorem d_LW_455 : decode code 455 = .ok (.iaload, 1) := by decide +kernel
theorem d_LW_456 : decode code 456 = .ok (.invokevirtual 81, 3) := by decide +kernel
theorem d_LW_459 : decode code 459 = .ok (.if_icmp .eq 28, 3) := by decide +kernel
theorem d_LW_462 : decode code 462 = .ok (.iconst 0, 1) := by decide +kernel
theorem d_LW_463 : decode code 463 = .ok (.ireturn, 1) := by decide +kernel
theorem d_LW_464 : decode code 464 = .ok (.aload_n 1, 1) := by decide +kernel
theorem d_LW_465 : decode code 465 = .ok (.aload_n 0, 1) := by decide +kernel
theorem d_LW_466 : decode code 466 = .ok (.iload_n 3, 1) := by decide +kernel
theorem d_LW_467 : decode code 467 = .ok (.iconst 1, 1) := by decide +kernel
theorem d_LW_468 : decode code 468 = .ok (.iadd, 1) := by decide +kernel
theorem d_LW_469 : decode code 469 = .ok (.iaload, 1) := by decide +kernel
theorem d_LW_470 : decode code 470 = .ok (.invokevirtual 82, 3) := by decide +kernel
theorem d_LW_473 : decode code 473 = .ok (.aload_n 2, 1) := by decide +kernel
theorem d_LW_474 : decode code 474 = .ok (.aload_n 0, 1) := by decide +kernel
theorem d_LW_475 : decode code 475 = .ok (.iload_n 3, 1) := by decide +kernel
theorem d_LW_476 : decode code 476 = .ok (.iconst 1, 1) := by decide +kernel
theorem d_LW_477 : decode code 477 = .ok (.iadd, 1) := by decide +kernel
theorem d_LW_478 : decode code 478 = .ok (.iaload, 1) := by decide +kernel
theorem d_LW_479 : decode code 479 = .ok (.invokevirtual 85, 3) := by decide +kernel
theorem d_LW_482 : decode code 482 = .ok (.if_icmp .eq 5, 3) := by decide +kernel
theorem d_LW_485 : decode code 485 = .ok (.iconst 0, 1) := by decide +kernel
theorem d_LW_486 : decode code 486 = .ok (.ireturn, 1) := by decide +kernel
theorem d_LW_487 : decode code 487 = .ok (.iinc 3 4, 3) := by decide +kernel
theorem d_LW_490 : decode code 490 = .ok (.goto (-472), 3) := by decide +kernel
theorem d_LW_493 : decode code 493 = .ok (.iconst 1, 1) := by decide +kernel
theorem d_LW_494 : decode code 494 = .ok (.ireturn, 1) := by decide +kernel
