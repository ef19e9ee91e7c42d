/-! THE LAW, case by case, over an invariant (written by program: wip/whole/gen30.py) -/
theorem dL_law_0 : decode cL_law 0 = .ok (.new 7, 3) := by decide +kernel
theorem dL_law_3 : decode cL_law 3 = .ok (.dup, 1) := by decide +kernel
theorem dL_law_4 : decode cL_law 4 = .ok (.invokespecial 9, 3) := by decide +kernel
theorem dL_law_7 : decode cL_law 7 = .ok (.astore_n 1, 1) := by decide +kernel
theorem dL_law_8 : decode cL_law 8 = .ok (.new 10, 3) := by decide +kernel
theorem dL_law_11 : decode cL_law 11 = .ok (.dup, 1) := by decide +kernel
theorem dL_law_12 : decode cL_law 12 = .ok (.invokespecial 12, 3) := by decide +kernel
theorem dL_law_15 : decode cL_law 15 = .ok (.astore_n 2, 1) := by decide +kernel
theorem dL_law_16 : decode cL_law 16 = .ok (.iconst 0, 1) := by decide +kernel
theorem dL_law_17 : decode cL_law 17 = .ok (.istore_n 3, 1) := by decide +kernel
theorem dL_law_18 : decode cL_law 18 = .ok (.iload_n 3, 1) := by decide +kernel
theorem dL_law_19 : decode cL_law 19 = .ok (.aload_n 0, 1) := by decide +kernel
theorem dL_law_20 : decode cL_law 20 = .ok (.arraylength, 1) := by decide +kernel
theorem dL_law_21 : decode cL_law 21 = .ok (.bipush 6, 2) := by decide +kernel
theorem dL_law_23 : decode cL_law 23 = .ok (.isub, 1) := by decide +kernel
theorem dL_law_24 : decode cL_law 24 = .ok (.if_icmp .gt 1642, 3) := by decide +kernel
theorem dL_law_27 : decode cL_law 27 = .ok (.aload_n 0, 1) := by decide +kernel
theorem dL_law_28 : decode cL_law 28 = .ok (.iload_n 3, 1) := by decide +kernel
theorem dL_law_29 : decode cL_law 29 = .ok (.iaload, 1) := by decide +kernel
theorem dL_law_30 : decode cL_law 30 = .ok (.bipush 63, 2) := by decide +kernel
theorem dL_law_32 : decode cL_law 32 = .ok (.iand, 1) := by decide +kernel
theorem dL_law_33 : decode cL_law 33 = .ok (.tableswitch 1627 0 35 #[159, 222, 245, 278, 301, 334, 403, 446, 479, 532, 565, 608, 641, 674, 707, 766, 820, 863, 906, 949, 1002, 1025, 1068, 1127, 1176, 1199, 1232, 1301, 1324, 1373, 1396, 1456, 1515, 1558, 1581, 1604], 159) := by decide +kernel
theorem dL_law_192 : decode cL_law 192 = .ok (.aload_n 1, 1) := by decide +kernel
theorem dL_law_193 : decode cL_law 193 = .ok (.aload_n 0, 1) := by decide +kernel
theorem dL_law_194 : decode cL_law 194 = .ok (.iload_n 3, 1) := by decide +kernel
theorem dL_law_195 : decode cL_law 195 = .ok (.iconst 1, 1) := by decide +kernel
theorem dL_law_196 : decode cL_law 196 = .ok (.iadd, 1) := by decide +kernel
theorem dL_law_197 : decode cL_law 197 = .ok (.iaload, 1) := by decide +kernel
theorem dL_law_198 : decode cL_law 198 = .ok (.aload_n 0, 1) := by decide +kernel
theorem dL_law_199 : decode cL_law 199 = .ok (.iload_n 3, 1) := by decide +kernel
theorem dL_law_200 : decode cL_law 200 = .ok (.iconst 2, 1) := by decide +kernel
theorem dL_law_201 : decode cL_law 201 = .ok (.iadd, 1) := by decide +kernel
theorem dL_law_202 : decode cL_law 202 = .ok (.iaload, 1) := by decide +kernel
theorem dL_law_203 : decode cL_law 203 = .ok (.aload_n 0, 1) := by decide +kernel
theorem dL_law_204 : decode cL_law 204 = .ok (.iload_n 3, 1) := by decide +kernel
theorem dL_law_205 : decode cL_law 205 = .ok (.iconst 3, 1) := by decide +kernel
theorem dL_law_206 : decode cL_law 206 = .ok (.iadd, 1) := by decide +kernel
theorem dL_law_207 : decode cL_law 207 = .ok (.iaload, 1) := by decide +kernel
theorem dL_law_208 : decode cL_law 208 = .ok (.aload_n 0, 1) := by decide +kernel
theorem dL_law_209 : decode cL_law 209 = .ok (.iload_n 3, 1) := by decide +kernel
theorem dL_law_210 : decode cL_law 210 = .ok (.iconst 4, 1) := by decide +kernel
theorem dL_law_211 : decode cL_law 211 = .ok (.iadd, 1) := by decide +kernel
theorem dL_law_212 : decode cL_law 212 = .ok (.iaload, 1) := by decide +kernel
theorem dL_law_213 : decode cL_law 213 = .ok (.aload_n 0, 1) := by decide +kernel
theorem dL_law_214 : decode cL_law 214 = .ok (.iload_n 3, 1) := by decide +kernel
theorem dL_law_215 : decode cL_law 215 = .ok (.iconst 5, 1) := by decide +kernel
theorem dL_law_216 : decode cL_law 216 = .ok (.iadd, 1) := by decide +kernel
theorem dL_law_217 : decode cL_law 217 = .ok (.iaload, 1) := by decide +kernel
theorem dL_law_218 : decode cL_law 218 = .ok (.invokevirtual 13, 3) := by decide +kernel
theorem dL_law_221 : decode cL_law 221 = .ok (.aload_n 2, 1) := by decide +kernel
theorem dL_law_222 : decode cL_law 222 = .ok (.aload_n 0, 1) := by decide +kernel
theorem dL_law_223 : decode cL_law 223 = .ok (.iload_n 3, 1) := by decide +kernel
theorem dL_law_224 : decode cL_law 224 = .ok (.iconst 1, 1) := by decide +kernel
theorem dL_law_225 : decode cL_law 225 = .ok (.iadd, 1) := by decide +kernel
theorem dL_law_226 : decode cL_law 226 = .ok (.iaload, 1) := by decide +kernel
theorem dL_law_227 : decode cL_law 227 = .ok (.aload_n 0, 1) := by decide +kernel
theorem dL_law_228 : decode cL_law 228 = .ok (.iload_n 3, 1) := by decide +kernel
theorem dL_law_229 : decode cL_law 229 = .ok (.iconst 2, 1) := by decide +kernel
theorem dL_law_230 : decode cL_law 230 = .ok (.iadd, 1) := by decide +kernel
theorem dL_law_231 : decode cL_law 231 = .ok (.iaload, 1) := by decide +kernel
theorem dL_law_232 : decode cL_law 232 = .ok (.aload_n 0, 1) := by decide +kernel
theorem dL_law_233 : decode cL_law 233 = .ok (.iload_n 3, 1) := by decide +kernel
theorem dL_law_234 : decode cL_law 234 = .ok (.iconst 3, 1) := by decide +kernel
theorem dL_law_235 : decode cL_law 235 = .ok (.iadd, 1) := by decide +kernel
theorem dL_law_236 : decode cL_law 236 = .ok (.iaload, 1) := by decide +kernel
theorem dL_law_237 : decode cL_law 237 = .ok (.aload_n 0, 1) := by decide +kernel
theorem dL_law_238 : decode cL_law 238 = .ok (.iload_n 3, 1) := by decide +kernel
theorem dL_law_239 : decode cL_law 239 = .ok (.iconst 4, 1) := by decide +kernel
theorem dL_law_240 : decode cL_law 240 = .ok (.iadd, 1) := by decide +kernel
theorem dL_law_241 : decode cL_law 241 = .ok (.iaload, 1) := by decide +kernel
theorem dL_law_242 : decode cL_law 242 = .ok (.aload_n 0, 1) := by decide +kernel
theorem dL_law_243 : decode cL_law 243 = .ok (.iload_n 3, 1) := by decide +kernel
theorem dL_law_244 : decode cL_law 244 = .ok (.iconst 5, 1) := by decide +kernel
theorem dL_law_245 : decode cL_law 245 = .ok (.iadd, 1) := by decide +kernel
theorem dL_law_246 : decode cL_law 246 = .ok (.iaload, 1) := by decide +kernel
theorem dL_law_247 : decode cL_law 247 = .ok (.invokevirtual 17, 3) := by decide +kernel
theorem dL_law_250 : decode cL_law 250 = .ok (.if_icmp .eq 1410, 3) := by decide +kernel
theorem dL_law_253 : decode cL_law 253 = .ok (.iconst 0, 1) := by decide +kernel
theorem dL_law_254 : decode cL_law 254 = .ok (.ireturn, 1) := by decide +kernel
theorem dL_law_255 : decode cL_law 255 = .ok (.aload_n 1, 1) := by decide +kernel
theorem dL_law_256 : decode cL_law 256 = .ok (.aload_n 0, 1) := by decide +kernel
theorem dL_law_257 : decode cL_law 257 = .ok (.iload_n 3, 1) := by decide +kernel
theorem dL_law_258 : decode cL_law 258 = .ok (.iconst 1, 1) := by decide +kernel
theorem dL_law_259 : decode cL_law 259 = .ok (.iadd, 1) := by decide +kernel
theorem dL_law_260 : decode cL_law 260 = .ok (.iaload, 1) := by decide +kernel
theorem dL_law_261 : decode cL_law 261 = .ok (.invokevirtual 18, 3) := by decide +kernel
theorem dL_law_264 : decode cL_law 264 = .ok (.aload_n 2, 1) := by decide +kernel
theorem dL_law_265 : decode cL_law 265 = .ok (.aload_n 0, 1) := by decide +kernel
theorem dL_law_266 : decode cL_law 266 = .ok (.iload_n 3, 1) := by decide +kernel
theorem dL_law_267 : decode cL_law 267 = .ok (.iconst 1, 1) := by decide +kernel
theorem dL_law_268 : decode cL_law 268 = .ok (.iadd, 1) := by decide +kernel
theorem dL_law_269 : decode cL_law 269 = .ok (.iaload, 1) := by decide +kernel
theorem dL_law_270 : decode cL_law 270 = .ok (.invokevirtual 22, 3) := by decide +kernel
theorem dL_law_273 : decode cL_law 273 = .ok (.if_icmp .eq 1387, 3) := by decide +kernel
theorem dL_law_276 : decode cL_law 276 = .ok (.iconst 0, 1) := by decide +kernel
theorem dL_law_277 : decode cL_law 277 = .ok (.ireturn, 1) := by decide +kernel
theorem dL_law_278 : decode cL_law 278 = .ok (.aload_n 1, 1) := by decide +kernel
theorem dL_law_279 : decode cL_law 279 = .ok (.aload_n 0, 1) := by decide +kernel
theorem dL_law_280 : decode cL_law 280 = .ok (.iload_n 3, 1) := by decide +kernel
theorem dL_law_281 : decode cL_law 281 = .ok (.iconst 1, 1) := by decide +kernel
theorem dL_law_282 : decode cL_law 282 = .ok (.iadd, 1) := by decide +kernel
theorem dL_law_283 : decode cL_law 283 = .ok (.iaload, 1) := by decide +kernel
theorem dL_law_284 : decode cL_law 284 = .ok (.aload_n 0, 1) := by decide +kernel
theorem dL_law_285 : decode cL_law 285 = .ok (.iload_n 3, 1) := by decide +kernel
theorem dL_law_286 : decode cL_law 286 = .ok (.iconst 2, 1) := by decide +kernel
theorem dL_law_287 : decode cL_law 287 = .ok (.iadd, 1) := by decide +kernel
theorem dL_law_288 : decode cL_law 288 = .ok (.iaload, 1) := by decide +kernel
theorem dL_law_289 : decode cL_law 289 = .ok (.invokevirtual 23, 3) := by decide +kernel
theorem dL_law_292 : decode cL_law 292 = .ok (.aload_n 2, 1) := by decide +kernel
theorem dL_law_293 : decode cL_law 293 = .ok (.aload_n 0, 1) := by decide +kernel
theorem dL_law_294 : decode cL_law 294 = .ok (.iload_n 3, 1) := by decide +kernel
theorem dL_law_295 : decode cL_law 295 = .ok (.iconst 1, 1) := by decide +kernel
theorem dL_law_296 : decode cL_law 296 = .ok (.iadd, 1) := by decide +kernel
theorem dL_law_297 : decode cL_law 297 = .ok (.iaload, 1) := by decide +kernel
theorem dL_law_298 : decode cL_law 298 = .ok (.aload_n 0, 1) := by decide +kernel
theorem dL_law_299 : decode cL_law 299 = .ok (.iload_n 3, 1) := by decide +kernel
theorem dL_law_300 : decode cL_law 300 = .ok (.iconst 2, 1) := by decide +kernel
theorem dL_law_301 : decode cL_law 301 = .ok (.iadd, 1) := by decide +kernel
theorem dL_law_302 : decode cL_law 302 = .ok (.iaload, 1) := by decide +kernel
theorem dL_law_303 : decode cL_law 303 = .ok (.invokevirtual 27, 3) := by decide +kernel
theorem dL_law_306 : decode cL_law 306 = .ok (.if_icmp .eq 1354, 3) := by decide +kernel
theorem dL_law_309 : decode cL_law 309 = .ok (.iconst 0, 1) := by decide +kernel
theorem dL_law_310 : decode cL_law 310 = .ok (.ireturn, 1) := by decide +kernel
theorem dL_law_311 : decode cL_law 311 = .ok (.aload_n 1, 1) := by decide +kernel
theorem dL_law_312 : decode cL_law 312 = .ok (.aload_n 0, 1) := by decide +kernel
theorem dL_law_313 : decode cL_law 313 = .ok (.iload_n 3, 1) := by decide +kernel
theorem dL_law_314 : decode cL_law 314 = .ok (.iconst 1, 1) := by decide +kernel
theorem dL_law_315 : decode cL_law 315 = .ok (.iadd, 1) := by decide +kernel
theorem dL_law_316 : decode cL_law 316 = .ok (.iaload, 1) := by decide +kernel
theorem dL_law_317 : decode cL_law 317 = .ok (.invokevirtual 28, 3) := by decide +kernel
theorem dL_law_320 : decode cL_law 320 = .ok (.aload_n 2, 1) := by decide +kernel
theorem dL_law_321 : decode cL_law 321 = .ok (.aload_n 0, 1) := by decide +kernel
theorem dL_law_322 : decode cL_law 322 = .ok (.iload_n 3, 1) := by decide +kernel
theorem dL_law_323 : decode cL_law 323 = .ok (.iconst 1, 1) := by decide +kernel
theorem dL_law_324 : decode cL_law 324 = .ok (.iadd, 1) := by decide +kernel
theorem dL_law_325 : decode cL_law 325 = .ok (.iaload, 1) := by decide +kernel
theorem dL_law_326 : decode cL_law 326 = .ok (.invokevirtual 31, 3) := by decide +kernel
theorem dL_law_329 : decode cL_law 329 = .ok (.if_icmp .eq 1331, 3) := by decide +kernel
theorem dL_law_332 : decode cL_law 332 = .ok (.iconst 0, 1) := by decide +kernel
theorem dL_law_333 : decode cL_law 333 = .ok (.ireturn, 1) := by decide +kernel
theorem dL_law_334 : decode cL_law 334 = .ok (.aload_n 1, 1) := by decide +kernel
theorem dL_law_335 : decode cL_law 335 = .ok (.aload_n 0, 1) := by decide +kernel
theorem dL_law_336 : decode cL_law 336 = .ok (.iload_n 3, 1) := by decide +kernel
theorem dL_law_337 : decode cL_law 337 = .ok (.iconst 1, 1) := by decide +kernel
theorem dL_law_338 : decode cL_law 338 = .ok (.iadd, 1) := by decide +kernel
theorem dL_law_339 : decode cL_law 339 = .ok (.iaload, 1) := by decide +kernel
theorem dL_law_340 : decode cL_law 340 = .ok (.aload_n 0, 1) := by decide +kernel
theorem dL_law_341 : decode cL_law 341 = .ok (.iload_n 3, 1) := by decide +kernel
theorem dL_law_342 : decode cL_law 342 = .ok (.iconst 2, 1) := by decide +kernel
theorem dL_law_343 : decode cL_law 343 = .ok (.iadd, 1) := by decide +kernel
theorem dL_law_344 : decode cL_law 344 = .ok (.iaload, 1) := by decide +kernel
theorem dL_law_345 : decode cL_law 345 = .ok (.invokevirtual 32, 3) := by decide +kernel
theorem dL_law_348 : decode cL_law 348 = .ok (.aload_n 2, 1) := by decide +kernel
theorem dL_law_349 : decode cL_law 349 = .ok (.aload_n 0, 1) := by decide +kernel
theorem dL_law_350 : decode cL_law 350 = .ok (.iload_n 3, 1) := by decide +kernel
theorem dL_law_351 : decode cL_law 351 = .ok (.iconst 1, 1) := by decide +kernel
theorem dL_law_352 : decode cL_law 352 = .ok (.iadd, 1) := by decide +kernel
theorem dL_law_353 : decode cL_law 353 = .ok (.iaload, 1) := by decide +kernel
theorem dL_law_354 : decode cL_law 354 = .ok (.aload_n 0, 1) := by decide +kernel
theorem dL_law_355 : decode cL_law 355 = .ok (.iload_n 3, 1) := by decide +kernel
theorem dL_law_356 : decode cL_law 356 = .ok (.iconst 2, 1) := by decide +kernel
theorem dL_law_357 : decode cL_law 357 = .ok (.iadd, 1) := by decide +kernel
theorem dL_law_358 : decode cL_law 358 = .ok (.iaload, 1) := by decide +kernel
theorem dL_law_359 : decode cL_law 359 = .ok (.invokevirtual 35, 3) := by decide +kernel
theorem dL_law_362 : decode cL_law 362 = .ok (.if_icmp .eq 1298, 3) := by decide +kernel
theorem dL_law_365 : decode cL_law 365 = .ok (.iconst 0, 1) := by decide +kernel
theorem dL_law_366 : decode cL_law 366 = .ok (.ireturn, 1) := by decide +kernel
theorem dL_law_367 : decode cL_law 367 = .ok (.aload_n 1, 1) := by decide +kernel
theorem dL_law_368 : decode cL_law 368 = .ok (.aload_n 0, 1) := by decide +kernel
theorem dL_law_369 : decode cL_law 369 = .ok (.iload_n 3, 1) := by decide +kernel
theorem dL_law_370 : decode cL_law 370 = .ok (.iconst 1, 1) := by decide +kernel
theorem dL_law_371 : decode cL_law 371 = .ok (.iadd, 1) := by decide +kernel
theorem dL_law_372 : decode cL_law 372 = .ok (.iaload, 1) := by decide +kernel
theorem dL_law_373 : decode cL_law 373 = .ok (.aload_n 0, 1) := by decide +kernel
theorem dL_law_374 : decode cL_law 374 = .ok (.iload_n 3, 1) := by decide +kernel
theorem dL_law_375 : decode cL_law 375 = .ok (.iconst 2, 1) := by decide +kernel
theorem dL_law_376 : decode cL_law 376 = .ok (.iadd, 1) := by decide +kernel
theorem dL_law_377 : decode cL_law 377 = .ok (.iaload, 1) := by decide +kernel
theorem dL_law_378 : decode cL_law 378 = .ok (.aload_n 0, 1) := by decide +kernel
theorem dL_law_379 : decode cL_law 379 = .ok (.iload_n 3, 1) := by decide +kernel
theorem dL_law_380 : decode cL_law 380 = .ok (.iconst 3, 1) := by decide +kernel
theorem dL_law_381 : decode cL_law 381 = .ok (.iadd, 1) := by decide +kernel
theorem dL_law_382 : decode cL_law 382 = .ok (.iaload, 1) := by decide +kernel
theorem dL_law_383 : decode cL_law 383 = .ok (.aload_n 0, 1) := by decide +kernel
theorem dL_law_384 : decode cL_law 384 = .ok (.iload_n 3, 1) := by decide +kernel
theorem dL_law_385 : decode cL_law 385 = .ok (.iconst 4, 1) := by decide +kernel
theorem dL_law_386 : decode cL_law 386 = .ok (.iadd, 1) := by decide +kernel
theorem dL_law_387 : decode cL_law 387 = .ok (.iaload, 1) := by decide +kernel
theorem dL_law_388 : decode cL_law 388 = .ok (.ifCond .eq 7, 3) := by decide +kernel
theorem dL_law_391 : decode cL_law 391 = .ok (.iconst 1, 1) := by decide +kernel
theorem dL_law_392 : decode cL_law 392 = .ok (.goto 4, 3) := by decide +kernel
theorem dL_law_395 : decode cL_law 395 = .ok (.iconst 0, 1) := by decide +kernel
theorem dL_law_396 : decode cL_law 396 = .ok (.invokevirtual 36, 3) := by decide +kernel
theorem dL_law_399 : decode cL_law 399 = .ok (.aload_n 2, 1) := by decide +kernel
theorem dL_law_400 : decode cL_law 400 = .ok (.aload_n 0, 1) := by decide +kernel
theorem dL_law_401 : decode cL_law 401 = .ok (.iload_n 3, 1) := by decide +kernel
theorem dL_law_402 : decode cL_law 402 = .ok (.iconst 1, 1) := by decide +kernel
theorem dL_law_403 : decode cL_law 403 = .ok (.iadd, 1) := by decide +kernel
theorem dL_law_404 : decode cL_law 404 = .ok (.iaload, 1) := by decide +kernel
theorem dL_law_405 : decode cL_law 405 = .ok (.aload_n 0, 1) := by decide +kernel
theorem dL_law_406 : decode cL_law 406 = .ok (.iload_n 3, 1) := by decide +kernel
theorem dL_law_407 : decode cL_law 407 = .ok (.iconst 2, 1) := by decide +kernel
theorem dL_law_408 : decode cL_law 408 = .ok (.iadd, 1) := by decide +kernel
theorem dL_law_409 : decode cL_law 409 = .ok (.iaload, 1) := by decide +kernel
theorem dL_law_410 : decode cL_law 410 = .ok (.aload_n 0, 1) := by decide +kernel
theorem dL_law_411 : decode cL_law 411 = .ok (.iload_n 3, 1) := by decide +kernel
theorem dL_law_412 : decode cL_law 412 = .ok (.iconst 3, 1) := by decide +kernel
theorem dL_law_413 : decode cL_law 413 = .ok (.iadd, 1) := by decide +kernel
theorem dL_law_414 : decode cL_law 414 = .ok (.iaload, 1) := by decide +kernel
theorem dL_law_415 : decode cL_law 415 = .ok (.aload_n 0, 1) := by decide +kernel
theorem dL_law_416 : decode cL_law 416 = .ok (.iload_n 3, 1) := by decide +kernel
theorem dL_law_417 : decode cL_law 417 = .ok (.iconst 4, 1) := by decide +kernel
theorem dL_law_418 : decode cL_law 418 = .ok (.iadd, 1) := by decide +kernel
theorem dL_law_419 : decode cL_law 419 = .ok (.iaload, 1) := by decide +kernel
theorem dL_law_420 : decode cL_law 420 = .ok (.ifCond .eq 7, 3) := by decide +kernel
theorem dL_law_423 : decode cL_law 423 = .ok (.iconst 1, 1) := by decide +kernel
theorem dL_law_424 : decode cL_law 424 = .ok (.goto 4, 3) := by decide +kernel
theorem dL_law_427 : decode cL_law 427 = .ok (.iconst 0, 1) := by decide +kernel
theorem dL_law_428 : decode cL_law 428 = .ok (.invokevirtual 40, 3) := by decide +kernel
theorem dL_law_431 : decode cL_law 431 = .ok (.if_icmp .eq 1229, 3) := by decide +kernel
theorem dL_law_434 : decode cL_law 434 = .ok (.iconst 0, 1) := by decide +kernel
theorem dL_law_435 : decode cL_law 435 = .ok (.ireturn, 1) := by decide +kernel
theorem dL_law_436 : decode cL_law 436 = .ok (.aload_n 1, 1) := by decide +kernel
theorem dL_law_437 : decode cL_law 437 = .ok (.aload_n 0, 1) := by decide +kernel
theorem dL_law_438 : decode cL_law 438 = .ok (.iload_n 3, 1) := by decide +kernel
theorem dL_law_439 : decode cL_law 439 = .ok (.iconst 1, 1) := by decide +kernel
theorem dL_law_440 : decode cL_law 440 = .ok (.iadd, 1) := by decide +kernel
theorem dL_law_441 : decode cL_law 441 = .ok (.iaload, 1) := by decide +kernel
theorem dL_law_442 : decode cL_law 442 = .ok (.aload_n 0, 1) := by decide +kernel
theorem dL_law_443 : decode cL_law 443 = .ok (.iload_n 3, 1) := by decide +kernel
theorem dL_law_444 : decode cL_law 444 = .ok (.iconst 2, 1) := by decide +kernel
theorem dL_law_445 : decode cL_law 445 = .ok (.iadd, 1) := by decide +kernel
theorem dL_law_446 : decode cL_law 446 = .ok (.iaload, 1) := by decide +kernel
theorem dL_law_447 : decode cL_law 447 = .ok (.aload_n 0, 1) := by decide +kernel
theorem dL_law_448 : decode cL_law 448 = .ok (.iload_n 3, 1) := by decide +kernel
theorem dL_law_449 : decode cL_law 449 = .ok (.iconst 3, 1) := by decide +kernel
theorem dL_law_450 : decode cL_law 450 = .ok (.iadd, 1) := by decide +kernel
theorem dL_law_451 : decode cL_law 451 = .ok (.iaload, 1) := by decide +kernel
theorem dL_law_452 : decode cL_law 452 = .ok (.invokevirtual 41, 3) := by decide +kernel
theorem dL_law_455 : decode cL_law 455 = .ok (.aload_n 2, 1) := by decide +kernel
theorem dL_law_456 : decode cL_law 456 = .ok (.aload_n 0, 1) := by decide +kernel
theorem dL_law_457 : decode cL_law 457 = .ok (.iload_n 3, 1) := by decide +kernel
theorem dL_law_458 : decode cL_law 458 = .ok (.iconst 1, 1) := by decide +kernel
theorem dL_law_459 : decode cL_law 459 = .ok (.iadd, 1) := by decide +kernel
theorem dL_law_460 : decode cL_law 460 = .ok (.iaload, 1) := by decide +kernel
theorem dL_law_461 : decode cL_law 461 = .ok (.aload_n 0, 1) := by decide +kernel
theorem dL_law_462 : decode cL_law 462 = .ok (.iload_n 3, 1) := by decide +kernel
theorem dL_law_463 : decode cL_law 463 = .ok (.iconst 2, 1) := by decide +kernel
theorem dL_law_464 : decode cL_law 464 = .ok (.iadd, 1) := by decide +kernel
theorem dL_law_465 : decode cL_law 465 = .ok (.iaload, 1) := by decide +kernel
theorem dL_law_466 : decode cL_law 466 = .ok (.aload_n 0, 1) := by decide +kernel
theorem dL_law_467 : decode cL_law 467 = .ok (.iload_n 3, 1) := by decide +kernel
theorem dL_law_468 : decode cL_law 468 = .ok (.iconst 3, 1) := by decide +kernel
theorem dL_law_469 : decode cL_law 469 = .ok (.iadd, 1) := by decide +kernel
theorem dL_law_470 : decode cL_law 470 = .ok (.iaload, 1) := by decide +kernel
theorem dL_law_471 : decode cL_law 471 = .ok (.invokevirtual 45, 3) := by decide +kernel
theorem dL_law_474 : decode cL_law 474 = .ok (.if_icmp .eq 1186, 3) := by decide +kernel
theorem dL_law_477 : decode cL_law 477 = .ok (.iconst 0, 1) := by decide +kernel
theorem dL_law_478 : decode cL_law 478 = .ok (.ireturn, 1) := by decide +kernel
theorem dL_law_479 : decode cL_law 479 = .ok (.aload_n 1, 1) := by decide +kernel
theorem dL_law_480 : decode cL_law 480 = .ok (.aload_n 0, 1) := by decide +kernel
theorem dL_law_481 : decode cL_law 481 = .ok (.iload_n 3, 1) := by decide +kernel
theorem dL_law_482 : decode cL_law 482 = .ok (.iconst 1, 1) := by decide +kernel
theorem dL_law_483 : decode cL_law 483 = .ok (.iadd, 1) := by decide +kernel
theorem dL_law_484 : decode cL_law 484 = .ok (.iaload, 1) := by decide +kernel
theorem dL_law_485 : decode cL_law 485 = .ok (.aload_n 0, 1) := by decide +kernel
theorem dL_law_486 : decode cL_law 486 = .ok (.iload_n 3, 1) := by decide +kernel
theorem dL_law_487 : decode cL_law 487 = .ok (.iconst 2, 1) := by decide +kernel
theorem dL_law_488 : decode cL_law 488 = .ok (.iadd, 1) := by decide +kernel
theorem dL_law_489 : decode cL_law 489 = .ok (.iaload, 1) := by decide +kernel
theorem dL_law_490 : decode cL_law 490 = .ok (.invokevirtual 46, 3) := by decide +kernel
theorem dL_law_493 : decode cL_law 493 = .ok (.aload_n 2, 1) := by decide +kernel
theorem dL_law_494 : decode cL_law 494 = .ok (.aload_n 0, 1) := by decide +kernel
theorem dL_law_495 : decode cL_law 495 = .ok (.iload_n 3, 1) := by decide +kernel
theorem dL_law_496 : decode cL_law 496 = .ok (.iconst 1, 1) := by decide +kernel
theorem dL_law_497 : decode cL_law 497 = .ok (.iadd, 1) := by decide +kernel
theorem dL_law_498 : decode cL_law 498 = .ok (.iaload, 1) := by decide +kernel
theorem dL_law_499 : decode cL_law 499 = .ok (.aload_n 0, 1) := by decide +kernel
theorem dL_law_500 : decode cL_law 500 = .ok (.iload_n 3, 1) := by decide +kernel
theorem dL_law_501 : decode cL_law 501 = .ok (.iconst 2, 1) := by decide +kernel
theorem dL_law_502 : decode cL_law 502 = .ok (.iadd, 1) := by decide +kernel
theorem dL_law_503 : decode cL_law 503 = .ok (.iaload, 1) := by decide +kernel
theorem dL_law_504 : decode cL_law 504 = .ok (.invokevirtual 49, 3) := by decide +kernel
theorem dL_law_507 : decode cL_law 507 = .ok (.if_icmp .eq 1153, 3) := by decide +kernel
theorem dL_law_510 : decode cL_law 510 = .ok (.iconst 0, 1) := by decide +kernel
theorem dL_law_511 : decode cL_law 511 = .ok (.ireturn, 1) := by decide +kernel
theorem dL_law_512 : decode cL_law 512 = .ok (.aload_n 1, 1) := by decide +kernel
theorem dL_law_513 : decode cL_law 513 = .ok (.aload_n 0, 1) := by decide +kernel
theorem dL_law_514 : decode cL_law 514 = .ok (.iload_n 3, 1) := by decide +kernel
theorem dL_law_515 : decode cL_law 515 = .ok (.iconst 1, 1) := by decide +kernel
theorem dL_law_516 : decode cL_law 516 = .ok (.iadd, 1) := by decide +kernel
theorem dL_law_517 : decode cL_law 517 = .ok (.iaload, 1) := by decide +kernel
theorem dL_law_518 : decode cL_law 518 = .ok (.aload_n 0, 1) := by decide +kernel
theorem dL_law_519 : decode cL_law 519 = .ok (.iload_n 3, 1) := by decide +kernel
theorem dL_law_520 : decode cL_law 520 = .ok (.iconst 2, 1) := by decide +kernel
theorem dL_law_521 : decode cL_law 521 = .ok (.iadd, 1) := by decide +kernel
theorem dL_law_522 : decode cL_law 522 = .ok (.iaload, 1) := by decide +kernel
theorem dL_law_523 : decode cL_law 523 = .ok (.aload_n 0, 1) := by decide +kernel
theorem dL_law_524 : decode cL_law 524 = .ok (.iload_n 3, 1) := by decide +kernel
theorem dL_law_525 : decode cL_law 525 = .ok (.iconst 3, 1) := by decide +kernel
theorem dL_law_526 : decode cL_law 526 = .ok (.iadd, 1) := by decide +kernel
theorem dL_law_527 : decode cL_law 527 = .ok (.iaload, 1) := by decide +kernel
theorem dL_law_528 : decode cL_law 528 = .ok (.aload_n 0, 1) := by decide +kernel
theorem dL_law_529 : decode cL_law 529 = .ok (.iload_n 3, 1) := by decide +kernel
theorem dL_law_530 : decode cL_law 530 = .ok (.iconst 4, 1) := by decide +kernel
theorem dL_law_531 : decode cL_law 531 = .ok (.iadd, 1) := by decide +kernel
theorem dL_law_532 : decode cL_law 532 = .ok (.iaload, 1) := by decide +kernel
theorem dL_law_533 : decode cL_law 533 = .ok (.invokevirtual 50, 3) := by decide +kernel
theorem dL_law_536 : decode cL_law 536 = .ok (.aload_n 2, 1) := by decide +kernel
theorem dL_law_537 : decode cL_law 537 = .ok (.aload_n 0, 1) := by decide +kernel
theorem dL_law_538 : decode cL_law 538 = .ok (.iload_n 3, 1) := by decide +kernel
theorem dL_law_539 : decode cL_law 539 = .ok (.iconst 1, 1) := by decide +kernel
theorem dL_law_540 : decode cL_law 540 = .ok (.iadd, 1) := by decide +kernel
theorem dL_law_541 : decode cL_law 541 = .ok (.iaload, 1) := by decide +kernel
theorem dL_law_542 : decode cL_law 542 = .ok (.aload_n 0, 1) := by decide +kernel
theorem dL_law_543 : decode cL_law 543 = .ok (.iload_n 3, 1) := by decide +kernel
theorem dL_law_544 : decode cL_law 544 = .ok (.iconst 2, 1) := by decide +kernel
theorem dL_law_545 : decode cL_law 545 = .ok (.iadd, 1) := by decide +kernel
theorem dL_law_546 : decode cL_law 546 = .ok (.iaload, 1) := by decide +kernel
theorem dL_law_547 : decode cL_law 547 = .ok (.aload_n 0, 1) := by decide +kernel
theorem dL_law_548 : decode cL_law 548 = .ok (.iload_n 3, 1) := by decide +kernel
theorem dL_law_549 : decode cL_law 549 = .ok (.iconst 3, 1) := by decide +kernel
theorem dL_law_550 : decode cL_law 550 = .ok (.iadd, 1) := by decide +kernel
theorem dL_law_551 : decode cL_law 551 = .ok (.iaload, 1) := by decide +kernel
theorem dL_law_552 : decode cL_law 552 = .ok (.aload_n 0, 1) := by decide +kernel
theorem dL_law_553 : decode cL_law 553 = .ok (.iload_n 3, 1) := by decide +kernel
theorem dL_law_554 : decode cL_law 554 = .ok (.iconst 4, 1) := by decide +kernel
theorem dL_law_555 : decode cL_law 555 = .ok (.iadd, 1) := by decide +kernel
theorem dL_law_556 : decode cL_law 556 = .ok (.iaload, 1) := by decide +kernel
theorem dL_law_557 : decode cL_law 557 = .ok (.invokevirtual 54, 3) := by decide +kernel
theorem dL_law_560 : decode cL_law 560 = .ok (.if_icmp .eq 1100, 3) := by decide +kernel
theorem dL_law_563 : decode cL_law 563 = .ok (.iconst 0, 1) := by decide +kernel
theorem dL_law_564 : decode cL_law 564 = .ok (.ireturn, 1) := by decide +kernel
theorem dL_law_565 : decode cL_law 565 = .ok (.aload_n 1, 1) := by decide +kernel
theorem dL_law_566 : decode cL_law 566 = .ok (.aload_n 0, 1) := by decide +kernel
theorem dL_law_567 : decode cL_law 567 = .ok (.iload_n 3, 1) := by decide +kernel
theorem dL_law_568 : decode cL_law 568 = .ok (.iconst 1, 1) := by decide +kernel
theorem dL_law_569 : decode cL_law 569 = .ok (.iadd, 1) := by decide +kernel
theorem dL_law_570 : decode cL_law 570 = .ok (.iaload, 1) := by decide +kernel
theorem dL_law_571 : decode cL_law 571 = .ok (.aload_n 0, 1) := by decide +kernel
theorem dL_law_572 : decode cL_law 572 = .ok (.iload_n 3, 1) := by decide +kernel
theorem dL_law_573 : decode cL_law 573 = .ok (.iconst 2, 1) := by decide +kernel
theorem dL_law_574 : decode cL_law 574 = .ok (.iadd, 1) := by decide +kernel
theorem dL_law_575 : decode cL_law 575 = .ok (.iaload, 1) := by decide +kernel
theorem dL_law_576 : decode cL_law 576 = .ok (.invokevirtual 55, 3) := by decide +kernel
theorem dL_law_579 : decode cL_law 579 = .ok (.aload_n 2, 1) := by decide +kernel
theorem dL_law_580 : decode cL_law 580 = .ok (.aload_n 0, 1) := by decide +kernel
theorem dL_law_581 : decode cL_law 581 = .ok (.iload_n 3, 1) := by decide +kernel
theorem dL_law_582 : decode cL_law 582 = .ok (.iconst 1, 1) := by decide +kernel
theorem dL_law_583 : decode cL_law 583 = .ok (.iadd, 1) := by decide +kernel
theorem dL_law_584 : decode cL_law 584 = .ok (.iaload, 1) := by decide +kernel
theorem dL_law_585 : decode cL_law 585 = .ok (.aload_n 0, 1) := by decide +kernel
theorem dL_law_586 : decode cL_law 586 = .ok (.iload_n 3, 1) := by decide +kernel
theorem dL_law_587 : decode cL_law 587 = .ok (.iconst 2, 1) := by decide +kernel
theorem dL_law_588 : decode cL_law 588 = .ok (.iadd, 1) := by decide +kernel
theorem dL_law_589 : decode cL_law 589 = .ok (.iaload, 1) := by decide +kernel
theorem dL_law_590 : decode cL_law 590 = .ok (.invokevirtual 58, 3) := by decide +kernel
theorem dL_law_593 : decode cL_law 593 = .ok (.if_icmp .eq 1067, 3) := by decide +kernel
theorem dL_law_596 : decode cL_law 596 = .ok (.iconst 0, 1) := by decide +kernel
theorem dL_law_597 : decode cL_law 597 = .ok (.ireturn, 1) := by decide +kernel
theorem dL_law_598 : decode cL_law 598 = .ok (.aload_n 1, 1) := by decide +kernel
theorem dL_law_599 : decode cL_law 599 = .ok (.aload_n 0, 1) := by decide +kernel
theorem dL_law_600 : decode cL_law 600 = .ok (.iload_n 3, 1) := by decide +kernel
theorem dL_law_601 : decode cL_law 601 = .ok (.iconst 1, 1) := by decide +kernel
theorem dL_law_602 : decode cL_law 602 = .ok (.iadd, 1) := by decide +kernel
theorem dL_law_603 : decode cL_law 603 = .ok (.iaload, 1) := by decide +kernel
theorem dL_law_604 : decode cL_law 604 = .ok (.aload_n 0, 1) := by decide +kernel
theorem dL_law_605 : decode cL_law 605 = .ok (.iload_n 3, 1) := by decide +kernel
theorem dL_law_606 : decode cL_law 606 = .ok (.iconst 2, 1) := by decide +kernel
theorem dL_law_607 : decode cL_law 607 = .ok (.iadd, 1) := by decide +kernel
theorem dL_law_608 : decode cL_law 608 = .ok (.iaload, 1) := by decide +kernel
theorem dL_law_609 : decode cL_law 609 = .ok (.aload_n 0, 1) := by decide +kernel
theorem dL_law_610 : decode cL_law 610 = .ok (.iload_n 3, 1) := by decide +kernel
theorem dL_law_611 : decode cL_law 611 = .ok (.iconst 3, 1) := by decide +kernel
theorem dL_law_612 : decode cL_law 612 = .ok (.iadd, 1) := by decide +kernel
theorem dL_law_613 : decode cL_law 613 = .ok (.iaload, 1) := by decide +kernel
theorem dL_law_614 : decode cL_law 614 = .ok (.invokevirtual 59, 3) := by decide +kernel
theorem dL_law_617 : decode cL_law 617 = .ok (.aload_n 2, 1) := by decide +kernel
theorem dL_law_618 : decode cL_law 618 = .ok (.aload_n 0, 1) := by decide +kernel
theorem dL_law_619 : decode cL_law 619 = .ok (.iload_n 3, 1) := by decide +kernel
theorem dL_law_620 : decode cL_law 620 = .ok (.iconst 1, 1) := by decide +kernel
theorem dL_law_621 : decode cL_law 621 = .ok (.iadd, 1) := by decide +kernel
theorem dL_law_622 : decode cL_law 622 = .ok (.iaload, 1) := by decide +kernel
theorem dL_law_623 : decode cL_law 623 = .ok (.aload_n 0, 1) := by decide +kernel
theorem dL_law_624 : decode cL_law 624 = .ok (.iload_n 3, 1) := by decide +kernel
theorem dL_law_625 : decode cL_law 625 = .ok (.iconst 2, 1) := by decide +kernel
theorem dL_law_626 : decode cL_law 626 = .ok (.iadd, 1) := by decide +kernel
theorem dL_law_627 : decode cL_law 627 = .ok (.iaload, 1) := by decide +kernel
theorem dL_law_628 : decode cL_law 628 = .ok (.aload_n 0, 1) := by decide +kernel
theorem dL_law_629 : decode cL_law 629 = .ok (.iload_n 3, 1) := by decide +kernel
theorem dL_law_630 : decode cL_law 630 = .ok (.iconst 3, 1) := by decide +kernel
theorem dL_law_631 : decode cL_law 631 = .ok (.iadd, 1) := by decide +kernel
theorem dL_law_632 : decode cL_law 632 = .ok (.iaload, 1) := by decide +kernel
theorem dL_law_633 : decode cL_law 633 = .ok (.invokevirtual 62, 3) := by decide +kernel
theorem dL_law_636 : decode cL_law 636 = .ok (.if_icmp .eq 1024, 3) := by decide +kernel
theorem dL_law_639 : decode cL_law 639 = .ok (.iconst 0, 1) := by decide +kernel
theorem dL_law_640 : decode cL_law 640 = .ok (.ireturn, 1) := by decide +kernel
theorem dL_law_641 : decode cL_law 641 = .ok (.aload_n 1, 1) := by decide +kernel
theorem dL_law_642 : decode cL_law 642 = .ok (.aload_n 0, 1) := by decide +kernel
theorem dL_law_643 : decode cL_law 643 = .ok (.iload_n 3, 1) := by decide +kernel
theorem dL_law_644 : decode cL_law 644 = .ok (.iconst 1, 1) := by decide +kernel
theorem dL_law_645 : decode cL_law 645 = .ok (.iadd, 1) := by decide +kernel
theorem dL_law_646 : decode cL_law 646 = .ok (.iaload, 1) := by decide +kernel
theorem dL_law_647 : decode cL_law 647 = .ok (.aload_n 0, 1) := by decide +kernel
theorem dL_law_648 : decode cL_law 648 = .ok (.iload_n 3, 1) := by decide +kernel
theorem dL_law_649 : decode cL_law 649 = .ok (.iconst 2, 1) := by decide +kernel
theorem dL_law_650 : decode cL_law 650 = .ok (.iadd, 1) := by decide +kernel
theorem dL_law_651 : decode cL_law 651 = .ok (.iaload, 1) := by decide +kernel
theorem dL_law_652 : decode cL_law 652 = .ok (.invokevirtual 63, 3) := by decide +kernel
theorem dL_law_655 : decode cL_law 655 = .ok (.aload_n 2, 1) := by decide +kernel
theorem dL_law_656 : decode cL_law 656 = .ok (.aload_n 0, 1) := by decide +kernel
theorem dL_law_657 : decode cL_law 657 = .ok (.iload_n 3, 1) := by decide +kernel
theorem dL_law_658 : decode cL_law 658 = .ok (.iconst 1, 1) := by decide +kernel
theorem dL_law_659 : decode cL_law 659 = .ok (.iadd, 1) := by decide +kernel
theorem dL_law_660 : decode cL_law 660 = .ok (.iaload, 1) := by decide +kernel
theorem dL_law_661 : decode cL_law 661 = .ok (.aload_n 0, 1) := by decide +kernel
theorem dL_law_662 : decode cL_law 662 = .ok (.iload_n 3, 1) := by decide +kernel
theorem dL_law_663 : decode cL_law 663 = .ok (.iconst 2, 1) := by decide +kernel
theorem dL_law_664 : decode cL_law 664 = .ok (.iadd, 1) := by decide +kernel
theorem dL_law_665 : decode cL_law 665 = .ok (.iaload, 1) := by decide +kernel
theorem dL_law_666 : decode cL_law 666 = .ok (.invokevirtual 66, 3) := by decide +kernel
theorem dL_law_669 : decode cL_law 669 = .ok (.if_icmp .eq 991, 3) := by decide +kernel
theorem dL_law_672 : decode cL_law 672 = .ok (.iconst 0, 1) := by decide +kernel
theorem dL_law_673 : decode cL_law 673 = .ok (.ireturn, 1) := by decide +kernel
theorem dL_law_674 : decode cL_law 674 = .ok (.aload_n 1, 1) := by decide +kernel
theorem dL_law_675 : decode cL_law 675 = .ok (.aload_n 0, 1) := by decide +kernel
theorem dL_law_676 : decode cL_law 676 = .ok (.iload_n 3, 1) := by decide +kernel
theorem dL_law_677 : decode cL_law 677 = .ok (.iconst 1, 1) := by decide +kernel
theorem dL_law_678 : decode cL_law 678 = .ok (.iadd, 1) := by decide +kernel
theorem dL_law_679 : decode cL_law 679 = .ok (.iaload, 1) := by decide +kernel
theorem dL_law_680 : decode cL_law 680 = .ok (.aload_n 0, 1) := by decide +kernel
theorem dL_law_681 : decode cL_law 681 = .ok (.iload_n 3, 1) := by decide +kernel
theorem dL_law_682 : decode cL_law 682 = .ok (.iconst 2, 1) := by decide +kernel
theorem dL_law_683 : decode cL_law 683 = .ok (.iadd, 1) := by decide +kernel
theorem dL_law_684 : decode cL_law 684 = .ok (.iaload, 1) := by decide +kernel
theorem dL_law_685 : decode cL_law 685 = .ok (.invokevirtual 67, 3) := by decide +kernel
theorem dL_law_688 : decode cL_law 688 = .ok (.aload_n 2, 1) := by decide +kernel
theorem dL_law_689 : decode cL_law 689 = .ok (.aload_n 0, 1) := by decide +kernel
theorem dL_law_690 : decode cL_law 690 = .ok (.iload_n 3, 1) := by decide +kernel
theorem dL_law_691 : decode cL_law 691 = .ok (.iconst 1, 1) := by decide +kernel
theorem dL_law_692 : decode cL_law 692 = .ok (.iadd, 1) := by decide +kernel
theorem dL_law_693 : decode cL_law 693 = .ok (.iaload, 1) := by decide +kernel
theorem dL_law_694 : decode cL_law 694 = .ok (.aload_n 0, 1) := by decide +kernel
theorem dL_law_695 : decode cL_law 695 = .ok (.iload_n 3, 1) := by decide +kernel
theorem dL_law_696 : decode cL_law 696 = .ok (.iconst 2, 1) := by decide +kernel
theorem dL_law_697 : decode cL_law 697 = .ok (.iadd, 1) := by decide +kernel
theorem dL_law_698 : decode cL_law 698 = .ok (.iaload, 1) := by decide +kernel
theorem dL_law_699 : decode cL_law 699 = .ok (.invokevirtual 70, 3) := by decide +kernel
theorem dL_law_702 : decode cL_law 702 = .ok (.if_icmp .eq 958, 3) := by decide +kernel
theorem dL_law_705 : decode cL_law 705 = .ok (.iconst 0, 1) := by decide +kernel
theorem dL_law_706 : decode cL_law 706 = .ok (.ireturn, 1) := by decide +kernel
theorem dL_law_707 : decode cL_law 707 = .ok (.aload_n 1, 1) := by decide +kernel
theorem dL_law_708 : decode cL_law 708 = .ok (.aload_n 0, 1) := by decide +kernel
theorem dL_law_709 : decode cL_law 709 = .ok (.iload_n 3, 1) := by decide +kernel
theorem dL_law_710 : decode cL_law 710 = .ok (.iconst 1, 1) := by decide +kernel
theorem dL_law_711 : decode cL_law 711 = .ok (.iadd, 1) := by decide +kernel
theorem dL_law_712 : decode cL_law 712 = .ok (.iaload, 1) := by decide +kernel
theorem dL_law_713 : decode cL_law 713 = .ok (.aload_n 0, 1) := by decide +kernel
theorem dL_law_714 : decode cL_law 714 = .ok (.iload_n 3, 1) := by decide +kernel
theorem dL_law_715 : decode cL_law 715 = .ok (.iconst 2, 1) := by decide +kernel
theorem dL_law_716 : decode cL_law 716 = .ok (.iadd, 1) := by decide +kernel
theorem dL_law_717 : decode cL_law 717 = .ok (.iaload, 1) := by decide +kernel
theorem dL_law_718 : decode cL_law 718 = .ok (.invokevirtual 71, 3) := by decide +kernel
theorem dL_law_721 : decode cL_law 721 = .ok (.aload_n 2, 1) := by decide +kernel
theorem dL_law_722 : decode cL_law 722 = .ok (.aload_n 0, 1) := by decide +kernel
theorem dL_law_723 : decode cL_law 723 = .ok (.iload_n 3, 1) := by decide +kernel
theorem dL_law_724 : decode cL_law 724 = .ok (.iconst 1, 1) := by decide +kernel
theorem dL_law_725 : decode cL_law 725 = .ok (.iadd, 1) := by decide +kernel
theorem dL_law_726 : decode cL_law 726 = .ok (.iaload, 1) := by decide +kernel
theorem dL_law_727 : decode cL_law 727 = .ok (.aload_n 0, 1) := by decide +kernel
theorem dL_law_728 : decode cL_law 728 = .ok (.iload_n 3, 1) := by decide +kernel
theorem dL_law_729 : decode cL_law 729 = .ok (.iconst 2, 1) := by decide +kernel
theorem dL_law_730 : decode cL_law 730 = .ok (.iadd, 1) := by decide +kernel
theorem dL_law_731 : decode cL_law 731 = .ok (.iaload, 1) := by decide +kernel
theorem dL_law_732 : decode cL_law 732 = .ok (.invokevirtual 74, 3) := by decide +kernel
theorem dL_law_735 : decode cL_law 735 = .ok (.if_icmp .eq 925, 3) := by decide +kernel
theorem dL_law_738 : decode cL_law 738 = .ok (.iconst 0, 1) := by decide +kernel
theorem dL_law_739 : decode cL_law 739 = .ok (.ireturn, 1) := by decide +kernel
theorem dL_law_740 : decode cL_law 740 = .ok (.aload_n 1, 1) := by decide +kernel
theorem dL_law_741 : decode cL_law 741 = .ok (.aload_n 0, 1) := by decide +kernel
theorem dL_law_742 : decode cL_law 742 = .ok (.iload_n 3, 1) := by decide +kernel
theorem dL_law_743 : decode cL_law 743 = .ok (.iconst 1, 1) := by decide +kernel
theorem dL_law_744 : decode cL_law 744 = .ok (.iadd, 1) := by decide +kernel
theorem dL_law_745 : decode cL_law 745 = .ok (.iaload, 1) := by decide +kernel
theorem dL_law_746 : decode cL_law 746 = .ok (.aload_n 0, 1) := by decide +kernel
theorem dL_law_747 : decode cL_law 747 = .ok (.iload_n 3, 1) := by decide +kernel
theorem dL_law_748 : decode cL_law 748 = .ok (.iconst 2, 1) := by decide +kernel
theorem dL_law_749 : decode cL_law 749 = .ok (.iadd, 1) := by decide +kernel
theorem dL_law_750 : decode cL_law 750 = .ok (.iaload, 1) := by decide +kernel
theorem dL_law_751 : decode cL_law 751 = .ok (.aload_n 0, 1) := by decide +kernel
theorem dL_law_752 : decode cL_law 752 = .ok (.iload_n 3, 1) := by decide +kernel
theorem dL_law_753 : decode cL_law 753 = .ok (.iconst 3, 1) := by decide +kernel
theorem dL_law_754 : decode cL_law 754 = .ok (.iadd, 1) := by decide +kernel
theorem dL_law_755 : decode cL_law 755 = .ok (.iaload, 1) := by decide +kernel
theorem dL_law_756 : decode cL_law 756 = .ok (.ifCond .eq 7, 3) := by decide +kernel
theorem dL_law_759 : decode cL_law 759 = .ok (.iconst 1, 1) := by decide +kernel
theorem dL_law_760 : decode cL_law 760 = .ok (.goto 4, 3) := by decide +kernel
theorem dL_law_763 : decode cL_law 763 = .ok (.iconst 0, 1) := by decide +kernel
theorem dL_law_764 : decode cL_law 764 = .ok (.invokevirtual 75, 3) := by decide +kernel
theorem dL_law_767 : decode cL_law 767 = .ok (.aload_n 2, 1) := by decide +kernel
theorem dL_law_768 : decode cL_law 768 = .ok (.aload_n 0, 1) := by decide +kernel
theorem dL_law_769 : decode cL_law 769 = .ok (.iload_n 3, 1) := by decide +kernel
theorem dL_law_770 : decode cL_law 770 = .ok (.iconst 1, 1) := by decide +kernel
theorem dL_law_771 : decode cL_law 771 = .ok (.iadd, 1) := by decide +kernel
theorem dL_law_772 : decode cL_law 772 = .ok (.iaload, 1) := by decide +kernel
theorem dL_law_773 : decode cL_law 773 = .ok (.aload_n 0, 1) := by decide +kernel
theorem dL_law_774 : decode cL_law 774 = .ok (.iload_n 3, 1) := by decide +kernel
theorem dL_law_775 : decode cL_law 775 = .ok (.iconst 2, 1) := by decide +kernel
theorem dL_law_776 : decode cL_law 776 = .ok (.iadd, 1) := by decide +kernel
theorem dL_law_777 : decode cL_law 777 = .ok (.iaload, 1) := by decide +kernel
theorem dL_law_778 : decode cL_law 778 = .ok (.aload_n 0, 1) := by decide +kernel
theorem dL_law_779 : decode cL_law 779 = .ok (.iload_n 3, 1) := by decide +kernel
theorem dL_law_780 : decode cL_law 780 = .ok (.iconst 3, 1) := by decide +kernel
theorem dL_law_781 : decode cL_law 781 = .ok (.iadd, 1) := by decide +kernel
theorem dL_law_782 : decode cL_law 782 = .ok (.iaload, 1) := by decide +kernel
theorem dL_law_783 : decode cL_law 783 = .ok (.ifCond .eq 7, 3) := by decide +kernel
theorem dL_law_786 : decode cL_law 786 = .ok (.iconst 1, 1) := by decide +kernel
theorem dL_law_787 : decode cL_law 787 = .ok (.goto 4, 3) := by decide +kernel
theorem dL_law_790 : decode cL_law 790 = .ok (.iconst 0, 1) := by decide +kernel
theorem dL_law_791 : decode cL_law 791 = .ok (.invokevirtual 79, 3) := by decide +kernel
theorem dL_law_794 : decode cL_law 794 = .ok (.if_icmp .eq 866, 3) := by decide +kernel
theorem dL_law_797 : decode cL_law 797 = .ok (.iconst 0, 1) := by decide +kernel
theorem dL_law_798 : decode cL_law 798 = .ok (.ireturn, 1) := by decide +kernel
theorem dL_law_799 : decode cL_law 799 = .ok (.aload_n 1, 1) := by decide +kernel
theorem dL_law_800 : decode cL_law 800 = .ok (.aload_n 0, 1) := by decide +kernel
theorem dL_law_801 : decode cL_law 801 = .ok (.iload_n 3, 1) := by decide +kernel
theorem dL_law_802 : decode cL_law 802 = .ok (.iconst 1, 1) := by decide +kernel
theorem dL_law_803 : decode cL_law 803 = .ok (.iadd, 1) := by decide +kernel
theorem dL_law_804 : decode cL_law 804 = .ok (.iaload, 1) := by decide +kernel
theorem dL_law_805 : decode cL_law 805 = .ok (.aload_n 0, 1) := by decide +kernel
theorem dL_law_806 : decode cL_law 806 = .ok (.iload_n 3, 1) := by decide +kernel
theorem dL_law_807 : decode cL_law 807 = .ok (.iconst 2, 1) := by decide +kernel
theorem dL_law_808 : decode cL_law 808 = .ok (.iadd, 1) := by decide +kernel
theorem dL_law_809 : decode cL_law 809 = .ok (.iaload, 1) := by decide +kernel
theorem dL_law_810 : decode cL_law 810 = .ok (.aload_n 0, 1) := by decide +kernel
theorem dL_law_811 : decode cL_law 811 = .ok (.iload_n 3, 1) := by decide +kernel
theorem dL_law_812 : decode cL_law 812 = .ok (.iconst 3, 1) := by decide +kernel
theorem dL_law_813 : decode cL_law 813 = .ok (.iadd, 1) := by decide +kernel
theorem dL_law_814 : decode cL_law 814 = .ok (.iaload, 1) := by decide +kernel
theorem dL_law_815 : decode cL_law 815 = .ok (.aload_n 0, 1) := by decide +kernel
theorem dL_law_816 : decode cL_law 816 = .ok (.iload_n 3, 1) := by decide +kernel
theorem dL_law_817 : decode cL_law 817 = .ok (.iconst 4, 1) := by decide +kernel
theorem dL_law_818 : decode cL_law 818 = .ok (.iadd, 1) := by decide +kernel
theorem dL_law_819 : decode cL_law 819 = .ok (.iaload, 1) := by decide +kernel
theorem dL_law_820 : decode cL_law 820 = .ok (.invokevirtual 80, 3) := by decide +kernel
theorem dL_law_823 : decode cL_law 823 = .ok (.aload_n 2, 1) := by decide +kernel
theorem dL_law_824 : decode cL_law 824 = .ok (.aload_n 0, 1) := by decide +kernel
theorem dL_law_825 : decode cL_law 825 = .ok (.iload_n 3, 1) := by decide +kernel
theorem dL_law_826 : decode cL_law 826 = .ok (.iconst 1, 1) := by decide +kernel
theorem dL_law_827 : decode cL_law 827 = .ok (.iadd, 1) := by decide +kernel
theorem dL_law_828 : decode cL_law 828 = .ok (.iaload, 1) := by decide +kernel
theorem dL_law_829 : decode cL_law 829 = .ok (.aload_n 0, 1) := by decide +kernel
theorem dL_law_830 : decode cL_law 830 = .ok (.iload_n 3, 1) := by decide +kernel
theorem dL_law_831 : decode cL_law 831 = .ok (.iconst 2, 1) := by decide +kernel
theorem dL_law_832 : decode cL_law 832 = .ok (.iadd, 1) := by decide +kernel
theorem dL_law_833 : decode cL_law 833 = .ok (.iaload, 1) := by decide +kernel
theorem dL_law_834 : decode cL_law 834 = .ok (.aload_n 0, 1) := by decide +kernel
theorem dL_law_835 : decode cL_law 835 = .ok (.iload_n 3, 1) := by decide +kernel
theorem dL_law_836 : decode cL_law 836 = .ok (.iconst 3, 1) := by decide +kernel
theorem dL_law_837 : decode cL_law 837 = .ok (.iadd, 1) := by decide +kernel
theorem dL_law_838 : decode cL_law 838 = .ok (.iaload, 1) := by decide +kernel
theorem dL_law_839 : decode cL_law 839 = .ok (.aload_n 0, 1) := by decide +kernel
theorem dL_law_840 : decode cL_law 840 = .ok (.iload_n 3, 1) := by decide +kernel
theorem dL_law_841 : decode cL_law 841 = .ok (.iconst 4, 1) := by decide +kernel
theorem dL_law_842 : decode cL_law 842 = .ok (.iadd, 1) := by decide +kernel
theorem dL_law_843 : decode cL_law 843 = .ok (.iaload, 1) := by decide +kernel
theorem dL_law_844 : decode cL_law 844 = .ok (.invokevirtual 84, 3) := by decide +kernel
theorem dL_law_847 : decode cL_law 847 = .ok (.lcmp, 1) := by decide +kernel
theorem dL_law_848 : decode cL_law 848 = .ok (.ifCond .eq 812, 3) := by decide +kernel
theorem dL_law_851 : decode cL_law 851 = .ok (.iconst 0, 1) := by decide +kernel
theorem dL_law_852 : decode cL_law 852 = .ok (.ireturn, 1) := by decide +kernel
theorem dL_law_853 : decode cL_law 853 = .ok (.aload_n 1, 1) := by decide +kernel
theorem dL_law_854 : decode cL_law 854 = .ok (.aload_n 0, 1) := by decide +kernel
theorem dL_law_855 : decode cL_law 855 = .ok (.iload_n 3, 1) := by decide +kernel
theorem dL_law_856 : decode cL_law 856 = .ok (.iconst 1, 1) := by decide +kernel
theorem dL_law_857 : decode cL_law 857 = .ok (.iadd, 1) := by decide +kernel
theorem dL_law_858 : decode cL_law 858 = .ok (.iaload, 1) := by decide +kernel
theorem dL_law_859 : decode cL_law 859 = .ok (.aload_n 0, 1) := by decide +kernel
theorem dL_law_860 : decode cL_law 860 = .ok (.iload_n 3, 1) := by decide +kernel
theorem dL_law_861 : decode cL_law 861 = .ok (.iconst 2, 1) := by decide +kernel
theorem dL_law_862 : decode cL_law 862 = .ok (.iadd, 1) := by decide +kernel
theorem dL_law_863 : decode cL_law 863 = .ok (.iaload, 1) := by decide +kernel
theorem dL_law_864 : decode cL_law 864 = .ok (.aload_n 0, 1) := by decide +kernel
theorem dL_law_865 : decode cL_law 865 = .ok (.iload_n 3, 1) := by decide +kernel
theorem dL_law_866 : decode cL_law 866 = .ok (.iconst 3, 1) := by decide +kernel
theorem dL_law_867 : decode cL_law 867 = .ok (.iadd, 1) := by decide +kernel
theorem dL_law_868 : decode cL_law 868 = .ok (.iaload, 1) := by decide +kernel
theorem dL_law_869 : decode cL_law 869 = .ok (.invokevirtual 85, 3) := by decide +kernel
theorem dL_law_872 : decode cL_law 872 = .ok (.aload_n 2, 1) := by decide +kernel
theorem dL_law_873 : decode cL_law 873 = .ok (.aload_n 0, 1) := by decide +kernel
theorem dL_law_874 : decode cL_law 874 = .ok (.iload_n 3, 1) := by decide +kernel
theorem dL_law_875 : decode cL_law 875 = .ok (.iconst 1, 1) := by decide +kernel
theorem dL_law_876 : decode cL_law 876 = .ok (.iadd, 1) := by decide +kernel
theorem dL_law_877 : decode cL_law 877 = .ok (.iaload, 1) := by decide +kernel
theorem dL_law_878 : decode cL_law 878 = .ok (.aload_n 0, 1) := by decide +kernel
theorem dL_law_879 : decode cL_law 879 = .ok (.iload_n 3, 1) := by decide +kernel
theorem dL_law_880 : decode cL_law 880 = .ok (.iconst 2, 1) := by decide +kernel
theorem dL_law_881 : decode cL_law 881 = .ok (.iadd, 1) := by decide +kernel
theorem dL_law_882 : decode cL_law 882 = .ok (.iaload, 1) := by decide +kernel
theorem dL_law_883 : decode cL_law 883 = .ok (.aload_n 0, 1) := by decide +kernel
theorem dL_law_884 : decode cL_law 884 = .ok (.iload_n 3, 1) := by decide +kernel
theorem dL_law_885 : decode cL_law 885 = .ok (.iconst 3, 1) := by decide +kernel
theorem dL_law_886 : decode cL_law 886 = .ok (.iadd, 1) := by decide +kernel
theorem dL_law_887 : decode cL_law 887 = .ok (.iaload, 1) := by decide +kernel
theorem dL_law_888 : decode cL_law 888 = .ok (.invokevirtual 88, 3) := by decide +kernel
theorem dL_law_891 : decode cL_law 891 = .ok (.if_icmp .eq 769, 3) := by decide +kernel
theorem dL_law_894 : decode cL_law 894 = .ok (.iconst 0, 1) := by decide +kernel
theorem dL_law_895 : decode cL_law 895 = .ok (.ireturn, 1) := by decide +kernel
theorem dL_law_896 : decode cL_law 896 = .ok (.aload_n 1, 1) := by decide +kernel
theorem dL_law_897 : decode cL_law 897 = .ok (.aload_n 0, 1) := by decide +kernel
theorem dL_law_898 : decode cL_law 898 = .ok (.iload_n 3, 1) := by decide +kernel
theorem dL_law_899 : decode cL_law 899 = .ok (.iconst 1, 1) := by decide +kernel
theorem dL_law_900 : decode cL_law 900 = .ok (.iadd, 1) := by decide +kernel
theorem dL_law_901 : decode cL_law 901 = .ok (.iaload, 1) := by decide +kernel
theorem dL_law_902 : decode cL_law 902 = .ok (.aload_n 0, 1) := by decide +kernel
theorem dL_law_903 : decode cL_law 903 = .ok (.iload_n 3, 1) := by decide +kernel
theorem dL_law_904 : decode cL_law 904 = .ok (.iconst 2, 1) := by decide +kernel
theorem dL_law_905 : decode cL_law 905 = .ok (.iadd, 1) := by decide +kernel
theorem dL_law_906 : decode cL_law 906 = .ok (.iaload, 1) := by decide +kernel
theorem dL_law_907 : decode cL_law 907 = .ok (.aload_n 0, 1) := by decide +kernel
theorem dL_law_908 : decode cL_law 908 = .ok (.iload_n 3, 1) := by decide +kernel
theorem dL_law_909 : decode cL_law 909 = .ok (.iconst 3, 1) := by decide +kernel
theorem dL_law_910 : decode cL_law 910 = .ok (.iadd, 1) := by decide +kernel
theorem dL_law_911 : decode cL_law 911 = .ok (.iaload, 1) := by decide +kernel
theorem dL_law_912 : decode cL_law 912 = .ok (.invokevirtual 89, 3) := by decide +kernel
theorem dL_law_915 : decode cL_law 915 = .ok (.aload_n 2, 1) := by decide +kernel
theorem dL_law_916 : decode cL_law 916 = .ok (.aload_n 0, 1) := by decide +kernel
theorem dL_law_917 : decode cL_law 917 = .ok (.iload_n 3, 1) := by decide +kernel
theorem dL_law_918 : decode cL_law 918 = .ok (.iconst 1, 1) := by decide +kernel
theorem dL_law_919 : decode cL_law 919 = .ok (.iadd, 1) := by decide +kernel
theorem dL_law_920 : decode cL_law 920 = .ok (.iaload, 1) := by decide +kernel
theorem dL_law_921 : decode cL_law 921 = .ok (.aload_n 0, 1) := by decide +kernel
theorem dL_law_922 : decode cL_law 922 = .ok (.iload_n 3, 1) := by decide +kernel
theorem dL_law_923 : decode cL_law 923 = .ok (.iconst 2, 1) := by decide +kernel
theorem dL_law_924 : decode cL_law 924 = .ok (.iadd, 1) := by decide +kernel
theorem dL_law_925 : decode cL_law 925 = .ok (.iaload, 1) := by decide +kernel
theorem dL_law_926 : decode cL_law 926 = .ok (.aload_n 0, 1) := by decide +kernel
theorem dL_law_927 : decode cL_law 927 = .ok (.iload_n 3, 1) := by decide +kernel
theorem dL_law_928 : decode cL_law 928 = .ok (.iconst 3, 1) := by decide +kernel
theorem dL_law_929 : decode cL_law 929 = .ok (.iadd, 1) := by decide +kernel
theorem dL_law_930 : decode cL_law 930 = .ok (.iaload, 1) := by decide +kernel
theorem dL_law_931 : decode cL_law 931 = .ok (.invokevirtual 92, 3) := by decide +kernel
theorem dL_law_934 : decode cL_law 934 = .ok (.if_icmp .eq 726, 3) := by decide +kernel
theorem dL_law_937 : decode cL_law 937 = .ok (.iconst 0, 1) := by decide +kernel
theorem dL_law_938 : decode cL_law 938 = .ok (.ireturn, 1) := by decide +kernel
theorem dL_law_939 : decode cL_law 939 = .ok (.aload_n 1, 1) := by decide +kernel
theorem dL_law_940 : decode cL_law 940 = .ok (.aload_n 0, 1) := by decide +kernel
theorem dL_law_941 : decode cL_law 941 = .ok (.iload_n 3, 1) := by decide +kernel
theorem dL_law_942 : decode cL_law 942 = .ok (.iconst 1, 1) := by decide +kernel
theorem dL_law_943 : decode cL_law 943 = .ok (.iadd, 1) := by decide +kernel
theorem dL_law_944 : decode cL_law 944 = .ok (.iaload, 1) := by decide +kernel
theorem dL_law_945 : decode cL_law 945 = .ok (.aload_n 0, 1) := by decide +kernel
theorem dL_law_946 : decode cL_law 946 = .ok (.iload_n 3, 1) := by decide +kernel
theorem dL_law_947 : decode cL_law 947 = .ok (.iconst 2, 1) := by decide +kernel
theorem dL_law_948 : decode cL_law 948 = .ok (.iadd, 1) := by decide +kernel
theorem dL_law_949 : decode cL_law 949 = .ok (.iaload, 1) := by decide +kernel
theorem dL_law_950 : decode cL_law 950 = .ok (.aload_n 0, 1) := by decide +kernel
theorem dL_law_951 : decode cL_law 951 = .ok (.iload_n 3, 1) := by decide +kernel
theorem dL_law_952 : decode cL_law 952 = .ok (.iconst 3, 1) := by decide +kernel
theorem dL_law_953 : decode cL_law 953 = .ok (.iadd, 1) := by decide +kernel
theorem dL_law_954 : decode cL_law 954 = .ok (.iaload, 1) := by decide +kernel
theorem dL_law_955 : decode cL_law 955 = .ok (.invokevirtual 93, 3) := by decide +kernel
theorem dL_law_958 : decode cL_law 958 = .ok (.aload_n 2, 1) := by decide +kernel
theorem dL_law_959 : decode cL_law 959 = .ok (.aload_n 0, 1) := by decide +kernel
theorem dL_law_960 : decode cL_law 960 = .ok (.iload_n 3, 1) := by decide +kernel
theorem dL_law_961 : decode cL_law 961 = .ok (.iconst 1, 1) := by decide +kernel
theorem dL_law_962 : decode cL_law 962 = .ok (.iadd, 1) := by decide +kernel
theorem dL_law_963 : decode cL_law 963 = .ok (.iaload, 1) := by decide +kernel
theorem dL_law_964 : decode cL_law 964 = .ok (.aload_n 0, 1) := by decide +kernel
theorem dL_law_965 : decode cL_law 965 = .ok (.iload_n 3, 1) := by decide +kernel
theorem dL_law_966 : decode cL_law 966 = .ok (.iconst 2, 1) := by decide +kernel
theorem dL_law_967 : decode cL_law 967 = .ok (.iadd, 1) := by decide +kernel
theorem dL_law_968 : decode cL_law 968 = .ok (.iaload, 1) := by decide +kernel
theorem dL_law_969 : decode cL_law 969 = .ok (.aload_n 0, 1) := by decide +kernel
theorem dL_law_970 : decode cL_law 970 = .ok (.iload_n 3, 1) := by decide +kernel
theorem dL_law_971 : decode cL_law 971 = .ok (.iconst 3, 1) := by decide +kernel
theorem dL_law_972 : decode cL_law 972 = .ok (.iadd, 1) := by decide +kernel
theorem dL_law_973 : decode cL_law 973 = .ok (.iaload, 1) := by decide +kernel
theorem dL_law_974 : decode cL_law 974 = .ok (.invokevirtual 96, 3) := by decide +kernel
theorem dL_law_977 : decode cL_law 977 = .ok (.if_icmp .eq 683, 3) := by decide +kernel
theorem dL_law_980 : decode cL_law 980 = .ok (.iconst 0, 1) := by decide +kernel
theorem dL_law_981 : decode cL_law 981 = .ok (.ireturn, 1) := by decide +kernel
theorem dL_law_982 : decode cL_law 982 = .ok (.aload_n 1, 1) := by decide +kernel
theorem dL_law_983 : decode cL_law 983 = .ok (.aload_n 0, 1) := by decide +kernel
theorem dL_law_984 : decode cL_law 984 = .ok (.iload_n 3, 1) := by decide +kernel
theorem dL_law_985 : decode cL_law 985 = .ok (.iconst 1, 1) := by decide +kernel
theorem dL_law_986 : decode cL_law 986 = .ok (.iadd, 1) := by decide +kernel
theorem dL_law_987 : decode cL_law 987 = .ok (.iaload, 1) := by decide +kernel
theorem dL_law_988 : decode cL_law 988 = .ok (.aload_n 0, 1) := by decide +kernel
theorem dL_law_989 : decode cL_law 989 = .ok (.iload_n 3, 1) := by decide +kernel
theorem dL_law_990 : decode cL_law 990 = .ok (.iconst 2, 1) := by decide +kernel
theorem dL_law_991 : decode cL_law 991 = .ok (.iadd, 1) := by decide +kernel
theorem dL_law_992 : decode cL_law 992 = .ok (.iaload, 1) := by decide +kernel
theorem dL_law_993 : decode cL_law 993 = .ok (.aload_n 0, 1) := by decide +kernel
theorem dL_law_994 : decode cL_law 994 = .ok (.iload_n 3, 1) := by decide +kernel
theorem dL_law_995 : decode cL_law 995 = .ok (.iconst 3, 1) := by decide +kernel
theorem dL_law_996 : decode cL_law 996 = .ok (.iadd, 1) := by decide +kernel
theorem dL_law_997 : decode cL_law 997 = .ok (.iaload, 1) := by decide +kernel
theorem dL_law_998 : decode cL_law 998 = .ok (.aload_n 0, 1) := by decide +kernel
theorem dL_law_999 : decode cL_law 999 = .ok (.iload_n 3, 1) := by decide +kernel
theorem dL_law_1000 : decode cL_law 1000 = .ok (.iconst 4, 1) := by decide +kernel
theorem dL_law_1001 : decode cL_law 1001 = .ok (.iadd, 1) := by decide +kernel
theorem dL_law_1002 : decode cL_law 1002 = .ok (.iaload, 1) := by decide +kernel
theorem dL_law_1003 : decode cL_law 1003 = .ok (.invokevirtual 97, 3) := by decide +kernel
theorem dL_law_1006 : decode cL_law 1006 = .ok (.aload_n 2, 1) := by decide +kernel
theorem dL_law_1007 : decode cL_law 1007 = .ok (.aload_n 0, 1) := by decide +kernel
theorem dL_law_1008 : decode cL_law 1008 = .ok (.iload_n 3, 1) := by decide +kernel
theorem dL_law_1009 : decode cL_law 1009 = .ok (.iconst 1, 1) := by decide +kernel
theorem dL_law_1010 : decode cL_law 1010 = .ok (.iadd, 1) := by decide +kernel
theorem dL_law_1011 : decode cL_law 1011 = .ok (.iaload, 1) := by decide +kernel
theorem dL_law_1012 : decode cL_law 1012 = .ok (.aload_n 0, 1) := by decide +kernel
theorem dL_law_1013 : decode cL_law 1013 = .ok (.iload_n 3, 1) := by decide +kernel
theorem dL_law_1014 : decode cL_law 1014 = .ok (.iconst 2, 1) := by decide +kernel
theorem dL_law_1015 : decode cL_law 1015 = .ok (.iadd, 1) := by decide +kernel
theorem dL_law_1016 : decode cL_law 1016 = .ok (.iaload, 1) := by decide +kernel
theorem dL_law_1017 : decode cL_law 1017 = .ok (.aload_n 0, 1) := by decide +kernel
theorem dL_law_1018 : decode cL_law 1018 = .ok (.iload_n 3, 1) := by decide +kernel
theorem dL_law_1019 : decode cL_law 1019 = .ok (.iconst 3, 1) := by decide +kernel
theorem dL_law_1020 : decode cL_law 1020 = .ok (.iadd, 1) := by decide +kernel
theorem dL_law_1021 : decode cL_law 1021 = .ok (.iaload, 1) := by decide +kernel
theorem dL_law_1022 : decode cL_law 1022 = .ok (.aload_n 0, 1) := by decide +kernel
theorem dL_law_1023 : decode cL_law 1023 = .ok (.iload_n 3, 1) := by decide +kernel
theorem dL_law_1024 : decode cL_law 1024 = .ok (.iconst 4, 1) := by decide +kernel
theorem dL_law_1025 : decode cL_law 1025 = .ok (.iadd, 1) := by decide +kernel
theorem dL_law_1026 : decode cL_law 1026 = .ok (.iaload, 1) := by decide +kernel
theorem dL_law_1027 : decode cL_law 1027 = .ok (.invokevirtual 100, 3) := by decide +kernel
theorem dL_law_1030 : decode cL_law 1030 = .ok (.if_icmp .eq 630, 3) := by decide +kernel
theorem dL_law_1033 : decode cL_law 1033 = .ok (.iconst 0, 1) := by decide +kernel
theorem dL_law_1034 : decode cL_law 1034 = .ok (.ireturn, 1) := by decide +kernel
theorem dL_law_1035 : decode cL_law 1035 = .ok (.aload_n 1, 1) := by decide +kernel
theorem dL_law_1036 : decode cL_law 1036 = .ok (.aload_n 0, 1) := by decide +kernel
theorem dL_law_1037 : decode cL_law 1037 = .ok (.iload_n 3, 1) := by decide +kernel
theorem dL_law_1038 : decode cL_law 1038 = .ok (.iconst 1, 1) := by decide +kernel
theorem dL_law_1039 : decode cL_law 1039 = .ok (.iadd, 1) := by decide +kernel
theorem dL_law_1040 : decode cL_law 1040 = .ok (.iaload, 1) := by decide +kernel
theorem dL_law_1041 : decode cL_law 1041 = .ok (.invokevirtual 101, 3) := by decide +kernel
theorem dL_law_1044 : decode cL_law 1044 = .ok (.aload_n 2, 1) := by decide +kernel
theorem dL_law_1045 : decode cL_law 1045 = .ok (.aload_n 0, 1) := by decide +kernel
theorem dL_law_1046 : decode cL_law 1046 = .ok (.iload_n 3, 1) := by decide +kernel
theorem dL_law_1047 : decode cL_law 1047 = .ok (.iconst 1, 1) := by decide +kernel
theorem dL_law_1048 : decode cL_law 1048 = .ok (.iadd, 1) := by decide +kernel
theorem dL_law_1049 : decode cL_law 1049 = .ok (.iaload, 1) := by decide +kernel
theorem dL_law_1050 : decode cL_law 1050 = .ok (.invokevirtual 104, 3) := by decide +kernel
theorem dL_law_1053 : decode cL_law 1053 = .ok (.if_icmp .eq 607, 3) := by decide +kernel
theorem dL_law_1056 : decode cL_law 1056 = .ok (.iconst 0, 1) := by decide +kernel
theorem dL_law_1057 : decode cL_law 1057 = .ok (.ireturn, 1) := by decide +kernel
theorem dL_law_1058 : decode cL_law 1058 = .ok (.aload_n 1, 1) := by decide +kernel
theorem dL_law_1059 : decode cL_law 1059 = .ok (.aload_n 0, 1) := by decide +kernel
theorem dL_law_1060 : decode cL_law 1060 = .ok (.iload_n 3, 1) := by decide +kernel
theorem dL_law_1061 : decode cL_law 1061 = .ok (.iconst 1, 1) := by decide +kernel
theorem dL_law_1062 : decode cL_law 1062 = .ok (.iadd, 1) := by decide +kernel
theorem dL_law_1063 : decode cL_law 1063 = .ok (.iaload, 1) := by decide +kernel
theorem dL_law_1064 : decode cL_law 1064 = .ok (.aload_n 0, 1) := by decide +kernel
theorem dL_law_1065 : decode cL_law 1065 = .ok (.iload_n 3, 1) := by decide +kernel
theorem dL_law_1066 : decode cL_law 1066 = .ok (.iconst 2, 1) := by decide +kernel
theorem dL_law_1067 : decode cL_law 1067 = .ok (.iadd, 1) := by decide +kernel
theorem dL_law_1068 : decode cL_law 1068 = .ok (.iaload, 1) := by decide +kernel
theorem dL_law_1069 : decode cL_law 1069 = .ok (.aload_n 0, 1) := by decide +kernel
theorem dL_law_1070 : decode cL_law 1070 = .ok (.iload_n 3, 1) := by decide +kernel
theorem dL_law_1071 : decode cL_law 1071 = .ok (.iconst 3, 1) := by decide +kernel
theorem dL_law_1072 : decode cL_law 1072 = .ok (.iadd, 1) := by decide +kernel
theorem dL_law_1073 : decode cL_law 1073 = .ok (.iaload, 1) := by decide +kernel
theorem dL_law_1074 : decode cL_law 1074 = .ok (.invokevirtual 105, 3) := by decide +kernel
theorem dL_law_1077 : decode cL_law 1077 = .ok (.aload_n 2, 1) := by decide +kernel
theorem dL_law_1078 : decode cL_law 1078 = .ok (.aload_n 0, 1) := by decide +kernel
theorem dL_law_1079 : decode cL_law 1079 = .ok (.iload_n 3, 1) := by decide +kernel
theorem dL_law_1080 : decode cL_law 1080 = .ok (.iconst 1, 1) := by decide +kernel
theorem dL_law_1081 : decode cL_law 1081 = .ok (.iadd, 1) := by decide +kernel
theorem dL_law_1082 : decode cL_law 1082 = .ok (.iaload, 1) := by decide +kernel
theorem dL_law_1083 : decode cL_law 1083 = .ok (.aload_n 0, 1) := by decide +kernel
theorem dL_law_1084 : decode cL_law 1084 = .ok (.iload_n 3, 1) := by decide +kernel
theorem dL_law_1085 : decode cL_law 1085 = .ok (.iconst 2, 1) := by decide +kernel
theorem dL_law_1086 : decode cL_law 1086 = .ok (.iadd, 1) := by decide +kernel
theorem dL_law_1087 : decode cL_law 1087 = .ok (.iaload, 1) := by decide +kernel
theorem dL_law_1088 : decode cL_law 1088 = .ok (.aload_n 0, 1) := by decide +kernel
theorem dL_law_1089 : decode cL_law 1089 = .ok (.iload_n 3, 1) := by decide +kernel
theorem dL_law_1090 : decode cL_law 1090 = .ok (.iconst 3, 1) := by decide +kernel
theorem dL_law_1091 : decode cL_law 1091 = .ok (.iadd, 1) := by decide +kernel
theorem dL_law_1092 : decode cL_law 1092 = .ok (.iaload, 1) := by decide +kernel
theorem dL_law_1093 : decode cL_law 1093 = .ok (.invokevirtual 108, 3) := by decide +kernel
theorem dL_law_1096 : decode cL_law 1096 = .ok (.if_icmp .eq 564, 3) := by decide +kernel
theorem dL_law_1099 : decode cL_law 1099 = .ok (.iconst 0, 1) := by decide +kernel
theorem dL_law_1100 : decode cL_law 1100 = .ok (.ireturn, 1) := by decide +kernel
theorem dL_law_1101 : decode cL_law 1101 = .ok (.aload_n 1, 1) := by decide +kernel
theorem dL_law_1102 : decode cL_law 1102 = .ok (.aload_n 0, 1) := by decide +kernel
theorem dL_law_1103 : decode cL_law 1103 = .ok (.iload_n 3, 1) := by decide +kernel
theorem dL_law_1104 : decode cL_law 1104 = .ok (.iconst 1, 1) := by decide +kernel
theorem dL_law_1105 : decode cL_law 1105 = .ok (.iadd, 1) := by decide +kernel
theorem dL_law_1106 : decode cL_law 1106 = .ok (.iaload, 1) := by decide +kernel
theorem dL_law_1107 : decode cL_law 1107 = .ok (.aload_n 0, 1) := by decide +kernel
theorem dL_law_1108 : decode cL_law 1108 = .ok (.iload_n 3, 1) := by decide +kernel
theorem dL_law_1109 : decode cL_law 1109 = .ok (.iconst 2, 1) := by decide +kernel
theorem dL_law_1110 : decode cL_law 1110 = .ok (.iadd, 1) := by decide +kernel
theorem dL_law_1111 : decode cL_law 1111 = .ok (.iaload, 1) := by decide +kernel
theorem dL_law_1112 : decode cL_law 1112 = .ok (.aload_n 0, 1) := by decide +kernel
theorem dL_law_1113 : decode cL_law 1113 = .ok (.iload_n 3, 1) := by decide +kernel
theorem dL_law_1114 : decode cL_law 1114 = .ok (.iconst 3, 1) := by decide +kernel
theorem dL_law_1115 : decode cL_law 1115 = .ok (.iadd, 1) := by decide +kernel
theorem dL_law_1116 : decode cL_law 1116 = .ok (.iaload, 1) := by decide +kernel
theorem dL_law_1117 : decode cL_law 1117 = .ok (.ifCond .eq 7, 3) := by decide +kernel
theorem dL_law_1120 : decode cL_law 1120 = .ok (.iconst 1, 1) := by decide +kernel
theorem dL_law_1121 : decode cL_law 1121 = .ok (.goto 4, 3) := by decide +kernel
theorem dL_law_1124 : decode cL_law 1124 = .ok (.iconst 0, 1) := by decide +kernel
theorem dL_law_1125 : decode cL_law 1125 = .ok (.invokevirtual 109, 3) := by decide +kernel
theorem dL_law_1128 : decode cL_law 1128 = .ok (.aload_n 2, 1) := by decide +kernel
theorem dL_law_1129 : decode cL_law 1129 = .ok (.aload_n 0, 1) := by decide +kernel
theorem dL_law_1130 : decode cL_law 1130 = .ok (.iload_n 3, 1) := by decide +kernel
theorem dL_law_1131 : decode cL_law 1131 = .ok (.iconst 1, 1) := by decide +kernel
theorem dL_law_1132 : decode cL_law 1132 = .ok (.iadd, 1) := by decide +kernel
theorem dL_law_1133 : decode cL_law 1133 = .ok (.iaload, 1) := by decide +kernel
theorem dL_law_1134 : decode cL_law 1134 = .ok (.aload_n 0, 1) := by decide +kernel
theorem dL_law_1135 : decode cL_law 1135 = .ok (.iload_n 3, 1) := by decide +kernel
theorem dL_law_1136 : decode cL_law 1136 = .ok (.iconst 2, 1) := by decide +kernel
theorem dL_law_1137 : decode cL_law 1137 = .ok (.iadd, 1) := by decide +kernel
theorem dL_law_1138 : decode cL_law 1138 = .ok (.iaload, 1) := by decide +kernel
theorem dL_law_1139 : decode cL_law 1139 = .ok (.aload_n 0, 1) := by decide +kernel
theorem dL_law_1140 : decode cL_law 1140 = .ok (.iload_n 3, 1) := by decide +kernel
theorem dL_law_1141 : decode cL_law 1141 = .ok (.iconst 3, 1) := by decide +kernel
theorem dL_law_1142 : decode cL_law 1142 = .ok (.iadd, 1) := by decide +kernel
theorem dL_law_1143 : decode cL_law 1143 = .ok (.iaload, 1) := by decide +kernel
theorem dL_law_1144 : decode cL_law 1144 = .ok (.ifCond .eq 7, 3) := by decide +kernel
theorem dL_law_1147 : decode cL_law 1147 = .ok (.iconst 1, 1) := by decide +kernel
theorem dL_law_1148 : decode cL_law 1148 = .ok (.goto 4, 3) := by decide +kernel
theorem dL_law_1151 : decode cL_law 1151 = .ok (.iconst 0, 1) := by decide +kernel
theorem dL_law_1152 : decode cL_law 1152 = .ok (.invokevirtual 112, 3) := by decide +kernel
theorem dL_law_1155 : decode cL_law 1155 = .ok (.if_icmp .eq 505, 3) := by decide +kernel
theorem dL_law_1158 : decode cL_law 1158 = .ok (.iconst 0, 1) := by decide +kernel
theorem dL_law_1159 : decode cL_law 1159 = .ok (.ireturn, 1) := by decide +kernel
theorem dL_law_1160 : decode cL_law 1160 = .ok (.aload_n 1, 1) := by decide +kernel
theorem dL_law_1161 : decode cL_law 1161 = .ok (.aload_n 0, 1) := by decide +kernel
theorem dL_law_1162 : decode cL_law 1162 = .ok (.iload_n 3, 1) := by decide +kernel
theorem dL_law_1163 : decode cL_law 1163 = .ok (.iconst 1, 1) := by decide +kernel
theorem dL_law_1164 : decode cL_law 1164 = .ok (.iadd, 1) := by decide +kernel
theorem dL_law_1165 : decode cL_law 1165 = .ok (.iaload, 1) := by decide +kernel
theorem dL_law_1166 : decode cL_law 1166 = .ok (.aload_n 0, 1) := by decide +kernel
theorem dL_law_1167 : decode cL_law 1167 = .ok (.iload_n 3, 1) := by decide +kernel
theorem dL_law_1168 : decode cL_law 1168 = .ok (.iconst 2, 1) := by decide +kernel
theorem dL_law_1169 : decode cL_law 1169 = .ok (.iadd, 1) := by decide +kernel
theorem dL_law_1170 : decode cL_law 1170 = .ok (.iaload, 1) := by decide +kernel
theorem dL_law_1171 : decode cL_law 1171 = .ok (.ifCond .eq 7, 3) := by decide +kernel
theorem dL_law_1174 : decode cL_law 1174 = .ok (.iconst 1, 1) := by decide +kernel
theorem dL_law_1175 : decode cL_law 1175 = .ok (.goto 4, 3) := by decide +kernel
theorem dL_law_1178 : decode cL_law 1178 = .ok (.iconst 0, 1) := by decide +kernel
theorem dL_law_1179 : decode cL_law 1179 = .ok (.invokevirtual 113, 3) := by decide +kernel
theorem dL_law_1182 : decode cL_law 1182 = .ok (.aload_n 2, 1) := by decide +kernel
theorem dL_law_1183 : decode cL_law 1183 = .ok (.aload_n 0, 1) := by decide +kernel
theorem dL_law_1184 : decode cL_law 1184 = .ok (.iload_n 3, 1) := by decide +kernel
theorem dL_law_1185 : decode cL_law 1185 = .ok (.iconst 1, 1) := by decide +kernel
theorem dL_law_1186 : decode cL_law 1186 = .ok (.iadd, 1) := by decide +kernel
theorem dL_law_1187 : decode cL_law 1187 = .ok (.iaload, 1) := by decide +kernel
theorem dL_law_1188 : decode cL_law 1188 = .ok (.aload_n 0, 1) := by decide +kernel
theorem dL_law_1189 : decode cL_law 1189 = .ok (.iload_n 3, 1) := by decide +kernel
theorem dL_law_1190 : decode cL_law 1190 = .ok (.iconst 2, 1) := by decide +kernel
theorem dL_law_1191 : decode cL_law 1191 = .ok (.iadd, 1) := by decide +kernel
theorem dL_law_1192 : decode cL_law 1192 = .ok (.iaload, 1) := by decide +kernel
theorem dL_law_1193 : decode cL_law 1193 = .ok (.ifCond .eq 7, 3) := by decide +kernel
theorem dL_law_1196 : decode cL_law 1196 = .ok (.iconst 1, 1) := by decide +kernel
theorem dL_law_1197 : decode cL_law 1197 = .ok (.goto 4, 3) := by decide +kernel
theorem dL_law_1200 : decode cL_law 1200 = .ok (.iconst 0, 1) := by decide +kernel
theorem dL_law_1201 : decode cL_law 1201 = .ok (.invokevirtual 117, 3) := by decide +kernel
theorem dL_law_1204 : decode cL_law 1204 = .ok (.if_icmp .eq 456, 3) := by decide +kernel
theorem dL_law_1207 : decode cL_law 1207 = .ok (.iconst 0, 1) := by decide +kernel
theorem dL_law_1208 : decode cL_law 1208 = .ok (.ireturn, 1) := by decide +kernel
theorem dL_law_1209 : decode cL_law 1209 = .ok (.aload_n 1, 1) := by decide +kernel
theorem dL_law_1210 : decode cL_law 1210 = .ok (.aload_n 0, 1) := by decide +kernel
theorem dL_law_1211 : decode cL_law 1211 = .ok (.iload_n 3, 1) := by decide +kernel
theorem dL_law_1212 : decode cL_law 1212 = .ok (.iconst 1, 1) := by decide +kernel
theorem dL_law_1213 : decode cL_law 1213 = .ok (.iadd, 1) := by decide +kernel
theorem dL_law_1214 : decode cL_law 1214 = .ok (.iaload, 1) := by decide +kernel
theorem dL_law_1215 : decode cL_law 1215 = .ok (.invokevirtual 118, 3) := by decide +kernel
theorem dL_law_1218 : decode cL_law 1218 = .ok (.aload_n 2, 1) := by decide +kernel
theorem dL_law_1219 : decode cL_law 1219 = .ok (.aload_n 0, 1) := by decide +kernel
theorem dL_law_1220 : decode cL_law 1220 = .ok (.iload_n 3, 1) := by decide +kernel
theorem dL_law_1221 : decode cL_law 1221 = .ok (.iconst 1, 1) := by decide +kernel
theorem dL_law_1222 : decode cL_law 1222 = .ok (.iadd, 1) := by decide +kernel
theorem dL_law_1223 : decode cL_law 1223 = .ok (.iaload, 1) := by decide +kernel
theorem dL_law_1224 : decode cL_law 1224 = .ok (.invokevirtual 121, 3) := by decide +kernel
theorem dL_law_1227 : decode cL_law 1227 = .ok (.if_icmp .eq 433, 3) := by decide +kernel
theorem dL_law_1230 : decode cL_law 1230 = .ok (.iconst 0, 1) := by decide +kernel
theorem dL_law_1231 : decode cL_law 1231 = .ok (.ireturn, 1) := by decide +kernel
theorem dL_law_1232 : decode cL_law 1232 = .ok (.aload_n 1, 1) := by decide +kernel
theorem dL_law_1233 : decode cL_law 1233 = .ok (.aload_n 0, 1) := by decide +kernel
theorem dL_law_1234 : decode cL_law 1234 = .ok (.iload_n 3, 1) := by decide +kernel
theorem dL_law_1235 : decode cL_law 1235 = .ok (.iconst 1, 1) := by decide +kernel
theorem dL_law_1236 : decode cL_law 1236 = .ok (.iadd, 1) := by decide +kernel
theorem dL_law_1237 : decode cL_law 1237 = .ok (.iaload, 1) := by decide +kernel
theorem dL_law_1238 : decode cL_law 1238 = .ok (.aload_n 0, 1) := by decide +kernel
theorem dL_law_1239 : decode cL_law 1239 = .ok (.iload_n 3, 1) := by decide +kernel
theorem dL_law_1240 : decode cL_law 1240 = .ok (.iconst 2, 1) := by decide +kernel
theorem dL_law_1241 : decode cL_law 1241 = .ok (.iadd, 1) := by decide +kernel
theorem dL_law_1242 : decode cL_law 1242 = .ok (.iaload, 1) := by decide +kernel
theorem dL_law_1243 : decode cL_law 1243 = .ok (.invokevirtual 122, 3) := by decide +kernel
theorem dL_law_1246 : decode cL_law 1246 = .ok (.aload_n 2, 1) := by decide +kernel
theorem dL_law_1247 : decode cL_law 1247 = .ok (.aload_n 0, 1) := by decide +kernel
theorem dL_law_1248 : decode cL_law 1248 = .ok (.iload_n 3, 1) := by decide +kernel
theorem dL_law_1249 : decode cL_law 1249 = .ok (.iconst 1, 1) := by decide +kernel
theorem dL_law_1250 : decode cL_law 1250 = .ok (.iadd, 1) := by decide +kernel
theorem dL_law_1251 : decode cL_law 1251 = .ok (.iaload, 1) := by decide +kernel
theorem dL_law_1252 : decode cL_law 1252 = .ok (.aload_n 0, 1) := by decide +kernel
theorem dL_law_1253 : decode cL_law 1253 = .ok (.iload_n 3, 1) := by decide +kernel
theorem dL_law_1254 : decode cL_law 1254 = .ok (.iconst 2, 1) := by decide +kernel
theorem dL_law_1255 : decode cL_law 1255 = .ok (.iadd, 1) := by decide +kernel
theorem dL_law_1256 : decode cL_law 1256 = .ok (.iaload, 1) := by decide +kernel
theorem dL_law_1257 : decode cL_law 1257 = .ok (.invokevirtual 125, 3) := by decide +kernel
theorem dL_law_1260 : decode cL_law 1260 = .ok (.if_icmp .eq 400, 3) := by decide +kernel
theorem dL_law_1263 : decode cL_law 1263 = .ok (.iconst 0, 1) := by decide +kernel
theorem dL_law_1264 : decode cL_law 1264 = .ok (.ireturn, 1) := by decide +kernel
theorem dL_law_1265 : decode cL_law 1265 = .ok (.aload_n 1, 1) := by decide +kernel
theorem dL_law_1266 : decode cL_law 1266 = .ok (.aload_n 0, 1) := by decide +kernel
theorem dL_law_1267 : decode cL_law 1267 = .ok (.iload_n 3, 1) := by decide +kernel
theorem dL_law_1268 : decode cL_law 1268 = .ok (.iconst 1, 1) := by decide +kernel
theorem dL_law_1269 : decode cL_law 1269 = .ok (.iadd, 1) := by decide +kernel
theorem dL_law_1270 : decode cL_law 1270 = .ok (.iaload, 1) := by decide +kernel
theorem dL_law_1271 : decode cL_law 1271 = .ok (.aload_n 0, 1) := by decide +kernel
theorem dL_law_1272 : decode cL_law 1272 = .ok (.iload_n 3, 1) := by decide +kernel
theorem dL_law_1273 : decode cL_law 1273 = .ok (.iconst 2, 1) := by decide +kernel
theorem dL_law_1274 : decode cL_law 1274 = .ok (.iadd, 1) := by decide +kernel
theorem dL_law_1275 : decode cL_law 1275 = .ok (.iaload, 1) := by decide +kernel
theorem dL_law_1276 : decode cL_law 1276 = .ok (.aload_n 0, 1) := by decide +kernel
theorem dL_law_1277 : decode cL_law 1277 = .ok (.iload_n 3, 1) := by decide +kernel
theorem dL_law_1278 : decode cL_law 1278 = .ok (.iconst 3, 1) := by decide +kernel
theorem dL_law_1279 : decode cL_law 1279 = .ok (.iadd, 1) := by decide +kernel
theorem dL_law_1280 : decode cL_law 1280 = .ok (.iaload, 1) := by decide +kernel
theorem dL_law_1281 : decode cL_law 1281 = .ok (.aload_n 0, 1) := by decide +kernel
theorem dL_law_1282 : decode cL_law 1282 = .ok (.iload_n 3, 1) := by decide +kernel
theorem dL_law_1283 : decode cL_law 1283 = .ok (.iconst 4, 1) := by decide +kernel
theorem dL_law_1284 : decode cL_law 1284 = .ok (.iadd, 1) := by decide +kernel
theorem dL_law_1285 : decode cL_law 1285 = .ok (.iaload, 1) := by decide +kernel
theorem dL_law_1286 : decode cL_law 1286 = .ok (.ifCond .eq 7, 3) := by decide +kernel
theorem dL_law_1289 : decode cL_law 1289 = .ok (.iconst 1, 1) := by decide +kernel
theorem dL_law_1290 : decode cL_law 1290 = .ok (.goto 4, 3) := by decide +kernel
theorem dL_law_1293 : decode cL_law 1293 = .ok (.iconst 0, 1) := by decide +kernel
theorem dL_law_1294 : decode cL_law 1294 = .ok (.invokevirtual 126, 3) := by decide +kernel
theorem dL_law_1297 : decode cL_law 1297 = .ok (.aload_n 2, 1) := by decide +kernel
theorem dL_law_1298 : decode cL_law 1298 = .ok (.aload_n 0, 1) := by decide +kernel
theorem dL_law_1299 : decode cL_law 1299 = .ok (.iload_n 3, 1) := by decide +kernel
theorem dL_law_1300 : decode cL_law 1300 = .ok (.iconst 1, 1) := by decide +kernel
theorem dL_law_1301 : decode cL_law 1301 = .ok (.iadd, 1) := by decide +kernel
theorem dL_law_1302 : decode cL_law 1302 = .ok (.iaload, 1) := by decide +kernel
theorem dL_law_1303 : decode cL_law 1303 = .ok (.aload_n 0, 1) := by decide +kernel
theorem dL_law_1304 : decode cL_law 1304 = .ok (.iload_n 3, 1) := by decide +kernel
theorem dL_law_1305 : decode cL_law 1305 = .ok (.iconst 2, 1) := by decide +kernel
theorem dL_law_1306 : decode cL_law 1306 = .ok (.iadd, 1) := by decide +kernel
theorem dL_law_1307 : decode cL_law 1307 = .ok (.iaload, 1) := by decide +kernel
theorem dL_law_1308 : decode cL_law 1308 = .ok (.aload_n 0, 1) := by decide +kernel
theorem dL_law_1309 : decode cL_law 1309 = .ok (.iload_n 3, 1) := by decide +kernel
theorem dL_law_1310 : decode cL_law 1310 = .ok (.iconst 3, 1) := by decide +kernel
theorem dL_law_1311 : decode cL_law 1311 = .ok (.iadd, 1) := by decide +kernel
theorem dL_law_1312 : decode cL_law 1312 = .ok (.iaload, 1) := by decide +kernel
theorem dL_law_1313 : decode cL_law 1313 = .ok (.aload_n 0, 1) := by decide +kernel
theorem dL_law_1314 : decode cL_law 1314 = .ok (.iload_n 3, 1) := by decide +kernel
theorem dL_law_1315 : decode cL_law 1315 = .ok (.iconst 4, 1) := by decide +kernel
theorem dL_law_1316 : decode cL_law 1316 = .ok (.iadd, 1) := by decide +kernel
theorem dL_law_1317 : decode cL_law 1317 = .ok (.iaload, 1) := by decide +kernel
theorem dL_law_1318 : decode cL_law 1318 = .ok (.ifCond .eq 7, 3) := by decide +kernel
theorem dL_law_1321 : decode cL_law 1321 = .ok (.iconst 1, 1) := by decide +kernel
theorem dL_law_1322 : decode cL_law 1322 = .ok (.goto 4, 3) := by decide +kernel
theorem dL_law_1325 : decode cL_law 1325 = .ok (.iconst 0, 1) := by decide +kernel
theorem dL_law_1326 : decode cL_law 1326 = .ok (.invokevirtual 129, 3) := by decide +kernel
theorem dL_law_1329 : decode cL_law 1329 = .ok (.if_icmp .eq 331, 3) := by decide +kernel
theorem dL_law_1332 : decode cL_law 1332 = .ok (.iconst 0, 1) := by decide +kernel
theorem dL_law_1333 : decode cL_law 1333 = .ok (.ireturn, 1) := by decide +kernel
theorem dL_law_1334 : decode cL_law 1334 = .ok (.aload_n 1, 1) := by decide +kernel
theorem dL_law_1335 : decode cL_law 1335 = .ok (.aload_n 0, 1) := by decide +kernel
theorem dL_law_1336 : decode cL_law 1336 = .ok (.iload_n 3, 1) := by decide +kernel
theorem dL_law_1337 : decode cL_law 1337 = .ok (.iconst 1, 1) := by decide +kernel
theorem dL_law_1338 : decode cL_law 1338 = .ok (.iadd, 1) := by decide +kernel
theorem dL_law_1339 : decode cL_law 1339 = .ok (.iaload, 1) := by decide +kernel
theorem dL_law_1340 : decode cL_law 1340 = .ok (.invokevirtual 130, 3) := by decide +kernel
theorem dL_law_1343 : decode cL_law 1343 = .ok (.aload_n 2, 1) := by decide +kernel
theorem dL_law_1344 : decode cL_law 1344 = .ok (.aload_n 0, 1) := by decide +kernel
theorem dL_law_1345 : decode cL_law 1345 = .ok (.iload_n 3, 1) := by decide +kernel
theorem dL_law_1346 : decode cL_law 1346 = .ok (.iconst 1, 1) := by decide +kernel
theorem dL_law_1347 : decode cL_law 1347 = .ok (.iadd, 1) := by decide +kernel
theorem dL_law_1348 : decode cL_law 1348 = .ok (.iaload, 1) := by decide +kernel
theorem dL_law_1349 : decode cL_law 1349 = .ok (.invokevirtual 133, 3) := by decide +kernel
theorem dL_law_1352 : decode cL_law 1352 = .ok (.if_icmp .eq 308, 3) := by decide +kernel
theorem dL_law_1355 : decode cL_law 1355 = .ok (.iconst 0, 1) := by decide +kernel
theorem dL_law_1356 : decode cL_law 1356 = .ok (.ireturn, 1) := by decide +kernel
theorem dL_law_1357 : decode cL_law 1357 = .ok (.aload_n 1, 1) := by decide +kernel
theorem dL_law_1358 : decode cL_law 1358 = .ok (.aload_n 0, 1) := by decide +kernel
theorem dL_law_1359 : decode cL_law 1359 = .ok (.iload_n 3, 1) := by decide +kernel
theorem dL_law_1360 : decode cL_law 1360 = .ok (.iconst 1, 1) := by decide +kernel
theorem dL_law_1361 : decode cL_law 1361 = .ok (.iadd, 1) := by decide +kernel
theorem dL_law_1362 : decode cL_law 1362 = .ok (.iaload, 1) := by decide +kernel
theorem dL_law_1363 : decode cL_law 1363 = .ok (.aload_n 0, 1) := by decide +kernel
theorem dL_law_1364 : decode cL_law 1364 = .ok (.iload_n 3, 1) := by decide +kernel
theorem dL_law_1365 : decode cL_law 1365 = .ok (.iconst 2, 1) := by decide +kernel
theorem dL_law_1366 : decode cL_law 1366 = .ok (.iadd, 1) := by decide +kernel
theorem dL_law_1367 : decode cL_law 1367 = .ok (.iaload, 1) := by decide +kernel
theorem dL_law_1368 : decode cL_law 1368 = .ok (.ifCond .eq 7, 3) := by decide +kernel
theorem dL_law_1371 : decode cL_law 1371 = .ok (.iconst 1, 1) := by decide +kernel
theorem dL_law_1372 : decode cL_law 1372 = .ok (.goto 4, 3) := by decide +kernel
theorem dL_law_1375 : decode cL_law 1375 = .ok (.iconst 0, 1) := by decide +kernel
theorem dL_law_1376 : decode cL_law 1376 = .ok (.invokevirtual 134, 3) := by decide +kernel
theorem dL_law_1379 : decode cL_law 1379 = .ok (.aload_n 2, 1) := by decide +kernel
theorem dL_law_1380 : decode cL_law 1380 = .ok (.aload_n 0, 1) := by decide +kernel
theorem dL_law_1381 : decode cL_law 1381 = .ok (.iload_n 3, 1) := by decide +kernel
theorem dL_law_1382 : decode cL_law 1382 = .ok (.iconst 1, 1) := by decide +kernel
theorem dL_law_1383 : decode cL_law 1383 = .ok (.iadd, 1) := by decide +kernel
theorem dL_law_1384 : decode cL_law 1384 = .ok (.iaload, 1) := by decide +kernel
theorem dL_law_1385 : decode cL_law 1385 = .ok (.aload_n 0, 1) := by decide +kernel
theorem dL_law_1386 : decode cL_law 1386 = .ok (.iload_n 3, 1) := by decide +kernel
theorem dL_law_1387 : decode cL_law 1387 = .ok (.iconst 2, 1) := by decide +kernel
theorem dL_law_1388 : decode cL_law 1388 = .ok (.iadd, 1) := by decide +kernel
theorem dL_law_1389 : decode cL_law 1389 = .ok (.iaload, 1) := by decide +kernel
theorem dL_law_1390 : decode cL_law 1390 = .ok (.ifCond .eq 7, 3) := by decide +kernel
theorem dL_law_1393 : decode cL_law 1393 = .ok (.iconst 1, 1) := by decide +kernel
theorem dL_law_1394 : decode cL_law 1394 = .ok (.goto 4, 3) := by decide +kernel
theorem dL_law_1397 : decode cL_law 1397 = .ok (.iconst 0, 1) := by decide +kernel
theorem dL_law_1398 : decode cL_law 1398 = .ok (.invokevirtual 137, 3) := by decide +kernel
theorem dL_law_1401 : decode cL_law 1401 = .ok (.if_icmp .eq 259, 3) := by decide +kernel
theorem dL_law_1404 : decode cL_law 1404 = .ok (.iconst 0, 1) := by decide +kernel
theorem dL_law_1405 : decode cL_law 1405 = .ok (.ireturn, 1) := by decide +kernel
theorem dL_law_1406 : decode cL_law 1406 = .ok (.aload_n 1, 1) := by decide +kernel
theorem dL_law_1407 : decode cL_law 1407 = .ok (.aload_n 0, 1) := by decide +kernel
theorem dL_law_1408 : decode cL_law 1408 = .ok (.iload_n 3, 1) := by decide +kernel
theorem dL_law_1409 : decode cL_law 1409 = .ok (.iconst 1, 1) := by decide +kernel
theorem dL_law_1410 : decode cL_law 1410 = .ok (.iadd, 1) := by decide +kernel
theorem dL_law_1411 : decode cL_law 1411 = .ok (.iaload, 1) := by decide +kernel
theorem dL_law_1412 : decode cL_law 1412 = .ok (.invokevirtual 138, 3) := by decide +kernel
theorem dL_law_1415 : decode cL_law 1415 = .ok (.aload_n 2, 1) := by decide +kernel
theorem dL_law_1416 : decode cL_law 1416 = .ok (.aload_n 0, 1) := by decide +kernel
theorem dL_law_1417 : decode cL_law 1417 = .ok (.iload_n 3, 1) := by decide +kernel
theorem dL_law_1418 : decode cL_law 1418 = .ok (.iconst 1, 1) := by decide +kernel
theorem dL_law_1419 : decode cL_law 1419 = .ok (.iadd, 1) := by decide +kernel
theorem dL_law_1420 : decode cL_law 1420 = .ok (.iaload, 1) := by decide +kernel
theorem dL_law_1421 : decode cL_law 1421 = .ok (.invokevirtual 141, 3) := by decide +kernel
theorem dL_law_1424 : decode cL_law 1424 = .ok (.if_icmp .eq 236, 3) := by decide +kernel
theorem dL_law_1427 : decode cL_law 1427 = .ok (.iconst 0, 1) := by decide +kernel
theorem dL_law_1428 : decode cL_law 1428 = .ok (.ireturn, 1) := by decide +kernel
theorem dL_law_1429 : decode cL_law 1429 = .ok (.aload_n 1, 1) := by decide +kernel
theorem dL_law_1430 : decode cL_law 1430 = .ok (.aload_n 0, 1) := by decide +kernel
theorem dL_law_1431 : decode cL_law 1431 = .ok (.iload_n 3, 1) := by decide +kernel
theorem dL_law_1432 : decode cL_law 1432 = .ok (.iconst 1, 1) := by decide +kernel
theorem dL_law_1433 : decode cL_law 1433 = .ok (.iadd, 1) := by decide +kernel
theorem dL_law_1434 : decode cL_law 1434 = .ok (.iaload, 1) := by decide +kernel
theorem dL_law_1435 : decode cL_law 1435 = .ok (.aload_n 0, 1) := by decide +kernel
theorem dL_law_1436 : decode cL_law 1436 = .ok (.iload_n 3, 1) := by decide +kernel
theorem dL_law_1437 : decode cL_law 1437 = .ok (.iconst 2, 1) := by decide +kernel
theorem dL_law_1438 : decode cL_law 1438 = .ok (.iadd, 1) := by decide +kernel
theorem dL_law_1439 : decode cL_law 1439 = .ok (.iaload, 1) := by decide +kernel
theorem dL_law_1440 : decode cL_law 1440 = .ok (.aload_n 0, 1) := by decide +kernel
theorem dL_law_1441 : decode cL_law 1441 = .ok (.iload_n 3, 1) := by decide +kernel
theorem dL_law_1442 : decode cL_law 1442 = .ok (.iconst 3, 1) := by decide +kernel
theorem dL_law_1443 : decode cL_law 1443 = .ok (.iadd, 1) := by decide +kernel
theorem dL_law_1444 : decode cL_law 1444 = .ok (.iaload, 1) := by decide +kernel
theorem dL_law_1445 : decode cL_law 1445 = .ok (.ifCond .eq 7, 3) := by decide +kernel
theorem dL_law_1448 : decode cL_law 1448 = .ok (.iconst 1, 1) := by decide +kernel
theorem dL_law_1449 : decode cL_law 1449 = .ok (.goto 4, 3) := by decide +kernel
theorem dL_law_1452 : decode cL_law 1452 = .ok (.iconst 0, 1) := by decide +kernel
theorem dL_law_1453 : decode cL_law 1453 = .ok (.invokevirtual 142, 3) := by decide +kernel
theorem dL_law_1456 : decode cL_law 1456 = .ok (.aload_n 2, 1) := by decide +kernel
theorem dL_law_1457 : decode cL_law 1457 = .ok (.aload_n 0, 1) := by decide +kernel
theorem dL_law_1458 : decode cL_law 1458 = .ok (.iload_n 3, 1) := by decide +kernel
theorem dL_law_1459 : decode cL_law 1459 = .ok (.iconst 1, 1) := by decide +kernel
theorem dL_law_1460 : decode cL_law 1460 = .ok (.iadd, 1) := by decide +kernel
theorem dL_law_1461 : decode cL_law 1461 = .ok (.iaload, 1) := by decide +kernel
theorem dL_law_1462 : decode cL_law 1462 = .ok (.aload_n 0, 1) := by decide +kernel
theorem dL_law_1463 : decode cL_law 1463 = .ok (.iload_n 3, 1) := by decide +kernel
theorem dL_law_1464 : decode cL_law 1464 = .ok (.iconst 2, 1) := by decide +kernel
theorem dL_law_1465 : decode cL_law 1465 = .ok (.iadd, 1) := by decide +kernel
theorem dL_law_1466 : decode cL_law 1466 = .ok (.iaload, 1) := by decide +kernel
theorem dL_law_1467 : decode cL_law 1467 = .ok (.aload_n 0, 1) := by decide +kernel
theorem dL_law_1468 : decode cL_law 1468 = .ok (.iload_n 3, 1) := by decide +kernel
theorem dL_law_1469 : decode cL_law 1469 = .ok (.iconst 3, 1) := by decide +kernel
theorem dL_law_1470 : decode cL_law 1470 = .ok (.iadd, 1) := by decide +kernel
theorem dL_law_1471 : decode cL_law 1471 = .ok (.iaload, 1) := by decide +kernel
theorem dL_law_1472 : decode cL_law 1472 = .ok (.ifCond .eq 7, 3) := by decide +kernel
theorem dL_law_1475 : decode cL_law 1475 = .ok (.iconst 1, 1) := by decide +kernel
theorem dL_law_1476 : decode cL_law 1476 = .ok (.goto 4, 3) := by decide +kernel
theorem dL_law_1479 : decode cL_law 1479 = .ok (.iconst 0, 1) := by decide +kernel
theorem dL_law_1480 : decode cL_law 1480 = .ok (.invokevirtual 146, 3) := by decide +kernel
theorem dL_law_1483 : decode cL_law 1483 = .ok (.lcmp, 1) := by decide +kernel
theorem dL_law_1484 : decode cL_law 1484 = .ok (.ifCond .eq 176, 3) := by decide +kernel
theorem dL_law_1487 : decode cL_law 1487 = .ok (.iconst 0, 1) := by decide +kernel
theorem dL_law_1488 : decode cL_law 1488 = .ok (.ireturn, 1) := by decide +kernel
theorem dL_law_1489 : decode cL_law 1489 = .ok (.aload_n 1, 1) := by decide +kernel
theorem dL_law_1490 : decode cL_law 1490 = .ok (.aload_n 0, 1) := by decide +kernel
theorem dL_law_1491 : decode cL_law 1491 = .ok (.iload_n 3, 1) := by decide +kernel
theorem dL_law_1492 : decode cL_law 1492 = .ok (.iconst 1, 1) := by decide +kernel
theorem dL_law_1493 : decode cL_law 1493 = .ok (.iadd, 1) := by decide +kernel
theorem dL_law_1494 : decode cL_law 1494 = .ok (.iaload, 1) := by decide +kernel
theorem dL_law_1495 : decode cL_law 1495 = .ok (.aload_n 0, 1) := by decide +kernel
theorem dL_law_1496 : decode cL_law 1496 = .ok (.iload_n 3, 1) := by decide +kernel
theorem dL_law_1497 : decode cL_law 1497 = .ok (.iconst 2, 1) := by decide +kernel
theorem dL_law_1498 : decode cL_law 1498 = .ok (.iadd, 1) := by decide +kernel
theorem dL_law_1499 : decode cL_law 1499 = .ok (.iaload, 1) := by decide +kernel
theorem dL_law_1500 : decode cL_law 1500 = .ok (.aload_n 0, 1) := by decide +kernel
theorem dL_law_1501 : decode cL_law 1501 = .ok (.iload_n 3, 1) := by decide +kernel
theorem dL_law_1502 : decode cL_law 1502 = .ok (.iconst 3, 1) := by decide +kernel
theorem dL_law_1503 : decode cL_law 1503 = .ok (.iadd, 1) := by decide +kernel
theorem dL_law_1504 : decode cL_law 1504 = .ok (.iaload, 1) := by decide +kernel
theorem dL_law_1505 : decode cL_law 1505 = .ok (.ifCond .eq 7, 3) := by decide +kernel
theorem dL_law_1508 : decode cL_law 1508 = .ok (.iconst 1, 1) := by decide +kernel
theorem dL_law_1509 : decode cL_law 1509 = .ok (.goto 4, 3) := by decide +kernel
theorem dL_law_1512 : decode cL_law 1512 = .ok (.iconst 0, 1) := by decide +kernel
theorem dL_law_1513 : decode cL_law 1513 = .ok (.invokevirtual 147, 3) := by decide +kernel
theorem dL_law_1516 : decode cL_law 1516 = .ok (.aload_n 2, 1) := by decide +kernel
theorem dL_law_1517 : decode cL_law 1517 = .ok (.aload_n 0, 1) := by decide +kernel
theorem dL_law_1518 : decode cL_law 1518 = .ok (.iload_n 3, 1) := by decide +kernel
theorem dL_law_1519 : decode cL_law 1519 = .ok (.iconst 1, 1) := by decide +kernel
theorem dL_law_1520 : decode cL_law 1520 = .ok (.iadd, 1) := by decide +kernel
theorem dL_law_1521 : decode cL_law 1521 = .ok (.iaload, 1) := by decide +kernel
theorem dL_law_1522 : decode cL_law 1522 = .ok (.aload_n 0, 1) := by decide +kernel
theorem dL_law_1523 : decode cL_law 1523 = .ok (.iload_n 3, 1) := by decide +kernel
theorem dL_law_1524 : decode cL_law 1524 = .ok (.iconst 2, 1) := by decide +kernel
theorem dL_law_1525 : decode cL_law 1525 = .ok (.iadd, 1) := by decide +kernel
theorem dL_law_1526 : decode cL_law 1526 = .ok (.iaload, 1) := by decide +kernel
theorem dL_law_1527 : decode cL_law 1527 = .ok (.aload_n 0, 1) := by decide +kernel
theorem dL_law_1528 : decode cL_law 1528 = .ok (.iload_n 3, 1) := by decide +kernel
theorem dL_law_1529 : decode cL_law 1529 = .ok (.iconst 3, 1) := by decide +kernel
theorem dL_law_1530 : decode cL_law 1530 = .ok (.iadd, 1) := by decide +kernel
theorem dL_law_1531 : decode cL_law 1531 = .ok (.iaload, 1) := by decide +kernel
theorem dL_law_1532 : decode cL_law 1532 = .ok (.ifCond .eq 7, 3) := by decide +kernel
theorem dL_law_1535 : decode cL_law 1535 = .ok (.iconst 1, 1) := by decide +kernel
theorem dL_law_1536 : decode cL_law 1536 = .ok (.goto 4, 3) := by decide +kernel
theorem dL_law_1539 : decode cL_law 1539 = .ok (.iconst 0, 1) := by decide +kernel
theorem dL_law_1540 : decode cL_law 1540 = .ok (.invokevirtual 150, 3) := by decide +kernel
theorem dL_law_1543 : decode cL_law 1543 = .ok (.if_icmp .eq 117, 3) := by decide +kernel
theorem dL_law_1546 : decode cL_law 1546 = .ok (.iconst 0, 1) := by decide +kernel
theorem dL_law_1547 : decode cL_law 1547 = .ok (.ireturn, 1) := by decide +kernel
theorem dL_law_1548 : decode cL_law 1548 = .ok (.aload_n 1, 1) := by decide +kernel
theorem dL_law_1549 : decode cL_law 1549 = .ok (.aload_n 0, 1) := by decide +kernel
theorem dL_law_1550 : decode cL_law 1550 = .ok (.iload_n 3, 1) := by decide +kernel
theorem dL_law_1551 : decode cL_law 1551 = .ok (.iconst 1, 1) := by decide +kernel
theorem dL_law_1552 : decode cL_law 1552 = .ok (.iadd, 1) := by decide +kernel
theorem dL_law_1553 : decode cL_law 1553 = .ok (.iaload, 1) := by decide +kernel
theorem dL_law_1554 : decode cL_law 1554 = .ok (.aload_n 0, 1) := by decide +kernel
theorem dL_law_1555 : decode cL_law 1555 = .ok (.iload_n 3, 1) := by decide +kernel
theorem dL_law_1556 : decode cL_law 1556 = .ok (.iconst 2, 1) := by decide +kernel
theorem dL_law_1557 : decode cL_law 1557 = .ok (.iadd, 1) := by decide +kernel
theorem dL_law_1558 : decode cL_law 1558 = .ok (.iaload, 1) := by decide +kernel
theorem dL_law_1559 : decode cL_law 1559 = .ok (.aload_n 0, 1) := by decide +kernel
theorem dL_law_1560 : decode cL_law 1560 = .ok (.iload_n 3, 1) := by decide +kernel
theorem dL_law_1561 : decode cL_law 1561 = .ok (.iconst 3, 1) := by decide +kernel
theorem dL_law_1562 : decode cL_law 1562 = .ok (.iadd, 1) := by decide +kernel
theorem dL_law_1563 : decode cL_law 1563 = .ok (.iaload, 1) := by decide +kernel
theorem dL_law_1564 : decode cL_law 1564 = .ok (.invokevirtual 151, 3) := by decide +kernel
theorem dL_law_1567 : decode cL_law 1567 = .ok (.aload_n 2, 1) := by decide +kernel
theorem dL_law_1568 : decode cL_law 1568 = .ok (.aload_n 0, 1) := by decide +kernel
theorem dL_law_1569 : decode cL_law 1569 = .ok (.iload_n 3, 1) := by decide +kernel
theorem dL_law_1570 : decode cL_law 1570 = .ok (.iconst 1, 1) := by decide +kernel
theorem dL_law_1571 : decode cL_law 1571 = .ok (.iadd, 1) := by decide +kernel
theorem dL_law_1572 : decode cL_law 1572 = .ok (.iaload, 1) := by decide +kernel
theorem dL_law_1573 : decode cL_law 1573 = .ok (.aload_n 0, 1) := by decide +kernel
theorem dL_law_1574 : decode cL_law 1574 = .ok (.iload_n 3, 1) := by decide +kernel
theorem dL_law_1575 : decode cL_law 1575 = .ok (.iconst 2, 1) := by decide +kernel
theorem dL_law_1576 : decode cL_law 1576 = .ok (.iadd, 1) := by decide +kernel
theorem dL_law_1577 : decode cL_law 1577 = .ok (.iaload, 1) := by decide +kernel
theorem dL_law_1578 : decode cL_law 1578 = .ok (.aload_n 0, 1) := by decide +kernel
theorem dL_law_1579 : decode cL_law 1579 = .ok (.iload_n 3, 1) := by decide +kernel
theorem dL_law_1580 : decode cL_law 1580 = .ok (.iconst 3, 1) := by decide +kernel
theorem dL_law_1581 : decode cL_law 1581 = .ok (.iadd, 1) := by decide +kernel
theorem dL_law_1582 : decode cL_law 1582 = .ok (.iaload, 1) := by decide +kernel
theorem dL_law_1583 : decode cL_law 1583 = .ok (.invokevirtual 154, 3) := by decide +kernel
theorem dL_law_1586 : decode cL_law 1586 = .ok (.if_icmp .eq 74, 3) := by decide +kernel
theorem dL_law_1589 : decode cL_law 1589 = .ok (.iconst 0, 1) := by decide +kernel
theorem dL_law_1590 : decode cL_law 1590 = .ok (.ireturn, 1) := by decide +kernel
theorem dL_law_1591 : decode cL_law 1591 = .ok (.aload_n 1, 1) := by decide +kernel
theorem dL_law_1592 : decode cL_law 1592 = .ok (.aload_n 0, 1) := by decide +kernel
theorem dL_law_1593 : decode cL_law 1593 = .ok (.iload_n 3, 1) := by decide +kernel
theorem dL_law_1594 : decode cL_law 1594 = .ok (.iconst 1, 1) := by decide +kernel
theorem dL_law_1595 : decode cL_law 1595 = .ok (.iadd, 1) := by decide +kernel
theorem dL_law_1596 : decode cL_law 1596 = .ok (.iaload, 1) := by decide +kernel
theorem dL_law_1597 : decode cL_law 1597 = .ok (.invokevirtual 155, 3) := by decide +kernel
theorem dL_law_1600 : decode cL_law 1600 = .ok (.aload_n 2, 1) := by decide +kernel
theorem dL_law_1601 : decode cL_law 1601 = .ok (.aload_n 0, 1) := by decide +kernel
theorem dL_law_1602 : decode cL_law 1602 = .ok (.iload_n 3, 1) := by decide +kernel
theorem dL_law_1603 : decode cL_law 1603 = .ok (.iconst 1, 1) := by decide +kernel
theorem dL_law_1604 : decode cL_law 1604 = .ok (.iadd, 1) := by decide +kernel
theorem dL_law_1605 : decode cL_law 1605 = .ok (.iaload, 1) := by decide +kernel
theorem dL_law_1606 : decode cL_law 1606 = .ok (.invokevirtual 158, 3) := by decide +kernel
theorem dL_law_1609 : decode cL_law 1609 = .ok (.if_icmp .eq 51, 3) := by decide +kernel
theorem dL_law_1612 : decode cL_law 1612 = .ok (.iconst 0, 1) := by decide +kernel
theorem dL_law_1613 : decode cL_law 1613 = .ok (.ireturn, 1) := by decide +kernel
theorem dL_law_1614 : decode cL_law 1614 = .ok (.aload_n 1, 1) := by decide +kernel
theorem dL_law_1615 : decode cL_law 1615 = .ok (.aload_n 0, 1) := by decide +kernel
theorem dL_law_1616 : decode cL_law 1616 = .ok (.iload_n 3, 1) := by decide +kernel
theorem dL_law_1617 : decode cL_law 1617 = .ok (.iconst 1, 1) := by decide +kernel
theorem dL_law_1618 : decode cL_law 1618 = .ok (.iadd, 1) := by decide +kernel
theorem dL_law_1619 : decode cL_law 1619 = .ok (.iaload, 1) := by decide +kernel
theorem dL_law_1620 : decode cL_law 1620 = .ok (.invokevirtual 159, 3) := by decide +kernel
theorem dL_law_1623 : decode cL_law 1623 = .ok (.aload_n 2, 1) := by decide +kernel
theorem dL_law_1624 : decode cL_law 1624 = .ok (.aload_n 0, 1) := by decide +kernel
theorem dL_law_1625 : decode cL_law 1625 = .ok (.iload_n 3, 1) := by decide +kernel
theorem dL_law_1626 : decode cL_law 1626 = .ok (.iconst 1, 1) := by decide +kernel
theorem dL_law_1627 : decode cL_law 1627 = .ok (.iadd, 1) := by decide +kernel
theorem dL_law_1628 : decode cL_law 1628 = .ok (.iaload, 1) := by decide +kernel
theorem dL_law_1629 : decode cL_law 1629 = .ok (.invokevirtual 163, 3) := by decide +kernel
theorem dL_law_1632 : decode cL_law 1632 = .ok (.if_icmp .eq 28, 3) := by decide +kernel
theorem dL_law_1635 : decode cL_law 1635 = .ok (.iconst 0, 1) := by decide +kernel
theorem dL_law_1636 : decode cL_law 1636 = .ok (.ireturn, 1) := by decide +kernel
theorem dL_law_1637 : decode cL_law 1637 = .ok (.aload_n 1, 1) := by decide +kernel
theorem dL_law_1638 : decode cL_law 1638 = .ok (.aload_n 0, 1) := by decide +kernel
theorem dL_law_1639 : decode cL_law 1639 = .ok (.iload_n 3, 1) := by decide +kernel
theorem dL_law_1640 : decode cL_law 1640 = .ok (.iconst 1, 1) := by decide +kernel
theorem dL_law_1641 : decode cL_law 1641 = .ok (.iadd, 1) := by decide +kernel
theorem dL_law_1642 : decode cL_law 1642 = .ok (.iaload, 1) := by decide +kernel
theorem dL_law_1643 : decode cL_law 1643 = .ok (.invokevirtual 164, 3) := by decide +kernel
theorem dL_law_1646 : decode cL_law 1646 = .ok (.aload_n 2, 1) := by decide +kernel
theorem dL_law_1647 : decode cL_law 1647 = .ok (.aload_n 0, 1) := by decide +kernel
theorem dL_law_1648 : decode cL_law 1648 = .ok (.iload_n 3, 1) := by decide +kernel
theorem dL_law_1649 : decode cL_law 1649 = .ok (.iconst 1, 1) := by decide +kernel
theorem dL_law_1650 : decode cL_law 1650 = .ok (.iadd, 1) := by decide +kernel
theorem dL_law_1651 : decode cL_law 1651 = .ok (.iaload, 1) := by decide +kernel
theorem dL_law_1652 : decode cL_law 1652 = .ok (.invokevirtual 167, 3) := by decide +kernel
theorem dL_law_1655 : decode cL_law 1655 = .ok (.if_icmp .eq 5, 3) := by decide +kernel
theorem dL_law_1658 : decode cL_law 1658 = .ok (.iconst 0, 1) := by decide +kernel
theorem dL_law_1659 : decode cL_law 1659 = .ok (.ireturn, 1) := by decide +kernel
theorem dL_law_1660 : decode cL_law 1660 = .ok (.iinc 3 6, 3) := by decide +kernel
theorem dL_law_1663 : decode cL_law 1663 = .ok (.goto (-1645), 3) := by decide +kernel
theorem dL_law_1666 : decode cL_law 1666 = .ok (.iconst 1, 1) := by decide +kernel
theorem dL_law_1667 : decode cL_law 1667 = .ok (.ireturn, 1) := by decide +kernel
set_option maxRecDepth 20000 in
theorem tm_13_13 : tMet TB0 13 13 = some (0, M_X11_feed) := rfl
set_option maxRecDepth 20000 in
theorem tm_13_17 : tMet TB0 13 17 = some (0, M_X12_feed) := rfl
set_option maxRecDepth 20000 in
theorem tm_13_18 : tMet TB0 13 18 = some (0, M_X11_end) := rfl
set_option maxRecDepth 20000 in
theorem tm_13_22 : tMet TB0 13 22 = some (0, M_X12_end) := rfl
set_option maxRecDepth 20000 in
theorem tm_13_23 : tMet TB0 13 23 = some (0, M_X11_text) := rfl
set_option maxRecDepth 20000 in
theorem tm_13_27 : tMet TB0 13 27 = some (0, M_X12_text) := rfl
set_option maxRecDepth 20000 in
theorem tm_13_28 : tMet TB0 13 28 = some (0, M_X11_fault) := rfl
set_option maxRecDepth 20000 in
theorem tm_13_31 : tMet TB0 13 31 = some (0, M_X12_fault) := rfl
set_option maxRecDepth 20000 in
theorem tm_13_32 : tMet TB0 13 32 = some (0, M_X11_forge) := rfl
set_option maxRecDepth 20000 in
theorem tm_13_35 : tMet TB0 13 35 = some (0, M_X12_forge) := rfl
set_option maxRecDepth 20000 in
theorem tm_13_36 : tMet TB0 13 36 = some (0, M_X11_fit) := rfl
set_option maxRecDepth 20000 in
theorem tm_13_40 : tMet TB0 13 40 = some (0, M_X12_fit) := rfl
set_option maxRecDepth 20000 in
theorem tm_13_41 : tMet TB0 13 41 = some (0, M_X11_deed) := rfl
set_option maxRecDepth 20000 in
theorem tm_13_45 : tMet TB0 13 45 = some (0, M_X12_deed) := rfl
set_option maxRecDepth 20000 in
theorem tm_13_46 : tMet TB0 13 46 = some (0, M_X11_till) := rfl
set_option maxRecDepth 20000 in
theorem tm_13_49 : tMet TB0 13 49 = some (0, M_X12_till) := rfl
set_option maxRecDepth 20000 in
theorem tm_13_50 : tMet TB0 13 50 = some (0, M_X11_state) := rfl
set_option maxRecDepth 20000 in
theorem tm_13_54 : tMet TB0 13 54 = some (0, M_X12_state) := rfl
set_option maxRecDepth 20000 in
theorem tm_13_55 : tMet TB0 13 55 = some (0, M_X11_leaving) := rfl
set_option maxRecDepth 20000 in
theorem tm_13_58 : tMet TB0 13 58 = some (0, M_X12_leaving) := rfl
set_option maxRecDepth 20000 in
theorem tm_13_59 : tMet TB0 13 59 = some (0, M_X11_row) := rfl
set_option maxRecDepth 20000 in
theorem tm_13_62 : tMet TB0 13 62 = some (0, M_X12_row) := rfl
set_option maxRecDepth 20000 in
theorem tm_13_63 : tMet TB0 13 63 = some (0, M_X11_rows) := rfl
set_option maxRecDepth 20000 in
theorem tm_13_66 : tMet TB0 13 66 = some (0, M_X12_rows) := rfl
set_option maxRecDepth 20000 in
theorem tm_13_67 : tMet TB0 13 67 = some (0, M_X11_trade) := rfl
set_option maxRecDepth 20000 in
theorem tm_13_70 : tMet TB0 13 70 = some (0, M_X12_trade) := rfl
set_option maxRecDepth 20000 in
theorem tm_13_71 : tMet TB0 13 71 = some (0, M_X11_works) := rfl
set_option maxRecDepth 20000 in
theorem tm_13_74 : tMet TB0 13 74 = some (0, M_X12_works) := rfl
set_option maxRecDepth 20000 in
theorem tm_13_75 : tMet TB0 13 75 = some (0, M_X11_grind) := rfl
set_option maxRecDepth 20000 in
theorem tm_13_79 : tMet TB0 13 79 = some (0, M_X12_grind) := rfl
set_option maxRecDepth 20000 in
theorem tm_13_80 : tMet TB0 13 80 = some (0, M_X11_moment) := rfl
set_option maxRecDepth 20000 in
theorem tm_13_84 : tMet TB0 13 84 = some (0, M_X12_moment) := rfl
set_option maxRecDepth 20000 in
theorem tm_13_85 : tMet TB0 13 85 = some (0, M_X11_rest) := rfl
set_option maxRecDepth 20000 in
theorem tm_13_88 : tMet TB0 13 88 = some (0, M_X12_rest) := rfl
set_option maxRecDepth 20000 in
theorem tm_13_89 : tMet TB0 13 89 = some (0, M_X11_clue) := rfl
set_option maxRecDepth 20000 in
theorem tm_13_92 : tMet TB0 13 92 = some (0, M_X12_clue) := rfl
set_option maxRecDepth 20000 in
theorem tm_13_93 : tMet TB0 13 93 = some (0, M_X11_whose) := rfl
set_option maxRecDepth 20000 in
theorem tm_13_96 : tMet TB0 13 96 = some (0, M_X12_whose) := rfl
set_option maxRecDepth 20000 in
theorem tm_13_97 : tMet TB0 13 97 = some (0, M_X11_drawn) := rfl
set_option maxRecDepth 20000 in
theorem tm_13_100 : tMet TB0 13 100 = some (0, M_X12_drawn) := rfl
set_option maxRecDepth 20000 in
theorem tm_13_101 : tMet TB0 13 101 = some (0, M_X11_crew) := rfl
set_option maxRecDepth 20000 in
theorem tm_13_104 : tMet TB0 13 104 = some (0, M_X12_crew) := rfl
set_option maxRecDepth 20000 in
theorem tm_13_105 : tMet TB0 13 105 = some (0, M_X11_idle) := rfl
set_option maxRecDepth 20000 in
theorem tm_13_108 : tMet TB0 13 108 = some (0, M_X12_idle) := rfl
set_option maxRecDepth 20000 in
theorem tm_13_109 : tMet TB0 13 109 = some (0, M_X11_moves) := rfl
set_option maxRecDepth 20000 in
theorem tm_13_112 : tMet TB0 13 112 = some (0, M_X12_moves) := rfl
set_option maxRecDepth 20000 in
theorem tm_13_113 : tMet TB0 13 113 = some (0, M_X11_rings) := rfl
set_option maxRecDepth 20000 in
theorem tm_13_117 : tMet TB0 13 117 = some (0, M_X12_rings) := rfl
set_option maxRecDepth 20000 in
theorem tm_13_118 : tMet TB0 13 118 = some (0, M_X11_lone) := rfl
set_option maxRecDepth 20000 in
theorem tm_13_121 : tMet TB0 13 121 = some (0, M_X12_lone) := rfl
set_option maxRecDepth 20000 in
theorem tm_13_122 : tMet TB0 13 122 = some (0, M_X11_rank) := rfl
set_option maxRecDepth 20000 in
theorem tm_13_125 : tMet TB0 13 125 = some (0, M_X12_rank) := rfl
set_option maxRecDepth 20000 in
theorem tm_13_126 : tMet TB0 13 126 = some (0, M_X11_trued) := rfl
set_option maxRecDepth 20000 in
theorem tm_13_129 : tMet TB0 13 129 = some (0, M_X12_trued) := rfl
set_option maxRecDepth 20000 in
theorem tm_13_130 : tMet TB0 13 130 = some (0, M_X11_tips) := rfl
set_option maxRecDepth 20000 in
theorem tm_13_133 : tMet TB0 13 133 = some (0, M_X12_tips) := rfl
set_option maxRecDepth 20000 in
theorem tm_13_134 : tMet TB0 13 134 = some (0, M_X11_swap) := rfl
set_option maxRecDepth 20000 in
theorem tm_13_137 : tMet TB0 13 137 = some (0, M_X12_swap) := rfl
set_option maxRecDepth 20000 in
theorem tm_13_138 : tMet TB0 13 138 = some (0, M_X11_settles) := rfl
set_option maxRecDepth 20000 in
theorem tm_13_141 : tMet TB0 13 141 = some (0, M_X12_settles) := rfl
set_option maxRecDepth 20000 in
theorem tm_13_142 : tMet TB0 13 142 = some (0, M_X11_share) := rfl
set_option maxRecDepth 20000 in
theorem tm_13_146 : tMet TB0 13 146 = some (0, M_X12_share) := rfl
set_option maxRecDepth 20000 in
theorem tm_13_147 : tMet TB0 13 147 = some (0, M_X11_hire) := rfl
set_option maxRecDepth 20000 in
theorem tm_13_150 : tMet TB0 13 150 = some (0, M_X12_hire) := rfl
set_option maxRecDepth 20000 in
theorem tm_13_151 : tMet TB0 13 151 = some (0, M_X11_line) := rfl
set_option maxRecDepth 20000 in
theorem tm_13_154 : tMet TB0 13 154 = some (0, M_X12_line) := rfl
set_option maxRecDepth 20000 in
theorem tm_13_155 : tMet TB0 13 155 = some (0, M_X11_count) := rfl
set_option maxRecDepth 20000 in
theorem tm_13_158 : tMet TB0 13 158 = some (0, M_X12_count) := rfl
set_option maxRecDepth 20000 in
theorem tm_13_159 : tMet TB0 13 159 = some (0, M_X11_image) := rfl
set_option maxRecDepth 20000 in
theorem tm_13_163 : tMet TB0 13 163 = some (0, M_X12_image) := rfl
set_option maxRecDepth 20000 in
theorem tm_13_164 : tMet TB0 13 164 = some (0, M_X11_again) := rfl
set_option maxRecDepth 20000 in
theorem tm_13_167 : tMet TB0 13 167 = some (0, M_X12_again) := rfl
abbrev lawEv (ad : mA) : mX := mEv TB0 ad M_law 800 (600000, 7302250) (mCal TB0 ad 799) (fun v _ _ => v = some (.int 1))
/-- both answer the same whole number, and the invariant stays -/
def opI (ad : mA) (B : Nat) (Inv : mH → Prop) (MX MM : mM) (A : List Value) : Prop := ∀ h, Inv h → ∃ mc ms, mc ≤ 54 ∧ ms ≤ 1113 ∧ mCal TB0 ad 799 MX (.ref B :: A) h mc ms (fun v h1 => ∃ r : Int32, v = some (.int r) ∧ (mS h1 (B + 157)).1 = 12 ∧ mCal TB0 ad 799 MM (.ref (B + 157) :: A) h1 0 0 (fun v' h2 => v' = some (.int r) ∧ Inv h2))
def opJ (ad : mA) (B : Nat) (Inv : mH → Prop) (MX MM : mM) (A : List Value) : Prop := ∀ h, Inv h → ∃ mc ms, mc ≤ 54 ∧ ms ≤ 1113 ∧ mCal TB0 ad 799 MX (.ref B :: A) h mc ms (fun v h1 => ∃ r : Int64, v = some (.long r) ∧ (mS h1 (B + 157)).1 = 12 ∧ mCal TB0 ad 799 MM (.ref (B + 157) :: A) h1 0 0 (fun v' h2 => v' = some (.long r) ∧ Inv h2))
theorem lg_cmp_self (r : Int64) : lg_cmp r r = 0 := by simp [lg_cmp]
set_option maxHeartbeats 2000000 in
theorem law_c0 {ad : mA} {B i : Nat} {z : Nat × Nat} {Inv : mH → Prop} {h : mH} (hs : ∀ h, Inv h → (mS h B).1 = 11 ∧ (mS h (B + 157)).1 = 12) (hi : i + 6 ≤ ad.2.1 20) (hL : ad.2.1 20 ≤ 3072) (hz1 : z.1 + 54 ≤ 600000) (hz2 : z.2 + 1113 ≤ 7302250) (hI : Inv h) (hop : opI ad B Inv M_X11_feed M_X12_feed [.int (ad.2.2 20 (i + 1)), .int (ad.2.2 20 (i + 2)), .int (ad.2.2 20 (i + 3)), .int (ad.2.2 20 (i + 4)), .int (ad.2.2 20 (i + 5))]) (nxt : ∀ h' mc ms, mc ≤ 54 → ms ≤ 1113 → Inv h' → lawEv ad 1660 [some (.ref (ad.1 20)), some (.ref B), some (.ref (B + 157)), some (.int (nI i))] [] h' (z.1 + mc, z.2 + ms)) : lawEv ad 192 [some (.ref (ad.1 20)), some (.ref B), some (.ref (B + 157)), some (.int (nI i))] [] h z := by
  refine e_aload_n dL_law_192 rfl ?_
  refine e_aload_n dL_law_193 rfl ?_
  refine e_iload_n dL_law_194 rfl ?_
  refine e_iconst (nI 1) dL_law_195 rfl ?_
  refine e_iaddN dL_law_196 ?_
  refine e_ildO dL_law_197 (Or.inr rfl) rfl (vp_in_nI (by omega) (by omega)) (congrArg (ad.2.2 20) (nI_clamp (by omega))) ?_
  refine e_aload_n dL_law_198 rfl ?_
  refine e_iload_n dL_law_199 rfl ?_
  refine e_iconst (nI 2) dL_law_200 rfl ?_
  refine e_iaddN dL_law_201 ?_
  refine e_ildO dL_law_202 (Or.inr rfl) rfl (vp_in_nI (by omega) (by omega)) (congrArg (ad.2.2 20) (nI_clamp (by omega))) ?_
  refine e_aload_n dL_law_203 rfl ?_
  refine e_iload_n dL_law_204 rfl ?_
  refine e_iconst (nI 3) dL_law_205 rfl ?_
  refine e_iaddN dL_law_206 ?_
  refine e_ildO dL_law_207 (Or.inr rfl) rfl (vp_in_nI (by omega) (by omega)) (congrArg (ad.2.2 20) (nI_clamp (by omega))) ?_
  refine e_aload_n dL_law_208 rfl ?_
  refine e_iload_n dL_law_209 rfl ?_
  refine e_iconst (nI 4) dL_law_210 rfl ?_
  refine e_iaddN dL_law_211 ?_
  refine e_ildO dL_law_212 (Or.inr rfl) rfl (vp_in_nI (by omega) (by omega)) (congrArg (ad.2.2 20) (nI_clamp (by omega))) ?_
  refine e_aload_n dL_law_213 rfl ?_
  refine e_iload_n dL_law_214 rfl ?_
  refine e_iconst (nI 5) dL_law_215 rfl ?_
  refine e_iaddN dL_law_216 ?_
  refine e_ildO dL_law_217 (Or.inr rfl) rfl (vp_in_nI (by omega) (by omega)) (congrArg (ad.2.2 20) (nI_clamp (by omega))) ?_
  obtain ⟨mc, ms, hmc, hms, hop1⟩ := hop h hI
  refine e_callV [.int _, .int _, .int _, .int _, .int _] dL_law_218 tm_13_13 rfl (Nat.le_of_ble_eq_true rfl) (hs h hI).1 (Nat.le_of_ble_eq_true rfl) (by omega) (by omega) rfl (mCal_mono ?_ hop1)
  rintro _ h1 ⟨r, rfl, hs1, hop2⟩
  refine e_aload_n dL_law_221 rfl ?_
  refine e_aload_n dL_law_222 rfl ?_
  refine e_iload_n dL_law_223 rfl ?_
  refine e_iconst (nI 1) dL_law_224 rfl ?_
  refine e_iaddN dL_law_225 ?_
  refine e_ildO dL_law_226 (Or.inr rfl) rfl (vp_in_nI (by omega) (by omega)) (congrArg (ad.2.2 20) (nI_clamp (by omega))) ?_
  refine e_aload_n dL_law_227 rfl ?_
  refine e_iload_n dL_law_228 rfl ?_
  refine e_iconst (nI 2) dL_law_229 rfl ?_
  refine e_iaddN dL_law_230 ?_
  refine e_ildO dL_law_231 (Or.inr rfl) rfl (vp_in_nI (by omega) (by omega)) (congrArg (ad.2.2 20) (nI_clamp (by omega))) ?_
  refine e_aload_n dL_law_232 rfl ?_
  refine e_iload_n dL_law_233 rfl ?_
  refine e_iconst (nI 3) dL_law_234 rfl ?_
  refine e_iaddN dL_law_235 ?_
  refine e_ildO dL_law_236 (Or.inr rfl) rfl (vp_in_nI (by omega) (by omega)) (congrArg (ad.2.2 20) (nI_clamp (by omega))) ?_
  refine e_aload_n dL_law_237 rfl ?_
  refine e_iload_n dL_law_238 rfl ?_
  refine e_iconst (nI 4) dL_law_239 rfl ?_
  refine e_iaddN dL_law_240 ?_
  refine e_ildO dL_law_241 (Or.inr rfl) rfl (vp_in_nI (by omega) (by omega)) (congrArg (ad.2.2 20) (nI_clamp (by omega))) ?_
  refine e_aload_n dL_law_242 rfl ?_
  refine e_iload_n dL_law_243 rfl ?_
  refine e_iconst (nI 5) dL_law_244 rfl ?_
  refine e_iaddN dL_law_245 ?_
  refine e_ildO dL_law_246 (Or.inr rfl) rfl (vp_in_nI (by omega) (by omega)) (congrArg (ad.2.2 20) (nI_clamp (by omega))) ?_
  refine e_callV [.int _, .int _, .int _, .int _, .int _] dL_law_247 tm_13_17 rfl (Nat.le_of_ble_eq_true rfl) hs1 (Nat.le_of_ble_eq_true rfl) (by show z.1 + mc + 0 ≤ 600000; omega) (by show z.2 + ms + 0 ≤ 7302250; omega) rfl (mCal_mono ?_ hop2)
  rintro _ h2 ⟨rfl, hI2⟩
  exact e_icmp_eq 1660 dL_law_250 rfl (fun _ => nxt h2 mc ms hmc hms hI2) (fun c => absurd rfl c)
set_option maxHeartbeats 2000000 in
theorem law_c1 {ad : mA} {B i : Nat} {z : Nat × Nat} {Inv : mH → Prop} {h : mH} (hs : ∀ h, Inv h → (mS h B).1 = 11 ∧ (mS h (B + 157)).1 = 12) (hi : i + 6 ≤ ad.2.1 20) (hL : ad.2.1 20 ≤ 3072) (hz1 : z.1 + 54 ≤ 600000) (hz2 : z.2 + 1113 ≤ 7302250) (hI : Inv h) (hop : opI ad B Inv M_X11_end M_X12_end [.int (ad.2.2 20 (i + 1))]) (nxt : ∀ h' mc ms, mc ≤ 54 → ms ≤ 1113 → Inv h' → lawEv ad 1660 [some (.ref (ad.1 20)), some (.ref B), some (.ref (B + 157)), some (.int (nI i))] [] h' (z.1 + mc, z.2 + ms)) : lawEv ad 255 [some (.ref (ad.1 20)), some (.ref B), some (.ref (B + 157)), some (.int (nI i))] [] h z := by
  refine e_aload_n dL_law_255 rfl ?_
  refine e_aload_n dL_law_256 rfl ?_
  refine e_iload_n dL_law_257 rfl ?_
  refine e_iconst (nI 1) dL_law_258 rfl ?_
  refine e_iaddN dL_law_259 ?_
  refine e_ildO dL_law_260 (Or.inr rfl) rfl (vp_in_nI (by omega) (by omega)) (congrArg (ad.2.2 20) (nI_clamp (by omega))) ?_
  obtain ⟨mc, ms, hmc, hms, hop1⟩ := hop h hI
  refine e_callV [.int _] dL_law_261 tm_13_18 rfl (Nat.le_of_ble_eq_true rfl) (hs h hI).1 (Nat.le_of_ble_eq_true rfl) (by omega) (by omega) rfl (mCal_mono ?_ hop1)
  rintro _ h1 ⟨r, rfl, hs1, hop2⟩
  refine e_aload_n dL_law_264 rfl ?_
  refine e_aload_n dL_law_265 rfl ?_
  refine e_iload_n dL_law_266 rfl ?_
  refine e_iconst (nI 1) dL_law_267 rfl ?_
  refine e_iaddN dL_law_268 ?_
  refine e_ildO dL_law_269 (Or.inr rfl) rfl (vp_in_nI (by omega) (by omega)) (congrArg (ad.2.2 20) (nI_clamp (by omega))) ?_
  refine e_callV [.int _] dL_law_270 tm_13_22 rfl (Nat.le_of_ble_eq_true rfl) hs1 (Nat.le_of_ble_eq_true rfl) (by show z.1 + mc + 0 ≤ 600000; omega) (by show z.2 + ms + 0 ≤ 7302250; omega) rfl (mCal_mono ?_ hop2)
  rintro _ h2 ⟨rfl, hI2⟩
  exact e_icmp_eq 1660 dL_law_273 rfl (fun _ => nxt h2 mc ms hmc hms hI2) (fun c => absurd rfl c)
set_option maxHeartbeats 2000000 in
theorem law_c2 {ad : mA} {B i : Nat} {z : Nat × Nat} {Inv : mH → Prop} {h : mH} (hs : ∀ h, Inv h → (mS h B).1 = 11 ∧ (mS h (B + 157)).1 = 12) (hi : i + 6 ≤ ad.2.1 20) (hL : ad.2.1 20 ≤ 3072) (hz1 : z.1 + 54 ≤ 600000) (hz2 : z.2 + 1113 ≤ 7302250) (hI : Inv h) (hop : opI ad B Inv M_X11_text M_X12_text [.int (ad.2.2 20 (i + 1)), .int (ad.2.2 20 (i + 2))]) (nxt : ∀ h' mc ms, mc ≤ 54 → ms ≤ 1113 → Inv h' → lawEv ad 1660 [some (.ref (ad.1 20)), some (.ref B), some (.ref (B + 157)), some (.int (nI i))] [] h' (z.1 + mc, z.2 + ms)) : lawEv ad 278 [some (.ref (ad.1 20)), some (.ref B), some (.ref (B + 157)), some (.int (nI i))] [] h z := by
  refine e_aload_n dL_law_278 rfl ?_
  refine e_aload_n dL_law_279 rfl ?_
  refine e_iload_n dL_law_280 rfl ?_
  refine e_iconst (nI 1) dL_law_281 rfl ?_
  refine e_iaddN dL_law_282 ?_
  refine e_ildO dL_law_283 (Or.inr rfl) rfl (vp_in_nI (by omega) (by omega)) (congrArg (ad.2.2 20) (nI_clamp (by omega))) ?_
  refine e_aload_n dL_law_284 rfl ?_
  refine e_iload_n dL_law_285 rfl ?_
  refine e_iconst (nI 2) dL_law_286 rfl ?_
  refine e_iaddN dL_law_287 ?_
  refine e_ildO dL_law_288 (Or.inr rfl) rfl (vp_in_nI (by omega) (by omega)) (congrArg (ad.2.2 20) (nI_clamp (by omega))) ?_
  obtain ⟨mc, ms, hmc, hms, hop1⟩ := hop h hI
  refine e_callV [.int _, .int _] dL_law_289 tm_13_23 rfl (Nat.le_of_ble_eq_true rfl) (hs h hI).1 (Nat.le_of_ble_eq_true rfl) (by omega) (by omega) rfl (mCal_mono ?_ hop1)
  rintro _ h1 ⟨r, rfl, hs1, hop2⟩
  refine e_aload_n dL_law_292 rfl ?_
  refine e_aload_n dL_law_293 rfl ?_
  refine e_iload_n dL_law_294 rfl ?_
  refine e_iconst (nI 1) dL_law_295 rfl ?_
  refine e_iaddN dL_law_296 ?_
  refine e_ildO dL_law_297 (Or.inr rfl) rfl (vp_in_nI (by omega) (by omega)) (congrArg (ad.2.2 20) (nI_clamp (by omega))) ?_
  refine e_aload_n dL_law_298 rfl ?_
  refine e_iload_n dL_law_299 rfl ?_
  refine e_iconst (nI 2) dL_law_300 rfl ?_
  refine e_iaddN dL_law_301 ?_
  refine e_ildO dL_law_302 (Or.inr rfl) rfl (vp_in_nI (by omega) (by omega)) (congrArg (ad.2.2 20) (nI_clamp (by omega))) ?_
  refine e_callV [.int _, .int _] dL_law_303 tm_13_27 rfl (Nat.le_of_ble_eq_true rfl) hs1 (Nat.le_of_ble_eq_true rfl) (by show z.1 + mc + 0 ≤ 600000; omega) (by show z.2 + ms + 0 ≤ 7302250; omega) rfl (mCal_mono ?_ hop2)
  rintro _ h2 ⟨rfl, hI2⟩
  exact e_icmp_eq 1660 dL_law_306 rfl (fun _ => nxt h2 mc ms hmc hms hI2) (fun c => absurd rfl c)
set_option maxHeartbeats 2000000 in
theorem law_c3 {ad : mA} {B i : Nat} {z : Nat × Nat} {Inv : mH → Prop} {h : mH} (hs : ∀ h, Inv h → (mS h B).1 = 11 ∧ (mS h (B + 157)).1 = 12) (hi : i + 6 ≤ ad.2.1 20) (hL : ad.2.1 20 ≤ 3072) (hz1 : z.1 + 54 ≤ 600000) (hz2 : z.2 + 1113 ≤ 7302250) (hI : Inv h) (hop : opI ad B Inv M_X11_fault M_X12_fault [.int (ad.2.2 20 (i + 1))]) (nxt : ∀ h' mc ms, mc ≤ 54 → ms ≤ 1113 → Inv h' → lawEv ad 1660 [some (.ref (ad.1 20)), some (.ref B), some (.ref (B + 157)), some (.int (nI i))] [] h' (z.1 + mc, z.2 + ms)) : lawEv ad 311 [some (.ref (ad.1 20)), some (.ref B), some (.ref (B + 157)), some (.int (nI i))] [] h z := by
  refine e_aload_n dL_law_311 rfl ?_
  refine e_aload_n dL_law_312 rfl ?_
  refine e_iload_n dL_law_313 rfl ?_
  refine e_iconst (nI 1) dL_law_314 rfl ?_
  refine e_iaddN dL_law_315 ?_
  refine e_ildO dL_law_316 (Or.inr rfl) rfl (vp_in_nI (by omega) (by omega)) (congrArg (ad.2.2 20) (nI_clamp (by omega))) ?_
  obtain ⟨mc, ms, hmc, hms, hop1⟩ := hop h hI
  refine e_callV [.int _] dL_law_317 tm_13_28 rfl (Nat.le_of_ble_eq_true rfl) (hs h hI).1 (Nat.le_of_ble_eq_true rfl) (by omega) (by omega) rfl (mCal_mono ?_ hop1)
  rintro _ h1 ⟨r, rfl, hs1, hop2⟩
  refine e_aload_n dL_law_320 rfl ?_
  refine e_aload_n dL_law_321 rfl ?_
  refine e_iload_n dL_law_322 rfl ?_
  refine e_iconst (nI 1) dL_law_323 rfl ?_
  refine e_iaddN dL_law_324 ?_
  refine e_ildO dL_law_325 (Or.inr rfl) rfl (vp_in_nI (by omega) (by omega)) (congrArg (ad.2.2 20) (nI_clamp (by omega))) ?_
  refine e_callV [.int _] dL_law_326 tm_13_31 rfl (Nat.le_of_ble_eq_true rfl) hs1 (Nat.le_of_ble_eq_true rfl) (by show z.1 + mc + 0 ≤ 600000; omega) (by show z.2 + ms + 0 ≤ 7302250; omega) rfl (mCal_mono ?_ hop2)
  rintro _ h2 ⟨rfl, hI2⟩
  exact e_icmp_eq 1660 dL_law_329 rfl (fun _ => nxt h2 mc ms hmc hms hI2) (fun c => absurd rfl c)
set_option maxHeartbeats 2000000 in
theorem law_c4 {ad : mA} {B i : Nat} {z : Nat × Nat} {Inv : mH → Prop} {h : mH} (hs : ∀ h, Inv h → (mS h B).1 = 11 ∧ (mS h (B + 157)).1 = 12) (hi : i + 6 ≤ ad.2.1 20) (hL : ad.2.1 20 ≤ 3072) (hz1 : z.1 + 54 ≤ 600000) (hz2 : z.2 + 1113 ≤ 7302250) (hI : Inv h) (hop : opI ad B Inv M_X11_forge M_X12_forge [.int (ad.2.2 20 (i + 1)), .int (ad.2.2 20 (i + 2))]) (nxt : ∀ h' mc ms, mc ≤ 54 → ms ≤ 1113 → Inv h' → lawEv ad 1660 [some (.ref (ad.1 20)), some (.ref B), some (.ref (B + 157)), some (.int (nI i))] [] h' (z.1 + mc, z.2 + ms)) : lawEv ad 334 [some (.ref (ad.1 20)), some (.ref B), some (.ref (B + 157)), some (.int (nI i))] [] h z := by
  refine e_aload_n dL_law_334 rfl ?_
  refine e_aload_n dL_law_335 rfl ?_
  refine e_iload_n dL_law_336 rfl ?_
  refine e_iconst (nI 1) dL_law_337 rfl ?_
  refine e_iaddN dL_law_338 ?_
  refine e_ildO dL_law_339 (Or.inr rfl) rfl (vp_in_nI (by omega) (by omega)) (congrArg (ad.2.2 20) (nI_clamp (by omega))) ?_
  refine e_aload_n dL_law_340 rfl ?_
  refine e_iload_n dL_law_341 rfl ?_
  refine e_iconst (nI 2) dL_law_342 rfl ?_
  refine e_iaddN dL_law_343 ?_
  refine e_ildO dL_law_344 (Or.inr rfl) rfl (vp_in_nI (by omega) (by omega)) (congrArg (ad.2.2 20) (nI_clamp (by omega))) ?_
  obtain ⟨mc, ms, hmc, hms, hop1⟩ := hop h hI
  refine e_callV [.int _, .int _] dL_law_345 tm_13_32 rfl (Nat.le_of_ble_eq_true rfl) (hs h hI).1 (Nat.le_of_ble_eq_true rfl) (by omega) (by omega) rfl (mCal_mono ?_ hop1)
  rintro _ h1 ⟨r, rfl, hs1, hop2⟩
  refine e_aload_n dL_law_348 rfl ?_
  refine e_aload_n dL_law_349 rfl ?_
  refine e_iload_n dL_law_350 rfl ?_
  refine e_iconst (nI 1) dL_law_351 rfl ?_
  refine e_iaddN dL_law_352 ?_
  refine e_ildO dL_law_353 (Or.inr rfl) rfl (vp_in_nI (by omega) (by omega)) (congrArg (ad.2.2 20) (nI_clamp (by omega))) ?_
  refine e_aload_n dL_law_354 rfl ?_
  refine e_iload_n dL_law_355 rfl ?_
  refine e_iconst (nI 2) dL_law_356 rfl ?_
  refine e_iaddN dL_law_357 ?_
  refine e_ildO dL_law_358 (Or.inr rfl) rfl (vp_in_nI (by omega) (by omega)) (congrArg (ad.2.2 20) (nI_clamp (by omega))) ?_
  refine e_callV [.int _, .int _] dL_law_359 tm_13_35 rfl (Nat.le_of_ble_eq_true rfl) hs1 (Nat.le_of_ble_eq_true rfl) (by show z.1 + mc + 0 ≤ 600000; omega) (by show z.2 + ms + 0 ≤ 7302250; omega) rfl (mCal_mono ?_ hop2)
  rintro _ h2 ⟨rfl, hI2⟩
  exact e_icmp_eq 1660 dL_law_362 rfl (fun _ => nxt h2 mc ms hmc hms hI2) (fun c => absurd rfl c)
set_option maxHeartbeats 2000000 in
theorem law_c5 {ad : mA} {B i : Nat} {z : Nat × Nat} {Inv : mH → Prop} {h : mH} (hs : ∀ h, Inv h → (mS h B).1 = 11 ∧ (mS h (B + 157)).1 = 12) (hi : i + 6 ≤ ad.2.1 20) (hL : ad.2.1 20 ≤ 3072) (hz1 : z.1 + 54 ≤ 600000) (hz2 : z.2 + 1113 ≤ 7302250) (hI : Inv h) (hop : ∀ bb : Int32, bb = 0 ∨ bb = 1 → opI ad B Inv M_X11_fit M_X12_fit [.int (ad.2.2 20 (i + 1)), .int (ad.2.2 20 (i + 2)), .int (ad.2.2 20 (i + 3)), .int bb]) (nxt : ∀ h' mc ms, mc ≤ 54 → ms ≤ 1113 → Inv h' → lawEv ad 1660 [some (.ref (ad.1 20)), some (.ref B), some (.ref (B + 157)), some (.int (nI i))] [] h' (z.1 + mc, z.2 + ms)) : lawEv ad 367 [some (.ref (ad.1 20)), some (.ref B), some (.ref (B + 157)), some (.int (nI i))] [] h z := by
  by_cases cb : ad.2.2 20 (i + 4) = 0
  · skip
    refine e_aload_n dL_law_367 rfl ?_
    refine e_aload_n dL_law_368 rfl ?_
    refine e_iload_n dL_law_369 rfl ?_
    refine e_iconst (nI 1) dL_law_370 rfl ?_
    refine e_iaddN dL_law_371 ?_
    refine e_ildO dL_law_372 (Or.inr rfl) rfl (vp_in_nI (by omega) (by omega)) (congrArg (ad.2.2 20) (nI_clamp (by omega))) ?_
    refine e_aload_n dL_law_373 rfl ?_
    refine e_iload_n dL_law_374 rfl ?_
    refine e_iconst (nI 2) dL_law_375 rfl ?_
    refine e_iaddN dL_law_376 ?_
    refine e_ildO dL_law_377 (Or.inr rfl) rfl (vp_in_nI (by omega) (by omega)) (congrArg (ad.2.2 20) (nI_clamp (by omega))) ?_
    refine e_aload_n dL_law_378 rfl ?_
    refine e_iload_n dL_law_379 rfl ?_
    refine e_iconst (nI 3) dL_law_380 rfl ?_
    refine e_iaddN dL_law_381 ?_
    refine e_ildO dL_law_382 (Or.inr rfl) rfl (vp_in_nI (by omega) (by omega)) (congrArg (ad.2.2 20) (nI_clamp (by omega))) ?_
    refine e_aload_n dL_law_383 rfl ?_
    refine e_iload_n dL_law_384 rfl ?_
    refine e_iconst (nI 4) dL_law_385 rfl ?_
    refine e_iaddN dL_law_386 ?_
    refine e_ildO dL_law_387 (Or.inr rfl) rfl (vp_in_nI (by omega) (by omega)) (congrArg (ad.2.2 20) (nI_clamp (by omega))) ?_
    refine e_if_eq 395 dL_law_388 rfl (fun _ => ?_) (fun c2 => absurd cb c2)
    refine e_iconst 0 dL_law_395 rfl ?_
    obtain ⟨mc, ms, hmc, hms, hop1⟩ := hop 0 (Or.inl rfl) h hI
    refine e_callV [.int _, .int _, .int _, .int _] dL_law_396 tm_13_36 rfl (Nat.le_of_ble_eq_true rfl) (hs h hI).1 (Nat.le_of_ble_eq_true rfl) (by omega) (by omega) rfl (mCal_mono ?_ hop1)
    rintro _ h1 ⟨r, rfl, hs1, hop2⟩
    refine e_aload_n dL_law_399 rfl ?_
    refine e_aload_n dL_law_400 rfl ?_
    refine e_iload_n dL_law_401 rfl ?_
    refine e_iconst (nI 1) dL_law_402 rfl ?_
    refine e_iaddN dL_law_403 ?_
    refine e_ildO dL_law_404 (Or.inr rfl) rfl (vp_in_nI (by omega) (by omega)) (congrArg (ad.2.2 20) (nI_clamp (by omega))) ?_
    refine e_aload_n dL_law_405 rfl ?_
    refine e_iload_n dL_law_406 rfl ?_
    refine e_iconst (nI 2) dL_law_407 rfl ?_
    refine e_iaddN dL_law_408 ?_
    refine e_ildO dL_law_409 (Or.inr rfl) rfl (vp_in_nI (by omega) (by omega)) (congrArg (ad.2.2 20) (nI_clamp (by omega))) ?_
    refine e_aload_n dL_law_410 rfl ?_
    refine e_iload_n dL_law_411 rfl ?_
    refine e_iconst (nI 3) dL_law_412 rfl ?_
    refine e_iaddN dL_law_413 ?_
    refine e_ildO dL_law_414 (Or.inr rfl) rfl (vp_in_nI (by omega) (by omega)) (congrArg (ad.2.2 20) (nI_clamp (by omega))) ?_
    refine e_aload_n dL_law_415 rfl ?_
    refine e_iload_n dL_law_416 rfl ?_
    refine e_iconst (nI 4) dL_law_417 rfl ?_
    refine e_iaddN dL_law_418 ?_
    refine e_ildO dL_law_419 (Or.inr rfl) rfl (vp_in_nI (by omega) (by omega)) (congrArg (ad.2.2 20) (nI_clamp (by omega))) ?_
    refine e_if_eq 427 dL_law_420 rfl (fun _ => ?_) (fun c2 => absurd cb c2)
    refine e_iconst 0 dL_law_427 rfl ?_
    refine e_callV [.int _, .int _, .int _, .int _] dL_law_428 tm_13_40 rfl (Nat.le_of_ble_eq_true rfl) hs1 (Nat.le_of_ble_eq_true rfl) (by show z.1 + mc + 0 ≤ 600000; omega) (by show z.2 + ms + 0 ≤ 7302250; omega) rfl (mCal_mono ?_ hop2)
    rintro _ h2 ⟨rfl, hI2⟩
    exact e_icmp_eq 1660 dL_law_431 rfl (fun _ => nxt h2 mc ms hmc hms hI2) (fun c => absurd rfl c)
  · skip
    refine e_aload_n dL_law_367 rfl ?_
    refine e_aload_n dL_law_368 rfl ?_
    refine e_iload_n dL_law_369 rfl ?_
    refine e_iconst (nI 1) dL_law_370 rfl ?_
    refine e_iaddN dL_law_371 ?_
    refine e_ildO dL_law_372 (Or.inr rfl) rfl (vp_in_nI (by omega) (by omega)) (congrArg (ad.2.2 20) (nI_clamp (by omega))) ?_
    refine e_aload_n dL_law_373 rfl ?_
    refine e_iload_n dL_law_374 rfl ?_
    refine e_iconst (nI 2) dL_law_375 rfl ?_
    refine e_iaddN dL_law_376 ?_
    refine e_ildO dL_law_377 (Or.inr rfl) rfl (vp_in_nI (by omega) (by omega)) (congrArg (ad.2.2 20) (nI_clamp (by omega))) ?_
    refine e_aload_n dL_law_378 rfl ?_
    refine e_iload_n dL_law_379 rfl ?_
    refine e_iconst (nI 3) dL_law_380 rfl ?_
    refine e_iaddN dL_law_381 ?_
    refine e_ildO dL_law_382 (Or.inr rfl) rfl (vp_in_nI (by omega) (by omega)) (congrArg (ad.2.2 20) (nI_clamp (by omega))) ?_
    refine e_aload_n dL_law_383 rfl ?_
    refine e_iload_n dL_law_384 rfl ?_
    refine e_iconst (nI 4) dL_law_385 rfl ?_
    refine e_iaddN dL_law_386 ?_
    refine e_ildO dL_law_387 (Or.inr rfl) rfl (vp_in_nI (by omega) (by omega)) (congrArg (ad.2.2 20) (nI_clamp (by omega))) ?_
    refine e_if_eq 395 dL_law_388 rfl (fun c2 => absurd c2 cb) (fun _ => ?_)
    refine e_iconst 1 dL_law_391 rfl ?_
    refine e_goto 396 dL_law_392 rfl ?_
    obtain ⟨mc, ms, hmc, hms, hop1⟩ := hop 1 (Or.inr rfl) h hI
    refine e_callV [.int _, .int _, .int _, .int _] dL_law_396 tm_13_36 rfl (Nat.le_of_ble_eq_true rfl) (hs h hI).1 (Nat.le_of_ble_eq_true rfl) (by omega) (by omega) rfl (mCal_mono ?_ hop1)
    rintro _ h1 ⟨r, rfl, hs1, hop2⟩
    refine e_aload_n dL_law_399 rfl ?_
    refine e_aload_n dL_law_400 rfl ?_
    refine e_iload_n dL_law_401 rfl ?_
    refine e_iconst (nI 1) dL_law_402 rfl ?_
    refine e_iaddN dL_law_403 ?_
    refine e_ildO dL_law_404 (Or.inr rfl) rfl (vp_in_nI (by omega) (by omega)) (congrArg (ad.2.2 20) (nI_clamp (by omega))) ?_
    refine e_aload_n dL_law_405 rfl ?_
    refine e_iload_n dL_law_406 rfl ?_
    refine e_iconst (nI 2) dL_law_407 rfl ?_
    refine e_iaddN dL_law_408 ?_
    refine e_ildO dL_law_409 (Or.inr rfl) rfl (vp_in_nI (by omega) (by omega)) (congrArg (ad.2.2 20) (nI_clamp (by omega))) ?_
    refine e_aload_n dL_law_410 rfl ?_
    refine e_iload_n dL_law_411 rfl ?_
    refine e_iconst (nI 3) dL_law_412 rfl ?_
    refine e_iaddN dL_law_413 ?_
    refine e_ildO dL_law_414 (Or.inr rfl) rfl (vp_in_nI (by omega) (by omega)) (congrArg (ad.2.2 20) (nI_clamp (by omega))) ?_
    refine e_aload_n dL_law_415 rfl ?_
    refine e_iload_n dL_law_416 rfl ?_
    refine e_iconst (nI 4) dL_law_417 rfl ?_
    refine e_iaddN dL_law_418 ?_
    refine e_ildO dL_law_419 (Or.inr rfl) rfl (vp_in_nI (by omega) (by omega)) (congrArg (ad.2.2 20) (nI_clamp (by omega))) ?_
    refine e_if_eq 427 dL_law_420 rfl (fun c2 => absurd c2 cb) (fun _ => ?_)
    refine e_iconst 1 dL_law_423 rfl ?_
    refine e_goto 428 dL_law_424 rfl ?_
    refine e_callV [.int _, .int _, .int _, .int _] dL_law_428 tm_13_40 rfl (Nat.le_of_ble_eq_true rfl) hs1 (Nat.le_of_ble_eq_true rfl) (by show z.1 + mc + 0 ≤ 600000; omega) (by show z.2 + ms + 0 ≤ 7302250; omega) rfl (mCal_mono ?_ hop2)
    rintro _ h2 ⟨rfl, hI2⟩
    exact e_icmp_eq 1660 dL_law_431 rfl (fun _ => nxt h2 mc ms hmc hms hI2) (fun c => absurd rfl c)
set_option maxHeartbeats 2000000 in
theorem law_c6 {ad : mA} {B i : Nat} {z : Nat × Nat} {Inv : mH → Prop} {h : mH} (hs : ∀ h, Inv h → (mS h B).1 = 11 ∧ (mS h (B + 157)).1 = 12) (hi : i + 6 ≤ ad.2.1 20) (hL : ad.2.1 20 ≤ 3072) (hz1 : z.1 + 54 ≤ 600000) (hz2 : z.2 + 1113 ≤ 7302250) (hI : Inv h) (hop : opI ad B Inv M_X11_deed M_X12_deed [.int (ad.2.2 20 (i + 1)), .int (ad.2.2 20 (i + 2)), .int (ad.2.2 20 (i + 3))]) (nxt : ∀ h' mc ms, mc ≤ 54 → ms ≤ 1113 → Inv h' → lawEv ad 1660 [some (.ref (ad.1 20)), some (.ref B), some (.ref (B + 157)), some (.int (nI i))] [] h' (z.1 + mc, z.2 + ms)) : lawEv ad 436 [some (.ref (ad.1 20)), some (.ref B), some (.ref (B + 157)), some (.int (nI i))] [] h z := by
  refine e_aload_n dL_law_436 rfl ?_
  refine e_aload_n dL_law_437 rfl ?_
  refine e_iload_n dL_law_438 rfl ?_
  refine e_iconst (nI 1) dL_law_439 rfl ?_
  refine e_iaddN dL_law_440 ?_
  refine e_ildO dL_law_441 (Or.inr rfl) rfl (vp_in_nI (by omega) (by omega)) (congrArg (ad.2.2 20) (nI_clamp (by omega))) ?_
  refine e_aload_n dL_law_442 rfl ?_
  refine e_iload_n dL_law_443 rfl ?_
  refine e_iconst (nI 2) dL_law_444 rfl ?_
  refine e_iaddN dL_law_445 ?_
  refine e_ildO dL_law_446 (Or.inr rfl) rfl (vp_in_nI (by omega) (by omega)) (congrArg (ad.2.2 20) (nI_clamp (by omega))) ?_
  refine e_aload_n dL_law_447 rfl ?_
  refine e_iload_n dL_law_448 rfl ?_
  refine e_iconst (nI 3) dL_law_449 rfl ?_
  refine e_iaddN dL_law_450 ?_
  refine e_ildO dL_law_451 (Or.inr rfl) rfl (vp_in_nI (by omega) (by omega)) (congrArg (ad.2.2 20) (nI_clamp (by omega))) ?_
  obtain ⟨mc, ms, hmc, hms, hop1⟩ := hop h hI
  refine e_callV [.int _, .int _, .int _] dL_law_452 tm_13_41 rfl (Nat.le_of_ble_eq_true rfl) (hs h hI).1 (Nat.le_of_ble_eq_true rfl) (by omega) (by omega) rfl (mCal_mono ?_ hop1)
  rintro _ h1 ⟨r, rfl, hs1, hop2⟩
  refine e_aload_n dL_law_455 rfl ?_
  refine e_aload_n dL_law_456 rfl ?_
  refine e_iload_n dL_law_457 rfl ?_
  refine e_iconst (nI 1) dL_law_458 rfl ?_
  refine e_iaddN dL_law_459 ?_
  refine e_ildO dL_law_460 (Or.inr rfl) rfl (vp_in_nI (by omega) (by omega)) (congrArg (ad.2.2 20) (nI_clamp (by omega))) ?_
  refine e_aload_n dL_law_461 rfl ?_
  refine e_iload_n dL_law_462 rfl ?_
  refine e_iconst (nI 2) dL_law_463 rfl ?_
  refine e_iaddN dL_law_464 ?_
  refine e_ildO dL_law_465 (Or.inr rfl) rfl (vp_in_nI (by omega) (by omega)) (congrArg (ad.2.2 20) (nI_clamp (by omega))) ?_
  refine e_aload_n dL_law_466 rfl ?_
  refine e_iload_n dL_law_467 rfl ?_
  refine e_iconst (nI 3) dL_law_468 rfl ?_
  refine e_iaddN dL_law_469 ?_
  refine e_ildO dL_law_470 (Or.inr rfl) rfl (vp_in_nI (by omega) (by omega)) (congrArg (ad.2.2 20) (nI_clamp (by omega))) ?_
  refine e_callV [.int _, .int _, .int _] dL_law_471 tm_13_45 rfl (Nat.le_of_ble_eq_true rfl) hs1 (Nat.le_of_ble_eq_true rfl) (by show z.1 + mc + 0 ≤ 600000; omega) (by show z.2 + ms + 0 ≤ 7302250; omega) rfl (mCal_mono ?_ hop2)
  rintro _ h2 ⟨rfl, hI2⟩
  exact e_icmp_eq 1660 dL_law_474 rfl (fun _ => nxt h2 mc ms hmc hms hI2) (fun c => absurd rfl c)
set_option maxHeartbeats 2000000 in
theorem law_c7 {ad : mA} {B i : Nat} {z : Nat × Nat} {Inv : mH → Prop} {h : mH} (hs : ∀ h, Inv h → (mS h B).1 = 11 ∧ (mS h (B + 157)).1 = 12) (hi : i + 6 ≤ ad.2.1 20) (hL : ad.2.1 20 ≤ 3072) (hz1 : z.1 + 54 ≤ 600000) (hz2 : z.2 + 1113 ≤ 7302250) (hI : Inv h) (hop : opI ad B Inv M_X11_till M_X12_till [.int (ad.2.2 20 (i + 1)), .int (ad.2.2 20 (i + 2))]) (nxt : ∀ h' mc ms, mc ≤ 54 → ms ≤ 1113 → Inv h' → lawEv ad 1660 [some (.ref (ad.1 20)), some (.ref B), some (.ref (B + 157)), some (.int (nI i))] [] h' (z.1 + mc, z.2 + ms)) : lawEv ad 479 [some (.ref (ad.1 20)), some (.ref B), some (.ref (B + 157)), some (.int (nI i))] [] h z := by
  refine e_aload_n dL_law_479 rfl ?_
  refine e_aload_n dL_law_480 rfl ?_
  refine e_iload_n dL_law_481 rfl ?_
  refine e_iconst (nI 1) dL_law_482 rfl ?_
  refine e_iaddN dL_law_483 ?_
  refine e_ildO dL_law_484 (Or.inr rfl) rfl (vp_in_nI (by omega) (by omega)) (congrArg (ad.2.2 20) (nI_clamp (by omega))) ?_
  refine e_aload_n dL_law_485 rfl ?_
  refine e_iload_n dL_law_486 rfl ?_
  refine e_iconst (nI 2) dL_law_487 rfl ?_
  refine e_iaddN dL_law_488 ?_
  refine e_ildO dL_law_489 (Or.inr rfl) rfl (vp_in_nI (by omega) (by omega)) (congrArg (ad.2.2 20) (nI_clamp (by omega))) ?_
  obtain ⟨mc, ms, hmc, hms, hop1⟩ := hop h hI
  refine e_callV [.int _, .int _] dL_law_490 tm_13_46 rfl (Nat.le_of_ble_eq_true rfl) (hs h hI).1 (Nat.le_of_ble_eq_true rfl) (by omega) (by omega) rfl (mCal_mono ?_ hop1)
  rintro _ h1 ⟨r, rfl, hs1, hop2⟩
  refine e_aload_n dL_law_493 rfl ?_
  refine e_aload_n dL_law_494 rfl ?_
  refine e_iload_n dL_law_495 rfl ?_
  refine e_iconst (nI 1) dL_law_496 rfl ?_
  refine e_iaddN dL_law_497 ?_
  refine e_ildO dL_law_498 (Or.inr rfl) rfl (vp_in_nI (by omega) (by omega)) (congrArg (ad.2.2 20) (nI_clamp (by omega))) ?_
  refine e_aload_n dL_law_499 rfl ?_
  refine e_iload_n dL_law_500 rfl ?_
  refine e_iconst (nI 2) dL_law_501 rfl ?_
  refine e_iaddN dL_law_502 ?_
  refine e_ildO dL_law_503 (Or.inr rfl) rfl (vp_in_nI (by omega) (by omega)) (congrArg (ad.2.2 20) (nI_clamp (by omega))) ?_
  refine e_callV [.int _, .int _] dL_law_504 tm_13_49 rfl (Nat.le_of_ble_eq_true rfl) hs1 (Nat.le_of_ble_eq_true rfl) (by show z.1 + mc + 0 ≤ 600000; omega) (by show z.2 + ms + 0 ≤ 7302250; omega) rfl (mCal_mono ?_ hop2)
  rintro _ h2 ⟨rfl, hI2⟩
  exact e_icmp_eq 1660 dL_law_507 rfl (fun _ => nxt h2 mc ms hmc hms hI2) (fun c => absurd rfl c)
set_option maxHeartbeats 2000000 in
theorem law_c8 {ad : mA} {B i : Nat} {z : Nat × Nat} {Inv : mH → Prop} {h : mH} (hs : ∀ h, Inv h → (mS h B).1 = 11 ∧ (mS h (B + 157)).1 = 12) (hi : i + 6 ≤ ad.2.1 20) (hL : ad.2.1 20 ≤ 3072) (hz1 : z.1 + 54 ≤ 600000) (hz2 : z.2 + 1113 ≤ 7302250) (hI : Inv h) (hop : opI ad B Inv M_X11_state M_X12_state [.int (ad.2.2 20 (i + 1)), .int (ad.2.2 20 (i + 2)), .int (ad.2.2 20 (i + 3)), .int (ad.2.2 20 (i + 4))]) (nxt : ∀ h' mc ms, mc ≤ 54 → ms ≤ 1113 → Inv h' → lawEv ad 1660 [some (.ref (ad.1 20)), some (.ref B), some (.ref (B + 157)), some (.int (nI i))] [] h' (z.1 + mc, z.2 + ms)) : lawEv ad 512 [some (.ref (ad.1 20)), some (.ref B), some (.ref (B + 157)), some (.int (nI i))] [] h z := by
  refine e_aload_n dL_law_512 rfl ?_
  refine e_aload_n dL_law_513 rfl ?_
  refine e_iload_n dL_law_514 rfl ?_
  refine e_iconst (nI 1) dL_law_515 rfl ?_
  refine e_iaddN dL_law_516 ?_
  refine e_ildO dL_law_517 (Or.inr rfl) rfl (vp_in_nI (by omega) (by omega)) (congrArg (ad.2.2 20) (nI_clamp (by omega))) ?_
  refine e_aload_n dL_law_518 rfl ?_
  refine e_iload_n dL_law_519 rfl ?_
  refine e_iconst (nI 2) dL_law_520 rfl ?_
  refine e_iaddN dL_law_521 ?_
  refine e_ildO dL_law_522 (Or.inr rfl) rfl (vp_in_nI (by omega) (by omega)) (congrArg (ad.2.2 20) (nI_clamp (by omega))) ?_
  refine e_aload_n dL_law_523 rfl ?_
  refine e_iload_n dL_law_524 rfl ?_
  refine e_iconst (nI 3) dL_law_525 rfl ?_
  refine e_iaddN dL_law_526 ?_
  refine e_ildO dL_law_527 (Or.inr rfl) rfl (vp_in_nI (by omega) (by omega)) (congrArg (ad.2.2 20) (nI_clamp (by omega))) ?_
  refine e_aload_n dL_law_528 rfl ?_
  refine e_iload_n dL_law_529 rfl ?_
  refine e_iconst (nI 4) dL_law_530 rfl ?_
  refine e_iaddN dL_law_531 ?_
  refine e_ildO dL_law_532 (Or.inr rfl) rfl (vp_in_nI (by omega) (by omega)) (congrArg (ad.2.2 20) (nI_clamp (by omega))) ?_
  obtain ⟨mc, ms, hmc, hms, hop1⟩ := hop h hI
  refine e_callV [.int _, .int _, .int _, .int _] dL_law_533 tm_13_50 rfl (Nat.le_of_ble_eq_true rfl) (hs h hI).1 (Nat.le_of_ble_eq_true rfl) (by omega) (by omega) rfl (mCal_mono ?_ hop1)
  rintro _ h1 ⟨r, rfl, hs1, hop2⟩
  refine e_aload_n dL_law_536 rfl ?_
  refine e_aload_n dL_law_537 rfl ?_
  refine e_iload_n dL_law_538 rfl ?_
  refine e_iconst (nI 1) dL_law_539 rfl ?_
  refine e_iaddN dL_law_540 ?_
  refine e_ildO dL_law_541 (Or.inr rfl) rfl (vp_in_nI (by omega) (by omega)) (congrArg (ad.2.2 20) (nI_clamp (by omega))) ?_
  refine e_aload_n dL_law_542 rfl ?_
  refine e_iload_n dL_law_543 rfl ?_
  refine e_iconst (nI 2) dL_law_544 rfl ?_
  refine e_iaddN dL_law_545 ?_
  refine e_ildO dL_law_546 (Or.inr rfl) rfl (vp_in_nI (by omega) (by omega)) (congrArg (ad.2.2 20) (nI_clamp (by omega))) ?_
  refine e_aload_n dL_law_547 rfl ?_
  refine e_iload_n dL_law_548 rfl ?_
  refine e_iconst (nI 3) dL_law_549 rfl ?_
  refine e_iaddN dL_law_550 ?_
  refine e_ildO dL_law_551 (Or.inr rfl) rfl (vp_in_nI (by omega) (by omega)) (congrArg (ad.2.2 20) (nI_clamp (by omega))) ?_
  refine e_aload_n dL_law_552 rfl ?_
  refine e_iload_n dL_law_553 rfl ?_
  refine e_iconst (nI 4) dL_law_554 rfl ?_
  refine e_iaddN dL_law_555 ?_
  refine e_ildO dL_law_556 (Or.inr rfl) rfl (vp_in_nI (by omega) (by omega)) (congrArg (ad.2.2 20) (nI_clamp (by omega))) ?_
  refine e_callV [.int _, .int _, .int _, .int _] dL_law_557 tm_13_54 rfl (Nat.le_of_ble_eq_true rfl) hs1 (Nat.le_of_ble_eq_true rfl) (by show z.1 + mc + 0 ≤ 600000; omega) (by show z.2 + ms + 0 ≤ 7302250; omega) rfl (mCal_mono ?_ hop2)
  rintro _ h2 ⟨rfl, hI2⟩
  exact e_icmp_eq 1660 dL_law_560 rfl (fun _ => nxt h2 mc ms hmc hms hI2) (fun c => absurd rfl c)
set_option maxHeartbeats 2000000 in
theorem law_c9 {ad : mA} {B i : Nat} {z : Nat × Nat} {Inv : mH → Prop} {h : mH} (hs : ∀ h, Inv h → (mS h B).1 = 11 ∧ (mS h (B + 157)).1 = 12) (hi : i + 6 ≤ ad.2.1 20) (hL : ad.2.1 20 ≤ 3072) (hz1 : z.1 + 54 ≤ 600000) (hz2 : z.2 + 1113 ≤ 7302250) (hI : Inv h) (hop : opI ad B Inv M_X11_leaving M_X12_leaving [.int (ad.2.2 20 (i + 1)), .int (ad.2.2 20 (i + 2))]) (nxt : ∀ h' mc ms, mc ≤ 54 → ms ≤ 1113 → Inv h' → lawEv ad 1660 [some (.ref (ad.1 20)), some (.ref B), some (.ref (B + 157)), some (.int (nI i))] [] h' (z.1 + mc, z.2 + ms)) : lawEv ad 565 [some (.ref (ad.1 20)), some (.ref B), some (.ref (B + 157)), some (.int (nI i))] [] h z := by
  refine e_aload_n dL_law_565 rfl ?_
  refine e_aload_n dL_law_566 rfl ?_
  refine e_iload_n dL_law_567 rfl ?_
  refine e_iconst (nI 1) dL_law_568 rfl ?_
  refine e_iaddN dL_law_569 ?_
  refine e_ildO dL_law_570 (Or.inr rfl) rfl (vp_in_nI (by omega) (by omega)) (congrArg (ad.2.2 20) (nI_clamp (by omega))) ?_
  refine e_aload_n dL_law_571 rfl ?_
  refine e_iload_n dL_law_572 rfl ?_
  refine e_iconst (nI 2) dL_law_573 rfl ?_
  refine e_iaddN dL_law_574 ?_
  refine e_ildO dL_law_575 (Or.inr rfl) rfl (vp_in_nI (by omega) (by omega)) (congrArg (ad.2.2 20) (nI_clamp (by omega))) ?_
  obtain ⟨mc, ms, hmc, hms, hop1⟩ := hop h hI
  refine e_callV [.int _, .int _] dL_law_576 tm_13_55 rfl (Nat.le_of_ble_eq_true rfl) (hs h hI).1 (Nat.le_of_ble_eq_true rfl) (by omega) (by omega) rfl (mCal_mono ?_ hop1)
  rintro _ h1 ⟨r, rfl, hs1, hop2⟩
  refine e_aload_n dL_law_579 rfl ?_
  refine e_aload_n dL_law_580 rfl ?_
  refine e_iload_n dL_law_581 rfl ?_
  refine e_iconst (nI 1) dL_law_582 rfl ?_
  refine e_iaddN dL_law_583 ?_
  refine e_ildO dL_law_584 (Or.inr rfl) rfl (vp_in_nI (by omega) (by omega)) (congrArg (ad.2.2 20) (nI_clamp (by omega))) ?_
  refine e_aload_n dL_law_585 rfl ?_
  refine e_iload_n dL_law_586 rfl ?_
  refine e_iconst (nI 2) dL_law_587 rfl ?_
  refine e_iaddN dL_law_588 ?_
  refine e_ildO dL_law_589 (Or.inr rfl) rfl (vp_in_nI (by omega) (by omega)) (congrArg (ad.2.2 20) (nI_clamp (by omega))) ?_
  refine e_callV [.int _, .int _] dL_law_590 tm_13_58 rfl (Nat.le_of_ble_eq_true rfl) hs1 (Nat.le_of_ble_eq_true rfl) (by show z.1 + mc + 0 ≤ 600000; omega) (by show z.2 + ms + 0 ≤ 7302250; omega) rfl (mCal_mono ?_ hop2)
  rintro _ h2 ⟨rfl, hI2⟩
  exact e_icmp_eq 1660 dL_law_593 rfl (fun _ => nxt h2 mc ms hmc hms hI2) (fun c => absurd rfl c)
set_option maxHeartbeats 2000000 in
theorem law_c10 {ad : mA} {B i : Nat} {z : Nat × Nat} {Inv : mH → Prop} {h : mH} (hs : ∀ h, Inv h → (mS h B).1 = 11 ∧ (mS h (B + 157)).1 = 12) (hi : i + 6 ≤ ad.2.1 20) (hL : ad.2.1 20 ≤ 3072) (hz1 : z.1 + 54 ≤ 600000) (hz2 : z.2 + 1113 ≤ 7302250) (hI : Inv h) (hop : opI ad B Inv M_X11_row M_X12_row [.int (ad.2.2 20 (i + 1)), .int (ad.2.2 20 (i + 2)), .int (ad.2.2 20 (i + 3))]) (nxt : ∀ h' mc ms, mc ≤ 54 → ms ≤ 1113 → Inv h' → lawEv ad 1660 [some (.ref (ad.1 20)), some (.ref B), some (.ref (B + 157)), some (.int (nI i))] [] h' (z.1 + mc, z.2 + ms)) : lawEv ad 598 [some (.ref (ad.1 20)), some (.ref B), some (.ref (B + 157)), some (.int (nI i))] [] h z := by
  refine e_aload_n dL_law_598 rfl ?_
  refine e_aload_n dL_law_599 rfl ?_
  refine e_iload_n dL_law_600 rfl ?_
  refine e_iconst (nI 1) dL_law_601 rfl ?_
  refine e_iaddN dL_law_602 ?_
  refine e_ildO dL_law_603 (Or.inr rfl) rfl (vp_in_nI (by omega) (by omega)) (congrArg (ad.2.2 20) (nI_clamp (by omega))) ?_
  refine e_aload_n dL_law_604 rfl ?_
  refine e_iload_n dL_law_605 rfl ?_
  refine e_iconst (nI 2) dL_law_606 rfl ?_
  refine e_iaddN dL_law_607 ?_
  refine e_ildO dL_law_608 (Or.inr rfl) rfl (vp_in_nI (by omega) (by omega)) (congrArg (ad.2.2 20) (nI_clamp (by omega))) ?_
  refine e_aload_n dL_law_609 rfl ?_
  refine e_iload_n dL_law_610 rfl ?_
  refine e_iconst (nI 3) dL_law_611 rfl ?_
  refine e_iaddN dL_law_612 ?_
  refine e_ildO dL_law_613 (Or.inr rfl) rfl (vp_in_nI (by omega) (by omega)) (congrArg (ad.2.2 20) (nI_clamp (by omega))) ?_
  obtain ⟨mc, ms, hmc, hms, hop1⟩ := hop h hI
  refine e_callV [.int _, .int _, .int _] dL_law_614 tm_13_59 rfl (Nat.le_of_ble_eq_true rfl) (hs h hI).1 (Nat.le_of_ble_eq_true rfl) (by omega) (by omega) rfl (mCal_mono ?_ hop1)
  rintro _ h1 ⟨r, rfl, hs1, hop2⟩
  refine e_aload_n dL_law_617 rfl ?_
  refine e_aload_n dL_law_618 rfl ?_
  refine e_iload_n dL_law_619 rfl ?_
  refine e_iconst (nI 1) dL_law_620 rfl ?_
  refine e_iaddN dL_law_621 ?_
  refine e_ildO dL_law_622 (Or.inr rfl) rfl (vp_in_nI (by omega) (by omega)) (congrArg (ad.2.2 20) (nI_clamp (by omega))) ?_
  refine e_aload_n dL_law_623 rfl ?_
  refine e_iload_n dL_law_624 rfl ?_
  refine e_iconst (nI 2) dL_law_625 rfl ?_
  refine e_iaddN dL_law_626 ?_
  refine e_ildO dL_law_627 (Or.inr rfl) rfl (vp_in_nI (by omega) (by omega)) (congrArg (ad.2.2 20) (nI_clamp (by omega))) ?_
  refine e_aload_n dL_law_628 rfl ?_
  refine e_iload_n dL_law_629 rfl ?_
  refine e_iconst (nI 3) dL_law_630 rfl ?_
  refine e_iaddN dL_law_631 ?_
  refine e_ildO dL_law_632 (Or.inr rfl) rfl (vp_in_nI (by omega) (by omega)) (congrArg (ad.2.2 20) (nI_clamp (by omega))) ?_
  refine e_callV [.int _, .int _, .int _] dL_law_633 tm_13_62 rfl (Nat.le_of_ble_eq_true rfl) hs1 (Nat.le_of_ble_eq_true rfl) (by show z.1 + mc + 0 ≤ 600000; omega) (by show z.2 + ms + 0 ≤ 7302250; omega) rfl (mCal_mono ?_ hop2)
  rintro _ h2 ⟨rfl, hI2⟩
  exact e_icmp_eq 1660 dL_law_636 rfl (fun _ => nxt h2 mc ms hmc hms hI2) (fun c => absurd rfl c)
set_option maxHeartbeats 2000000 in
theorem law_c11 {ad : mA} {B i : Nat} {z : Nat × Nat} {Inv : mH → Prop} {h : mH} (hs : ∀ h, Inv h → (mS h B).1 = 11 ∧ (mS h (B + 157)).1 = 12) (hi : i + 6 ≤ ad.2.1 20) (hL : ad.2.1 20 ≤ 3072) (hz1 : z.1 + 54 ≤ 600000) (hz2 : z.2 + 1113 ≤ 7302250) (hI : Inv h) (hop : opI ad B Inv M_X11_rows M_X12_rows [.int (ad.2.2 20 (i + 1)), .int (ad.2.2 20 (i + 2))]) (nxt : ∀ h' mc ms, mc ≤ 54 → ms ≤ 1113 → Inv h' → lawEv ad 1660 [some (.ref (ad.1 20)), some (.ref B), some (.ref (B + 157)), some (.int (nI i))] [] h' (z.1 + mc, z.2 + ms)) : lawEv ad 641 [some (.ref (ad.1 20)), some (.ref B), some (.ref (B + 157)), some (.int (nI i))] [] h z := by
  refine e_aload_n dL_law_641 rfl ?_
  refine e_aload_n dL_law_642 rfl ?_
  refine e_iload_n dL_law_643 rfl ?_
  refine e_iconst (nI 1) dL_law_644 rfl ?_
  refine e_iaddN dL_law_645 ?_
  refine e_ildO dL_law_646 (Or.inr rfl) rfl (vp_in_nI (by omega) (by omega)) (congrArg (ad.2.2 20) (nI_clamp (by omega))) ?_
  refine e_aload_n dL_law_647 rfl ?_
  refine e_iload_n dL_law_648 rfl ?_
  refine e_iconst (nI 2) dL_law_649 rfl ?_
  refine e_iaddN dL_law_650 ?_
  refine e_ildO dL_law_651 (Or.inr rfl) rfl (vp_in_nI (by omega) (by omega)) (congrArg (ad.2.2 20) (nI_clamp (by omega))) ?_
  obtain ⟨mc, ms, hmc, hms, hop1⟩ := hop h hI
  refine e_callV [.int _, .int _] dL_law_652 tm_13_63 rfl (Nat.le_of_ble_eq_true rfl) (hs h hI).1 (Nat.le_of_ble_eq_true rfl) (by omega) (by omega) rfl (mCal_mono ?_ hop1)
  rintro _ h1 ⟨r, rfl, hs1, hop2⟩
  refine e_aload_n dL_law_655 rfl ?_
  refine e_aload_n dL_law_656 rfl ?_
  refine e_iload_n dL_law_657 rfl ?_
  refine e_iconst (nI 1) dL_law_658 rfl ?_
  refine e_iaddN dL_law_659 ?_
  refine e_ildO dL_law_660 (Or.inr rfl) rfl (vp_in_nI (by omega) (by omega)) (congrArg (ad.2.2 20) (nI_clamp (by omega))) ?_
  refine e_aload_n dL_law_661 rfl ?_
  refine e_iload_n dL_law_662 rfl ?_
  refine e_iconst (nI 2) dL_law_663 rfl ?_
  refine e_iaddN dL_law_664 ?_
  refine e_ildO dL_law_665 (Or.inr rfl) rfl (vp_in_nI (by omega) (by omega)) (congrArg (ad.2.2 20) (nI_clamp (by omega))) ?_
  refine e_callV [.int _, .int _] dL_law_666 tm_13_66 rfl (Nat.le_of_ble_eq_true rfl) hs1 (Nat.le_of_ble_eq_true rfl) (by show z.1 + mc + 0 ≤ 600000; omega) (by show z.2 + ms + 0 ≤ 7302250; omega) rfl (mCal_mono ?_ hop2)
  rintro _ h2 ⟨rfl, hI2⟩
  exact e_icmp_eq 1660 dL_law_669 rfl (fun _ => nxt h2 mc ms hmc hms hI2) (fun c => absurd rfl c)
set_option maxHeartbeats 2000000 in
theorem law_c12 {ad : mA} {B i : Nat} {z : Nat × Nat} {Inv : mH → Prop} {h : mH} (hs : ∀ h, Inv h → (mS h B).1 = 11 ∧ (mS h (B + 157)).1 = 12) (hi : i + 6 ≤ ad.2.1 20) (hL : ad.2.1 20 ≤ 3072) (hz1 : z.1 + 54 ≤ 600000) (hz2 : z.2 + 1113 ≤ 7302250) (hI : Inv h) (hop : opI ad B Inv M_X11_trade M_X12_trade [.int (ad.2.2 20 (i + 1)), .int (ad.2.2 20 (i + 2))]) (nxt : ∀ h' mc ms, mc ≤ 54 → ms ≤ 1113 → Inv h' → lawEv ad 1660 [some (.ref (ad.1 20)), some (.ref B), some (.ref (B + 157)), some (.int (nI i))] [] h' (z.1 + mc, z.2 + ms)) : lawEv ad 674 [some (.ref (ad.1 20)), some (.ref B), some (.ref (B + 157)), some (.int (nI i))] [] h z := by
  refine e_aload_n dL_law_674 rfl ?_
  refine e_aload_n dL_law_675 rfl ?_
  refine e_iload_n dL_law_676 rfl ?_
  refine e_iconst (nI 1) dL_law_677 rfl ?_
  refine e_iaddN dL_law_678 ?_
  refine e_ildO dL_law_679 (Or.inr rfl) rfl (vp_in_nI (by omega) (by omega)) (congrArg (ad.2.2 20) (nI_clamp (by omega))) ?_
  refine e_aload_n dL_law_680 rfl ?_
  refine e_iload_n dL_law_681 rfl ?_
  refine e_iconst (nI 2) dL_law_682 rfl ?_
  refine e_iaddN dL_law_683 ?_
  refine e_ildO dL_law_684 (Or.inr rfl) rfl (vp_in_nI (by omega) (by omega)) (congrArg (ad.2.2 20) (nI_clamp (by omega))) ?_
  obtain ⟨mc, ms, hmc, hms, hop1⟩ := hop h hI
  refine e_callV [.int _, .int _] dL_law_685 tm_13_67 rfl (Nat.le_of_ble_eq_true rfl) (hs h hI).1 (Nat.le_of_ble_eq_true rfl) (by omega) (by omega) rfl (mCal_mono ?_ hop1)
  rintro _ h1 ⟨r, rfl, hs1, hop2⟩
  refine e_aload_n dL_law_688 rfl ?_
  refine e_aload_n dL_law_689 rfl ?_
  refine e_iload_n dL_law_690 rfl ?_
  refine e_iconst (nI 1) dL_law_691 rfl ?_
  refine e_iaddN dL_law_692 ?_
  refine e_ildO dL_law_693 (Or.inr rfl) rfl (vp_in_nI (by omega) (by omega)) (congrArg (ad.2.2 20) (nI_clamp (by omega))) ?_
  refine e_aload_n dL_law_694 rfl ?_
  refine e_iload_n dL_law_695 rfl ?_
  refine e_iconst (nI 2) dL_law_696 rfl ?_
  refine e_iaddN dL_law_697 ?_
  refine e_ildO dL_law_698 (Or.inr rfl) rfl (vp_in_nI (by omega) (by omega)) (congrArg (ad.2.2 20) (nI_clamp (by omega))) ?_
  refine e_callV [.int _, .int _] dL_law_699 tm_13_70 rfl (Nat.le_of_ble_eq_true rfl) hs1 (Nat.le_of_ble_eq_true rfl) (by show z.1 + mc + 0 ≤ 600000; omega) (by show z.2 + ms + 0 ≤ 7302250; omega) rfl (mCal_mono ?_ hop2)
  rintro _ h2 ⟨rfl, hI2⟩
  exact e_icmp_eq 1660 dL_law_702 rfl (fun _ => nxt h2 mc ms hmc hms hI2) (fun c => absurd rfl c)
set_option maxHeartbeats 2000000 in
theorem law_c13 {ad : mA} {B i : Nat} {z : Nat × Nat} {Inv : mH → Prop} {h : mH} (hs : ∀ h, Inv h → (mS h B).1 = 11 ∧ (mS h (B + 157)).1 = 12) (hi : i + 6 ≤ ad.2.1 20) (hL : ad.2.1 20 ≤ 3072) (hz1 : z.1 + 54 ≤ 600000) (hz2 : z.2 + 1113 ≤ 7302250) (hI : Inv h) (hop : opI ad B Inv M_X11_works M_X12_works [.int (ad.2.2 20 (i + 1)), .int (ad.2.2 20 (i + 2))]) (nxt : ∀ h' mc ms, mc ≤ 54 → ms ≤ 1113 → Inv h' → lawEv ad 1660 [some (.ref (ad.1 20)), some (.ref B), some (.ref (B + 157)), some (.int (nI i))] [] h' (z.1 + mc, z.2 + ms)) : lawEv ad 707 [some (.ref (ad.1 20)), some (.ref B), some (.ref (B + 157)), some (.int (nI i))] [] h z := by
  refine e_aload_n dL_law_707 rfl ?_
  refine e_aload_n dL_law_708 rfl ?_
  refine e_iload_n dL_law_709 rfl ?_
  refine e_iconst (nI 1) dL_law_710 rfl ?_
  refine e_iaddN dL_law_711 ?_
  refine e_ildO dL_law_712 (Or.inr rfl) rfl (vp_in_nI (by omega) (by omega)) (congrArg (ad.2.2 20) (nI_clamp (by omega))) ?_
  refine e_aload_n dL_law_713 rfl ?_
  refine e_iload_n dL_law_714 rfl ?_
  refine e_iconst (nI 2) dL_law_715 rfl ?_
  refine e_iaddN dL_law_716 ?_
  refine e_ildO dL_law_717 (Or.inr rfl) rfl (vp_in_nI (by omega) (by omega)) (congrArg (ad.2.2 20) (nI_clamp (by omega))) ?_
  obtain ⟨mc, ms, hmc, hms, hop1⟩ := hop h hI
  refine e_callV [.int _, .int _] dL_law_718 tm_13_71 rfl (Nat.le_of_ble_eq_true rfl) (hs h hI).1 (Nat.le_of_ble_eq_true rfl) (by omega) (by omega) rfl (mCal_mono ?_ hop1)
  rintro _ h1 ⟨r, rfl, hs1, hop2⟩
  refine e_aload_n dL_law_721 rfl ?_
  refine e_aload_n dL_law_722 rfl ?_
  refine e_iload_n dL_law_723 rfl ?_
  refine e_iconst (nI 1) dL_law_724 rfl ?_
  refine e_iaddN dL_law_725 ?_
  refine e_ildO dL_law_726 (Or.inr rfl) rfl (vp_in_nI (by omega) (by omega)) (congrArg (ad.2.2 20) (nI_clamp (by omega))) ?_
  refine e_aload_n dL_law_727 rfl ?_
  refine e_iload_n dL_law_728 rfl ?_
  refine e_iconst (nI 2) dL_law_729 rfl ?_
  refine e_iaddN dL_law_730 ?_
  refine e_ildO dL_law_731 (Or.inr rfl) rfl (vp_in_nI (by omega) (by omega)) (congrArg (ad.2.2 20) (nI_clamp (by omega))) ?_
  refine e_callV [.int _, .int _] dL_law_732 tm_13_74 rfl (Nat.le_of_ble_eq_true rfl) hs1 (Nat.le_of_ble_eq_true rfl) (by show z.1 + mc + 0 ≤ 600000; omega) (by show z.2 + ms + 0 ≤ 7302250; omega) rfl (mCal_mono ?_ hop2)
  rintro _ h2 ⟨rfl, hI2⟩
  exact e_icmp_eq 1660 dL_law_735 rfl (fun _ => nxt h2 mc ms hmc hms hI2) (fun c => absurd rfl c)
set_option maxHeartbeats 2000000 in
theorem law_c14 {ad : mA} {B i : Nat} {z : Nat × Nat} {Inv : mH → Prop} {h : mH} (hs : ∀ h, Inv h → (mS h B).1 = 11 ∧ (mS h (B + 157)).1 = 12) (hi : i + 6 ≤ ad.2.1 20) (hL : ad.2.1 20 ≤ 3072) (hz1 : z.1 + 54 ≤ 600000) (hz2 : z.2 + 1113 ≤ 7302250) (hI : Inv h) (hop : ∀ bb : Int32, bb = 0 ∨ bb = 1 → opI ad B Inv M_X11_grind M_X12_grind [.int (ad.2.2 20 (i + 1)), .int (ad.2.2 20 (i + 2)), .int bb]) (nxt : ∀ h' mc ms, mc ≤ 54 → ms ≤ 1113 → Inv h' → lawEv ad 1660 [some (.ref (ad.1 20)), some (.ref B), some (.ref (B + 157)), some (.int (nI i))] [] h' (z.1 + mc, z.2 + ms)) : lawEv ad 740 [some (.ref (ad.1 20)), some (.ref B), some (.ref (B + 157)), some (.int (nI i))] [] h z := by
  by_cases cb : ad.2.2 20 (i + 3) = 0
  · skip
    refine e_aload_n dL_law_740 rfl ?_
    refine e_aload_n dL_law_741 rfl ?_
    refine e_iload_n dL_law_742 rfl ?_
    refine e_iconst (nI 1) dL_law_743 rfl ?_
    refine e_iaddN dL_law_744 ?_
    refine e_ildO dL_law_745 (Or.inr rfl) rfl (vp_in_nI (by omega) (by omega)) (congrArg (ad.2.2 20) (nI_clamp (by omega))) ?_
    refine e_aload_n dL_law_746 rfl ?_
    refine e_iload_n dL_law_747 rfl ?_
    refine e_iconst (nI 2) dL_law_748 rfl ?_
    refine e_iaddN dL_law_749 ?_
    refine e_ildO dL_law_750 (Or.inr rfl) rfl (vp_in_nI (by omega) (by omega)) (congrArg (ad.2.2 20) (nI_clamp (by omega))) ?_
    refine e_aload_n dL_law_751 rfl ?_
    refine e_iload_n dL_law_752 rfl ?_
    refine e_iconst (nI 3) dL_law_753 rfl ?_
    refine e_iaddN dL_law_754 ?_
    refine e_ildO dL_law_755 (Or.inr rfl) rfl (vp_in_nI (by omega) (by omega)) (congrArg (ad.2.2 20) (nI_clamp (by omega))) ?_
    refine e_if_eq 763 dL_law_756 rfl (fun _ => ?_) (fun c2 => absurd cb c2)
    refine e_iconst 0 dL_law_763 rfl ?_
    obtain ⟨mc, ms, hmc, hms, hop1⟩ := hop 0 (Or.inl rfl) h hI
    refine e_callV [.int _, .int _, .int _] dL_law_764 tm_13_75 rfl (Nat.le_of_ble_eq_true rfl) (hs h hI).1 (Nat.le_of_ble_eq_true rfl) (by omega) (by omega) rfl (mCal_mono ?_ hop1)
    rintro _ h1 ⟨r, rfl, hs1, hop2⟩
    refine e_aload_n dL_law_767 rfl ?_
    refine e_aload_n dL_law_768 rfl ?_
    refine e_iload_n dL_law_769 rfl ?_
    refine e_iconst (nI 1) dL_law_770 rfl ?_
    refine e_iaddN dL_law_771 ?_
    refine e_ildO dL_law_772 (Or.inr rfl) rfl (vp_in_nI (by omega) (by omega)) (congrArg (ad.2.2 20) (nI_clamp (by omega))) ?_
    refine e_aload_n dL_law_773 rfl ?_
    refine e_iload_n dL_law_774 rfl ?_
    refine e_iconst (nI 2) dL_law_775 rfl ?_
    refine e_iaddN dL_law_776 ?_
    refine e_ildO dL_law_777 (Or.inr rfl) rfl (vp_in_nI (by omega) (by omega)) (congrArg (ad.2.2 20) (nI_clamp (by omega))) ?_
    refine e_aload_n dL_law_778 rfl ?_
    refine e_iload_n dL_law_779 rfl ?_
    refine e_iconst (nI 3) dL_law_780 rfl ?_
    refine e_iaddN dL_law_781 ?_
    refine e_ildO dL_law_782 (Or.inr rfl) rfl (vp_in_nI (by omega) (by omega)) (congrArg (ad.2.2 20) (nI_clamp (by omega))) ?_
    refine e_if_eq 790 dL_law_783 rfl (fun _ => ?_) (fun c2 => absurd cb c2)
    refine e_iconst 0 dL_law_790 rfl ?_
    refine e_callV [.int _, .int _, .int _] dL_law_791 tm_13_79 rfl (Nat.le_of_ble_eq_true rfl) hs1 (Nat.le_of_ble_eq_true rfl) (by show z.1 + mc + 0 ≤ 600000; omega) (by show z.2 + ms + 0 ≤ 7302250; omega) rfl (mCal_mono ?_ hop2)
    rintro _ h2 ⟨rfl, hI2⟩
    exact e_icmp_eq 1660 dL_law_794 rfl (fun _ => nxt h2 mc ms hmc hms hI2) (fun c => absurd rfl c)
  · skip
    refine e_aload_n dL_law_740 rfl ?_
    refine e_aload_n dL_law_741 rfl ?_
    refine e_iload_n dL_law_742 rfl ?_
    refine e_iconst (nI 1) dL_law_743 rfl ?_
    refine e_iaddN dL_law_744 ?_
    refine e_ildO dL_law_745 (Or.inr rfl) rfl (vp_in_nI (by omega) (by omega)) (congrArg (ad.2.2 20) (nI_clamp (by omega))) ?_
    refine e_aload_n dL_law_746 rfl ?_
    refine e_iload_n dL_law_747 rfl ?_
    refine e_iconst (nI 2) dL_law_748 rfl ?_
    refine e_iaddN dL_law_749 ?_
    refine e_ildO dL_law_750 (Or.inr rfl) rfl (vp_in_nI (by omega) (by omega)) (congrArg (ad.2.2 20) (nI_clamp (by omega))) ?_
    refine e_aload_n dL_law_751 rfl ?_
    refine e_iload_n dL_law_752 rfl ?_
    refine e_iconst (nI 3) dL_law_753 rfl ?_
    refine e_iaddN dL_law_754 ?_
    refine e_ildO dL_law_755 (Or.inr rfl) rfl (vp_in_nI (by omega) (by omega)) (congrArg (ad.2.2 20) (nI_clamp (by omega))) ?_
    refine e_if_eq 763 dL_law_756 rfl (fun c2 => absurd c2 cb) (fun _ => ?_)
    refine e_iconst 1 dL_law_759 rfl ?_
    refine e_goto 764 dL_law_760 rfl ?_
    obtain ⟨mc, ms, hmc, hms, hop1⟩ := hop 1 (Or.inr rfl) h hI
    refine e_callV [.int _, .int _, .int _] dL_law_764 tm_13_75 rfl (Nat.le_of_ble_eq_true rfl) (hs h hI).1 (Nat.le_of_ble_eq_true rfl) (by omega) (by omega) rfl (mCal_mono ?_ hop1)
    rintro _ h1 ⟨r, rfl, hs1, hop2⟩
    refine e_aload_n dL_law_767 rfl ?_
    refine e_aload_n dL_law_768 rfl ?_
    refine e_iload_n dL_law_769 rfl ?_
    refine e_iconst (nI 1) dL_law_770 rfl ?_
    refine e_iaddN dL_law_771 ?_
    refine e_ildO dL_law_772 (Or.inr rfl) rfl (vp_in_nI (by omega) (by omega)) (congrArg (ad.2.2 20) (nI_clamp (by omega))) ?_
    refine e_aload_n dL_law_773 rfl ?_
    refine e_iload_n dL_law_774 rfl ?_
    refine e_iconst (nI 2) dL_law_775 rfl ?_
    refine e_iaddN dL_law_776 ?_
    refine e_ildO dL_law_777 (Or.inr rfl) rfl (vp_in_nI (by omega) (by omega)) (congrArg (ad.2.2 20) (nI_clamp (by omega))) ?_
    refine e_aload_n dL_law_778 rfl ?_
    refine e_iload_n dL_law_779 rfl ?_
    refine e_iconst (nI 3) dL_law_780 rfl ?_
    refine e_iaddN dL_law_781 ?_
    refine e_ildO dL_law_782 (Or.inr rfl) rfl (vp_in_nI (by omega) (by omega)) (congrArg (ad.2.2 20) (nI_clamp (by omega))) ?_
    refine e_if_eq 790 dL_law_783 rfl (fun c2 => absurd c2 cb) (fun _ => ?_)
    refine e_iconst 1 dL_law_786 rfl ?_
    refine e_goto 791 dL_law_787 rfl ?_
    refine e_callV [.int _, .int _, .int _] dL_law_791 tm_13_79 rfl (Nat.le_of_ble_eq_true rfl) hs1 (Nat.le_of_ble_eq_true rfl) (by show z.1 + mc + 0 ≤ 600000; omega) (by show z.2 + ms + 0 ≤ 7302250; omega) rfl (mCal_mono ?_ hop2)
    rintro _ h2 ⟨rfl, hI2⟩
    exact e_icmp_eq 1660 dL_law_794 rfl (fun _ => nxt h2 mc ms hmc hms hI2) (fun c => absurd rfl c)
set_option maxHeartbeats 2000000 in
theorem law_c15 {ad : mA} {B i : Nat} {z : Nat × Nat} {Inv : mH → Prop} {h : mH} (hs : ∀ h, Inv h → (mS h B).1 = 11 ∧ (mS h (B + 157)).1 = 12) (hi : i + 6 ≤ ad.2.1 20) (hL : ad.2.1 20 ≤ 3072) (hz1 : z.1 + 54 ≤ 600000) (hz2 : z.2 + 1113 ≤ 7302250) (hI : Inv h) (hop : opJ ad B Inv M_X11_moment M_X12_moment [.int (ad.2.2 20 (i + 1)), .int (ad.2.2 20 (i + 2)), .int (ad.2.2 20 (i + 3)), .int (ad.2.2 20 (i + 4))]) (nxt : ∀ h' mc ms, mc ≤ 54 → ms ≤ 1113 → Inv h' → lawEv ad 1660 [some (.ref (ad.1 20)), some (.ref B), some (.ref (B + 157)), some (.int (nI i))] [] h' (z.1 + mc, z.2 + ms)) : lawEv ad 799 [some (.ref (ad.1 20)), some (.ref B), some (.ref (B + 157)), some (.int (nI i))] [] h z := by
  refine e_aload_n dL_law_799 rfl ?_
  refine e_aload_n dL_law_800 rfl ?_
  refine e_iload_n dL_law_801 rfl ?_
  refine e_iconst (nI 1) dL_law_802 rfl ?_
  refine e_iaddN dL_law_803 ?_
  refine e_ildO dL_law_804 (Or.inr rfl) rfl (vp_in_nI (by omega) (by omega)) (congrArg (ad.2.2 20) (nI_clamp (by omega))) ?_
  refine e_aload_n dL_law_805 rfl ?_
  refine e_iload_n dL_law_806 rfl ?_
  refine e_iconst (nI 2) dL_law_807 rfl ?_
  refine e_iaddN dL_law_808 ?_
  refine e_ildO dL_law_809 (Or.inr rfl) rfl (vp_in_nI (by omega) (by omega)) (congrArg (ad.2.2 20) (nI_clamp (by omega))) ?_
  refine e_aload_n dL_law_810 rfl ?_
  refine e_iload_n dL_law_811 rfl ?_
  refine e_iconst (nI 3) dL_law_812 rfl ?_
  refine e_iaddN dL_law_813 ?_
  refine e_ildO dL_law_814 (Or.inr rfl) rfl (vp_in_nI (by omega) (by omega)) (congrArg (ad.2.2 20) (nI_clamp (by omega))) ?_
  refine e_aload_n dL_law_815 rfl ?_
  refine e_iload_n dL_law_816 rfl ?_
  refine e_iconst (nI 4) dL_law_817 rfl ?_
  refine e_iaddN dL_law_818 ?_
  refine e_ildO dL_law_819 (Or.inr rfl) rfl (vp_in_nI (by omega) (by omega)) (congrArg (ad.2.2 20) (nI_clamp (by omega))) ?_
  obtain ⟨mc, ms, hmc, hms, hop1⟩ := hop h hI
  refine e_callV [.int _, .int _, .int _, .int _] dL_law_820 tm_13_80 rfl (Nat.le_of_ble_eq_true rfl) (hs h hI).1 (Nat.le_of_ble_eq_true rfl) (by omega) (by omega) rfl (mCal_mono ?_ hop1)
  rintro _ h1 ⟨r, rfl, hs1, hop2⟩
  refine e_aload_n dL_law_823 rfl ?_
  refine e_aload_n dL_law_824 rfl ?_
  refine e_iload_n dL_law_825 rfl ?_
  refine e_iconst (nI 1) dL_law_826 rfl ?_
  refine e_iaddN dL_law_827 ?_
  refine e_ildO dL_law_828 (Or.inr rfl) rfl (vp_in_nI (by omega) (by omega)) (congrArg (ad.2.2 20) (nI_clamp (by omega))) ?_
  refine e_aload_n dL_law_829 rfl ?_
  refine e_iload_n dL_law_830 rfl ?_
  refine e_iconst (nI 2) dL_law_831 rfl ?_
  refine e_iaddN dL_law_832 ?_
  refine e_ildO dL_law_833 (Or.inr rfl) rfl (vp_in_nI (by omega) (by omega)) (congrArg (ad.2.2 20) (nI_clamp (by omega))) ?_
  refine e_aload_n dL_law_834 rfl ?_
  refine e_iload_n dL_law_835 rfl ?_
  refine e_iconst (nI 3) dL_law_836 rfl ?_
  refine e_iaddN dL_law_837 ?_
  refine e_ildO dL_law_838 (Or.inr rfl) rfl (vp_in_nI (by omega) (by omega)) (congrArg (ad.2.2 20) (nI_clamp (by omega))) ?_
  refine e_aload_n dL_law_839 rfl ?_
  refine e_iload_n dL_law_840 rfl ?_
  refine e_iconst (nI 4) dL_law_841 rfl ?_
  refine e_iaddN dL_law_842 ?_
  refine e_ildO dL_law_843 (Or.inr rfl) rfl (vp_in_nI (by omega) (by omega)) (congrArg (ad.2.2 20) (nI_clamp (by omega))) ?_
  refine e_callV [.int _, .int _, .int _, .int _] dL_law_844 tm_13_84 rfl (Nat.le_of_ble_eq_true rfl) hs1 (Nat.le_of_ble_eq_true rfl) (by show z.1 + mc + 0 ≤ 600000; omega) (by show z.2 + ms + 0 ≤ 7302250; omega) rfl (mCal_mono ?_ hop2)
  rintro _ h2 ⟨rfl, hI2⟩
  refine e_lcmp dL_law_847 ?_
  exact e_if_eq 1660 dL_law_848 rfl (fun _ => nxt h2 mc ms hmc hms hI2) (fun c => absurd (lg_cmp_self r) c)
set_option maxHeartbeats 2000000 in
theorem law_c16 {ad : mA} {B i : Nat} {z : Nat × Nat} {Inv : mH → Prop} {h : mH} (hs : ∀ h, Inv h → (mS h B).1 = 11 ∧ (mS h (B + 157)).1 = 12) (hi : i + 6 ≤ ad.2.1 20) (hL : ad.2.1 20 ≤ 3072) (hz1 : z.1 + 54 ≤ 600000) (hz2 : z.2 + 1113 ≤ 7302250) (hI : Inv h) (hop : opI ad B Inv M_X11_rest M_X12_rest [.int (ad.2.2 20 (i + 1)), .int (ad.2.2 20 (i + 2)), .int (ad.2.2 20 (i + 3))]) (nxt : ∀ h' mc ms, mc ≤ 54 → ms ≤ 1113 → Inv h' → lawEv ad 1660 [some (.ref (ad.1 20)), some (.ref B), some (.ref (B + 157)), some (.int (nI i))] [] h' (z.1 + mc, z.2 + ms)) : lawEv ad 853 [some (.ref (ad.1 20)), some (.ref B), some (.ref (B + 157)), some (.int (nI i))] [] h z := by
  refine e_aload_n dL_law_853 rfl ?_
  refine e_aload_n dL_law_854 rfl ?_
  refine e_iload_n dL_law_855 rfl ?_
  refine e_iconst (nI 1) dL_law_856 rfl ?_
  refine e_iaddN dL_law_857 ?_
  refine e_ildO dL_law_858 (Or.inr rfl) rfl (vp_in_nI (by omega) (by omega)) (congrArg (ad.2.2 20) (nI_clamp (by omega))) ?_
  refine e_aload_n dL_law_859 rfl ?_
  refine e_iload_n dL_law_860 rfl ?_
  refine e_iconst (nI 2) dL_law_861 rfl ?_
  refine e_iaddN dL_law_862 ?_
  refine e_ildO dL_law_863 (Or.inr rfl) rfl (vp_in_nI (by omega) (by omega)) (congrArg (ad.2.2 20) (nI_clamp (by omega))) ?_
  refine e_aload_n dL_law_864 rfl ?_
  refine e_iload_n dL_law_865 rfl ?_
  refine e_iconst (nI 3) dL_law_866 rfl ?_
  refine e_iaddN dL_law_867 ?_
  refine e_ildO dL_law_868 (Or.inr rfl) rfl (vp_in_nI (by omega) (by omega)) (congrArg (ad.2.2 20) (nI_clamp (by omega))) ?_
  obtain ⟨mc, ms, hmc, hms, hop1⟩ := hop h hI
  refine e_callV [.int _, .int _, .int _] dL_law_869 tm_13_85 rfl (Nat.le_of_ble_eq_true rfl) (hs h hI).1 (Nat.le_of_ble_eq_true rfl) (by omega) (by omega) rfl (mCal_mono ?_ hop1)
  rintro _ h1 ⟨r, rfl, hs1, hop2⟩
  refine e_aload_n dL_law_872 rfl ?_
  refine e_aload_n dL_law_873 rfl ?_
  refine e_iload_n dL_law_874 rfl ?_
  refine e_iconst (nI 1) dL_law_875 rfl ?_
  refine e_iaddN dL_law_876 ?_
  refine e_ildO dL_law_877 (Or.inr rfl) rfl (vp_in_nI (by omega) (by omega)) (congrArg (ad.2.2 20) (nI_clamp (by omega))) ?_
  refine e_aload_n dL_law_878 rfl ?_
  refine e_iload_n dL_law_879 rfl ?_
  refine e_iconst (nI 2) dL_law_880 rfl ?_
  refine e_iaddN dL_law_881 ?_
  refine e_ildO dL_law_882 (Or.inr rfl) rfl (vp_in_nI (by omega) (by omega)) (congrArg (ad.2.2 20) (nI_clamp (by omega))) ?_
  refine e_aload_n dL_law_883 rfl ?_
  refine e_iload_n dL_law_884 rfl ?_
  refine e_iconst (nI 3) dL_law_885 rfl ?_
  refine e_iaddN dL_law_886 ?_
  refine e_ildO dL_law_887 (Or.inr rfl) rfl (vp_in_nI (by omega) (by omega)) (congrArg (ad.2.2 20) (nI_clamp (by omega))) ?_
  refine e_callV [.int _, .int _, .int _] dL_law_888 tm_13_88 rfl (Nat.le_of_ble_eq_true rfl) hs1 (Nat.le_of_ble_eq_true rfl) (by show z.1 + mc + 0 ≤ 600000; omega) (by show z.2 + ms + 0 ≤ 7302250; omega) rfl (mCal_mono ?_ hop2)
  rintro _ h2 ⟨rfl, hI2⟩
  exact e_icmp_eq 1660 dL_law_891 rfl (fun _ => nxt h2 mc ms hmc hms hI2) (fun c => absurd rfl c)
set_option maxHeartbeats 2000000 in
theorem law_c17 {ad : mA} {B i : Nat} {z : Nat × Nat} {Inv : mH → Prop} {h : mH} (hs : ∀ h, Inv h → (mS h B).1 = 11 ∧ (mS h (B + 157)).1 = 12) (hi : i + 6 ≤ ad.2.1 20) (hL : ad.2.1 20 ≤ 3072) (hz1 : z.1 + 54 ≤ 600000) (hz2 : z.2 + 1113 ≤ 7302250) (hI : Inv h) (hop : opI ad B Inv M_X11_clue M_X12_clue [.int (ad.2.2 20 (i + 1)), .int (ad.2.2 20 (i + 2)), .int (ad.2.2 20 (i + 3))]) (nxt : ∀ h' mc ms, mc ≤ 54 → ms ≤ 1113 → Inv h' → lawEv ad 1660 [some (.ref (ad.1 20)), some (.ref B), some (.ref (B + 157)), some (.int (nI i))] [] h' (z.1 + mc, z.2 + ms)) : lawEv ad 896 [some (.ref (ad.1 20)), some (.ref B), some (.ref (B + 157)), some (.int (nI i))] [] h z := by
  refine e_aload_n dL_law_896 rfl ?_
  refine e_aload_n dL_law_897 rfl ?_
  refine e_iload_n dL_law_898 rfl ?_
  refine e_iconst (nI 1) dL_law_899 rfl ?_
  refine e_iaddN dL_law_900 ?_
  refine e_ildO dL_law_901 (Or.inr rfl) rfl (vp_in_nI (by omega) (by omega)) (congrArg (ad.2.2 20) (nI_clamp (by omega))) ?_
  refine e_aload_n dL_law_902 rfl ?_
  refine e_iload_n dL_law_903 rfl ?_
  refine e_iconst (nI 2) dL_law_904 rfl ?_
  refine e_iaddN dL_law_905 ?_
  refine e_ildO dL_law_906 (Or.inr rfl) rfl (vp_in_nI (by omega) (by omega)) (congrArg (ad.2.2 20) (nI_clamp (by omega))) ?_
  refine e_aload_n dL_law_907 rfl ?_
  refine e_iload_n dL_law_908 rfl ?_
  refine e_iconst (nI 3) dL_law_909 rfl ?_
  refine e_iaddN dL_law_910 ?_
  refine e_ildO dL_law_911 (Or.inr rfl) rfl (vp_in_nI (by omega) (by omega)) (congrArg (ad.2.2 20) (nI_clamp (by omega))) ?_
  obtain ⟨mc, ms, hmc, hms, hop1⟩ := hop h hI
  refine e_callV [.int _, .int _, .int _] dL_law_912 tm_13_89 rfl (Nat.le_of_ble_eq_true rfl) (hs h hI).1 (Nat.le_of_ble_eq_true rfl) (by omega) (by omega) rfl (mCal_mono ?_ hop1)
  rintro _ h1 ⟨r, rfl, hs1, hop2⟩
  refine e_aload_n dL_law_915 rfl ?_
  refine e_aload_n dL_law_916 rfl ?_
  refine e_iload_n dL_law_917 rfl ?_
  refine e_iconst (nI 1) dL_law_918 rfl ?_
  refine e_iaddN dL_law_919 ?_
  refine e_ildO dL_law_920 (Or.inr rfl) rfl (vp_in_nI (by omega) (by omega)) (congrArg (ad.2.2 20) (nI_clamp (by omega))) ?_
  refine e_aload_n dL_law_921 rfl ?_
  refine e_iload_n dL_law_922 rfl ?_
  refine e_iconst (nI 2) dL_law_923 rfl ?_
  refine e_iaddN dL_law_924 ?_
  refine e_ildO dL_law_925 (Or.inr rfl) rfl (vp_in_nI (by omega) (by omega)) (congrArg (ad.2.2 20) (nI_clamp (by omega))) ?_
  refine e_aload_n dL_law_926 rfl ?_
  refine e_iload_n dL_law_927 rfl ?_
  refine e_iconst (nI 3) dL_law_928 rfl ?_
  refine e_iaddN dL_law_929 ?_
  refine e_ildO dL_law_930 (Or.inr rfl) rfl (vp_in_nI (by omega) (by omega)) (congrArg (ad.2.2 20) (nI_clamp (by omega))) ?_
  refine e_callV [.int _, .int _, .int _] dL_law_931 tm_13_92 rfl (Nat.le_of_ble_eq_true rfl) hs1 (Nat.le_of_ble_eq_true rfl) (by show z.1 + mc + 0 ≤ 600000; omega) (by show z.2 + ms + 0 ≤ 7302250; omega) rfl (mCal_mono ?_ hop2)
  rintro _ h2 ⟨rfl, hI2⟩
  exact e_icmp_eq 1660 dL_law_934 rfl (fun _ => nxt h2 mc ms hmc hms hI2) (fun c => absurd rfl c)
set_option maxHeartbeats 2000000 in
theorem law_c18 {ad : mA} {B i : Nat} {z : Nat × Nat} {Inv : mH → Prop} {h : mH} (hs : ∀ h, Inv h → (mS h B).1 = 11 ∧ (mS h (B + 157)).1 = 12) (hi : i + 6 ≤ ad.2.1 20) (hL : ad.2.1 20 ≤ 3072) (hz1 : z.1 + 54 ≤ 600000) (hz2 : z.2 + 1113 ≤ 7302250) (hI : Inv h) (hop : opI ad B Inv M_X11_whose M_X12_whose [.int (ad.2.2 20 (i + 1)), .int (ad.2.2 20 (i + 2)), .int (ad.2.2 20 (i + 3))]) (nxt : ∀ h' mc ms, mc ≤ 54 → ms ≤ 1113 → Inv h' → lawEv ad 1660 [some (.ref (ad.1 20)), some (.ref B), some (.ref (B + 157)), some (.int (nI i))] [] h' (z.1 + mc, z.2 + ms)) : lawEv ad 939 [some (.ref (ad.1 20)), some (.ref B), some (.ref (B + 157)), some (.int (nI i))] [] h z := by
  refine e_aload_n dL_law_939 rfl ?_
  refine e_aload_n dL_law_940 rfl ?_
  refine e_iload_n dL_law_941 rfl ?_
  refine e_iconst (nI 1) dL_law_942 rfl ?_
  refine e_iaddN dL_law_943 ?_
  refine e_ildO dL_law_944 (Or.inr rfl) rfl (vp_in_nI (by omega) (by omega)) (congrArg (ad.2.2 20) (nI_clamp (by omega))) ?_
  refine e_aload_n dL_law_945 rfl ?_
  refine e_iload_n dL_law_946 rfl ?_
  refine e_iconst (nI 2) dL_law_947 rfl ?_
  refine e_iaddN dL_law_948 ?_
  refine e_ildO dL_law_949 (Or.inr rfl) rfl (vp_in_nI (by omega) (by omega)) (congrArg (ad.2.2 20) (nI_clamp (by omega))) ?_
  refine e_aload_n dL_law_950 rfl ?_
  refine e_iload_n dL_law_951 rfl ?_
  refine e_iconst (nI 3) dL_law_952 rfl ?_
  refine e_iaddN dL_law_953 ?_
  refine e_ildO dL_law_954 (Or.inr rfl) rfl (vp_in_nI (by omega) (by omega)) (congrArg (ad.2.2 20) (nI_clamp (by omega))) ?_
  obtain ⟨mc, ms, hmc, hms, hop1⟩ := hop h hI
  refine e_callV [.int _, .int _, .int _] dL_law_955 tm_13_93 rfl (Nat.le_of_ble_eq_true rfl) (hs h hI).1 (Nat.le_of_ble_eq_true rfl) (by omega) (by omega) rfl (mCal_mono ?_ hop1)
  rintro _ h1 ⟨r, rfl, hs1, hop2⟩
  refine e_aload_n dL_law_958 rfl ?_
  refine e_aload_n dL_law_959 rfl ?_
  refine e_iload_n dL_law_960 rfl ?_
  refine e_iconst (nI 1) dL_law_961 rfl ?_
  refine e_iaddN dL_law_962 ?_
  refine e_ildO dL_law_963 (Or.inr rfl) rfl (vp_in_nI (by omega) (by omega)) (congrArg (ad.2.2 20) (nI_clamp (by omega))) ?_
  refine e_aload_n dL_law_964 rfl ?_
  refine e_iload_n dL_law_965 rfl ?_
  refine e_iconst (nI 2) dL_law_966 rfl ?_
  refine e_iaddN dL_law_967 ?_
  refine e_ildO dL_law_968 (Or.inr rfl) rfl (vp_in_nI (by omega) (by omega)) (congrArg (ad.2.2 20) (nI_clamp (by omega))) ?_
  refine e_aload_n dL_law_969 rfl ?_
  refine e_iload_n dL_law_970 rfl ?_
  refine e_iconst (nI 3) dL_law_971 rfl ?_
  refine e_iaddN dL_law_972 ?_
  refine e_ildO dL_law_973 (Or.inr rfl) rfl (vp_in_nI (by omega) (by omega)) (congrArg (ad.2.2 20) (nI_clamp (by omega))) ?_
  refine e_callV [.int _, .int _, .int _] dL_law_974 tm_13_96 rfl (Nat.le_of_ble_eq_true rfl) hs1 (Nat.le_of_ble_eq_true rfl) (by show z.1 + mc + 0 ≤ 600000; omega) (by show z.2 + ms + 0 ≤ 7302250; omega) rfl (mCal_mono ?_ hop2)
  rintro _ h2 ⟨rfl, hI2⟩
  exact e_icmp_eq 1660 dL_law_977 rfl (fun _ => nxt h2 mc ms hmc hms hI2) (fun c => absurd rfl c)
set_option maxHeartbeats 2000000 in
theorem law_c19 {ad : mA} {B i : Nat} {z : Nat × Nat} {Inv : mH → Prop} {h : mH} (hs : ∀ h, Inv h → (mS h B).1 = 11 ∧ (mS h (B + 157)).1 = 12) (hi : i + 6 ≤ ad.2.1 20) (hL : ad.2.1 20 ≤ 3072) (hz1 : z.1 + 54 ≤ 600000) (hz2 : z.2 + 1113 ≤ 7302250) (hI : Inv h) (hop : opI ad B Inv M_X11_drawn M_X12_drawn [.int (ad.2.2 20 (i + 1)), .int (ad.2.2 20 (i + 2)), .int (ad.2.2 20 (i + 3)), .int (ad.2.2 20 (i + 4))]) (nxt : ∀ h' mc ms, mc ≤ 54 → ms ≤ 1113 → Inv h' → lawEv ad 1660 [some (.ref (ad.1 20)), some (.ref B), some (.ref (B + 157)), some (.int (nI i))] [] h' (z.1 + mc, z.2 + ms)) : lawEv ad 982 [some (.ref (ad.1 20)), some (.ref B), some (.ref (B + 157)), some (.int (nI i))] [] h z := by
  refine e_aload_n dL_law_982 rfl ?_
  refine e_aload_n dL_law_983 rfl ?_
  refine e_iload_n dL_law_984 rfl ?_
  refine e_iconst (nI 1) dL_law_985 rfl ?_
  refine e_iaddN dL_law_986 ?_
  refine e_ildO dL_law_987 (Or.inr rfl) rfl (vp_in_nI (by omega) (by omega)) (congrArg (ad.2.2 20) (nI_clamp (by omega))) ?_
  refine e_aload_n dL_law_988 rfl ?_
  refine e_iload_n dL_law_989 rfl ?_
  refine e_iconst (nI 2) dL_law_990 rfl ?_
  refine e_iaddN dL_law_991 ?_
  refine e_ildO dL_law_992 (Or.inr rfl) rfl (vp_in_nI (by omega) (by omega)) (congrArg (ad.2.2 20) (nI_clamp (by omega))) ?_
  refine e_aload_n dL_law_993 rfl ?_
  refine e_iload_n dL_law_994 rfl ?_
  refine e_iconst (nI 3) dL_law_995 rfl ?_
  refine e_iaddN dL_law_996 ?_
  refine e_ildO dL_law_997 (Or.inr rfl) rfl (vp_in_nI (by omega) (by omega)) (congrArg (ad.2.2 20) (nI_clamp (by omega))) ?_
  refine e_aload_n dL_law_998 rfl ?_
  refine e_iload_n dL_law_999 rfl ?_
  refine e_iconst (nI 4) dL_law_1000 rfl ?_
  refine e_iaddN dL_law_1001 ?_
  refine e_ildO dL_law_1002 (Or.inr rfl) rfl (vp_in_nI (by omega) (by omega)) (congrArg (ad.2.2 20) (nI_clamp (by omega))) ?_
  obtain ⟨mc, ms, hmc, hms, hop1⟩ := hop h hI
  refine e_callV [.int _, .int _, .int _, .int _] dL_law_1003 tm_13_97 rfl (Nat.le_of_ble_eq_true rfl) (hs h hI).1 (Nat.le_of_ble_eq_true rfl) (by omega) (by omega) rfl (mCal_mono ?_ hop1)
  rintro _ h1 ⟨r, rfl, hs1, hop2⟩
  refine e_aload_n dL_law_1006 rfl ?_
  refine e_aload_n dL_law_1007 rfl ?_
  refine e_iload_n dL_law_1008 rfl ?_
  refine e_iconst (nI 1) dL_law_1009 rfl ?_
  refine e_iaddN dL_law_1010 ?_
  refine e_ildO dL_law_1011 (Or.inr rfl) rfl (vp_in_nI (by omega) (by omega)) (congrArg (ad.2.2 20) (nI_clamp (by omega))) ?_
  refine e_aload_n dL_law_1012 rfl ?_
  refine e_iload_n dL_law_1013 rfl ?_
  refine e_iconst (nI 2) dL_law_1014 rfl ?_
  refine e_iaddN dL_law_1015 ?_
  refine e_ildO dL_law_1016 (Or.inr rfl) rfl (vp_in_nI (by omega) (by omega)) (congrArg (ad.2.2 20) (nI_clamp (by omega))) ?_
  refine e_aload_n dL_law_1017 rfl ?_
  refine e_iload_n dL_law_1018 rfl ?_
  refine e_iconst (nI 3) dL_law_1019 rfl ?_
  refine e_iaddN dL_law_1020 ?_
  refine e_ildO dL_law_1021 (Or.inr rfl) rfl (vp_in_nI (by omega) (by omega)) (congrArg (ad.2.2 20) (nI_clamp (by omega))) ?_
  refine e_aload_n dL_law_1022 rfl ?_
  refine e_iload_n dL_law_1023 rfl ?_
  refine e_iconst (nI 4) dL_law_1024 rfl ?_
  refine e_iaddN dL_law_1025 ?_
  refine e_ildO dL_law_1026 (Or.inr rfl) rfl (vp_in_nI (by omega) (by omega)) (congrArg (ad.2.2 20) (nI_clamp (by omega))) ?_
  refine e_callV [.int _, .int _, .int _, .int _] dL_law_1027 tm_13_100 rfl (Nat.le_of_ble_eq_true rfl) hs1 (Nat.le_of_ble_eq_true rfl) (by show z.1 + mc + 0 ≤ 600000; omega) (by show z.2 + ms + 0 ≤ 7302250; omega) rfl (mCal_mono ?_ hop2)
  rintro _ h2 ⟨rfl, hI2⟩
  exact e_icmp_eq 1660 dL_law_1030 rfl (fun _ => nxt h2 mc ms hmc hms hI2) (fun c => absurd rfl c)
set_option maxHeartbeats 2000000 in
theorem law_c20 {ad : mA} {B i : Nat} {z : Nat × Nat} {Inv : mH → Prop} {h : mH} (hs : ∀ h, Inv h → (mS h B).1 = 11 ∧ (mS h (B + 157)).1 = 12) (hi : i + 6 ≤ ad.2.1 20) (hL : ad.2.1 20 ≤ 3072) (hz1 : z.1 + 54 ≤ 600000) (hz2 : z.2 + 1113 ≤ 7302250) (hI : Inv h) (hop : opI ad B Inv M_X11_crew M_X12_crew [.int (ad.2.2 20 (i + 1))]) (nxt : ∀ h' mc ms, mc ≤ 54 → ms ≤ 1113 → Inv h' → lawEv ad 1660 [some (.ref (ad.1 20)), some (.ref B), some (.ref (B + 157)), some (.int (nI i))] [] h' (z.1 + mc, z.2 + ms)) : lawEv ad 1035 [some (.ref (ad.1 20)), some (.ref B), some (.ref (B + 157)), some (.int (nI i))] [] h z := by
  refine e_aload_n dL_law_1035 rfl ?_
  refine e_aload_n dL_law_1036 rfl ?_
  refine e_iload_n dL_law_1037 rfl ?_
  refine e_iconst (nI 1) dL_law_1038 rfl ?_
  refine e_iaddN dL_law_1039 ?_
  refine e_ildO dL_law_1040 (Or.inr rfl) rfl (vp_in_nI (by omega) (by omega)) (congrArg (ad.2.2 20) (nI_clamp (by omega))) ?_
  obtain ⟨mc, ms, hmc, hms, hop1⟩ := hop h hI
  refine e_callV [.int _] dL_law_1041 tm_13_101 rfl (Nat.le_of_ble_eq_true rfl) (hs h hI).1 (Nat.le_of_ble_eq_true rfl) (by omega) (by omega) rfl (mCal_mono ?_ hop1)
  rintro _ h1 ⟨r, rfl, hs1, hop2⟩
  refine e_aload_n dL_law_1044 rfl ?_
  refine e_aload_n dL_law_1045 rfl ?_
  refine e_iload_n dL_law_1046 rfl ?_
  refine e_iconst (nI 1) dL_law_1047 rfl ?_
  refine e_iaddN dL_law_1048 ?_
  refine e_ildO dL_law_1049 (Or.inr rfl) rfl (vp_in_nI (by omega) (by omega)) (congrArg (ad.2.2 20) (nI_clamp (by omega))) ?_
  refine e_callV [.int _] dL_law_1050 tm_13_104 rfl (Nat.le_of_ble_eq_true rfl) hs1 (Nat.le_of_ble_eq_true rfl) (by show z.1 + mc + 0 ≤ 600000; omega) (by show z.2 + ms + 0 ≤ 7302250; omega) rfl (mCal_mono ?_ hop2)
  rintro _ h2 ⟨rfl, hI2⟩
  exact e_icmp_eq 1660 dL_law_1053 rfl (fun _ => nxt h2 mc ms hmc hms hI2) (fun c => absurd rfl c)
set_option maxHeartbeats 2000000 in
theorem law_c21 {ad : mA} {B i : Nat} {z : Nat × Nat} {Inv : mH → Prop} {h : mH} (hs : ∀ h, Inv h → (mS h B).1 = 11 ∧ (mS h (B + 157)).1 = 12) (hi : i + 6 ≤ ad.2.1 20) (hL : ad.2.1 20 ≤ 3072) (hz1 : z.1 + 54 ≤ 600000) (hz2 : z.2 + 1113 ≤ 7302250) (hI : Inv h) (hop : opI ad B Inv M_X11_idle M_X12_idle [.int (ad.2.2 20 (i + 1)), .int (ad.2.2 20 (i + 2)), .int (ad.2.2 20 (i + 3))]) (nxt : ∀ h' mc ms, mc ≤ 54 → ms ≤ 1113 → Inv h' → lawEv ad 1660 [some (.ref (ad.1 20)), some (.ref B), some (.ref (B + 157)), some (.int (nI i))] [] h' (z.1 + mc, z.2 + ms)) : lawEv ad 1058 [some (.ref (ad.1 20)), some (.ref B), some (.ref (B + 157)), some (.int (nI i))] [] h z := by
  refine e_aload_n dL_law_1058 rfl ?_
  refine e_aload_n dL_law_1059 rfl ?_
  refine e_iload_n dL_law_1060 rfl ?_
  refine e_iconst (nI 1) dL_law_1061 rfl ?_
  refine e_iaddN dL_law_1062 ?_
  refine e_ildO dL_law_1063 (Or.inr rfl) rfl (vp_in_nI (by omega) (by omega)) (congrArg (ad.2.2 20) (nI_clamp (by omega))) ?_
  refine e_aload_n dL_law_1064 rfl ?_
  refine e_iload_n dL_law_1065 rfl ?_
  refine e_iconst (nI 2) dL_law_1066 rfl ?_
  refine e_iaddN dL_law_1067 ?_
  refine e_ildO dL_law_1068 (Or.inr rfl) rfl (vp_in_nI (by omega) (by omega)) (congrArg (ad.2.2 20) (nI_clamp (by omega))) ?_
  refine e_aload_n dL_law_1069 rfl ?_
  refine e_iload_n dL_law_1070 rfl ?_
  refine e_iconst (nI 3) dL_law_1071 rfl ?_
  refine e_iaddN dL_law_1072 ?_
  refine e_ildO dL_law_1073 (Or.inr rfl) rfl (vp_in_nI (by omega) (by omega)) (congrArg (ad.2.2 20) (nI_clamp (by omega))) ?_
  obtain ⟨mc, ms, hmc, hms, hop1⟩ := hop h hI
  refine e_callV [.int _, .int _, .int _] dL_law_1074 tm_13_105 rfl (Nat.le_of_ble_eq_true rfl) (hs h hI).1 (Nat.le_of_ble_eq_true rfl) (by omega) (by omega) rfl (mCal_mono ?_ hop1)
  rintro _ h1 ⟨r, rfl, hs1, hop2⟩
  refine e_aload_n dL_law_1077 rfl ?_
  refine e_aload_n dL_law_1078 rfl ?_
  refine e_iload_n dL_law_1079 rfl ?_
  refine e_iconst (nI 1) dL_law_1080 rfl ?_
  refine e_iaddN dL_law_1081 ?_
  refine e_ildO dL_law_1082 (Or.inr rfl) rfl (vp_in_nI (by omega) (by omega)) (congrArg (ad.2.2 20) (nI_clamp (by omega))) ?_
  refine e_aload_n dL_law_1083 rfl ?_
  refine e_iload_n dL_law_1084 rfl ?_
  refine e_iconst (nI 2) dL_law_1085 rfl ?_
  refine e_iaddN dL_law_1086 ?_
  refine e_ildO dL_law_1087 (Or.inr rfl) rfl (vp_in_nI (by omega) (by omega)) (congrArg (ad.2.2 20) (nI_clamp (by omega))) ?_
  refine e_aload_n dL_law_1088 rfl ?_
  refine e_iload_n dL_law_1089 rfl ?_
  refine e_iconst (nI 3) dL_law_1090 rfl ?_
  refine e_iaddN dL_law_1091 ?_
  refine e_ildO dL_law_1092 (Or.inr rfl) rfl (vp_in_nI (by omega) (by omega)) (congrArg (ad.2.2 20) (nI_clamp (by omega))) ?_
  refine e_callV [.int _, .int _, .int _] dL_law_1093 tm_13_108 rfl (Nat.le_of_ble_eq_true rfl) hs1 (Nat.le_of_ble_eq_true rfl) (by show z.1 + mc + 0 ≤ 600000; omega) (by show z.2 + ms + 0 ≤ 7302250; omega) rfl (mCal_mono ?_ hop2)
  rintro _ h2 ⟨rfl, hI2⟩
  exact e_icmp_eq 1660 dL_law_1096 rfl (fun _ => nxt h2 mc ms hmc hms hI2) (fun c => absurd rfl c)
set_option maxHeartbeats 2000000 in
theorem law_c22 {ad : mA} {B i : Nat} {z : Nat × Nat} {Inv : mH → Prop} {h : mH} (hs : ∀ h, Inv h → (mS h B).1 = 11 ∧ (mS h (B + 157)).1 = 12) (hi : i + 6 ≤ ad.2.1 20) (hL : ad.2.1 20 ≤ 3072) (hz1 : z.1 + 54 ≤ 600000) (hz2 : z.2 + 1113 ≤ 7302250) (hI : Inv h) (hop : ∀ bb : Int32, bb = 0 ∨ bb = 1 → opI ad B Inv M_X11_moves M_X12_moves [.int (ad.2.2 20 (i + 1)), .int (ad.2.2 20 (i + 2)), .int bb]) (nxt : ∀ h' mc ms, mc ≤ 54 → ms ≤ 1113 → Inv h' → lawEv ad 1660 [some (.ref (ad.1 20)), some (.ref B), some (.ref (B + 157)), some (.int (nI i))] [] h' (z.1 + mc, z.2 + ms)) : lawEv ad 1101 [some (.ref (ad.1 20)), some (.ref B), some (.ref (B + 157)), some (.int (nI i))] [] h z := by
  by_cases cb : ad.2.2 20 (i + 3) = 0
  · skip
    refine e_aload_n dL_law_1101 rfl ?_
    refine e_aload_n dL_law_1102 rfl ?_
    refine e_iload_n dL_law_1103 rfl ?_
    refine e_iconst (nI 1) dL_law_1104 rfl ?_
    refine e_iaddN dL_law_1105 ?_
    refine e_ildO dL_law_1106 (Or.inr rfl) rfl (vp_in_nI (by omega) (by omega)) (congrArg (ad.2.2 20) (nI_clamp (by omega))) ?_
    refine e_aload_n dL_law_1107 rfl ?_
    refine e_iload_n dL_law_1108 rfl ?_
    refine e_iconst (nI 2) dL_law_1109 rfl ?_
    refine e_iaddN dL_law_1110 ?_
    refine e_ildO dL_law_1111 (Or.inr rfl) rfl (vp_in_nI (by omega) (by omega)) (congrArg (ad.2.2 20) (nI_clamp (by omega))) ?_
    refine e_aload_n dL_law_1112 rfl ?_
    refine e_iload_n dL_law_1113 rfl ?_
    refine e_iconst (nI 3) dL_law_1114 rfl ?_
    refine e_iaddN dL_law_1115 ?_
    refine e_ildO dL_law_1116 (Or.inr rfl) rfl (vp_in_nI (by omega) (by omega)) (congrArg (ad.2.2 20) (nI_clamp (by omega))) ?_
    refine e_if_eq 1124 dL_law_1117 rfl (fun _ => ?_) (fun c2 => absurd cb c2)
    refine e_iconst 0 dL_law_1124 rfl ?_
    obtain ⟨mc, ms, hmc, hms, hop1⟩ := hop 0 (Or.inl rfl) h hI
    refine e_callV [.int _, .int _, .int _] dL_law_1125 tm_13_109 rfl (Nat.le_of_ble_eq_true rfl) (hs h hI).1 (Nat.le_of_ble_eq_true rfl) (by omega) (by omega) rfl (mCal_mono ?_ hop1)
    rintro _ h1 ⟨r, rfl, hs1, hop2⟩
    refine e_aload_n dL_law_1128 rfl ?_
    refine e_aload_n dL_law_1129 rfl ?_
    refine e_iload_n dL_law_1130 rfl ?_
    refine e_iconst (nI 1) dL_law_1131 rfl ?_
    refine e_iaddN dL_law_1132 ?_
    refine e_ildO dL_law_1133 (Or.inr rfl) rfl (vp_in_nI (by omega) (by omega)) (congrArg (ad.2.2 20) (nI_clamp (by omega))) ?_
    refine e_aload_n dL_law_1134 rfl ?_
    refine e_iload_n dL_law_1135 rfl ?_
    refine e_iconst (nI 2) dL_law_1136 rfl ?_
    refine e_iaddN dL_law_1137 ?_
    refine e_ildO dL_law_1138 (Or.inr rfl) rfl (vp_in_nI (by omega) (by omega)) (congrArg (ad.2.2 20) (nI_clamp (by omega))) ?_
    refine e_aload_n dL_law_1139 rfl ?_
    refine e_iload_n dL_law_1140 rfl ?_
    refine e_iconst (nI 3) dL_law_1141 rfl ?_
    refine e_iaddN dL_law_1142 ?_
    refine e_ildO dL_law_1143 (Or.inr rfl) rfl (vp_in_nI (by omega) (by omega)) (congrArg (ad.2.2 20) (nI_clamp (by omega))) ?_
    refine e_if_eq 1151 dL_law_1144 rfl (fun _ => ?_) (fun c2 => absurd cb c2)
    refine e_iconst 0 dL_law_1151 rfl ?_
    refine e_callV [.int _, .int _, .int _] dL_law_1152 tm_13_112 rfl (Nat.le_of_ble_eq_true rfl) hs1 (Nat.le_of_ble_eq_true rfl) (by show z.1 + mc + 0 ≤ 600000; omega) (by show z.2 + ms + 0 ≤ 7302250; omega) rfl (mCal_mono ?_ hop2)
    rintro _ h2 ⟨rfl, hI2⟩
    exact e_icmp_eq 1660 dL_law_1155 rfl (fun _ => nxt h2 mc ms hmc hms hI2) (fun c => absurd rfl c)
  · skip
    refine e_aload_n dL_law_1101 rfl ?_
    refine e_aload_n dL_law_1102 rfl ?_
    refine e_iload_n dL_law_1103 rfl ?_
    refine e_iconst (nI 1) dL_law_1104 rfl ?_
    refine e_iaddN dL_law_1105 ?_
    refine e_ildO dL_law_1106 (Or.inr rfl) rfl (vp_in_nI (by omega) (by omega)) (congrArg (ad.2.2 20) (nI_clamp (by omega))) ?_
    refine e_aload_n dL_law_1107 rfl ?_
    refine e_iload_n dL_law_1108 rfl ?_
    refine e_iconst (nI 2) dL_law_1109 rfl ?_
    refine e_iaddN dL_law_1110 ?_
    refine e_ildO dL_law_1111 (Or.inr rfl) rfl (vp_in_nI (by omega) (by omega)) (congrArg (ad.2.2 20) (nI_clamp (by omega))) ?_
    refine e_aload_n dL_law_1112 rfl ?_
    refine e_iload_n dL_law_1113 rfl ?_
    refine e_iconst (nI 3) dL_law_1114 rfl ?_
    refine e_iaddN dL_law_1115 ?_
    refine e_ildO dL_law_1116 (Or.inr rfl) rfl (vp_in_nI (by omega) (by omega)) (congrArg (ad.2.2 20) (nI_clamp (by omega))) ?_
    refine e_if_eq 1124 dL_law_1117 rfl (fun c2 => absurd c2 cb) (fun _ => ?_)
    refine e_iconst 1 dL_law_1120 rfl ?_
    refine e_goto 1125 dL_law_1121 rfl ?_
    obtain ⟨mc, ms, hmc, hms, hop1⟩ := hop 1 (Or.inr rfl) h hI
    refine e_callV [.int _, .int _, .int _] dL_law_1125 tm_13_109 rfl (Nat.le_of_ble_eq_true rfl) (hs h hI).1 (Nat.le_of_ble_eq_true rfl) (by omega) (by omega) rfl (mCal_mono ?_ hop1)
    rintro _ h1 ⟨r, rfl, hs1, hop2⟩
    refine e_aload_n dL_law_1128 rfl ?_
    refine e_aload_n dL_law_1129 rfl ?_
    refine e_iload_n dL_law_1130 rfl ?_
    refine e_iconst (nI 1) dL_law_1131 rfl ?_
    refine e_iaddN dL_law_1132 ?_
    refine e_ildO dL_law_1133 (Or.inr rfl) rfl (vp_in_nI (by omega) (by omega)) (congrArg (ad.2.2 20) (nI_clamp (by omega))) ?_
    refine e_aload_n dL_law_1134 rfl ?_
    refine e_iload_n dL_law_1135 rfl ?_
    refine e_iconst (nI 2) dL_law_1136 rfl ?_
    refine e_iaddN dL_law_1137 ?_
    refine e_ildO dL_law_1138 (Or.inr rfl) rfl (vp_in_nI (by omega) (by omega)) (congrArg (ad.2.2 20) (nI_clamp (by omega))) ?_
    refine e_aload_n dL_law_1139 rfl ?_
    refine e_iload_n dL_law_1140 rfl ?_
    refine e_iconst (nI 3) dL_law_1141 rfl ?_
    refine e_iaddN dL_law_1142 ?_
    refine e_ildO dL_law_1143 (Or.inr rfl) rfl (vp_in_nI (by omega) (by omega)) (congrArg (ad.2.2 20) (nI_clamp (by omega))) ?_
    refine e_if_eq 1151 dL_law_1144 rfl (fun c2 => absurd c2 cb) (fun _ => ?_)
    refine e_iconst 1 dL_law_1147 rfl ?_
    refine e_goto 1152 dL_law_1148 rfl ?_
    refine e_callV [.int _, .int _, .int _] dL_law_1152 tm_13_112 rfl (Nat.le_of_ble_eq_true rfl) hs1 (Nat.le_of_ble_eq_true rfl) (by show z.1 + mc + 0 ≤ 600000; omega) (by show z.2 + ms + 0 ≤ 7302250; omega) rfl (mCal_mono ?_ hop2)
    rintro _ h2 ⟨rfl, hI2⟩
    exact e_icmp_eq 1660 dL_law_1155 rfl (fun _ => nxt h2 mc ms hmc hms hI2) (fun c => absurd rfl c)
set_option maxHeartbeats 2000000 in
theorem law_c23 {ad : mA} {B i : Nat} {z : Nat × Nat} {Inv : mH → Prop} {h : mH} (hs : ∀ h, Inv h → (mS h B).1 = 11 ∧ (mS h (B + 157)).1 = 12) (hi : i + 6 ≤ ad.2.1 20) (hL : ad.2.1 20 ≤ 3072) (hz1 : z.1 + 54 ≤ 600000) (hz2 : z.2 + 1113 ≤ 7302250) (hI : Inv h) (hop : ∀ bb : Int32, bb = 0 ∨ bb = 1 → opI ad B Inv M_X11_rings M_X12_rings [.int (ad.2.2 20 (i + 1)), .int bb]) (nxt : ∀ h' mc ms, mc ≤ 54 → ms ≤ 1113 → Inv h' → lawEv ad 1660 [some (.ref (ad.1 20)), some (.ref B), some (.ref (B + 157)), some (.int (nI i))] [] h' (z.1 + mc, z.2 + ms)) : lawEv ad 1160 [some (.ref (ad.1 20)), some (.ref B), some (.ref (B + 157)), some (.int (nI i))] [] h z := by
  by_cases cb : ad.2.2 20 (i + 2) = 0
  · skip
    refine e_aload_n dL_law_1160 rfl ?_
    refine e_aload_n dL_law_1161 rfl ?_
    refine e_iload_n dL_law_1162 rfl ?_
    refine e_iconst (nI 1) dL_law_1163 rfl ?_
    refine e_iaddN dL_law_1164 ?_
    refine e_ildO dL_law_1165 (Or.inr rfl) rfl (vp_in_nI (by omega) (by omega)) (congrArg (ad.2.2 20) (nI_clamp (by omega))) ?_
    refine e_aload_n dL_law_1166 rfl ?_
    refine e_iload_n dL_law_1167 rfl ?_
    refine e_iconst (nI 2) dL_law_1168 rfl ?_
    refine e_iaddN dL_law_1169 ?_
    refine e_ildO dL_law_1170 (Or.inr rfl) rfl (vp_in_nI (by omega) (by omega)) (congrArg (ad.2.2 20) (nI_clamp (by omega))) ?_
    refine e_if_eq 1178 dL_law_1171 rfl (fun _ => ?_) (fun c2 => absurd cb c2)
    refine e_iconst 0 dL_law_1178 rfl ?_
    obtain ⟨mc, ms, hmc, hms, hop1⟩ := hop 0 (Or.inl rfl) h hI
    refine e_callV [.int _, .int _] dL_law_1179 tm_13_113 rfl (Nat.le_of_ble_eq_true rfl) (hs h hI).1 (Nat.le_of_ble_eq_true rfl) (by omega) (by omega) rfl (mCal_mono ?_ hop1)
    rintro _ h1 ⟨r, rfl, hs1, hop2⟩
    refine e_aload_n dL_law_1182 rfl ?_
    refine e_aload_n dL_law_1183 rfl ?_
    refine e_iload_n dL_law_1184 rfl ?_
    refine e_iconst (nI 1) dL_law_1185 rfl ?_
    refine e_iaddN dL_law_1186 ?_
    refine e_ildO dL_law_1187 (Or.inr rfl) rfl (vp_in_nI (by omega) (by omega)) (congrArg (ad.2.2 20) (nI_clamp (by omega))) ?_
    refine e_aload_n dL_law_1188 rfl ?_
    refine e_iload_n dL_law_1189 rfl ?_
    refine e_iconst (nI 2) dL_law_1190 rfl ?_
    refine e_iaddN dL_law_1191 ?_
    refine e_ildO dL_law_1192 (Or.inr rfl) rfl (vp_in_nI (by omega) (by omega)) (congrArg (ad.2.2 20) (nI_clamp (by omega))) ?_
    refine e_if_eq 1200 dL_law_1193 rfl (fun _ => ?_) (fun c2 => absurd cb c2)
    refine e_iconst 0 dL_law_1200 rfl ?_
    refine e_callV [.int _, .int _] dL_law_1201 tm_13_117 rfl (Nat.le_of_ble_eq_true rfl) hs1 (Nat.le_of_ble_eq_true rfl) (by show z.1 + mc + 0 ≤ 600000; omega) (by show z.2 + ms + 0 ≤ 7302250; omega) rfl (mCal_mono ?_ hop2)
    rintro _ h2 ⟨rfl, hI2⟩
    exact e_icmp_eq 1660 dL_law_1204 rfl (fun _ => nxt h2 mc ms hmc hms hI2) (fun c => absurd rfl c)
  · skip
    refine e_aload_n dL_law_1160 rfl ?_
    refine e_aload_n dL_law_1161 rfl ?_
    refine e_iload_n dL_law_1162 rfl ?_
    refine e_iconst (nI 1) dL_law_1163 rfl ?_
    refine e_iaddN dL_law_1164 ?_
    refine e_ildO dL_law_1165 (Or.inr rfl) rfl (vp_in_nI (by omega) (by omega)) (congrArg (ad.2.2 20) (nI_clamp (by omega))) ?_
    refine e_aload_n dL_law_1166 rfl ?_
    refine e_iload_n dL_law_1167 rfl ?_
    refine e_iconst (nI 2) dL_law_1168 rfl ?_
    refine e_iaddN dL_law_1169 ?_
    refine e_ildO dL_law_1170 (Or.inr rfl) rfl (vp_in_nI (by omega) (by omega)) (congrArg (ad.2.2 20) (nI_clamp (by omega))) ?_
    refine e_if_eq 1178 dL_law_1171 rfl (fun c2 => absurd c2 cb) (fun _ => ?_)
    refine e_iconst 1 dL_law_1174 rfl ?_
    refine e_goto 1179 dL_law_1175 rfl ?_
    obtain ⟨mc, ms, hmc, hms, hop1⟩ := hop 1 (Or.inr rfl) h hI
    refine e_callV [.int _, .int _] dL_law_1179 tm_13_113 rfl (Nat.le_of_ble_eq_true rfl) (hs h hI).1 (Nat.le_of_ble_eq_true rfl) (by omega) (by omega) rfl (mCal_mono ?_ hop1)
    rintro _ h1 ⟨r, rfl, hs1, hop2⟩
    refine e_aload_n dL_law_1182 rfl ?_
    refine e_aload_n dL_law_1183 rfl ?_
    refine e_iload_n dL_law_1184 rfl ?_
    refine e_iconst (nI 1) dL_law_1185 rfl ?_
    refine e_iaddN dL_law_1186 ?_
    refine e_ildO dL_law_1187 (Or.inr rfl) rfl (vp_in_nI (by omega) (by omega)) (congrArg (ad.2.2 20) (nI_clamp (by omega))) ?_
    refine e_aload_n dL_law_1188 rfl ?_
    refine e_iload_n dL_law_1189 rfl ?_
    refine e_iconst (nI 2) dL_law_1190 rfl ?_
    refine e_iaddN dL_law_1191 ?_
    refine e_ildO dL_law_1192 (Or.inr rfl) rfl (vp_in_nI (by omega) (by omega)) (congrArg (ad.2.2 20) (nI_clamp (by omega))) ?_
    refine e_if_eq 1200 dL_law_1193 rfl (fun c2 => absurd c2 cb) (fun _ => ?_)
    refine e_iconst 1 dL_law_1196 rfl ?_
    refine e_goto 1201 dL_law_1197 rfl ?_
    refine e_callV [.int _, .int _] dL_law_1201 tm_13_117 rfl (Nat.le_of_ble_eq_true rfl) hs1 (Nat.le_of_ble_eq_true rfl) (by show z.1 + mc + 0 ≤ 600000; omega) (by show z.2 + ms + 0 ≤ 7302250; omega) rfl (mCal_mono ?_ hop2)
    rintro _ h2 ⟨rfl, hI2⟩
    exact e_icmp_eq 1660 dL_law_1204 rfl (fun _ => nxt h2 mc ms hmc hms hI2) (fun c => absurd rfl c)
set_option maxHeartbeats 2000000 in
theorem law_c24 {ad : mA} {B i : Nat} {z : Nat × Nat} {Inv : mH → Prop} {h : mH} (hs : ∀ h, Inv h → (mS h B).1 = 11 ∧ (mS h (B + 157)).1 = 12) (hi : i + 6 ≤ ad.2.1 20) (hL : ad.2.1 20 ≤ 3072) (hz1 : z.1 + 54 ≤ 600000) (hz2 : z.2 + 1113 ≤ 7302250) (hI : Inv h) (hop : opI ad B Inv M_X11_lone M_X12_lone [.int (ad.2.2 20 (i + 1))]) (nxt : ∀ h' mc ms, mc ≤ 54 → ms ≤ 1113 → Inv h' → lawEv ad 1660 [some (.ref (ad.1 20)), some (.ref B), some (.ref (B + 157)), some (.int (nI i))] [] h' (z.1 + mc, z.2 + ms)) : lawEv ad 1209 [some (.ref (ad.1 20)), some (.ref B), some (.ref (B + 157)), some (.int (nI i))] [] h z := by
  refine e_aload_n dL_law_1209 rfl ?_
  refine e_aload_n dL_law_1210 rfl ?_
  refine e_iload_n dL_law_1211 rfl ?_
  refine e_iconst (nI 1) dL_law_1212 rfl ?_
  refine e_iaddN dL_law_1213 ?_
  refine e_ildO dL_law_1214 (Or.inr rfl) rfl (vp_in_nI (by omega) (by omega)) (congrArg (ad.2.2 20) (nI_clamp (by omega))) ?_
  obtain ⟨mc, ms, hmc, hms, hop1⟩ := hop h hI
  refine e_callV [.int _] dL_law_1215 tm_13_118 rfl (Nat.le_of_ble_eq_true rfl) (hs h hI).1 (Nat.le_of_ble_eq_true rfl) (by omega) (by omega) rfl (mCal_mono ?_ hop1)
  rintro _ h1 ⟨r, rfl, hs1, hop2⟩
  refine e_aload_n dL_law_1218 rfl ?_
  refine e_aload_n dL_law_1219 rfl ?_
  refine e_iload_n dL_law_1220 rfl ?_
  refine e_iconst (nI 1) dL_law_1221 rfl ?_
  refine e_iaddN dL_law_1222 ?_
  refine e_ildO dL_law_1223 (Or.inr rfl) rfl (vp_in_nI (by omega) (by omega)) (congrArg (ad.2.2 20) (nI_clamp (by omega))) ?_
  refine e_callV [.int _] dL_law_1224 tm_13_121 rfl (Nat.le_of_ble_eq_true rfl) hs1 (Nat.le_of_ble_eq_true rfl) (by show z.1 + mc + 0 ≤ 600000; omega) (by show z.2 + ms + 0 ≤ 7302250; omega) rfl (mCal_mono ?_ hop2)
  rintro _ h2 ⟨rfl, hI2⟩
  exact e_icmp_eq 1660 dL_law_1227 rfl (fun _ => nxt h2 mc ms hmc hms hI2) (fun c => absurd rfl c)
set_option maxHeartbeats 2000000 in
theorem law_c25 {ad : mA} {B i : Nat} {z : Nat × Nat} {Inv : mH → Prop} {h : mH} (hs : ∀ h, Inv h → (mS h B).1 = 11 ∧ (mS h (B + 157)).1 = 12) (hi : i + 6 ≤ ad.2.1 20) (hL : ad.2.1 20 ≤ 3072) (hz1 : z.1 + 54 ≤ 600000) (hz2 : z.2 + 1113 ≤ 7302250) (hI : Inv h) (hop : opI ad B Inv M_X11_rank M_X12_rank [.int (ad.2.2 20 (i + 1)), .int (ad.2.2 20 (i + 2))]) (nxt : ∀ h' mc ms, mc ≤ 54 → ms ≤ 1113 → Inv h' → lawEv ad 1660 [some (.ref (ad.1 20)), some (.ref B), some (.ref (B + 157)), some (.int (nI i))] [] h' (z.1 + mc, z.2 + ms)) : lawEv ad 1232 [some (.ref (ad.1 20)), some (.ref B), some (.ref (B + 157)), some (.int (nI i))] [] h z := by
  refine e_aload_n dL_law_1232 rfl ?_
  refine e_aload_n dL_law_1233 rfl ?_
  refine e_iload_n dL_law_1234 rfl ?_
  refine e_iconst (nI 1) dL_law_1235 rfl ?_
  refine e_iaddN dL_law_1236 ?_
  refine e_ildO dL_law_1237 (Or.inr rfl) rfl (vp_in_nI (by omega) (by omega)) (congrArg (ad.2.2 20) (nI_clamp (by omega))) ?_
  refine e_aload_n dL_law_1238 rfl ?_
  refine e_iload_n dL_law_1239 rfl ?_
  refine e_iconst (nI 2) dL_law_1240 rfl ?_
  refine e_iaddN dL_law_1241 ?_
  refine e_ildO dL_law_1242 (Or.inr rfl) rfl (vp_in_nI (by omega) (by omega)) (congrArg (ad.2.2 20) (nI_clamp (by omega))) ?_
  obtain ⟨mc, ms, hmc, hms, hop1⟩ := hop h hI
  refine e_callV [.int _, .int _] dL_law_1243 tm_13_122 rfl (Nat.le_of_ble_eq_true rfl) (hs h hI).1 (Nat.le_of_ble_eq_true rfl) (by omega) (by omega) rfl (mCal_mono ?_ hop1)
  rintro _ h1 ⟨r, rfl, hs1, hop2⟩
  refine e_aload_n dL_law_1246 rfl ?_
  refine e_aload_n dL_law_1247 rfl ?_
  refine e_iload_n dL_law_1248 rfl ?_
  refine e_iconst (nI 1) dL_law_1249 rfl ?_
  refine e_iaddN dL_law_1250 ?_
  refine e_ildO dL_law_1251 (Or.inr rfl) rfl (vp_in_nI (by omega) (by omega)) (congrArg (ad.2.2 20) (nI_clamp (by omega))) ?_
  refine e_aload_n dL_law_1252 rfl ?_
  refine e_iload_n dL_law_1253 rfl ?_
  refine e_iconst (nI 2) dL_law_1254 rfl ?_
  refine e_iaddN dL_law_1255 ?_
  refine e_ildO dL_law_1256 (Or.inr rfl) rfl (vp_in_nI (by omega) (by omega)) (congrArg (ad.2.2 20) (nI_clamp (by omega))) ?_
  refine e_callV [.int _, .int _] dL_law_1257 tm_13_125 rfl (Nat.le_of_ble_eq_true rfl) hs1 (Nat.le_of_ble_eq_true rfl) (by show z.1 + mc + 0 ≤ 600000; omega) (by show z.2 + ms + 0 ≤ 7302250; omega) rfl (mCal_mono ?_ hop2)
  rintro _ h2 ⟨rfl, hI2⟩
  exact e_icmp_eq 1660 dL_law_1260 rfl (fun _ => nxt h2 mc ms hmc hms hI2) (fun c => absurd rfl c)
set_option maxHeartbeats 2000000 in
theorem law_c26 {ad : mA} {B i : Nat} {z : Nat × Nat} {Inv : mH → Prop} {h : mH} (hs : ∀ h, Inv h → (mS h B).1 = 11 ∧ (mS h (B + 157)).1 = 12) (hi : i + 6 ≤ ad.2.1 20) (hL : ad.2.1 20 ≤ 3072) (hz1 : z.1 + 54 ≤ 600000) (hz2 : z.2 + 1113 ≤ 7302250) (hI : Inv h) (hop : ∀ bb : Int32, bb = 0 ∨ bb = 1 → opI ad B Inv M_X11_trued M_X12_trued [.int (ad.2.2 20 (i + 1)), .int (ad.2.2 20 (i + 2)), .int (ad.2.2 20 (i + 3)), .int bb]) (nxt : ∀ h' mc ms, mc ≤ 54 → ms ≤ 1113 → Inv h' → lawEv ad 1660 [some (.ref (ad.1 20)), some (.ref B), some (.ref (B + 157)), some (.int (nI i))] [] h' (z.1 + mc, z.2 + ms)) : lawEv ad 1265 [some (.ref (ad.1 20)), some (.ref B), some (.ref (B + 157)), some (.int (nI i))] [] h z := by
  by_cases cb : ad.2.2 20 (i + 4) = 0
  · skip
    refine e_aload_n dL_law_1265 rfl ?_
    refine e_aload_n dL_law_1266 rfl ?_
    refine e_iload_n dL_law_1267 rfl ?_
    refine e_iconst (nI 1) dL_law_1268 rfl ?_
    refine e_iaddN dL_law_1269 ?_
    refine e_ildO dL_law_1270 (Or.inr rfl) rfl (vp_in_nI (by omega) (by omega)) (congrArg (ad.2.2 20) (nI_clamp (by omega))) ?_
    refine e_aload_n dL_law_1271 rfl ?_
    refine e_iload_n dL_law_1272 rfl ?_
    refine e_iconst (nI 2) dL_law_1273 rfl ?_
    refine e_iaddN dL_law_1274 ?_
    refine e_ildO dL_law_1275 (Or.inr rfl) rfl (vp_in_nI (by omega) (by omega)) (congrArg (ad.2.2 20) (nI_clamp (by omega))) ?_
    refine e_aload_n dL_law_1276 rfl ?_
    refine e_iload_n dL_law_1277 rfl ?_
    refine e_iconst (nI 3) dL_law_1278 rfl ?_
    refine e_iaddN dL_law_1279 ?_
    refine e_ildO dL_law_1280 (Or.inr rfl) rfl (vp_in_nI (by omega) (by omega)) (congrArg (ad.2.2 20) (nI_clamp (by omega))) ?_
    refine e_aload_n dL_law_1281 rfl ?_
    refine e_iload_n dL_law_1282 rfl ?_
    refine e_iconst (nI 4) dL_law_1283 rfl ?_
    refine e_iaddN dL_law_1284 ?_
    refine e_ildO dL_law_1285 (Or.inr rfl) rfl (vp_in_nI (by omega) (by omega)) (congrArg (ad.2.2 20) (nI_clamp (by omega))) ?_
    refine e_if_eq 1293 dL_law_1286 rfl (fun _ => ?_) (fun c2 => absurd cb c2)
    refine e_iconst 0 dL_law_1293 rfl ?_
    obtain ⟨mc, ms, hmc, hms, hop1⟩ := hop 0 (Or.inl rfl) h hI
    refine e_callV [.int _, .int _, .int _, .int _] dL_law_1294 tm_13_126 rfl (Nat.le_of_ble_eq_true rfl) (hs h hI).1 (Nat.le_of_ble_eq_true rfl) (by omega) (by omega) rfl (mCal_mono ?_ hop1)
    rintro _ h1 ⟨r, rfl, hs1, hop2⟩
    refine e_aload_n dL_law_1297 rfl ?_
    refine e_aload_n dL_law_1298 rfl ?_
    refine e_iload_n dL_law_1299 rfl ?_
    refine e_iconst (nI 1) dL_law_1300 rfl ?_
    refine e_iaddN dL_law_1301 ?_
    refine e_ildO dL_law_1302 (Or.inr rfl) rfl (vp_in_nI (by omega) (by omega)) (congrArg (ad.2.2 20) (nI_clamp (by omega))) ?_
    refine e_aload_n dL_law_1303 rfl ?_
    refine e_iload_n dL_law_1304 rfl ?_
    refine e_iconst (nI 2) dL_law_1305 rfl ?_
    refine e_iaddN dL_law_1306 ?_
    refine e_ildO dL_law_1307 (Or.inr rfl) rfl (vp_in_nI (by omega) (by omega)) (congrArg (ad.2.2 20) (nI_clamp (by omega))) ?_
    refine e_aload_n dL_law_1308 rfl ?_
    refine e_iload_n dL_law_1309 rfl ?_
    refine e_iconst (nI 3) dL_law_1310 rfl ?_
    refine e_iaddN dL_law_1311 ?_
    refine e_ildO dL_law_1312 (Or.inr rfl) rfl (vp_in_nI (by omega) (by omega)) (congrArg (ad.2.2 20) (nI_clamp (by omega))) ?_
    refine e_aload_n dL_law_1313 rfl ?_
    refine e_iload_n dL_law_1314 rfl ?_
    refine e_iconst (nI 4) dL_law_1315 rfl ?_
    refine e_iaddN dL_law_1316 ?_
    refine e_ildO dL_law_1317 (Or.inr rfl) rfl (vp_in_nI (by omega) (by omega)) (congrArg (ad.2.2 20) (nI_clamp (by omega))) ?_
    refine e_if_eq 1325 dL_law_1318 rfl (fun _ => ?_) (fun c2 => absurd cb c2)
    refine e_iconst 0 dL_law_1325 rfl ?_
    refine e_callV [.int _, .int _, .int _, .int _] dL_law_1326 tm_13_129 rfl (Nat.le_of_ble_eq_true rfl) hs1 (Nat.le_of_ble_eq_true rfl) (by show z.1 + mc + 0 ≤ 600000; omega) (by show z.2 + ms + 0 ≤ 7302250; omega) rfl (mCal_mono ?_ hop2)
    rintro _ h2 ⟨rfl, hI2⟩
    exact e_icmp_eq 1660 dL_law_1329 rfl (fun _ => nxt h2 mc ms hmc hms hI2) (fun c => absurd rfl c)
  · skip
    refine e_aload_n dL_law_1265 rfl ?_
    refine e_aload_n dL_law_1266 rfl ?_
    refine e_iload_n dL_law_1267 rfl ?_
    refine e_iconst (nI 1) dL_law_1268 rfl ?_
    refine e_iaddN dL_law_1269 ?_
    refine e_ildO dL_law_1270 (Or.inr rfl) rfl (vp_in_nI (by omega) (by omega)) (congrArg (ad.2.2 20) (nI_clamp (by omega))) ?_
    refine e_aload_n dL_law_1271 rfl ?_
    refine e_iload_n dL_law_1272 rfl ?_
    refine e_iconst (nI 2) dL_law_1273 rfl ?_
    refine e_iaddN dL_law_1274 ?_
    refine e_ildO dL_law_1275 (Or.inr rfl) rfl (vp_in_nI (by omega) (by omega)) (congrArg (ad.2.2 20) (nI_clamp (by omega))) ?_
    refine e_aload_n dL_law_1276 rfl ?_
    refine e_iload_n dL_law_1277 rfl ?_
    refine e_iconst (nI 3) dL_law_1278 rfl ?_
    refine e_iaddN dL_law_1279 ?_
    refine e_ildO dL_law_1280 (Or.inr rfl) rfl (vp_in_nI (by omega) (by omega)) (congrArg (ad.2.2 20) (nI_clamp (by omega))) ?_
    refine e_aload_n dL_law_1281 rfl ?_
    refine e_iload_n dL_law_1282 rfl ?_
    refine e_iconst (nI 4) dL_law_1283 rfl ?_
    refine e_iaddN dL_law_1284 ?_
    refine e_ildO dL_law_1285 (Or.inr rfl) rfl (vp_in_nI (by omega) (by omega)) (congrArg (ad.2.2 20) (nI_clamp (by omega))) ?_
    refine e_if_eq 1293 dL_law_1286 rfl (fun c2 => absurd c2 cb) (fun _ => ?_)
    refine e_iconst 1 dL_law_1289 rfl ?_
    refine e_goto 1294 dL_law_1290 rfl ?_
    obtain ⟨mc, ms, hmc, hms, hop1⟩ := hop 1 (Or.inr rfl) h hI
    refine e_callV [.int _, .int _, .int _, .int _] dL_law_1294 tm_13_126 rfl (Nat.le_of_ble_eq_true rfl) (hs h hI).1 (Nat.le_of_ble_eq_true rfl) (by omega) (by omega) rfl (mCal_mono ?_ hop1)
    rintro _ h1 ⟨r, rfl, hs1, hop2⟩
    refine e_aload_n dL_law_1297 rfl ?_
    refine e_aload_n dL_law_1298 rfl ?_
    refine e_iload_n dL_law_1299 rfl ?_
    refine e_iconst (nI 1) dL_law_1300 rfl ?_
    refine e_iaddN dL_law_1301 ?_
    refine e_ildO dL_law_1302 (Or.inr rfl) rfl (vp_in_nI (by omega) (by omega)) (congrArg (ad.2.2 20) (nI_clamp (by omega))) ?_
    refine e_aload_n dL_law_1303 rfl ?_
    refine e_iload_n dL_law_1304 rfl ?_
    refine e_iconst (nI 2) dL_law_1305 rfl ?_
    refine e_iaddN dL_law_1306 ?_
    refine e_ildO dL_law_1307 (Or.inr rfl) rfl (vp_in_nI (by omega) (by omega)) (congrArg (ad.2.2 20) (nI_clamp (by omega))) ?_
    refine e_aload_n dL_law_1308 rfl ?_
    refine e_iload_n dL_law_1309 rfl ?_
    refine e_iconst (nI 3) dL_law_1310 rfl ?_
    refine e_iaddN dL_law_1311 ?_
    refine e_ildO dL_law_1312 (Or.inr rfl) rfl (vp_in_nI (by omega) (by omega)) (congrArg (ad.2.2 20) (nI_clamp (by omega))) ?_
    refine e_aload_n dL_law_1313 rfl ?_
    refine e_iload_n dL_law_1314 rfl ?_
    refine e_iconst (nI 4) dL_law_1315 rfl ?_
    refine e_iaddN dL_law_1316 ?_
    refine e_ildO dL_law_1317 (Or.inr rfl) rfl (vp_in_nI (by omega) (by omega)) (congrArg (ad.2.2 20) (nI_clamp (by omega))) ?_
    refine e_if_eq 1325 dL_law_1318 rfl (fun c2 => absurd c2 cb) (fun _ => ?_)
    refine e_iconst 1 dL_law_1321 rfl ?_
    refine e_goto 1326 dL_law_1322 rfl ?_
    refine e_callV [.int _, .int _, .int _, .int _] dL_law_1326 tm_13_129 rfl (Nat.le_of_ble_eq_true rfl) hs1 (Nat.le_of_ble_eq_true rfl) (by show z.1 + mc + 0 ≤ 600000; omega) (by show z.2 + ms + 0 ≤ 7302250; omega) rfl (mCal_mono ?_ hop2)
    rintro _ h2 ⟨rfl, hI2⟩
    exact e_icmp_eq 1660 dL_law_1329 rfl (fun _ => nxt h2 mc ms hmc hms hI2) (fun c => absurd rfl c)
set_option maxHeartbeats 2000000 in
theorem law_c27 {ad : mA} {B i : Nat} {z : Nat × Nat} {Inv : mH → Prop} {h : mH} (hs : ∀ h, Inv h → (mS h B).1 = 11 ∧ (mS h (B + 157)).1 = 12) (hi : i + 6 ≤ ad.2.1 20) (hL : ad.2.1 20 ≤ 3072) (hz1 : z.1 + 54 ≤ 600000) (hz2 : z.2 + 1113 ≤ 7302250) (hI : Inv h) (hop : opI ad B Inv M_X11_tips M_X12_tips [.int (ad.2.2 20 (i + 1))]) (nxt : ∀ h' mc ms, mc ≤ 54 → ms ≤ 1113 → Inv h' → lawEv ad 1660 [some (.ref (ad.1 20)), some (.ref B), some (.ref (B + 157)), some (.int (nI i))] [] h' (z.1 + mc, z.2 + ms)) : lawEv ad 1334 [some (.ref (ad.1 20)), some (.ref B), some (.ref (B + 157)), some (.int (nI i))] [] h z := by
  refine e_aload_n dL_law_1334 rfl ?_
  refine e_aload_n dL_law_1335 rfl ?_
  refine e_iload_n dL_law_1336 rfl ?_
  refine e_iconst (nI 1) dL_law_1337 rfl ?_
  refine e_iaddN dL_law_1338 ?_
  refine e_ildO dL_law_1339 (Or.inr rfl) rfl (vp_in_nI (by omega) (by omega)) (congrArg (ad.2.2 20) (nI_clamp (by omega))) ?_
  obtain ⟨mc, ms, hmc, hms, hop1⟩ := hop h hI
  refine e_callV [.int _] dL_law_1340 tm_13_130 rfl (Nat.le_of_ble_eq_true rfl) (hs h hI).1 (Nat.le_of_ble_eq_true rfl) (by omega) (by omega) rfl (mCal_mono ?_ hop1)
  rintro _ h1 ⟨r, rfl, hs1, hop2⟩
  refine e_aload_n dL_law_1343 rfl ?_
  refine e_aload_n dL_law_1344 rfl ?_
  refine e_iload_n dL_law_1345 rfl ?_
  refine e_iconst (nI 1) dL_law_1346 rfl ?_
  refine e_iaddN dL_law_1347 ?_
  refine e_ildO dL_law_1348 (Or.inr rfl) rfl (vp_in_nI (by omega) (by omega)) (congrArg (ad.2.2 20) (nI_clamp (by omega))) ?_
  refine e_callV [.int _] dL_law_1349 tm_13_133 rfl (Nat.le_of_ble_eq_true rfl) hs1 (Nat.le_of_ble_eq_true rfl) (by show z.1 + mc + 0 ≤ 600000; omega) (by show z.2 + ms + 0 ≤ 7302250; omega) rfl (mCal_mono ?_ hop2)
  rintro _ h2 ⟨rfl, hI2⟩
  exact e_icmp_eq 1660 dL_law_1352 rfl (fun _ => nxt h2 mc ms hmc hms hI2) (fun c => absurd rfl c)
set_option maxHeartbeats 2000000 in
theorem law_c28 {ad : mA} {B i : Nat} {z : Nat × Nat} {Inv : mH → Prop} {h : mH} (hs : ∀ h, Inv h → (mS h B).1 = 11 ∧ (mS h (B + 157)).1 = 12) (hi : i + 6 ≤ ad.2.1 20) (hL : ad.2.1 20 ≤ 3072) (hz1 : z.1 + 54 ≤ 600000) (hz2 : z.2 + 1113 ≤ 7302250) (hI : Inv h) (hop : ∀ bb : Int32, bb = 0 ∨ bb = 1 → opI ad B Inv M_X11_swap M_X12_swap [.int (ad.2.2 20 (i + 1)), .int bb]) (nxt : ∀ h' mc ms, mc ≤ 54 → ms ≤ 1113 → Inv h' → lawEv ad 1660 [some (.ref (ad.1 20)), some (.ref B), some (.ref (B + 157)), some (.int (nI i))] [] h' (z.1 + mc, z.2 + ms)) : lawEv ad 1357 [some (.ref (ad.1 20)), some (.ref B), some (.ref (B + 157)), some (.int (nI i))] [] h z := by
  by_cases cb : ad.2.2 20 (i + 2) = 0
  · skip
    refine e_aload_n dL_law_1357 rfl ?_
    refine e_aload_n dL_law_1358 rfl ?_
    refine e_iload_n dL_law_1359 rfl ?_
    refine e_iconst (nI 1) dL_law_1360 rfl ?_
    refine e_iaddN dL_law_1361 ?_
    refine e_ildO dL_law_1362 (Or.inr rfl) rfl (vp_in_nI (by omega) (by omega)) (congrArg (ad.2.2 20) (nI_clamp (by omega))) ?_
    refine e_aload_n dL_law_1363 rfl ?_
    refine e_iload_n dL_law_1364 rfl ?_
    refine e_iconst (nI 2) dL_law_1365 rfl ?_
    refine e_iaddN dL_law_1366 ?_
    refine e_ildO dL_law_1367 (Or.inr rfl) rfl (vp_in_nI (by omega) (by omega)) (congrArg (ad.2.2 20) (nI_clamp (by omega))) ?_
    refine e_if_eq 1375 dL_law_1368 rfl (fun _ => ?_) (fun c2 => absurd cb c2)
    refine e_iconst 0 dL_law_1375 rfl ?_
    obtain ⟨mc, ms, hmc, hms, hop1⟩ := hop 0 (Or.inl rfl) h hI
    refine e_callV [.int _, .int _] dL_law_1376 tm_13_134 rfl (Nat.le_of_ble_eq_true rfl) (hs h hI).1 (Nat.le_of_ble_eq_true rfl) (by omega) (by omega) rfl (mCal_mono ?_ hop1)
    rintro _ h1 ⟨r, rfl, hs1, hop2⟩
    refine e_aload_n dL_law_1379 rfl ?_
    refine e_aload_n dL_law_1380 rfl ?_
    refine e_iload_n dL_law_1381 rfl ?_
    refine e_iconst (nI 1) dL_law_1382 rfl ?_
    refine e_iaddN dL_law_1383 ?_
    refine e_ildO dL_law_1384 (Or.inr rfl) rfl (vp_in_nI (by omega) (by omega)) (congrArg (ad.2.2 20) (nI_clamp (by omega))) ?_
    refine e_aload_n dL_law_1385 rfl ?_
    refine e_iload_n dL_law_1386 rfl ?_
    refine e_iconst (nI 2) dL_law_1387 rfl ?_
    refine e_iaddN dL_law_1388 ?_
    refine e_ildO dL_law_1389 (Or.inr rfl) rfl (vp_in_nI (by omega) (by omega)) (congrArg (ad.2.2 20) (nI_clamp (by omega))) ?_
    refine e_if_eq 1397 dL_law_1390 rfl (fun _ => ?_) (fun c2 => absurd cb c2)
    refine e_iconst 0 dL_law_1397 rfl ?_
    refine e_callV [.int _, .int _] dL_law_1398 tm_13_137 rfl (Nat.le_of_ble_eq_true rfl) hs1 (Nat.le_of_ble_eq_true rfl) (by show z.1 + mc + 0 ≤ 600000; omega) (by show z.2 + ms + 0 ≤ 7302250; omega) rfl (mCal_mono ?_ hop2)
    rintro _ h2 ⟨rfl, hI2⟩
    exact e_icmp_eq 1660 dL_law_1401 rfl (fun _ => nxt h2 mc ms hmc hms hI2) (fun c => absurd rfl c)
  · skip
    refine e_aload_n dL_law_1357 rfl ?_
    refine e_aload_n dL_law_1358 rfl ?_
    refine e_iload_n dL_law_1359 rfl ?_
    refine e_iconst (nI 1) dL_law_1360 rfl ?_
    refine e_iaddN dL_law_1361 ?_
    refine e_ildO dL_law_1362 (Or.inr rfl) rfl (vp_in_nI (by omega) (by omega)) (congrArg (ad.2.2 20) (nI_clamp (by omega))) ?_
    refine e_aload_n dL_law_1363 rfl ?_
    refine e_iload_n dL_law_1364 rfl ?_
    refine e_iconst (nI 2) dL_law_1365 rfl ?_
    refine e_iaddN dL_law_1366 ?_
    refine e_ildO dL_law_1367 (Or.inr rfl) rfl (vp_in_nI (by omega) (by omega)) (congrArg (ad.2.2 20) (nI_clamp (by omega))) ?_
    refine e_if_eq 1375 dL_law_1368 rfl (fun c2 => absurd c2 cb) (fun _ => ?_)
    refine e_iconst 1 dL_law_1371 rfl ?_
    refine e_goto 1376 dL_law_1372 rfl ?_
    obtain ⟨mc, ms, hmc, hms, hop1⟩ := hop 1 (Or.inr rfl) h hI
    refine e_callV [.int _, .int _] dL_law_1376 tm_13_134 rfl (Nat.le_of_ble_eq_true rfl) (hs h hI).1 (Nat.le_of_ble_eq_true rfl) (by omega) (by omega) rfl (mCal_mono ?_ hop1)
    rintro _ h1 ⟨r, rfl, hs1, hop2⟩
    refine e_aload_n dL_law_1379 rfl ?_
    refine e_aload_n dL_law_1380 rfl ?_
    refine e_iload_n dL_law_1381 rfl ?_
    refine e_iconst (nI 1) dL_law_1382 rfl ?_
    refine e_iaddN dL_law_1383 ?_
    refine e_ildO dL_law_1384 (Or.inr rfl) rfl (vp_in_nI (by omega) (by omega)) (congrArg (ad.2.2 20) (nI_clamp (by omega))) ?_
    refine e_aload_n dL_law_1385 rfl ?_
    refine e_iload_n dL_law_1386 rfl ?_
    refine e_iconst (nI 2) dL_law_1387 rfl ?_
    refine e_iaddN dL_law_1388 ?_
    refine e_ildO dL_law_1389 (Or.inr rfl) rfl (vp_in_nI (by omega) (by omega)) (congrArg (ad.2.2 20) (nI_clamp (by omega))) ?_
    refine e_if_eq 1397 dL_law_1390 rfl (fun c2 => absurd c2 cb) (fun _ => ?_)
    refine e_iconst 1 dL_law_1393 rfl ?_
    refine e_goto 1398 dL_law_1394 rfl ?_
    refine e_callV [.int _, .int _] dL_law_1398 tm_13_137 rfl (Nat.le_of_ble_eq_true rfl) hs1 (Nat.le_of_ble_eq_true rfl) (by show z.1 + mc + 0 ≤ 600000; omega) (by show z.2 + ms + 0 ≤ 7302250; omega) rfl (mCal_mono ?_ hop2)
    rintro _ h2 ⟨rfl, hI2⟩
    exact e_icmp_eq 1660 dL_law_1401 rfl (fun _ => nxt h2 mc ms hmc hms hI2) (fun c => absurd rfl c)
set_option maxHeartbeats 2000000 in
theorem law_c29 {ad : mA} {B i : Nat} {z : Nat × Nat} {Inv : mH → Prop} {h : mH} (hs : ∀ h, Inv h → (mS h B).1 = 11 ∧ (mS h (B + 157)).1 = 12) (hi : i + 6 ≤ ad.2.1 20) (hL : ad.2.1 20 ≤ 3072) (hz1 : z.1 + 54 ≤ 600000) (hz2 : z.2 + 1113 ≤ 7302250) (hI : Inv h) (hop : opI ad B Inv M_X11_settles M_X12_settles [.int (ad.2.2 20 (i + 1))]) (nxt : ∀ h' mc ms, mc ≤ 54 → ms ≤ 1113 → Inv h' → lawEv ad 1660 [some (.ref (ad.1 20)), some (.ref B), some (.ref (B + 157)), some (.int (nI i))] [] h' (z.1 + mc, z.2 + ms)) : lawEv ad 1406 [some (.ref (ad.1 20)), some (.ref B), some (.ref (B + 157)), some (.int (nI i))] [] h z := by
  refine e_aload_n dL_law_1406 rfl ?_
  refine e_aload_n dL_law_1407 rfl ?_
  refine e_iload_n dL_law_1408 rfl ?_
  refine e_iconst (nI 1) dL_law_1409 rfl ?_
  refine e_iaddN dL_law_1410 ?_
  refine e_ildO dL_law_1411 (Or.inr rfl) rfl (vp_in_nI (by omega) (by omega)) (congrArg (ad.2.2 20) (nI_clamp (by omega))) ?_
  obtain ⟨mc, ms, hmc, hms, hop1⟩ := hop h hI
  refine e_callV [.int _] dL_law_1412 tm_13_138 rfl (Nat.le_of_ble_eq_true rfl) (hs h hI).1 (Nat.le_of_ble_eq_true rfl) (by omega) (by omega) rfl (mCal_mono ?_ hop1)
  rintro _ h1 ⟨r, rfl, hs1, hop2⟩
  refine e_aload_n dL_law_1415 rfl ?_
  refine e_aload_n dL_law_1416 rfl ?_
  refine e_iload_n dL_law_1417 rfl ?_
  refine e_iconst (nI 1) dL_law_1418 rfl ?_
  refine e_iaddN dL_law_1419 ?_
  refine e_ildO dL_law_1420 (Or.inr rfl) rfl (vp_in_nI (by omega) (by omega)) (congrArg (ad.2.2 20) (nI_clamp (by omega))) ?_
  refine e_callV [.int _] dL_law_1421 tm_13_141 rfl (Nat.le_of_ble_eq_true rfl) hs1 (Nat.le_of_ble_eq_true rfl) (by show z.1 + mc + 0 ≤ 600000; omega) (by show z.2 + ms + 0 ≤ 7302250; omega) rfl (mCal_mono ?_ hop2)
  rintro _ h2 ⟨rfl, hI2⟩
  exact e_icmp_eq 1660 dL_law_1424 rfl (fun _ => nxt h2 mc ms hmc hms hI2) (fun c => absurd rfl c)
set_option maxHeartbeats 2000000 in
theorem law_c30 {ad : mA} {B i : Nat} {z : Nat × Nat} {Inv : mH → Prop} {h : mH} (hs : ∀ h, Inv h → (mS h B).1 = 11 ∧ (mS h (B + 157)).1 = 12) (hi : i + 6 ≤ ad.2.1 20) (hL : ad.2.1 20 ≤ 3072) (hz1 : z.1 + 54 ≤ 600000) (hz2 : z.2 + 1113 ≤ 7302250) (hI : Inv h) (hop : ∀ bb : Int32, bb = 0 ∨ bb = 1 → opJ ad B Inv M_X11_share M_X12_share [.int (ad.2.2 20 (i + 1)), .int (ad.2.2 20 (i + 2)), .int bb]) (nxt : ∀ h' mc ms, mc ≤ 54 → ms ≤ 1113 → Inv h' → lawEv ad 1660 [some (.ref (ad.1 20)), some (.ref B), some (.ref (B + 157)), some (.int (nI i))] [] h' (z.1 + mc, z.2 + ms)) : lawEv ad 1429 [some (.ref (ad.1 20)), some (.ref B), some (.ref (B + 157)), some (.int (nI i))] [] h z := by
  by_cases cb : ad.2.2 20 (i + 3) = 0
  · skip
    refine e_aload_n dL_law_1429 rfl ?_
    refine e_aload_n dL_law_1430 rfl ?_
    refine e_iload_n dL_law_1431 rfl ?_
    refine e_iconst (nI 1) dL_law_1432 rfl ?_
    refine e_iaddN dL_law_1433 ?_
    refine e_ildO dL_law_1434 (Or.inr rfl) rfl (vp_in_nI (by omega) (by omega)) (congrArg (ad.2.2 20) (nI_clamp (by omega))) ?_
    refine e_aload_n dL_law_1435 rfl ?_
    refine e_iload_n dL_law_1436 rfl ?_
    refine e_iconst (nI 2) dL_law_1437 rfl ?_
    refine e_iaddN dL_law_1438 ?_
    refine e_ildO dL_law_1439 (Or.inr rfl) rfl (vp_in_nI (by omega) (by omega)) (congrArg (ad.2.2 20) (nI_clamp (by omega))) ?_
    refine e_aload_n dL_law_1440 rfl ?_
    refine e_iload_n dL_law_1441 rfl ?_
    refine e_iconst (nI 3) dL_law_1442 rfl ?_
    refine e_iaddN dL_law_1443 ?_
    refine e_ildO dL_law_1444 (Or.inr rfl) rfl (vp_in_nI (by omega) (by omega)) (congrArg (ad.2.2 20) (nI_clamp (by omega))) ?_
    refine e_if_eq 1452 dL_law_1445 rfl (fun _ => ?_) (fun c2 => absurd cb c2)
    refine e_iconst 0 dL_law_1452 rfl ?_
    obtain ⟨mc, ms, hmc, hms, hop1⟩ := hop 0 (Or.inl rfl) h hI
    refine e_callV [.int _, .int _, .int _] dL_law_1453 tm_13_142 rfl (Nat.le_of_ble_eq_true rfl) (hs h hI).1 (Nat.le_of_ble_eq_true rfl) (by omega) (by omega) rfl (mCal_mono ?_ hop1)
    rintro _ h1 ⟨r, rfl, hs1, hop2⟩
    refine e_aload_n dL_law_1456 rfl ?_
    refine e_aload_n dL_law_1457 rfl ?_
    refine e_iload_n dL_law_1458 rfl ?_
    refine e_iconst (nI 1) dL_law_1459 rfl ?_
    refine e_iaddN dL_law_1460 ?_
    refine e_ildO dL_law_1461 (Or.inr rfl) rfl (vp_in_nI (by omega) (by omega)) (congrArg (ad.2.2 20) (nI_clamp (by omega))) ?_
    refine e_aload_n dL_law_1462 rfl ?_
    refine e_iload_n dL_law_1463 rfl ?_
    refine e_iconst (nI 2) dL_law_1464 rfl ?_
    refine e_iaddN dL_law_1465 ?_
    refine e_ildO dL_law_1466 (Or.inr rfl) rfl (vp_in_nI (by omega) (by omega)) (congrArg (ad.2.2 20) (nI_clamp (by omega))) ?_
    refine e_aload_n dL_law_1467 rfl ?_
    refine e_iload_n dL_law_1468 rfl ?_
    refine e_iconst (nI 3) dL_law_1469 rfl ?_
    refine e_iaddN dL_law_1470 ?_
    refine e_ildO dL_law_1471 (Or.inr rfl) rfl (vp_in_nI (by omega) (by omega)) (congrArg (ad.2.2 20) (nI_clamp (by omega))) ?_
    refine e_if_eq 1479 dL_law_1472 rfl (fun _ => ?_) (fun c2 => absurd cb c2)
    refine e_iconst 0 dL_law_1479 rfl ?_
    refine e_callV [.int _, .int _, .int _] dL_law_1480 tm_13_146 rfl (Nat.le_of_ble_eq_true rfl) hs1 (Nat.le_of_ble_eq_true rfl) (by show z.1 + mc + 0 ≤ 600000; omega) (by show z.2 + ms + 0 ≤ 7302250; omega) rfl (mCal_mono ?_ hop2)
    rintro _ h2 ⟨rfl, hI2⟩
    refine e_lcmp dL_law_1483 ?_
    exact e_if_eq 1660 dL_law_1484 rfl (fun _ => nxt h2 mc ms hmc hms hI2) (fun c => absurd (lg_cmp_self r) c)
  · skip
    refine e_aload_n dL_law_1429 rfl ?_
    refine e_aload_n dL_law_1430 rfl ?_
    refine e_iload_n dL_law_1431 rfl ?_
    refine e_iconst (nI 1) dL_law_1432 rfl ?_
    refine e_iaddN dL_law_1433 ?_
    refine e_ildO dL_law_1434 (Or.inr rfl) rfl (vp_in_nI (by omega) (by omega)) (congrArg (ad.2.2 20) (nI_clamp (by omega))) ?_
    refine e_aload_n dL_law_1435 rfl ?_
    refine e_iload_n dL_law_1436 rfl ?_
    refine e_iconst (nI 2) dL_law_1437 rfl ?_
    refine e_iaddN dL_law_1438 ?_
    refine e_ildO dL_law_1439 (Or.inr rfl) rfl (vp_in_nI (by omega) (by omega)) (congrArg (ad.2.2 20) (nI_clamp (by omega))) ?_
    refine e_aload_n dL_law_1440 rfl ?_
    refine e_iload_n dL_law_1441 rfl ?_
    refine e_iconst (nI 3) dL_law_1442 rfl ?_
    refine e_iaddN dL_law_1443 ?_
    refine e_ildO dL_law_1444 (Or.inr rfl) rfl (vp_in_nI (by omega) (by omega)) (congrArg (ad.2.2 20) (nI_clamp (by omega))) ?_
    refine e_if_eq 1452 dL_law_1445 rfl (fun c2 => absurd c2 cb) (fun _ => ?_)
    refine e_iconst 1 dL_law_1448 rfl ?_
    refine e_goto 1453 dL_law_1449 rfl ?_
    obtain ⟨mc, ms, hmc, hms, hop1⟩ := hop 1 (Or.inr rfl) h hI
    refine e_callV [.int _, .int _, .int _] dL_law_1453 tm_13_142 rfl (Nat.le_of_ble_eq_true rfl) (hs h hI).1 (Nat.le_of_ble_eq_true rfl) (by omega) (by omega) rfl (mCal_mono ?_ hop1)
    rintro _ h1 ⟨r, rfl, hs1, hop2⟩
    refine e_aload_n dL_law_1456 rfl ?_
    refine e_aload_n dL_law_1457 rfl ?_
    refine e_iload_n dL_law_1458 rfl ?_
    refine e_iconst (nI 1) dL_law_1459 rfl ?_
    refine e_iaddN dL_law_1460 ?_
    refine e_ildO dL_law_1461 (Or.inr rfl) rfl (vp_in_nI (by omega) (by omega)) (congrArg (ad.2.2 20) (nI_clamp (by omega))) ?_
    refine e_aload_n dL_law_1462 rfl ?_
    refine e_iload_n dL_law_1463 rfl ?_
    refine e_iconst (nI 2) dL_law_1464 rfl ?_
    refine e_iaddN dL_law_1465 ?_
    refine e_ildO dL_law_1466 (Or.inr rfl) rfl (vp_in_nI (by omega) (by omega)) (congrArg (ad.2.2 20) (nI_clamp (by omega))) ?_
    refine e_aload_n dL_law_1467 rfl ?_
    refine e_iload_n dL_law_1468 rfl ?_
    refine e_iconst (nI 3) dL_law_1469 rfl ?_
    refine e_iaddN dL_law_1470 ?_
    refine e_ildO dL_law_1471 (Or.inr rfl) rfl (vp_in_nI (by omega) (by omega)) (congrArg (ad.2.2 20) (nI_clamp (by omega))) ?_
    refine e_if_eq 1479 dL_law_1472 rfl (fun c2 => absurd c2 cb) (fun _ => ?_)
    refine e_iconst 1 dL_law_1475 rfl ?_
    refine e_goto 1480 dL_law_1476 rfl ?_
    refine e_callV [.int _, .int _, .int _] dL_law_1480 tm_13_146 rfl (Nat.le_of_ble_eq_true rfl) hs1 (Nat.le_of_ble_eq_true rfl) (by show z.1 + mc + 0 ≤ 600000; omega) (by show z.2 + ms + 0 ≤ 7302250; omega) rfl (mCal_mono ?_ hop2)
    rintro _ h2 ⟨rfl, hI2⟩
    refine e_lcmp dL_law_1483 ?_
    exact e_if_eq 1660 dL_law_1484 rfl (fun _ => nxt h2 mc ms hmc hms hI2) (fun c => absurd (lg_cmp_self r) c)
set_option maxHeartbeats 2000000 in
theorem law_c31 {ad : mA} {B i : Nat} {z : Nat × Nat} {Inv : mH → Prop} {h : mH} (hs : ∀ h, Inv h → (mS h B).1 = 11 ∧ (mS h (B + 157)).1 = 12) (hi : i + 6 ≤ ad.2.1 20) (hL : ad.2.1 20 ≤ 3072) (hz1 : z.1 + 54 ≤ 600000) (hz2 : z.2 + 1113 ≤ 7302250) (hI : Inv h) (hop : ∀ bb : Int32, bb = 0 ∨ bb = 1 → opI ad B Inv M_X11_hire M_X12_hire [.int (ad.2.2 20 (i + 1)), .int (ad.2.2 20 (i + 2)), .int bb]) (nxt : ∀ h' mc ms, mc ≤ 54 → ms ≤ 1113 → Inv h' → lawEv ad 1660 [some (.ref (ad.1 20)), some (.ref B), some (.ref (B + 157)), some (.int (nI i))] [] h' (z.1 + mc, z.2 + ms)) : lawEv ad 1489 [some (.ref (ad.1 20)), some (.ref B), some (.ref (B + 157)), some (.int (nI i))] [] h z := by
  by_cases cb : ad.2.2 20 (i + 3) = 0
  · skip
    refine e_aload_n dL_law_1489 rfl ?_
    refine e_aload_n dL_law_1490 rfl ?_
    refine e_iload_n dL_law_1491 rfl ?_
    refine e_iconst (nI 1) dL_law_1492 rfl ?_
    refine e_iaddN dL_law_1493 ?_
    refine e_ildO dL_law_1494 (Or.inr rfl) rfl (vp_in_nI (by omega) (by omega)) (congrArg (ad.2.2 20) (nI_clamp (by omega))) ?_
    refine e_aload_n dL_law_1495 rfl ?_
    refine e_iload_n dL_law_1496 rfl ?_
    refine e_iconst (nI 2) dL_law_1497 rfl ?_
    refine e_iaddN dL_law_1498 ?_
    refine e_ildO dL_law_1499 (Or.inr rfl) rfl (vp_in_nI (by omega) (by omega)) (congrArg (ad.2.2 20) (nI_clamp (by omega))) ?_
    refine e_aload_n dL_law_1500 rfl ?_
    refine e_iload_n dL_law_1501 rfl ?_
    refine e_iconst (nI 3) dL_law_1502 rfl ?_
    refine e_iaddN dL_law_1503 ?_
    refine e_ildO dL_law_1504 (Or.inr rfl) rfl (vp_in_nI (by omega) (by omega)) (congrArg (ad.2.2 20) (nI_clamp (by omega))) ?_
    refine e_if_eq 1512 dL_law_1505 rfl (fun _ => ?_) (fun c2 => absurd cb c2)
    refine e_iconst 0 dL_law_1512 rfl ?_
    obtain ⟨mc, ms, hmc, hms, hop1⟩ := hop 0 (Or.inl rfl) h hI
    refine e_callV [.int _, .int _, .int _] dL_law_1513 tm_13_147 rfl (Nat.le_of_ble_eq_true rfl) (hs h hI).1 (Nat.le_of_ble_eq_true rfl) (by omega) (by omega) rfl (mCal_mono ?_ hop1)
    rintro _ h1 ⟨r, rfl, hs1, hop2⟩
    refine e_aload_n dL_law_1516 rfl ?_
    refine e_aload_n dL_law_1517 rfl ?_
    refine e_iload_n dL_law_1518 rfl ?_
    refine e_iconst (nI 1) dL_law_1519 rfl ?_
    refine e_iaddN dL_law_1520 ?_
    refine e_ildO dL_law_1521 (Or.inr rfl) rfl (vp_in_nI (by omega) (by omega)) (congrArg (ad.2.2 20) (nI_clamp (by omega))) ?_
    refine e_aload_n dL_law_1522 rfl ?_
    refine e_iload_n dL_law_1523 rfl ?_
    refine e_iconst (nI 2) dL_law_1524 rfl ?_
    refine e_iaddN dL_law_1525 ?_
    refine e_ildO dL_law_1526 (Or.inr rfl) rfl (vp_in_nI (by omega) (by omega)) (congrArg (ad.2.2 20) (nI_clamp (by omega))) ?_
    refine e_aload_n dL_law_1527 rfl ?_
    refine e_iload_n dL_law_1528 rfl ?_
    refine e_iconst (nI 3) dL_law_1529 rfl ?_
    refine e_iaddN dL_law_1530 ?_
    refine e_ildO dL_law_1531 (Or.inr rfl) rfl (vp_in_nI (by omega) (by omega)) (congrArg (ad.2.2 20) (nI_clamp (by omega))) ?_
    refine e_if_eq 1539 dL_law_1532 rfl (fun _ => ?_) (fun c2 => absurd cb c2)
    refine e_iconst 0 dL_law_1539 rfl ?_
    refine e_callV [.int _, .int _, .int _] dL_law_1540 tm_13_150 rfl (Nat.le_of_ble_eq_true rfl) hs1 (Nat.le_of_ble_eq_true rfl) (by show z.1 + mc + 0 ≤ 600000; omega) (by show z.2 + ms + 0 ≤ 7302250; omega) rfl (mCal_mono ?_ hop2)
    rintro _ h2 ⟨rfl, hI2⟩
    exact e_icmp_eq 1660 dL_law_1543 rfl (fun _ => nxt h2 mc ms hmc hms hI2) (fun c => absurd rfl c)
  · skip
    refine e_aload_n dL_law_1489 rfl ?_
    refine e_aload_n dL_law_1490 rfl ?_
    refine e_iload_n dL_law_1491 rfl ?_
    refine e_iconst (nI 1) dL_law_1492 rfl ?_
    refine e_iaddN dL_law_1493 ?_
    refine e_ildO dL_law_1494 (Or.inr rfl) rfl (vp_in_nI (by omega) (by omega)) (congrArg (ad.2.2 20) (nI_clamp (by omega))) ?_
    refine e_aload_n dL_law_1495 rfl ?_
    refine e_iload_n dL_law_1496 rfl ?_
    refine e_iconst (nI 2) dL_law_1497 rfl ?_
    refine e_iaddN dL_law_1498 ?_
    refine e_ildO dL_law_1499 (Or.inr rfl) rfl (vp_in_nI (by omega) (by omega)) (congrArg (ad.2.2 20) (nI_clamp (by omega))) ?_
    refine e_aload_n dL_law_1500 rfl ?_
    refine e_iload_n dL_law_1501 rfl ?_
    refine e_iconst (nI 3) dL_law_1502 rfl ?_
    refine e_iaddN dL_law_1503 ?_
    refine e_ildO dL_law_1504 (Or.inr rfl) rfl (vp_in_nI (by omega) (by omega)) (congrArg (ad.2.2 20) (nI_clamp (by omega))) ?_
    refine e_if_eq 1512 dL_law_1505 rfl (fun c2 => absurd c2 cb) (fun _ => ?_)
    refine e_iconst 1 dL_law_1508 rfl ?_
    refine e_goto 1513 dL_law_1509 rfl ?_
    obtain ⟨mc, ms, hmc, hms, hop1⟩ := hop 1 (Or.inr rfl) h hI
    refine e_callV [.int _, .int _, .int _] dL_law_1513 tm_13_147 rfl (Nat.le_of_ble_eq_true rfl) (hs h hI).1 (Nat.le_of_ble_eq_true rfl) (by omega) (by omega) rfl (mCal_mono ?_ hop1)
    rintro _ h1 ⟨r, rfl, hs1, hop2⟩
    refine e_aload_n dL_law_1516 rfl ?_
    refine e_aload_n dL_law_1517 rfl ?_
    refine e_iload_n dL_law_1518 rfl ?_
    refine e_iconst (nI 1) dL_law_1519 rfl ?_
    refine e_iaddN dL_law_1520 ?_
    refine e_ildO dL_law_1521 (Or.inr rfl) rfl (vp_in_nI (by omega) (by omega)) (congrArg (ad.2.2 20) (nI_clamp (by omega))) ?_
    refine e_aload_n dL_law_1522 rfl ?_
    refine e_iload_n dL_law_1523 rfl ?_
    refine e_iconst (nI 2) dL_law_1524 rfl ?_
    refine e_iaddN dL_law_1525 ?_
    refine e_ildO dL_law_1526 (Or.inr rfl) rfl (vp_in_nI (by omega) (by omega)) (congrArg (ad.2.2 20) (nI_clamp (by omega))) ?_
    refine e_aload_n dL_law_1527 rfl ?_
    refine e_iload_n dL_law_1528 rfl ?_
    refine e_iconst (nI 3) dL_law_1529 rfl ?_
    refine e_iaddN dL_law_1530 ?_
    refine e_ildO dL_law_1531 (Or.inr rfl) rfl (vp_in_nI (by omega) (by omega)) (congrArg (ad.2.2 20) (nI_clamp (by omega))) ?_
    refine e_if_eq 1539 dL_law_1532 rfl (fun c2 => absurd c2 cb) (fun _ => ?_)
    refine e_iconst 1 dL_law_1535 rfl ?_
    refine e_goto 1540 dL_law_1536 rfl ?_
    refine e_callV [.int _, .int _, .int _] dL_law_1540 tm_13_150 rfl (Nat.le_of_ble_eq_true rfl) hs1 (Nat.le_of_ble_eq_true rfl) (by show z.1 + mc + 0 ≤ 600000; omega) (by show z.2 + ms + 0 ≤ 7302250; omega) rfl (mCal_mono ?_ hop2)
    rintro _ h2 ⟨rfl, hI2⟩
    exact e_icmp_eq 1660 dL_law_1543 rfl (fun _ => nxt h2 mc ms hmc hms hI2) (fun c => absurd rfl c)
set_option maxHeartbeats 2000000 in
theorem law_c32 {ad : mA} {B i : Nat} {z : Nat × Nat} {Inv : mH → Prop} {h : mH} (hs : ∀ h, Inv h → (mS h B).1 = 11 ∧ (mS h (B + 157)).1 = 12) (hi : i + 6 ≤ ad.2.1 20) (hL : ad.2.1 20 ≤ 3072) (hz1 : z.1 + 54 ≤ 600000) (hz2 : z.2 + 1113 ≤ 7302250) (hI : Inv h) (hop : opI ad B Inv M_X11_line M_X12_line [.int (ad.2.2 20 (i + 1)), .int (ad.2.2 20 (i + 2)), .int (ad.2.2 20 (i + 3))]) (nxt : ∀ h' mc ms, mc ≤ 54 → ms ≤ 1113 → Inv h' → lawEv ad 1660 [some (.ref (ad.1 20)), some (.ref B), some (.ref (B + 157)), some (.int (nI i))] [] h' (z.1 + mc, z.2 + ms)) : lawEv ad 1548 [some (.ref (ad.1 20)), some (.ref B), some (.ref (B + 157)), some (.int (nI i))] [] h z := by
  refine e_aload_n dL_law_1548 rfl ?_
  refine e_aload_n dL_law_1549 rfl ?_
  refine e_iload_n dL_law_1550 rfl ?_
  refine e_iconst (nI 1) dL_law_1551 rfl ?_
  refine e_iaddN dL_law_1552 ?_
  refine e_ildO dL_law_1553 (Or.inr rfl) rfl (vp_in_nI (by omega) (by omega)) (congrArg (ad.2.2 20) (nI_clamp (by omega))) ?_
  refine e_aload_n dL_law_1554 rfl ?_
  refine e_iload_n dL_law_1555 rfl ?_
  refine e_iconst (nI 2) dL_law_1556 rfl ?_
  refine e_iaddN dL_law_1557 ?_
  refine e_ildO dL_law_1558 (Or.inr rfl) rfl (vp_in_nI (by omega) (by omega)) (congrArg (ad.2.2 20) (nI_clamp (by omega))) ?_
  refine e_aload_n dL_law_1559 rfl ?_
  refine e_iload_n dL_law_1560 rfl ?_
  refine e_iconst (nI 3) dL_law_1561 rfl ?_
  refine e_iaddN dL_law_1562 ?_
  refine e_ildO dL_law_1563 (Or.inr rfl) rfl (vp_in_nI (by omega) (by omega)) (congrArg (ad.2.2 20) (nI_clamp (by omega))) ?_
  obtain ⟨mc, ms, hmc, hms, hop1⟩ := hop h hI
  refine e_callV [.int _, .int _, .int _] dL_law_1564 tm_13_151 rfl (Nat.le_of_ble_eq_true rfl) (hs h hI).1 (Nat.le_of_ble_eq_true rfl) (by omega) (by omega) rfl (mCal_mono ?_ hop1)
  rintro _ h1 ⟨r, rfl, hs1, hop2⟩
  refine e_aload_n dL_law_1567 rfl ?_
  refine e_aload_n dL_law_1568 rfl ?_
  refine e_iload_n dL_law_1569 rfl ?_
  refine e_iconst (nI 1) dL_law_1570 rfl ?_
  refine e_iaddN dL_law_1571 ?_
  refine e_ildO dL_law_1572 (Or.inr rfl) rfl (vp_in_nI (by omega) (by omega)) (congrArg (ad.2.2 20) (nI_clamp (by omega))) ?_
  refine e_aload_n dL_law_1573 rfl ?_
  refine e_iload_n dL_law_1574 rfl ?_
  refine e_iconst (nI 2) dL_law_1575 rfl ?_
  refine e_iaddN dL_law_1576 ?_
  refine e_ildO dL_law_1577 (Or.inr rfl) rfl (vp_in_nI (by omega) (by omega)) (congrArg (ad.2.2 20) (nI_clamp (by omega))) ?_
  refine e_aload_n dL_law_1578 rfl ?_
  refine e_iload_n dL_law_1579 rfl ?_
  refine e_iconst (nI 3) dL_law_1580 rfl ?_
  refine e_iaddN dL_law_1581 ?_
  refine e_ildO dL_law_1582 (Or.inr rfl) rfl (vp_in_nI (by omega) (by omega)) (congrArg (ad.2.2 20) (nI_clamp (by omega))) ?_
  refine e_callV [.int _, .int _, .int _] dL_law_1583 tm_13_154 rfl (Nat.le_of_ble_eq_true rfl) hs1 (Nat.le_of_ble_eq_true rfl) (by show z.1 + mc + 0 ≤ 600000; omega) (by show z.2 + ms + 0 ≤ 7302250; omega) rfl (mCal_mono ?_ hop2)
  rintro _ h2 ⟨rfl, hI2⟩
  exact e_icmp_eq 1660 dL_law_1586 rfl (fun _ => nxt h2 mc ms hmc hms hI2) (fun c => absurd rfl c)
set_option maxHeartbeats 2000000 in
theorem law_c33 {ad : mA} {B i : Nat} {z : Nat × Nat} {Inv : mH → Prop} {h : mH} (hs : ∀ h, Inv h → (mS h B).1 = 11 ∧ (mS h (B + 157)).1 = 12) (hi : i + 6 ≤ ad.2.1 20) (hL : ad.2.1 20 ≤ 3072) (hz1 : z.1 + 54 ≤ 600000) (hz2 : z.2 + 1113 ≤ 7302250) (hI : Inv h) (hop : opI ad B Inv M_X11_count M_X12_count [.int (ad.2.2 20 (i + 1))]) (nxt : ∀ h' mc ms, mc ≤ 54 → ms ≤ 1113 → Inv h' → lawEv ad 1660 [some (.ref (ad.1 20)), some (.ref B), some (.ref (B + 157)), some (.int (nI i))] [] h' (z.1 + mc, z.2 + ms)) : lawEv ad 1591 [some (.ref (ad.1 20)), some (.ref B), some (.ref (B + 157)), some (.int (nI i))] [] h z := by
  refine e_aload_n dL_law_1591 rfl ?_
  refine e_aload_n dL_law_1592 rfl ?_
  refine e_iload_n dL_law_1593 rfl ?_
  refine e_iconst (nI 1) dL_law_1594 rfl ?_
  refine e_iaddN dL_law_1595 ?_
  refine e_ildO dL_law_1596 (Or.inr rfl) rfl (vp_in_nI (by omega) (by omega)) (congrArg (ad.2.2 20) (nI_clamp (by omega))) ?_
  obtain ⟨mc, ms, hmc, hms, hop1⟩ := hop h hI
  refine e_callV [.int _] dL_law_1597 tm_13_155 rfl (Nat.le_of_ble_eq_true rfl) (hs h hI).1 (Nat.le_of_ble_eq_true rfl) (by omega) (by omega) rfl (mCal_mono ?_ hop1)
  rintro _ h1 ⟨r, rfl, hs1, hop2⟩
  refine e_aload_n dL_law_1600 rfl ?_
  refine e_aload_n dL_law_1601 rfl ?_
  refine e_iload_n dL_law_1602 rfl ?_
  refine e_iconst (nI 1) dL_law_1603 rfl ?_
  refine e_iaddN dL_law_1604 ?_
  refine e_ildO dL_law_1605 (Or.inr rfl) rfl (vp_in_nI (by omega) (by omega)) (congrArg (ad.2.2 20) (nI_clamp (by omega))) ?_
  refine e_callV [.int _] dL_law_1606 tm_13_158 rfl (Nat.le_of_ble_eq_true rfl) hs1 (Nat.le_of_ble_eq_true rfl) (by show z.1 + mc + 0 ≤ 600000; omega) (by show z.2 + ms + 0 ≤ 7302250; omega) rfl (mCal_mono ?_ hop2)
  rintro _ h2 ⟨rfl, hI2⟩
  exact e_icmp_eq 1660 dL_law_1609 rfl (fun _ => nxt h2 mc ms hmc hms hI2) (fun c => absurd rfl c)
set_option maxHeartbeats 2000000 in
theorem law_c34 {ad : mA} {B i : Nat} {z : Nat × Nat} {Inv : mH → Prop} {h : mH} (hs : ∀ h, Inv h → (mS h B).1 = 11 ∧ (mS h (B + 157)).1 = 12) (hi : i + 6 ≤ ad.2.1 20) (hL : ad.2.1 20 ≤ 3072) (hz1 : z.1 + 54 ≤ 600000) (hz2 : z.2 + 1113 ≤ 7302250) (hI : Inv h) (hop : opI ad B Inv M_X11_image M_X12_image [.int (ad.2.2 20 (i + 1))]) (nxt : ∀ h' mc ms, mc ≤ 54 → ms ≤ 1113 → Inv h' → lawEv ad 1660 [some (.ref (ad.1 20)), some (.ref B), some (.ref (B + 157)), some (.int (nI i))] [] h' (z.1 + mc, z.2 + ms)) : lawEv ad 1614 [some (.ref (ad.1 20)), some (.ref B), some (.ref (B + 157)), some (.int (nI i))] [] h z := by
  refine e_aload_n dL_law_1614 rfl ?_
  refine e_aload_n dL_law_1615 rfl ?_
  refine e_iload_n dL_law_1616 rfl ?_
  refine e_iconst (nI 1) dL_law_1617 rfl ?_
  refine e_iaddN dL_law_1618 ?_
  refine e_ildO dL_law_1619 (Or.inr rfl) rfl (vp_in_nI (by omega) (by omega)) (congrArg (ad.2.2 20) (nI_clamp (by omega))) ?_
  obtain ⟨mc, ms, hmc, hms, hop1⟩ := hop h hI
  refine e_callV [.int _] dL_law_1620 tm_13_159 rfl (Nat.le_of_ble_eq_true rfl) (hs h hI).1 (Nat.le_of_ble_eq_true rfl) (by omega) (by omega) rfl (mCal_mono ?_ hop1)
  rintro _ h1 ⟨r, rfl, hs1, hop2⟩
  refine e_aload_n dL_law_1623 rfl ?_
  refine e_aload_n dL_law_1624 rfl ?_
  refine e_iload_n dL_law_1625 rfl ?_
  refine e_iconst (nI 1) dL_law_1626 rfl ?_
  refine e_iaddN dL_law_1627 ?_
  refine e_ildO dL_law_1628 (Or.inr rfl) rfl (vp_in_nI (by omega) (by omega)) (congrArg (ad.2.2 20) (nI_clamp (by omega))) ?_
  refine e_callV [.int _] dL_law_1629 tm_13_163 rfl (Nat.le_of_ble_eq_true rfl) hs1 (Nat.le_of_ble_eq_true rfl) (by show z.1 + mc + 0 ≤ 600000; omega) (by show z.2 + ms + 0 ≤ 7302250; omega) rfl (mCal_mono ?_ hop2)
  rintro _ h2 ⟨rfl, hI2⟩
  exact e_icmp_eq 1660 dL_law_1632 rfl (fun _ => nxt h2 mc ms hmc hms hI2) (fun c => absurd rfl c)
set_option maxHeartbeats 2000000 in
theorem law_c35 {ad : mA} {B i : Nat} {z : Nat × Nat} {Inv : mH → Prop} {h : mH} (hs : ∀ h, Inv h → (mS h B).1 = 11 ∧ (mS h (B + 157)).1 = 12) (hi : i + 6 ≤ ad.2.1 20) (hL : ad.2.1 20 ≤ 3072) (hz1 : z.1 + 54 ≤ 600000) (hz2 : z.2 + 1113 ≤ 7302250) (hI : Inv h) (hop : opI ad B Inv M_X11_again M_X12_again [.int (ad.2.2 20 (i + 1))]) (nxt : ∀ h' mc ms, mc ≤ 54 → ms ≤ 1113 → Inv h' → lawEv ad 1660 [some (.ref (ad.1 20)), some (.ref B), some (.ref (B + 157)), some (.int (nI i))] [] h' (z.1 + mc, z.2 + ms)) : lawEv ad 1637 [some (.ref (ad.1 20)), some (.ref B), some (.ref (B + 157)), some (.int (nI i))] [] h z := by
  refine e_aload_n dL_law_1637 rfl ?_
  refine e_aload_n dL_law_1638 rfl ?_
  refine e_iload_n dL_law_1639 rfl ?_
  refine e_iconst (nI 1) dL_law_1640 rfl ?_
  refine e_iaddN dL_law_1641 ?_
  refine e_ildO dL_law_1642 (Or.inr rfl) rfl (vp_in_nI (by omega) (by omega)) (congrArg (ad.2.2 20) (nI_clamp (by omega))) ?_
  obtain ⟨mc, ms, hmc, hms, hop1⟩ := hop h hI
  refine e_callV [.int _] dL_law_1643 tm_13_164 rfl (Nat.le_of_ble_eq_true rfl) (hs h hI).1 (Nat.le_of_ble_eq_true rfl) (by omega) (by omega) rfl (mCal_mono ?_ hop1)
  rintro _ h1 ⟨r, rfl, hs1, hop2⟩
  refine e_aload_n dL_law_1646 rfl ?_
  refine e_aload_n dL_law_1647 rfl ?_
  refine e_iload_n dL_law_1648 rfl ?_
  refine e_iconst (nI 1) dL_law_1649 rfl ?_
  refine e_iaddN dL_law_1650 ?_
  refine e_ildO dL_law_1651 (Or.inr rfl) rfl (vp_in_nI (by omega) (by omega)) (congrArg (ad.2.2 20) (nI_clamp (by omega))) ?_
  refine e_callV [.int _] dL_law_1652 tm_13_167 rfl (Nat.le_of_ble_eq_true rfl) hs1 (Nat.le_of_ble_eq_true rfl) (by show z.1 + mc + 0 ≤ 600000; omega) (by show z.2 + ms + 0 ≤ 7302250; omega) rfl (mCal_mono ?_ hop2)
  rintro _ h2 ⟨rfl, hI2⟩
  exact e_icmp_eq 1660 dL_law_1655 rfl (fun _ => nxt h2 mc ms hmc hms hI2) (fun c => absurd rfl c)
