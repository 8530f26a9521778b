/-! THE LAW: every call, and the loop over the script -/
theorem f_176_0 : mj_fetch 176 0 = some (.new 8, 10, 0) := by decide +kernel
theorem f_176_3 : mj_fetch 176 3 = some (.dup, 0, 0) := by decide +kernel
theorem f_176_4 : mj_fetch 176 4 = some (.invokespecial 15, 67, 0) := by decide +kernel
theorem f_176_7 : mj_fetch 176 7 = some (.astore_n 1, 0, 0) := by decide +kernel
theorem f_176_8 : mj_fetch 176 8 = some (.new 16, 11, 0) := by decide +kernel
theorem f_176_11 : mj_fetch 176 11 = some (.dup, 0, 0) := by decide +kernel
theorem f_176_12 : mj_fetch 176 12 = some (.invokespecial 18, 113, 0) := by decide +kernel
theorem f_176_15 : mj_fetch 176 15 = some (.astore_n 2, 0, 0) := by decide +kernel
theorem f_176_16 : mj_fetch 176 16 = some (.iconst 1, 0, 0) := by decide +kernel
theorem f_176_17 : mj_fetch 176 17 = some (.newarray .long, 13, 0) := by decide +kernel
theorem f_176_19 : mj_fetch 176 19 = some (.astore_n 3, 0, 0) := by decide +kernel
theorem f_176_20 : mj_fetch 176 20 = some (.iconst 0, 0, 0) := by decide +kernel
theorem f_176_21 : mj_fetch 176 21 = some (.istore 4, 0, 0) := by decide +kernel
theorem f_176_23 : mj_fetch 176 23 = some (.iload 4, 0, 0) := by decide +kernel
theorem f_176_25 : mj_fetch 176 25 = some (.aload_n 0, 0, 0) := by decide +kernel
theorem f_176_26 : mj_fetch 176 26 = some (.arraylength, 0, 0) := by decide +kernel
theorem f_176_27 : mj_fetch 176 27 = some (.bipush 9, 0, 0) := by decide +kernel
theorem f_176_29 : mj_fetch 176 29 = some (.isub, 0, 0) := by decide +kernel
theorem f_176_30 : mj_fetch 176 30 = some (.if_icmp .gt 1330, 0, 0) := by decide +kernel
theorem f_176_33 : mj_fetch 176 33 = some (.aload_n 0, 0, 0) := by decide +kernel
theorem f_176_34 : mj_fetch 176 34 = some (.iload 4, 0, 0) := by decide +kernel
theorem f_176_36 : mj_fetch 176 36 = some (.iaload, 0, 0) := by decide +kernel
theorem f_176_37 : mj_fetch 176 37 = some (.bipush 31, 0, 0) := by decide +kernel
theorem f_176_39 : mj_fetch 176 39 = some (.iand, 0, 0) := by decide +kernel
theorem f_176_40 : mj_fetch 176 40 = some (.tableswitch 1314 0 30 #[140, 165, 280, 317, 366, 434, 483, 520, 581, 618, 655, 704, 729, 754, 791, 816, 841, 878, 903, 928, 965, 1002, 1039, 1076, 1129, 1166, 1191, 1216, 1253, 1264, 1289], 0, 0) := by decide +kernel
theorem f_176_180 : mj_fetch 176 180 = some (.aload_n 1, 0, 0) := by decide +kernel
theorem f_176_181 : mj_fetch 176 181 = some (.aload_n 0, 0, 0) := by decide +kernel
theorem f_176_182 : mj_fetch 176 182 = some (.iload 4, 0, 0) := by decide +kernel
theorem f_176_184 : mj_fetch 176 184 = some (.iconst 1, 0, 0) := by decide +kernel
theorem f_176_185 : mj_fetch 176 185 = some (.iadd, 0, 0) := by decide +kernel
theorem f_176_186 : mj_fetch 176 186 = some (.iaload, 0, 0) := by decide +kernel
theorem f_176_187 : mj_fetch 176 187 = some (.invokevirtual 19, 68, 0) := by decide +kernel
theorem f_176_190 : mj_fetch 176 190 = some (.aload_n 2, 0, 0) := by decide +kernel
theorem f_176_191 : mj_fetch 176 191 = some (.aload_n 0, 0, 0) := by decide +kernel
theorem f_176_192 : mj_fetch 176 192 = some (.iload 4, 0, 0) := by decide +kernel
theorem f_176_194 : mj_fetch 176 194 = some (.iconst 1, 0, 0) := by decide +kernel
theorem f_176_195 : mj_fetch 176 195 = some (.iadd, 0, 0) := by decide +kernel
theorem f_176_196 : mj_fetch 176 196 = some (.iaload, 0, 0) := by decide +kernel
theorem f_176_197 : mj_fetch 176 197 = some (.invokevirtual 23, 115, 0) := by decide +kernel
theorem f_176_200 : mj_fetch 176 200 = some (.if_icmp .eq 1154, 0, 0) := by decide +kernel
theorem f_176_203 : mj_fetch 176 203 = some (.iconst 0, 0, 0) := by decide +kernel
theorem f_176_204 : mj_fetch 176 204 = some (.ireturn, 0, 0) := by decide +kernel
theorem f_176_205 : mj_fetch 176 205 = some (.aload_n 1, 0, 0) := by decide +kernel
theorem f_176_206 : mj_fetch 176 206 = some (.aload_n 0, 0, 0) := by decide +kernel
theorem f_176_207 : mj_fetch 176 207 = some (.iload 4, 0, 0) := by decide +kernel
theorem f_176_209 : mj_fetch 176 209 = some (.iconst 1, 0, 0) := by decide +kernel
theorem f_176_210 : mj_fetch 176 210 = some (.iadd, 0, 0) := by decide +kernel
theorem f_176_211 : mj_fetch 176 211 = some (.iaload, 0, 0) := by decide +kernel
theorem f_176_212 : mj_fetch 176 212 = some (.aload_n 0, 0, 0) := by decide +kernel
theorem f_176_213 : mj_fetch 176 213 = some (.iload 4, 0, 0) := by decide +kernel
theorem f_176_215 : mj_fetch 176 215 = some (.iconst 2, 0, 0) := by decide +kernel
theorem f_176_216 : mj_fetch 176 216 = some (.iadd, 0, 0) := by decide +kernel
theorem f_176_217 : mj_fetch 176 217 = some (.iaload, 0, 0) := by decide +kernel
theorem f_176_218 : mj_fetch 176 218 = some (.aload_n 0, 0, 0) := by decide +kernel
theorem f_176_219 : mj_fetch 176 219 = some (.iload 4, 0, 0) := by decide +kernel
theorem f_176_221 : mj_fetch 176 221 = some (.iconst 3, 0, 0) := by decide +kernel
theorem f_176_222 : mj_fetch 176 222 = some (.iadd, 0, 0) := by decide +kernel
theorem f_176_223 : mj_fetch 176 223 = some (.iaload, 0, 0) := by decide +kernel
theorem f_176_224 : mj_fetch 176 224 = some (.aload_n 0, 0, 0) := by decide +kernel
theorem f_176_225 : mj_fetch 176 225 = some (.iload 4, 0, 0) := by decide +kernel
theorem f_176_227 : mj_fetch 176 227 = some (.iconst 4, 0, 0) := by decide +kernel
theorem f_176_228 : mj_fetch 176 228 = some (.iadd, 0, 0) := by decide +kernel
theorem f_176_229 : mj_fetch 176 229 = some (.iaload, 0, 0) := by decide +kernel
theorem f_176_230 : mj_fetch 176 230 = some (.aload_n 0, 0, 0) := by decide +kernel
theorem f_176_231 : mj_fetch 176 231 = some (.iload 4, 0, 0) := by decide +kernel
theorem f_176_233 : mj_fetch 176 233 = some (.iconst 5, 0, 0) := by decide +kernel
theorem f_176_234 : mj_fetch 176 234 = some (.iadd, 0, 0) := by decide +kernel
theorem f_176_235 : mj_fetch 176 235 = some (.iaload, 0, 0) := by decide +kernel
theorem f_176_236 : mj_fetch 176 236 = some (.aload_n 0, 0, 0) := by decide +kernel
theorem f_176_237 : mj_fetch 176 237 = some (.iload 4, 0, 0) := by decide +kernel
theorem f_176_239 : mj_fetch 176 239 = some (.bipush 6, 0, 0) := by decide +kernel
theorem f_176_241 : mj_fetch 176 241 = some (.iadd, 0, 0) := by decide +kernel
theorem f_176_242 : mj_fetch 176 242 = some (.iaload, 0, 0) := by decide +kernel
theorem f_176_243 : mj_fetch 176 243 = some (.aload_n 0, 0, 0) := by decide +kernel
theorem f_176_244 : mj_fetch 176 244 = some (.iload 4, 0, 0) := by decide +kernel
theorem f_176_246 : mj_fetch 176 246 = some (.bipush 7, 0, 0) := by decide +kernel
theorem f_176_248 : mj_fetch 176 248 = some (.iadd, 0, 0) := by decide +kernel
theorem f_176_249 : mj_fetch 176 249 = some (.iaload, 0, 0) := by decide +kernel
theorem f_176_250 : mj_fetch 176 250 = some (.aload_n 0, 0, 0) := by decide +kernel
theorem f_176_251 : mj_fetch 176 251 = some (.iload 4, 0, 0) := by decide +kernel
theorem f_176_253 : mj_fetch 176 253 = some (.bipush 8, 0, 0) := by decide +kernel
theorem f_176_255 : mj_fetch 176 255 = some (.iadd, 0, 0) := by decide +kernel
theorem f_176_256 : mj_fetch 176 256 = some (.iaload, 0, 0) := by decide +kernel
theorem f_176_257 : mj_fetch 176 257 = some (.invokevirtual 24, 69, 0) := by decide +kernel
theorem f_176_260 : mj_fetch 176 260 = some (.aload_n 2, 0, 0) := by decide +kernel
theorem f_176_261 : mj_fetch 176 261 = some (.aload_n 0, 0, 0) := by decide +kernel
theorem f_176_262 : mj_fetch 176 262 = some (.iload 4, 0, 0) := by decide +kernel
theorem f_176_264 : mj_fetch 176 264 = some (.iconst 1, 0, 0) := by decide +kernel
theorem f_176_265 : mj_fetch 176 265 = some (.iadd, 0, 0) := by decide +kernel
theorem f_176_266 : mj_fetch 176 266 = some (.iaload, 0, 0) := by decide +kernel
theorem f_176_267 : mj_fetch 176 267 = some (.aload_n 0, 0, 0) := by decide +kernel
theorem f_176_268 : mj_fetch 176 268 = some (.iload 4, 0, 0) := by decide +kernel
theorem f_176_270 : mj_fetch 176 270 = some (.iconst 2, 0, 0) := by decide +kernel
theorem f_176_271 : mj_fetch 176 271 = some (.iadd, 0, 0) := by decide +kernel
theorem f_176_272 : mj_fetch 176 272 = some (.iaload, 0, 0) := by decide +kernel
theorem f_176_273 : mj_fetch 176 273 = some (.aload_n 0, 0, 0) := by decide +kernel
theorem f_176_274 : mj_fetch 176 274 = some (.iload 4, 0, 0) := by decide +kernel
theorem f_176_276 : mj_fetch 176 276 = some (.iconst 3, 0, 0) := by decide +kernel
theorem f_176_277 : mj_fetch 176 277 = some (.iadd, 0, 0) := by decide +kernel
theorem f_176_278 : mj_fetch 176 278 = some (.iaload, 0, 0) := by decide +kernel
theorem f_176_279 : mj_fetch 176 279 = some (.aload_n 0, 0, 0) := by decide +kernel
theorem f_176_280 : mj_fetch 176 280 = some (.iload 4, 0, 0) := by decide +kernel
theorem f_176_282 : mj_fetch 176 282 = some (.iconst 4, 0, 0) := by decide +kernel
theorem f_176_283 : mj_fetch 176 283 = some (.iadd, 0, 0) := by decide +kernel
theorem f_176_284 : mj_fetch 176 284 = some (.iaload, 0, 0) := by decide +kernel
theorem f_176_285 : mj_fetch 176 285 = some (.aload_n 0, 0, 0) := by decide +kernel
theorem f_176_286 : mj_fetch 176 286 = some (.iload 4, 0, 0) := by decide +kernel
theorem f_176_288 : mj_fetch 176 288 = some (.iconst 5, 0, 0) := by decide +kernel
theorem f_176_289 : mj_fetch 176 289 = some (.iadd, 0, 0) := by decide +kernel
theorem f_176_290 : mj_fetch 176 290 = some (.iaload, 0, 0) := by decide +kernel
theorem f_176_291 : mj_fetch 176 291 = some (.aload_n 0, 0, 0) := by decide +kernel
theorem f_176_292 : mj_fetch 176 292 = some (.iload 4, 0, 0) := by decide +kernel
theorem f_176_294 : mj_fetch 176 294 = some (.bipush 6, 0, 0) := by decide +kernel
theorem f_176_296 : mj_fetch 176 296 = some (.iadd, 0, 0) := by decide +kernel
theorem f_176_297 : mj_fetch 176 297 = some (.iaload, 0, 0) := by decide +kernel
theorem f_176_298 : mj_fetch 176 298 = some (.aload_n 0, 0, 0) := by decide +kernel
theorem f_176_299 : mj_fetch 176 299 = some (.iload 4, 0, 0) := by decide +kernel
theorem f_176_301 : mj_fetch 176 301 = some (.bipush 7, 0, 0) := by decide +kernel
theorem f_176_303 : mj_fetch 176 303 = some (.iadd, 0, 0) := by decide +kernel
theorem f_176_304 : mj_fetch 176 304 = some (.iaload, 0, 0) := by decide +kernel
theorem f_176_305 : mj_fetch 176 305 = some (.aload_n 0, 0, 0) := by decide +kernel
theorem f_176_306 : mj_fetch 176 306 = some (.iload 4, 0, 0) := by decide +kernel
theorem f_176_308 : mj_fetch 176 308 = some (.bipush 8, 0, 0) := by decide +kernel
theorem f_176_310 : mj_fetch 176 310 = some (.iadd, 0, 0) := by decide +kernel
theorem f_176_311 : mj_fetch 176 311 = some (.iaload, 0, 0) := by decide +kernel
theorem f_176_312 : mj_fetch 176 312 = some (.invokevirtual 28, 119, 0) := by decide +kernel
theorem f_176_315 : mj_fetch 176 315 = some (.if_icmp .eq 1039, 0, 0) := by decide +kernel
theorem f_176_318 : mj_fetch 176 318 = some (.iconst 0, 0, 0) := by decide +kernel
theorem f_176_319 : mj_fetch 176 319 = some (.ireturn, 0, 0) := by decide +kernel
theorem f_176_320 : mj_fetch 176 320 = some (.aload_n 1, 0, 0) := by decide +kernel
theorem f_176_321 : mj_fetch 176 321 = some (.aload_n 0, 0, 0) := by decide +kernel
theorem f_176_322 : mj_fetch 176 322 = some (.iload 4, 0, 0) := by decide +kernel
theorem f_176_324 : mj_fetch 176 324 = some (.iconst 1, 0, 0) := by decide +kernel
theorem f_176_325 : mj_fetch 176 325 = some (.iadd, 0, 0) := by decide +kernel
theorem f_176_326 : mj_fetch 176 326 = some (.iaload, 0, 0) := by decide +kernel
theorem f_176_327 : mj_fetch 176 327 = some (.aload_n 0, 0, 0) := by decide +kernel
theorem f_176_328 : mj_fetch 176 328 = some (.iload 4, 0, 0) := by decide +kernel
theorem f_176_330 : mj_fetch 176 330 = some (.iconst 2, 0, 0) := by decide +kernel
theorem f_176_331 : mj_fetch 176 331 = some (.iadd, 0, 0) := by decide +kernel
theorem f_176_332 : mj_fetch 176 332 = some (.iaload, 0, 0) := by decide +kernel
theorem f_176_333 : mj_fetch 176 333 = some (.invokevirtual 29, 70, 0) := by decide +kernel
theorem f_176_336 : mj_fetch 176 336 = some (.aload_n 2, 0, 0) := by decide +kernel
theorem f_176_337 : mj_fetch 176 337 = some (.aload_n 0, 0, 0) := by decide +kernel
theorem f_176_338 : mj_fetch 176 338 = some (.iload 4, 0, 0) := by decide +kernel
theorem f_176_340 : mj_fetch 176 340 = some (.iconst 1, 0, 0) := by decide +kernel
theorem f_176_341 : mj_fetch 176 341 = some (.iadd, 0, 0) := by decide +kernel
theorem f_176_342 : mj_fetch 176 342 = some (.iaload, 0, 0) := by decide +kernel
theorem f_176_343 : mj_fetch 176 343 = some (.aload_n 0, 0, 0) := by decide +kernel
theorem f_176_344 : mj_fetch 176 344 = some (.iload 4, 0, 0) := by decide +kernel
theorem f_176_346 : mj_fetch 176 346 = some (.iconst 2, 0, 0) := by decide +kernel
theorem f_176_347 : mj_fetch 176 347 = some (.iadd, 0, 0) := by decide +kernel
theorem f_176_348 : mj_fetch 176 348 = some (.iaload, 0, 0) := by decide +kernel
theorem f_176_349 : mj_fetch 176 349 = some (.invokevirtual 33, 120, 0) := by decide +kernel
theorem f_176_352 : mj_fetch 176 352 = some (.if_icmp .eq 1002, 0, 0) := by decide +kernel
theorem f_176_355 : mj_fetch 176 355 = some (.iconst 0, 0, 0) := by decide +kernel
theorem f_176_356 : mj_fetch 176 356 = some (.ireturn, 0, 0) := by decide +kernel
theorem f_176_357 : mj_fetch 176 357 = some (.aload_n 1, 0, 0) := by decide +kernel
theorem f_176_358 : mj_fetch 176 358 = some (.aload_n 0, 0, 0) := by decide +kernel
theorem f_176_359 : mj_fetch 176 359 = some (.iload 4, 0, 0) := by decide +kernel
theorem f_176_361 : mj_fetch 176 361 = some (.iconst 1, 0, 0) := by decide +kernel
theorem f_176_362 : mj_fetch 176 362 = some (.iadd, 0, 0) := by decide +kernel
theorem f_176_363 : mj_fetch 176 363 = some (.iaload, 0, 0) := by decide +kernel
theorem f_176_364 : mj_fetch 176 364 = some (.aload_n 0, 0, 0) := by decide +kernel
theorem f_176_365 : mj_fetch 176 365 = some (.iload 4, 0, 0) := by decide +kernel
theorem f_176_367 : mj_fetch 176 367 = some (.iconst 2, 0, 0) := by decide +kernel
theorem f_176_368 : mj_fetch 176 368 = some (.iadd, 0, 0) := by decide +kernel
theorem f_176_369 : mj_fetch 176 369 = some (.iaload, 0, 0) := by decide +kernel
theorem f_176_370 : mj_fetch 176 370 = some (.aload_n 0, 0, 0) := by decide +kernel
theorem f_176_371 : mj_fetch 176 371 = some (.iload 4, 0, 0) := by decide +kernel
theorem f_176_373 : mj_fetch 176 373 = some (.iconst 3, 0, 0) := by decide +kernel
theorem f_176_374 : mj_fetch 176 374 = some (.iadd, 0, 0) := by decide +kernel
theorem f_176_375 : mj_fetch 176 375 = some (.iaload, 0, 0) := by decide +kernel
theorem f_176_376 : mj_fetch 176 376 = some (.invokevirtual 34, 71, 0) := by decide +kernel
theorem f_176_379 : mj_fetch 176 379 = some (.aload_n 2, 0, 0) := by decide +kernel
theorem f_176_380 : mj_fetch 176 380 = some (.aload_n 0, 0, 0) := by decide +kernel
theorem f_176_381 : mj_fetch 176 381 = some (.iload 4, 0, 0) := by decide +kernel
theorem f_176_383 : mj_fetch 176 383 = some (.iconst 1, 0, 0) := by decide +kernel
theorem f_176_384 : mj_fetch 176 384 = some (.iadd, 0, 0) := by decide +kernel
theorem f_176_385 : mj_fetch 176 385 = some (.iaload, 0, 0) := by decide +kernel
theorem f_176_386 : mj_fetch 176 386 = some (.aload_n 0, 0, 0) := by decide +kernel
theorem f_176_387 : mj_fetch 176 387 = some (.iload 4, 0, 0) := by decide +kernel
theorem f_176_389 : mj_fetch 176 389 = some (.iconst 2, 0, 0) := by decide +kernel
theorem f_176_390 : mj_fetch 176 390 = some (.iadd, 0, 0) := by decide +kernel
theorem f_176_391 : mj_fetch 176 391 = some (.iaload, 0, 0) := by decide +kernel
theorem f_176_392 : mj_fetch 176 392 = some (.aload_n 0, 0, 0) := by decide +kernel
theorem f_176_393 : mj_fetch 176 393 = some (.iload 4, 0, 0) := by decide +kernel
theorem f_176_395 : mj_fetch 176 395 = some (.iconst 3, 0, 0) := by decide +kernel
theorem f_176_396 : mj_fetch 176 396 = some (.iadd, 0, 0) := by decide +kernel
theorem f_176_397 : mj_fetch 176 397 = some (.iaload, 0, 0) := by decide +kernel
theorem f_176_398 : mj_fetch 176 398 = some (.invokevirtual 38, 121, 0) := by decide +kernel
theorem f_176_401 : mj_fetch 176 401 = some (.if_icmp .eq 953, 0, 0) := by decide +kernel
theorem f_176_404 : mj_fetch 176 404 = some (.iconst 0, 0, 0) := by decide +kernel
theorem f_176_405 : mj_fetch 176 405 = some (.ireturn, 0, 0) := by decide +kernel
theorem f_176_406 : mj_fetch 176 406 = some (.aload_n 1, 0, 0) := by decide +kernel
theorem f_176_407 : mj_fetch 176 407 = some (.aload_n 0, 0, 0) := by decide +kernel
theorem f_176_408 : mj_fetch 176 408 = some (.iload 4, 0, 0) := by decide +kernel
theorem f_176_410 : mj_fetch 176 410 = some (.iconst 1, 0, 0) := by decide +kernel
theorem f_176_411 : mj_fetch 176 411 = some (.iadd, 0, 0) := by decide +kernel
theorem f_176_412 : mj_fetch 176 412 = some (.iaload, 0, 0) := by decide +kernel
theorem f_176_413 : mj_fetch 176 413 = some (.aload_n 0, 0, 0) := by decide +kernel
theorem f_176_414 : mj_fetch 176 414 = some (.iload 4, 0, 0) := by decide +kernel
theorem f_176_416 : mj_fetch 176 416 = some (.iconst 2, 0, 0) := by decide +kernel
theorem f_176_417 : mj_fetch 176 417 = some (.iadd, 0, 0) := by decide +kernel
theorem f_176_418 : mj_fetch 176 418 = some (.iaload, 0, 0) := by decide +kernel
theorem f_176_419 : mj_fetch 176 419 = some (.aload_n 3, 0, 0) := by decide +kernel
theorem f_176_420 : mj_fetch 176 420 = some (.invokestatic 39, 175, 6) := by decide +kernel
theorem f_176_423 : mj_fetch 176 423 = some (.istore 5, 0, 0) := by decide +kernel
theorem f_176_425 : mj_fetch 176 425 = some (.aload_n 2, 0, 0) := by decide +kernel
theorem f_176_426 : mj_fetch 176 426 = some (.aload_n 0, 0, 0) := by decide +kernel
theorem f_176_427 : mj_fetch 176 427 = some (.iload 4, 0, 0) := by decide +kernel
theorem f_176_429 : mj_fetch 176 429 = some (.iconst 1, 0, 0) := by decide +kernel
theorem f_176_430 : mj_fetch 176 430 = some (.iadd, 0, 0) := by decide +kernel
theorem f_176_431 : mj_fetch 176 431 = some (.iaload, 0, 0) := by decide +kernel
theorem f_176_432 : mj_fetch 176 432 = some (.aload_n 0, 0, 0) := by decide +kernel
theorem f_176_433 : mj_fetch 176 433 = some (.iload 4, 0, 0) := by decide +kernel
theorem f_176_435 : mj_fetch 176 435 = some (.iconst 2, 0, 0) := by decide +kernel
theorem f_176_436 : mj_fetch 176 436 = some (.iadd, 0, 0) := by decide +kernel
theorem f_176_437 : mj_fetch 176 437 = some (.iaload, 0, 0) := by decide +kernel
theorem f_176_438 : mj_fetch 176 438 = some (.invokevirtual 44, 122, 0) := by decide +kernel
theorem f_176_441 : mj_fetch 176 441 = some (.istore 6, 0, 0) := by decide +kernel
theorem f_176_443 : mj_fetch 176 443 = some (.aload_n 2, 0, 0) := by decide +kernel
theorem f_176_444 : mj_fetch 176 444 = some (.invokevirtual 45, 114, 0) := by decide +kernel
theorem f_176_447 : mj_fetch 176 447 = some (.iload 5, 0, 0) := by decide +kernel
theorem f_176_449 : mj_fetch 176 449 = some (.if_icmp .eq 5, 0, 0) := by decide +kernel
theorem f_176_452 : mj_fetch 176 452 = some (.iconst 0, 0, 0) := by decide +kernel
theorem f_176_453 : mj_fetch 176 453 = some (.ireturn, 0, 0) := by decide +kernel
theorem f_176_454 : mj_fetch 176 454 = some (.iload 5, 0, 0) := by decide +kernel
theorem f_176_456 : mj_fetch 176 456 = some (.ifCond .ne 15, 0, 0) := by decide +kernel
theorem f_176_459 : mj_fetch 176 459 = some (.aload_n 3, 0, 0) := by decide +kernel
theorem f_176_460 : mj_fetch 176 460 = some (.iconst 0, 0, 0) := by decide +kernel
theorem f_176_461 : mj_fetch 176 461 = some (.laload, 0, 0) := by decide +kernel
theorem f_176_462 : mj_fetch 176 462 = some (.iload 6, 0, 0) := by decide +kernel
theorem f_176_464 : mj_fetch 176 464 = some (.i2l, 0, 0) := by decide +kernel
theorem f_176_465 : mj_fetch 176 465 = some (.lcmp, 0, 0) := by decide +kernel
theorem f_176_466 : mj_fetch 176 466 = some (.ifCond .eq 5, 0, 0) := by decide +kernel
theorem f_176_469 : mj_fetch 176 469 = some (.iconst 0, 0, 0) := by decide +kernel
theorem f_176_470 : mj_fetch 176 470 = some (.ireturn, 0, 0) := by decide +kernel
theorem f_176_471 : mj_fetch 176 471 = some (.goto 883, 0, 0) := by decide +kernel
theorem f_176_474 : mj_fetch 176 474 = some (.aload_n 1, 0, 0) := by decide +kernel
theorem f_176_475 : mj_fetch 176 475 = some (.aload_n 0, 0, 0) := by decide +kernel
theorem f_176_476 : mj_fetch 176 476 = some (.iload 4, 0, 0) := by decide +kernel
theorem f_176_478 : mj_fetch 176 478 = some (.iconst 1, 0, 0) := by decide +kernel
theorem f_176_479 : mj_fetch 176 479 = some (.iadd, 0, 0) := by decide +kernel
theorem f_176_480 : mj_fetch 176 480 = some (.iaload, 0, 0) := by decide +kernel
theorem f_176_481 : mj_fetch 176 481 = some (.aload_n 0, 0, 0) := by decide +kernel
theorem f_176_482 : mj_fetch 176 482 = some (.iload 4, 0, 0) := by decide +kernel
theorem f_176_484 : mj_fetch 176 484 = some (.iconst 2, 0, 0) := by decide +kernel
theorem f_176_485 : mj_fetch 176 485 = some (.iadd, 0, 0) := by decide +kernel
theorem f_176_486 : mj_fetch 176 486 = some (.iaload, 0, 0) := by decide +kernel
theorem f_176_487 : mj_fetch 176 487 = some (.aload_n 0, 0, 0) := by decide +kernel
theorem f_176_488 : mj_fetch 176 488 = some (.iload 4, 0, 0) := by decide +kernel
theorem f_176_490 : mj_fetch 176 490 = some (.iconst 3, 0, 0) := by decide +kernel
theorem f_176_491 : mj_fetch 176 491 = some (.iadd, 0, 0) := by decide +kernel
theorem f_176_492 : mj_fetch 176 492 = some (.iaload, 0, 0) := by decide +kernel
theorem f_176_493 : mj_fetch 176 493 = some (.invokevirtual 49, 73, 0) := by decide +kernel
theorem f_176_496 : mj_fetch 176 496 = some (.aload_n 2, 0, 0) := by decide +kernel
theorem f_176_497 : mj_fetch 176 497 = some (.aload_n 0, 0, 0) := by decide +kernel
theorem f_176_498 : mj_fetch 176 498 = some (.iload 4, 0, 0) := by decide +kernel
theorem f_176_500 : mj_fetch 176 500 = some (.iconst 1, 0, 0) := by decide +kernel
theorem f_176_501 : mj_fetch 176 501 = some (.iadd, 0, 0) := by decide +kernel
theorem f_176_502 : mj_fetch 176 502 = some (.iaload, 0, 0) := by decide +kernel
theorem f_176_503 : mj_fetch 176 503 = some (.aload_n 0, 0, 0) := by decide +kernel
theorem f_176_504 : mj_fetch 176 504 = some (.iload 4, 0, 0) := by decide +kernel
theorem f_176_506 : mj_fetch 176 506 = some (.iconst 2, 0, 0) := by decide +kernel
theorem f_176_507 : mj_fetch 176 507 = some (.iadd, 0, 0) := by decide +kernel
theorem f_176_508 : mj_fetch 176 508 = some (.iaload, 0, 0) := by decide +kernel
theorem f_176_509 : mj_fetch 176 509 = some (.aload_n 0, 0, 0) := by decide +kernel
theorem f_176_510 : mj_fetch 176 510 = some (.iload 4, 0, 0) := by decide +kernel
theorem f_176_512 : mj_fetch 176 512 = some (.iconst 3, 0, 0) := by decide +kernel
theorem f_176_513 : mj_fetch 176 513 = some (.iadd, 0, 0) := by decide +kernel
theorem f_176_514 : mj_fetch 176 514 = some (.iaload, 0, 0) := by decide +kernel
theorem f_176_515 : mj_fetch 176 515 = some (.invokevirtual 52, 123, 0) := by decide +kernel
theorem f_176_518 : mj_fetch 176 518 = some (.if_icmp .eq 836, 0, 0) := by decide +kernel
theorem f_176_521 : mj_fetch 176 521 = some (.iconst 0, 0, 0) := by decide +kernel
theorem f_176_522 : mj_fetch 176 522 = some (.ireturn, 0, 0) := by decide +kernel
theorem f_176_523 : mj_fetch 176 523 = some (.aload_n 1, 0, 0) := by decide +kernel
theorem f_176_524 : mj_fetch 176 524 = some (.aload_n 0, 0, 0) := by decide +kernel
theorem f_176_525 : mj_fetch 176 525 = some (.iload 4, 0, 0) := by decide +kernel
theorem f_176_527 : mj_fetch 176 527 = some (.iconst 1, 0, 0) := by decide +kernel
theorem f_176_528 : mj_fetch 176 528 = some (.iadd, 0, 0) := by decide +kernel
theorem f_176_529 : mj_fetch 176 529 = some (.iaload, 0, 0) := by decide +kernel
theorem f_176_530 : mj_fetch 176 530 = some (.aload_n 0, 0, 0) := by decide +kernel
theorem f_176_531 : mj_fetch 176 531 = some (.iload 4, 0, 0) := by decide +kernel
theorem f_176_533 : mj_fetch 176 533 = some (.iconst 2, 0, 0) := by decide +kernel
theorem f_176_534 : mj_fetch 176 534 = some (.iadd, 0, 0) := by decide +kernel
theorem f_176_535 : mj_fetch 176 535 = some (.iaload, 0, 0) := by decide +kernel
theorem f_176_536 : mj_fetch 176 536 = some (.invokevirtual 53, 74, 0) := by decide +kernel
theorem f_176_539 : mj_fetch 176 539 = some (.aload_n 2, 0, 0) := by decide +kernel
theorem f_176_540 : mj_fetch 176 540 = some (.aload_n 0, 0, 0) := by decide +kernel
theorem f_176_541 : mj_fetch 176 541 = some (.iload 4, 0, 0) := by decide +kernel
theorem f_176_543 : mj_fetch 176 543 = some (.iconst 1, 0, 0) := by decide +kernel
theorem f_176_544 : mj_fetch 176 544 = some (.iadd, 0, 0) := by decide +kernel
theorem f_176_545 : mj_fetch 176 545 = some (.iaload, 0, 0) := by decide +kernel
theorem f_176_546 : mj_fetch 176 546 = some (.aload_n 0, 0, 0) := by decide +kernel
theorem f_176_547 : mj_fetch 176 547 = some (.iload 4, 0, 0) := by decide +kernel
theorem f_176_549 : mj_fetch 176 549 = some (.iconst 2, 0, 0) := by decide +kernel
theorem f_176_550 : mj_fetch 176 550 = some (.iadd, 0, 0) := by decide +kernel
theorem f_176_551 : mj_fetch 176 551 = some (.iaload, 0, 0) := by decide +kernel
theorem f_176_552 : mj_fetch 176 552 = some (.invokevirtual 56, 133, 0) := by decide +kernel
theorem f_176_555 : mj_fetch 176 555 = some (.if_icmp .eq 799, 0, 0) := by decide +kernel
theorem f_176_558 : mj_fetch 176 558 = some (.iconst 0, 0, 0) := by decide +kernel
theorem f_176_559 : mj_fetch 176 559 = some (.ireturn, 0, 0) := by decide +kernel
theorem f_176_560 : mj_fetch 176 560 = some (.aload_n 1, 0, 0) := by decide +kernel
theorem f_176_561 : mj_fetch 176 561 = some (.aload_n 0, 0, 0) := by decide +kernel
theorem f_176_562 : mj_fetch 176 562 = some (.iload 4, 0, 0) := by decide +kernel
theorem f_176_564 : mj_fetch 176 564 = some (.iconst 1, 0, 0) := by decide +kernel
theorem f_176_565 : mj_fetch 176 565 = some (.iadd, 0, 0) := by decide +kernel
theorem f_176_566 : mj_fetch 176 566 = some (.iaload, 0, 0) := by decide +kernel
theorem f_176_567 : mj_fetch 176 567 = some (.aload_n 0, 0, 0) := by decide +kernel
theorem f_176_568 : mj_fetch 176 568 = some (.iload 4, 0, 0) := by decide +kernel
theorem f_176_570 : mj_fetch 176 570 = some (.iconst 2, 0, 0) := by decide +kernel
theorem f_176_571 : mj_fetch 176 571 = some (.iadd, 0, 0) := by decide +kernel
theorem f_176_572 : mj_fetch 176 572 = some (.iaload, 0, 0) := by decide +kernel
theorem f_176_573 : mj_fetch 176 573 = some (.aload_n 0, 0, 0) := by decide +kernel
theorem f_176_574 : mj_fetch 176 574 = some (.iload 4, 0, 0) := by decide +kernel
theorem f_176_576 : mj_fetch 176 576 = some (.iconst 3, 0, 0) := by decide +kernel
theorem f_176_577 : mj_fetch 176 577 = some (.iadd, 0, 0) := by decide +kernel
theorem f_176_578 : mj_fetch 176 578 = some (.iaload, 0, 0) := by decide +kernel
theorem f_176_579 : mj_fetch 176 579 = some (.aload_n 0, 0, 0) := by decide +kernel
theorem f_176_580 : mj_fetch 176 580 = some (.iload 4, 0, 0) := by decide +kernel
theorem f_176_582 : mj_fetch 176 582 = some (.iconst 4, 0, 0) := by decide +kernel
theorem f_176_583 : mj_fetch 176 583 = some (.iadd, 0, 0) := by decide +kernel
theorem f_176_584 : mj_fetch 176 584 = some (.iaload, 0, 0) := by decide +kernel
theorem f_176_585 : mj_fetch 176 585 = some (.invokevirtual 57, 75, 0) := by decide +kernel
theorem f_176_588 : mj_fetch 176 588 = some (.aload_n 2, 0, 0) := by decide +kernel
theorem f_176_589 : mj_fetch 176 589 = some (.aload_n 0, 0, 0) := by decide +kernel
theorem f_176_590 : mj_fetch 176 590 = some (.iload 4, 0, 0) := by decide +kernel
theorem f_176_592 : mj_fetch 176 592 = some (.iconst 1, 0, 0) := by decide +kernel
theorem f_176_593 : mj_fetch 176 593 = some (.iadd, 0, 0) := by decide +kernel
theorem f_176_594 : mj_fetch 176 594 = some (.iaload, 0, 0) := by decide +kernel
theorem f_176_595 : mj_fetch 176 595 = some (.aload_n 0, 0, 0) := by decide +kernel
theorem f_176_596 : mj_fetch 176 596 = some (.iload 4, 0, 0) := by decide +kernel
theorem f_176_598 : mj_fetch 176 598 = some (.iconst 2, 0, 0) := by decide +kernel
theorem f_176_599 : mj_fetch 176 599 = some (.iadd, 0, 0) := by decide +kernel
theorem f_176_600 : mj_fetch 176 600 = some (.iaload, 0, 0) := by decide +kernel
theorem f_176_601 : mj_fetch 176 601 = some (.aload_n 0, 0, 0) := by decide +kernel
theorem f_176_602 : mj_fetch 176 602 = some (.iload 4, 0, 0) := by decide +kernel
theorem f_176_604 : mj_fetch 176 604 = some (.iconst 3, 0, 0) := by decide +kernel
theorem f_176_605 : mj_fetch 176 605 = some (.iadd, 0, 0) := by decide +kernel
theorem f_176_606 : mj_fetch 176 606 = some (.iaload, 0, 0) := by decide +kernel
theorem f_176_607 : mj_fetch 176 607 = some (.aload_n 0, 0, 0) := by decide +kernel
theorem f_176_608 : mj_fetch 176 608 = some (.iload 4, 0, 0) := by decide +kernel
theorem f_176_610 : mj_fetch 176 610 = some (.iconst 4, 0, 0) := by decide +kernel
theorem f_176_611 : mj_fetch 176 611 = some (.iadd, 0, 0) := by decide +kernel
theorem f_176_612 : mj_fetch 176 612 = some (.iaload, 0, 0) := by decide +kernel
theorem f_176_613 : mj_fetch 176 613 = some (.invokevirtual 61, 134, 0) := by decide +kernel
theorem f_176_616 : mj_fetch 176 616 = some (.if_icmp .eq 738, 0, 0) := by decide +kernel
theorem f_176_619 : mj_fetch 176 619 = some (.iconst 0, 0, 0) := by decide +kernel
theorem f_176_620 : mj_fetch 176 620 = some (.ireturn, 0, 0) := by decide +kernel
theorem f_176_621 : mj_fetch 176 621 = some (.aload_n 1, 0, 0) := by decide +kernel
theorem f_176_622 : mj_fetch 176 622 = some (.aload_n 0, 0, 0) := by decide +kernel
theorem f_176_623 : mj_fetch 176 623 = some (.iload 4, 0, 0) := by decide +kernel
theorem f_176_625 : mj_fetch 176 625 = some (.iconst 1, 0, 0) := by decide +kernel
theorem f_176_626 : mj_fetch 176 626 = some (.iadd, 0, 0) := by decide +kernel
theorem f_176_627 : mj_fetch 176 627 = some (.iaload, 0, 0) := by decide +kernel
theorem f_176_628 : mj_fetch 176 628 = some (.aload_n 0, 0, 0) := by decide +kernel
theorem f_176_629 : mj_fetch 176 629 = some (.iload 4, 0, 0) := by decide +kernel
theorem f_176_631 : mj_fetch 176 631 = some (.iconst 2, 0, 0) := by decide +kernel
theorem f_176_632 : mj_fetch 176 632 = some (.iadd, 0, 0) := by decide +kernel
theorem f_176_633 : mj_fetch 176 633 = some (.iaload, 0, 0) := by decide +kernel
theorem f_176_634 : mj_fetch 176 634 = some (.invokevirtual 62, 76, 0) := by decide +kernel
theorem f_176_637 : mj_fetch 176 637 = some (.aload_n 2, 0, 0) := by decide +kernel
theorem f_176_638 : mj_fetch 176 638 = some (.aload_n 0, 0, 0) := by decide +kernel
theorem f_176_639 : mj_fetch 176 639 = some (.iload 4, 0, 0) := by decide +kernel
theorem f_176_641 : mj_fetch 176 641 = some (.iconst 1, 0, 0) := by decide +kernel
theorem f_176_642 : mj_fetch 176 642 = some (.iadd, 0, 0) := by decide +kernel
theorem f_176_643 : mj_fetch 176 643 = some (.iaload, 0, 0) := by decide +kernel
theorem f_176_644 : mj_fetch 176 644 = some (.aload_n 0, 0, 0) := by decide +kernel
theorem f_176_645 : mj_fetch 176 645 = some (.iload 4, 0, 0) := by decide +kernel
theorem f_176_647 : mj_fetch 176 647 = some (.iconst 2, 0, 0) := by decide +kernel
theorem f_176_648 : mj_fetch 176 648 = some (.iadd, 0, 0) := by decide +kernel
theorem f_176_649 : mj_fetch 176 649 = some (.iaload, 0, 0) := by decide +kernel
theorem f_176_650 : mj_fetch 176 650 = some (.invokevirtual 65, 135, 0) := by decide +kernel
theorem f_176_653 : mj_fetch 176 653 = some (.if_icmp .eq 701, 0, 0) := by decide +kernel
theorem f_176_656 : mj_fetch 176 656 = some (.iconst 0, 0, 0) := by decide +kernel
theorem f_176_657 : mj_fetch 176 657 = some (.ireturn, 0, 0) := by decide +kernel
theorem f_176_658 : mj_fetch 176 658 = some (.aload_n 1, 0, 0) := by decide +kernel
theorem f_176_659 : mj_fetch 176 659 = some (.aload_n 0, 0, 0) := by decide +kernel
theorem f_176_660 : mj_fetch 176 660 = some (.iload 4, 0, 0) := by decide +kernel
theorem f_176_662 : mj_fetch 176 662 = some (.iconst 1, 0, 0) := by decide +kernel
theorem f_176_663 : mj_fetch 176 663 = some (.iadd, 0, 0) := by decide +kernel
theorem f_176_664 : mj_fetch 176 664 = some (.iaload, 0, 0) := by decide +kernel
theorem f_176_665 : mj_fetch 176 665 = some (.aload_n 0, 0, 0) := by decide +kernel
theorem f_176_666 : mj_fetch 176 666 = some (.iload 4, 0, 0) := by decide +kernel
theorem f_176_668 : mj_fetch 176 668 = some (.iconst 2, 0, 0) := by decide +kernel
theorem f_176_669 : mj_fetch 176 669 = some (.iadd, 0, 0) := by decide +kernel
theorem f_176_670 : mj_fetch 176 670 = some (.iaload, 0, 0) := by decide +kernel
theorem f_176_671 : mj_fetch 176 671 = some (.invokevirtual 66, 77, 0) := by decide +kernel
theorem f_176_674 : mj_fetch 176 674 = some (.aload_n 2, 0, 0) := by decide +kernel
theorem f_176_675 : mj_fetch 176 675 = some (.aload_n 0, 0, 0) := by decide +kernel
theorem f_176_676 : mj_fetch 176 676 = some (.iload 4, 0, 0) := by decide +kernel
theorem f_176_678 : mj_fetch 176 678 = some (.iconst 1, 0, 0) := by decide +kernel
theorem f_176_679 : mj_fetch 176 679 = some (.iadd, 0, 0) := by decide +kernel
theorem f_176_680 : mj_fetch 176 680 = some (.iaload, 0, 0) := by decide +kernel
theorem f_176_681 : mj_fetch 176 681 = some (.aload_n 0, 0, 0) := by decide +kernel
theorem f_176_682 : mj_fetch 176 682 = some (.iload 4, 0, 0) := by decide +kernel
theorem f_176_684 : mj_fetch 176 684 = some (.iconst 2, 0, 0) := by decide +kernel
theorem f_176_685 : mj_fetch 176 685 = some (.iadd, 0, 0) := by decide +kernel
theorem f_176_686 : mj_fetch 176 686 = some (.iaload, 0, 0) := by decide +kernel
theorem f_176_687 : mj_fetch 176 687 = some (.invokevirtual 69, 136, 0) := by decide +kernel
theorem f_176_690 : mj_fetch 176 690 = some (.if_icmp .eq 664, 0, 0) := by decide +kernel
theorem f_176_693 : mj_fetch 176 693 = some (.iconst 0, 0, 0) := by decide +kernel
theorem f_176_694 : mj_fetch 176 694 = some (.ireturn, 0, 0) := by decide +kernel
theorem f_176_695 : mj_fetch 176 695 = some (.aload_n 1, 0, 0) := by decide +kernel
theorem f_176_696 : mj_fetch 176 696 = some (.aload_n 0, 0, 0) := by decide +kernel
theorem f_176_697 : mj_fetch 176 697 = some (.iload 4, 0, 0) := by decide +kernel
theorem f_176_699 : mj_fetch 176 699 = some (.iconst 1, 0, 0) := by decide +kernel
theorem f_176_700 : mj_fetch 176 700 = some (.iadd, 0, 0) := by decide +kernel
theorem f_176_701 : mj_fetch 176 701 = some (.iaload, 0, 0) := by decide +kernel
theorem f_176_702 : mj_fetch 176 702 = some (.aload_n 0, 0, 0) := by decide +kernel
theorem f_176_703 : mj_fetch 176 703 = some (.iload 4, 0, 0) := by decide +kernel
theorem f_176_705 : mj_fetch 176 705 = some (.iconst 2, 0, 0) := by decide +kernel
theorem f_176_706 : mj_fetch 176 706 = some (.iadd, 0, 0) := by decide +kernel
theorem f_176_707 : mj_fetch 176 707 = some (.iaload, 0, 0) := by decide +kernel
theorem f_176_708 : mj_fetch 176 708 = some (.aload_n 0, 0, 0) := by decide +kernel
theorem f_176_709 : mj_fetch 176 709 = some (.iload 4, 0, 0) := by decide +kernel
theorem f_176_711 : mj_fetch 176 711 = some (.iconst 3, 0, 0) := by decide +kernel
theorem f_176_712 : mj_fetch 176 712 = some (.iadd, 0, 0) := by decide +kernel
theorem f_176_713 : mj_fetch 176 713 = some (.iaload, 0, 0) := by decide +kernel
theorem f_176_714 : mj_fetch 176 714 = some (.invokevirtual 70, 78, 0) := by decide +kernel
theorem f_176_717 : mj_fetch 176 717 = some (.aload_n 2, 0, 0) := by decide +kernel
theorem f_176_718 : mj_fetch 176 718 = some (.aload_n 0, 0, 0) := by decide +kernel
theorem f_176_719 : mj_fetch 176 719 = some (.iload 4, 0, 0) := by decide +kernel
theorem f_176_721 : mj_fetch 176 721 = some (.iconst 1, 0, 0) := by decide +kernel
theorem f_176_722 : mj_fetch 176 722 = some (.iadd, 0, 0) := by decide +kernel
theorem f_176_723 : mj_fetch 176 723 = some (.iaload, 0, 0) := by decide +kernel
theorem f_176_724 : mj_fetch 176 724 = some (.aload_n 0, 0, 0) := by decide +kernel
theorem f_176_725 : mj_fetch 176 725 = some (.iload 4, 0, 0) := by decide +kernel
theorem f_176_727 : mj_fetch 176 727 = some (.iconst 2, 0, 0) := by decide +kernel
theorem f_176_728 : mj_fetch 176 728 = some (.iadd, 0, 0) := by decide +kernel
theorem f_176_729 : mj_fetch 176 729 = some (.iaload, 0, 0) := by decide +kernel
theorem f_176_730 : mj_fetch 176 730 = some (.aload_n 0, 0, 0) := by decide +kernel
theorem f_176_731 : mj_fetch 176 731 = some (.iload 4, 0, 0) := by decide +kernel
theorem f_176_733 : mj_fetch 176 733 = some (.iconst 3, 0, 0) := by decide +kernel
theorem f_176_734 : mj_fetch 176 734 = some (.iadd, 0, 0) := by decide +kernel
theorem f_176_735 : mj_fetch 176 735 = some (.iaload, 0, 0) := by decide +kernel
theorem f_176_736 : mj_fetch 176 736 = some (.invokevirtual 73, 138, 0) := by decide +kernel
theorem f_176_739 : mj_fetch 176 739 = some (.if_icmp .eq 615, 0, 0) := by decide +kernel
theorem f_176_742 : mj_fetch 176 742 = some (.iconst 0, 0, 0) := by decide +kernel
theorem f_176_743 : mj_fetch 176 743 = some (.ireturn, 0, 0) := by decide +kernel
theorem f_176_744 : mj_fetch 176 744 = some (.aload_n 1, 0, 0) := by decide +kernel
theorem f_176_745 : mj_fetch 176 745 = some (.aload_n 0, 0, 0) := by decide +kernel
theorem f_176_746 : mj_fetch 176 746 = some (.iload 4, 0, 0) := by decide +kernel
theorem f_176_748 : mj_fetch 176 748 = some (.iconst 1, 0, 0) := by decide +kernel
theorem f_176_749 : mj_fetch 176 749 = some (.iadd, 0, 0) := by decide +kernel
theorem f_176_750 : mj_fetch 176 750 = some (.iaload, 0, 0) := by decide +kernel
theorem f_176_751 : mj_fetch 176 751 = some (.invokevirtual 74, 79, 0) := by decide +kernel
theorem f_176_754 : mj_fetch 176 754 = some (.aload_n 2, 0, 0) := by decide +kernel
theorem f_176_755 : mj_fetch 176 755 = some (.aload_n 0, 0, 0) := by decide +kernel
theorem f_176_756 : mj_fetch 176 756 = some (.iload 4, 0, 0) := by decide +kernel
theorem f_176_758 : mj_fetch 176 758 = some (.iconst 1, 0, 0) := by decide +kernel
theorem f_176_759 : mj_fetch 176 759 = some (.iadd, 0, 0) := by decide +kernel
theorem f_176_760 : mj_fetch 176 760 = some (.iaload, 0, 0) := by decide +kernel
theorem f_176_761 : mj_fetch 176 761 = some (.invokevirtual 77, 144, 0) := by decide +kernel
theorem f_176_764 : mj_fetch 176 764 = some (.if_icmp .eq 590, 0, 0) := by decide +kernel
theorem f_176_767 : mj_fetch 176 767 = some (.iconst 0, 0, 0) := by decide +kernel
theorem f_176_768 : mj_fetch 176 768 = some (.ireturn, 0, 0) := by decide +kernel
theorem f_176_769 : mj_fetch 176 769 = some (.aload_n 1, 0, 0) := by decide +kernel
theorem f_176_770 : mj_fetch 176 770 = some (.aload_n 0, 0, 0) := by decide +kernel
theorem f_176_771 : mj_fetch 176 771 = some (.iload 4, 0, 0) := by decide +kernel
theorem f_176_773 : mj_fetch 176 773 = some (.iconst 1, 0, 0) := by decide +kernel
theorem f_176_774 : mj_fetch 176 774 = some (.iadd, 0, 0) := by decide +kernel
theorem f_176_775 : mj_fetch 176 775 = some (.iaload, 0, 0) := by decide +kernel
theorem f_176_776 : mj_fetch 176 776 = some (.invokevirtual 78, 80, 0) := by decide +kernel
theorem f_176_779 : mj_fetch 176 779 = some (.aload_n 2, 0, 0) := by decide +kernel
theorem f_176_780 : mj_fetch 176 780 = some (.aload_n 0, 0, 0) := by decide +kernel
theorem f_176_781 : mj_fetch 176 781 = some (.iload 4, 0, 0) := by decide +kernel
theorem f_176_783 : mj_fetch 176 783 = some (.iconst 1, 0, 0) := by decide +kernel
theorem f_176_784 : mj_fetch 176 784 = some (.iadd, 0, 0) := by decide +kernel
theorem f_176_785 : mj_fetch 176 785 = some (.iaload, 0, 0) := by decide +kernel
theorem f_176_786 : mj_fetch 176 786 = some (.invokevirtual 81, 148, 0) := by decide +kernel
theorem f_176_789 : mj_fetch 176 789 = some (.if_icmp .eq 565, 0, 0) := by decide +kernel
theorem f_176_792 : mj_fetch 176 792 = some (.iconst 0, 0, 0) := by decide +kernel
theorem f_176_793 : mj_fetch 176 793 = some (.ireturn, 0, 0) := by decide +kernel
theorem f_176_794 : mj_fetch 176 794 = some (.aload_n 1, 0, 0) := by decide +kernel
theorem f_176_795 : mj_fetch 176 795 = some (.aload_n 0, 0, 0) := by decide +kernel
theorem f_176_796 : mj_fetch 176 796 = some (.iload 4, 0, 0) := by decide +kernel
theorem f_176_798 : mj_fetch 176 798 = some (.iconst 1, 0, 0) := by decide +kernel
theorem f_176_799 : mj_fetch 176 799 = some (.iadd, 0, 0) := by decide +kernel
theorem f_176_800 : mj_fetch 176 800 = some (.iaload, 0, 0) := by decide +kernel
theorem f_176_801 : mj_fetch 176 801 = some (.aload_n 0, 0, 0) := by decide +kernel
theorem f_176_802 : mj_fetch 176 802 = some (.iload 4, 0, 0) := by decide +kernel
theorem f_176_804 : mj_fetch 176 804 = some (.iconst 2, 0, 0) := by decide +kernel
theorem f_176_805 : mj_fetch 176 805 = some (.iadd, 0, 0) := by decide +kernel
theorem f_176_806 : mj_fetch 176 806 = some (.iaload, 0, 0) := by decide +kernel
theorem f_176_807 : mj_fetch 176 807 = some (.invokevirtual 82, 81, 0) := by decide +kernel
theorem f_176_810 : mj_fetch 176 810 = some (.aload_n 2, 0, 0) := by decide +kernel
theorem f_176_811 : mj_fetch 176 811 = some (.aload_n 0, 0, 0) := by decide +kernel
theorem f_176_812 : mj_fetch 176 812 = some (.iload 4, 0, 0) := by decide +kernel
theorem f_176_814 : mj_fetch 176 814 = some (.iconst 1, 0, 0) := by decide +kernel
theorem f_176_815 : mj_fetch 176 815 = some (.iadd, 0, 0) := by decide +kernel
theorem f_176_816 : mj_fetch 176 816 = some (.iaload, 0, 0) := by decide +kernel
theorem f_176_817 : mj_fetch 176 817 = some (.aload_n 0, 0, 0) := by decide +kernel
theorem f_176_818 : mj_fetch 176 818 = some (.iload 4, 0, 0) := by decide +kernel
theorem f_176_820 : mj_fetch 176 820 = some (.iconst 2, 0, 0) := by decide +kernel
theorem f_176_821 : mj_fetch 176 821 = some (.iadd, 0, 0) := by decide +kernel
theorem f_176_822 : mj_fetch 176 822 = some (.iaload, 0, 0) := by decide +kernel
theorem f_176_823 : mj_fetch 176 823 = some (.invokevirtual 85, 151, 0) := by decide +kernel
theorem f_176_826 : mj_fetch 176 826 = some (.if_icmp .eq 528, 0, 0) := by decide +kernel
theorem f_176_829 : mj_fetch 176 829 = some (.iconst 0, 0, 0) := by decide +kernel
theorem f_176_830 : mj_fetch 176 830 = some (.ireturn, 0, 0) := by decide +kernel
theorem f_176_831 : mj_fetch 176 831 = some (.aload_n 1, 0, 0) := by decide +kernel
theorem f_176_832 : mj_fetch 176 832 = some (.aload_n 0, 0, 0) := by decide +kernel
theorem f_176_833 : mj_fetch 176 833 = some (.iload 4, 0, 0) := by decide +kernel
theorem f_176_835 : mj_fetch 176 835 = some (.iconst 1, 0, 0) := by decide +kernel
theorem f_176_836 : mj_fetch 176 836 = some (.iadd, 0, 0) := by decide +kernel
theorem f_176_837 : mj_fetch 176 837 = some (.iaload, 0, 0) := by decide +kernel
theorem f_176_838 : mj_fetch 176 838 = some (.invokevirtual 86, 82, 0) := by decide +kernel
theorem f_176_841 : mj_fetch 176 841 = some (.aload_n 2, 0, 0) := by decide +kernel
theorem f_176_842 : mj_fetch 176 842 = some (.aload_n 0, 0, 0) := by decide +kernel
theorem f_176_843 : mj_fetch 176 843 = some (.iload 4, 0, 0) := by decide +kernel
theorem f_176_845 : mj_fetch 176 845 = some (.iconst 1, 0, 0) := by decide +kernel
theorem f_176_846 : mj_fetch 176 846 = some (.iadd, 0, 0) := by decide +kernel
theorem f_176_847 : mj_fetch 176 847 = some (.iaload, 0, 0) := by decide +kernel
theorem f_176_848 : mj_fetch 176 848 = some (.invokevirtual 89, 152, 0) := by decide +kernel
theorem f_176_851 : mj_fetch 176 851 = some (.if_icmp .eq 503, 0, 0) := by decide +kernel
theorem f_176_854 : mj_fetch 176 854 = some (.iconst 0, 0, 0) := by decide +kernel
theorem f_176_855 : mj_fetch 176 855 = some (.ireturn, 0, 0) := by decide +kernel
theorem f_176_856 : mj_fetch 176 856 = some (.aload_n 1, 0, 0) := by decide +kernel
theorem f_176_857 : mj_fetch 176 857 = some (.aload_n 0, 0, 0) := by decide +kernel
theorem f_176_858 : mj_fetch 176 858 = some (.iload 4, 0, 0) := by decide +kernel
theorem f_176_860 : mj_fetch 176 860 = some (.iconst 1, 0, 0) := by decide +kernel
theorem f_176_861 : mj_fetch 176 861 = some (.iadd, 0, 0) := by decide +kernel
theorem f_176_862 : mj_fetch 176 862 = some (.iaload, 0, 0) := by decide +kernel
theorem f_176_863 : mj_fetch 176 863 = some (.invokevirtual 90, 83, 0) := by decide +kernel
theorem f_176_866 : mj_fetch 176 866 = some (.aload_n 2, 0, 0) := by decide +kernel
theorem f_176_867 : mj_fetch 176 867 = some (.aload_n 0, 0, 0) := by decide +kernel
theorem f_176_868 : mj_fetch 176 868 = some (.iload 4, 0, 0) := by decide +kernel
theorem f_176_870 : mj_fetch 176 870 = some (.iconst 1, 0, 0) := by decide +kernel
theorem f_176_871 : mj_fetch 176 871 = some (.iadd, 0, 0) := by decide +kernel
theorem f_176_872 : mj_fetch 176 872 = some (.iaload, 0, 0) := by decide +kernel
theorem f_176_873 : mj_fetch 176 873 = some (.invokevirtual 93, 153, 0) := by decide +kernel
theorem f_176_876 : mj_fetch 176 876 = some (.if_icmp .eq 478, 0, 0) := by decide +kernel
theorem f_176_879 : mj_fetch 176 879 = some (.iconst 0, 0, 0) := by decide +kernel
theorem f_176_880 : mj_fetch 176 880 = some (.ireturn, 0, 0) := by decide +kernel
theorem f_176_881 : mj_fetch 176 881 = some (.aload_n 1, 0, 0) := by decide +kernel
theorem f_176_882 : mj_fetch 176 882 = some (.aload_n 0, 0, 0) := by decide +kernel
theorem f_176_883 : mj_fetch 176 883 = some (.iload 4, 0, 0) := by decide +kernel
theorem f_176_885 : mj_fetch 176 885 = some (.iconst 1, 0, 0) := by decide +kernel
theorem f_176_886 : mj_fetch 176 886 = some (.iadd, 0, 0) := by decide +kernel
theorem f_176_887 : mj_fetch 176 887 = some (.iaload, 0, 0) := by decide +kernel
theorem f_176_888 : mj_fetch 176 888 = some (.aload_n 0, 0, 0) := by decide +kernel
theorem f_176_889 : mj_fetch 176 889 = some (.iload 4, 0, 0) := by decide +kernel
theorem f_176_891 : mj_fetch 176 891 = some (.iconst 2, 0, 0) := by decide +kernel
theorem f_176_892 : mj_fetch 176 892 = some (.iadd, 0, 0) := by decide +kernel
theorem f_176_893 : mj_fetch 176 893 = some (.iaload, 0, 0) := by decide +kernel
theorem f_176_894 : mj_fetch 176 894 = some (.invokevirtual 94, 84, 0) := by decide +kernel
theorem f_176_897 : mj_fetch 176 897 = some (.aload_n 2, 0, 0) := by decide +kernel
theorem f_176_898 : mj_fetch 176 898 = some (.aload_n 0, 0, 0) := by decide +kernel
theorem f_176_899 : mj_fetch 176 899 = some (.iload 4, 0, 0) := by decide +kernel
theorem f_176_901 : mj_fetch 176 901 = some (.iconst 1, 0, 0) := by decide +kernel
theorem f_176_902 : mj_fetch 176 902 = some (.iadd, 0, 0) := by decide +kernel
theorem f_176_903 : mj_fetch 176 903 = some (.iaload, 0, 0) := by decide +kernel
theorem f_176_904 : mj_fetch 176 904 = some (.aload_n 0, 0, 0) := by decide +kernel
theorem f_176_905 : mj_fetch 176 905 = some (.iload 4, 0, 0) := by decide +kernel
theorem f_176_907 : mj_fetch 176 907 = some (.iconst 2, 0, 0) := by decide +kernel
theorem f_176_908 : mj_fetch 176 908 = some (.iadd, 0, 0) := by decide +kernel
theorem f_176_909 : mj_fetch 176 909 = some (.iaload, 0, 0) := by decide +kernel
theorem f_176_910 : mj_fetch 176 910 = some (.invokevirtual 97, 154, 0) := by decide +kernel
theorem f_176_913 : mj_fetch 176 913 = some (.if_icmp .eq 441, 0, 0) := by decide +kernel
theorem f_176_916 : mj_fetch 176 916 = some (.iconst 0, 0, 0) := by decide +kernel
theorem f_176_917 : mj_fetch 176 917 = some (.ireturn, 0, 0) := by decide +kernel
theorem f_176_918 : mj_fetch 176 918 = some (.aload_n 1, 0, 0) := by decide +kernel
theorem f_176_919 : mj_fetch 176 919 = some (.aload_n 0, 0, 0) := by decide +kernel
theorem f_176_920 : mj_fetch 176 920 = some (.iload 4, 0, 0) := by decide +kernel
theorem f_176_922 : mj_fetch 176 922 = some (.iconst 1, 0, 0) := by decide +kernel
theorem f_176_923 : mj_fetch 176 923 = some (.iadd, 0, 0) := by decide +kernel
theorem f_176_924 : mj_fetch 176 924 = some (.iaload, 0, 0) := by decide +kernel
theorem f_176_925 : mj_fetch 176 925 = some (.invokevirtual 98, 85, 0) := by decide +kernel
theorem f_176_928 : mj_fetch 176 928 = some (.aload_n 2, 0, 0) := by decide +kernel
theorem f_176_929 : mj_fetch 176 929 = some (.aload_n 0, 0, 0) := by decide +kernel
theorem f_176_930 : mj_fetch 176 930 = some (.iload 4, 0, 0) := by decide +kernel
theorem f_176_932 : mj_fetch 176 932 = some (.iconst 1, 0, 0) := by decide +kernel
theorem f_176_933 : mj_fetch 176 933 = some (.iadd, 0, 0) := by decide +kernel
theorem f_176_934 : mj_fetch 176 934 = some (.iaload, 0, 0) := by decide +kernel
theorem f_176_935 : mj_fetch 176 935 = some (.invokevirtual 102, 155, 0) := by decide +kernel
theorem f_176_938 : mj_fetch 176 938 = some (.if_icmp .eq 416, 0, 0) := by decide +kernel
theorem f_176_941 : mj_fetch 176 941 = some (.iconst 0, 0, 0) := by decide +kernel
theorem f_176_942 : mj_fetch 176 942 = some (.ireturn, 0, 0) := by decide +kernel
theorem f_176_943 : mj_fetch 176 943 = some (.aload_n 1, 0, 0) := by decide +kernel
theorem f_176_944 : mj_fetch 176 944 = some (.aload_n 0, 0, 0) := by decide +kernel
theorem f_176_945 : mj_fetch 176 945 = some (.iload 4, 0, 0) := by decide +kernel
theorem f_176_947 : mj_fetch 176 947 = some (.iconst 1, 0, 0) := by decide +kernel
theorem f_176_948 : mj_fetch 176 948 = some (.iadd, 0, 0) := by decide +kernel
theorem f_176_949 : mj_fetch 176 949 = some (.iaload, 0, 0) := by decide +kernel
theorem f_176_950 : mj_fetch 176 950 = some (.invokevirtual 103, 86, 0) := by decide +kernel
theorem f_176_953 : mj_fetch 176 953 = some (.aload_n 2, 0, 0) := by decide +kernel
theorem f_176_954 : mj_fetch 176 954 = some (.aload_n 0, 0, 0) := by decide +kernel
theorem f_176_955 : mj_fetch 176 955 = some (.iload 4, 0, 0) := by decide +kernel
theorem f_176_957 : mj_fetch 176 957 = some (.iconst 1, 0, 0) := by decide +kernel
theorem f_176_958 : mj_fetch 176 958 = some (.iadd, 0, 0) := by decide +kernel
theorem f_176_959 : mj_fetch 176 959 = some (.iaload, 0, 0) := by decide +kernel
theorem f_176_960 : mj_fetch 176 960 = some (.invokevirtual 106, 157, 0) := by decide +kernel
theorem f_176_963 : mj_fetch 176 963 = some (.if_icmp .eq 391, 0, 0) := by decide +kernel
theorem f_176_966 : mj_fetch 176 966 = some (.iconst 0, 0, 0) := by decide +kernel
theorem f_176_967 : mj_fetch 176 967 = some (.ireturn, 0, 0) := by decide +kernel
theorem f_176_968 : mj_fetch 176 968 = some (.aload_n 1, 0, 0) := by decide +kernel
theorem f_176_969 : mj_fetch 176 969 = some (.aload_n 0, 0, 0) := by decide +kernel
theorem f_176_970 : mj_fetch 176 970 = some (.iload 4, 0, 0) := by decide +kernel
theorem f_176_972 : mj_fetch 176 972 = some (.iconst 1, 0, 0) := by decide +kernel
theorem f_176_973 : mj_fetch 176 973 = some (.iadd, 0, 0) := by decide +kernel
theorem f_176_974 : mj_fetch 176 974 = some (.iaload, 0, 0) := by decide +kernel
theorem f_176_975 : mj_fetch 176 975 = some (.aload_n 0, 0, 0) := by decide +kernel
theorem f_176_976 : mj_fetch 176 976 = some (.iload 4, 0, 0) := by decide +kernel
theorem f_176_978 : mj_fetch 176 978 = some (.iconst 2, 0, 0) := by decide +kernel
theorem f_176_979 : mj_fetch 176 979 = some (.iadd, 0, 0) := by decide +kernel
theorem f_176_980 : mj_fetch 176 980 = some (.iaload, 0, 0) := by decide +kernel
theorem f_176_981 : mj_fetch 176 981 = some (.invokevirtual 107, 87, 0) := by decide +kernel
theorem f_176_984 : mj_fetch 176 984 = some (.aload_n 2, 0, 0) := by decide +kernel
theorem f_176_985 : mj_fetch 176 985 = some (.aload_n 0, 0, 0) := by decide +kernel
theorem f_176_986 : mj_fetch 176 986 = some (.iload 4, 0, 0) := by decide +kernel
theorem f_176_988 : mj_fetch 176 988 = some (.iconst 1, 0, 0) := by decide +kernel
theorem f_176_989 : mj_fetch 176 989 = some (.iadd, 0, 0) := by decide +kernel
theorem f_176_990 : mj_fetch 176 990 = some (.iaload, 0, 0) := by decide +kernel
theorem f_176_991 : mj_fetch 176 991 = some (.aload_n 0, 0, 0) := by decide +kernel
theorem f_176_992 : mj_fetch 176 992 = some (.iload 4, 0, 0) := by decide +kernel
theorem f_176_994 : mj_fetch 176 994 = some (.iconst 2, 0, 0) := by decide +kernel
theorem f_176_995 : mj_fetch 176 995 = some (.iadd, 0, 0) := by decide +kernel
theorem f_176_996 : mj_fetch 176 996 = some (.iaload, 0, 0) := by decide +kernel
theorem f_176_997 : mj_fetch 176 997 = some (.invokevirtual 110, 159, 0) := by decide +kernel
theorem f_176_1000 : mj_fetch 176 1000 = some (.if_icmp .eq 354, 0, 0) := by decide +kernel
theorem f_176_1003 : mj_fetch 176 1003 = some (.iconst 0, 0, 0) := by decide +kernel
theorem f_176_1004 : mj_fetch 176 1004 = some (.ireturn, 0, 0) := by decide +kernel
theorem f_176_1005 : mj_fetch 176 1005 = some (.aload_n 1, 0, 0) := by decide +kernel
theorem f_176_1006 : mj_fetch 176 1006 = some (.aload_n 0, 0, 0) := by decide +kernel
theorem f_176_1007 : mj_fetch 176 1007 = some (.iload 4, 0, 0) := by decide +kernel
theorem f_176_1009 : mj_fetch 176 1009 = some (.iconst 1, 0, 0) := by decide +kernel
theorem f_176_1010 : mj_fetch 176 1010 = some (.iadd, 0, 0) := by decide +kernel
theorem f_176_1011 : mj_fetch 176 1011 = some (.iaload, 0, 0) := by decide +kernel
theorem f_176_1012 : mj_fetch 176 1012 = some (.aload_n 0, 0, 0) := by decide +kernel
theorem f_176_1013 : mj_fetch 176 1013 = some (.iload 4, 0, 0) := by decide +kernel
theorem f_176_1015 : mj_fetch 176 1015 = some (.iconst 2, 0, 0) := by decide +kernel
theorem f_176_1016 : mj_fetch 176 1016 = some (.iadd, 0, 0) := by decide +kernel
theorem f_176_1017 : mj_fetch 176 1017 = some (.iaload, 0, 0) := by decide +kernel
theorem f_176_1018 : mj_fetch 176 1018 = some (.invokevirtual 111, 88, 0) := by decide +kernel
theorem f_176_1021 : mj_fetch 176 1021 = some (.aload_n 2, 0, 0) := by decide +kernel
theorem f_176_1022 : mj_fetch 176 1022 = some (.aload_n 0, 0, 0) := by decide +kernel
theorem f_176_1023 : mj_fetch 176 1023 = some (.iload 4, 0, 0) := by decide +kernel
theorem f_176_1025 : mj_fetch 176 1025 = some (.iconst 1, 0, 0) := by decide +kernel
theorem f_176_1026 : mj_fetch 176 1026 = some (.iadd, 0, 0) := by decide +kernel
theorem f_176_1027 : mj_fetch 176 1027 = some (.iaload, 0, 0) := by decide +kernel
theorem f_176_1028 : mj_fetch 176 1028 = some (.aload_n 0, 0, 0) := by decide +kernel
theorem f_176_1029 : mj_fetch 176 1029 = some (.iload 4, 0, 0) := by decide +kernel
theorem f_176_1031 : mj_fetch 176 1031 = some (.iconst 2, 0, 0) := by decide +kernel
theorem f_176_1032 : mj_fetch 176 1032 = some (.iadd, 0, 0) := by decide +kernel
theorem f_176_1033 : mj_fetch 176 1033 = some (.iaload, 0, 0) := by decide +kernel
theorem f_176_1034 : mj_fetch 176 1034 = some (.invokevirtual 114, 161, 0) := by decide +kernel
theorem f_176_1037 : mj_fetch 176 1037 = some (.if_icmp .eq 317, 0, 0) := by decide +kernel
theorem f_176_1040 : mj_fetch 176 1040 = some (.iconst 0, 0, 0) := by decide +kernel
theorem f_176_1041 : mj_fetch 176 1041 = some (.ireturn, 0, 0) := by decide +kernel
theorem f_176_1042 : mj_fetch 176 1042 = some (.aload_n 1, 0, 0) := by decide +kernel
theorem f_176_1043 : mj_fetch 176 1043 = some (.aload_n 0, 0, 0) := by decide +kernel
theorem f_176_1044 : mj_fetch 176 1044 = some (.iload 4, 0, 0) := by decide +kernel
theorem f_176_1046 : mj_fetch 176 1046 = some (.iconst 1, 0, 0) := by decide +kernel
theorem f_176_1047 : mj_fetch 176 1047 = some (.iadd, 0, 0) := by decide +kernel
theorem f_176_1048 : mj_fetch 176 1048 = some (.iaload, 0, 0) := by decide +kernel
theorem f_176_1049 : mj_fetch 176 1049 = some (.aload_n 0, 0, 0) := by decide +kernel
theorem f_176_1050 : mj_fetch 176 1050 = some (.iload 4, 0, 0) := by decide +kernel
theorem f_176_1052 : mj_fetch 176 1052 = some (.iconst 2, 0, 0) := by decide +kernel
theorem f_176_1053 : mj_fetch 176 1053 = some (.iadd, 0, 0) := by decide +kernel
theorem f_176_1054 : mj_fetch 176 1054 = some (.iaload, 0, 0) := by decide +kernel
theorem f_176_1055 : mj_fetch 176 1055 = some (.invokevirtual 115, 89, 0) := by decide +kernel
theorem f_176_1058 : mj_fetch 176 1058 = some (.aload_n 2, 0, 0) := by decide +kernel
theorem f_176_1059 : mj_fetch 176 1059 = some (.aload_n 0, 0, 0) := by decide +kernel
theorem f_176_1060 : mj_fetch 176 1060 = some (.iload 4, 0, 0) := by decide +kernel
theorem f_176_1062 : mj_fetch 176 1062 = some (.iconst 1, 0, 0) := by decide +kernel
theorem f_176_1063 : mj_fetch 176 1063 = some (.iadd, 0, 0) := by decide +kernel
theorem f_176_1064 : mj_fetch 176 1064 = some (.iaload, 0, 0) := by decide +kernel
theorem f_176_1065 : mj_fetch 176 1065 = some (.aload_n 0, 0, 0) := by decide +kernel
theorem f_176_1066 : mj_fetch 176 1066 = some (.iload 4, 0, 0) := by decide +kernel
theorem f_176_1068 : mj_fetch 176 1068 = some (.iconst 2, 0, 0) := by decide +kernel
theorem f_176_1069 : mj_fetch 176 1069 = some (.iadd, 0, 0) := by decide +kernel
theorem f_176_1070 : mj_fetch 176 1070 = some (.iaload, 0, 0) := by decide +kernel
theorem f_176_1071 : mj_fetch 176 1071 = some (.invokevirtual 118, 162, 0) := by decide +kernel
theorem f_176_1074 : mj_fetch 176 1074 = some (.if_icmp .eq 280, 0, 0) := by decide +kernel
theorem f_176_1077 : mj_fetch 176 1077 = some (.iconst 0, 0, 0) := by decide +kernel
theorem f_176_1078 : mj_fetch 176 1078 = some (.ireturn, 0, 0) := by decide +kernel
theorem f_176_1079 : mj_fetch 176 1079 = some (.aload_n 1, 0, 0) := by decide +kernel
theorem f_176_1080 : mj_fetch 176 1080 = some (.aload_n 0, 0, 0) := by decide +kernel
theorem f_176_1081 : mj_fetch 176 1081 = some (.iload 4, 0, 0) := by decide +kernel
theorem f_176_1083 : mj_fetch 176 1083 = some (.iconst 1, 0, 0) := by decide +kernel
theorem f_176_1084 : mj_fetch 176 1084 = some (.iadd, 0, 0) := by decide +kernel
theorem f_176_1085 : mj_fetch 176 1085 = some (.iaload, 0, 0) := by decide +kernel
theorem f_176_1086 : mj_fetch 176 1086 = some (.aload_n 0, 0, 0) := by decide +kernel
theorem f_176_1087 : mj_fetch 176 1087 = some (.iload 4, 0, 0) := by decide +kernel
theorem f_176_1089 : mj_fetch 176 1089 = some (.iconst 2, 0, 0) := by decide +kernel
theorem f_176_1090 : mj_fetch 176 1090 = some (.iadd, 0, 0) := by decide +kernel
theorem f_176_1091 : mj_fetch 176 1091 = some (.iaload, 0, 0) := by decide +kernel
theorem f_176_1092 : mj_fetch 176 1092 = some (.invokevirtual 119, 90, 0) := by decide +kernel
theorem f_176_1095 : mj_fetch 176 1095 = some (.aload_n 2, 0, 0) := by decide +kernel
theorem f_176_1096 : mj_fetch 176 1096 = some (.aload_n 0, 0, 0) := by decide +kernel
theorem f_176_1097 : mj_fetch 176 1097 = some (.iload 4, 0, 0) := by decide +kernel
theorem f_176_1099 : mj_fetch 176 1099 = some (.iconst 1, 0, 0) := by decide +kernel
theorem f_176_1100 : mj_fetch 176 1100 = some (.iadd, 0, 0) := by decide +kernel
theorem f_176_1101 : mj_fetch 176 1101 = some (.iaload, 0, 0) := by decide +kernel
theorem f_176_1102 : mj_fetch 176 1102 = some (.aload_n 0, 0, 0) := by decide +kernel
theorem f_176_1103 : mj_fetch 176 1103 = some (.iload 4, 0, 0) := by decide +kernel
theorem f_176_1105 : mj_fetch 176 1105 = some (.iconst 2, 0, 0) := by decide +kernel
theorem f_176_1106 : mj_fetch 176 1106 = some (.iadd, 0, 0) := by decide +kernel
theorem f_176_1107 : mj_fetch 176 1107 = some (.iaload, 0, 0) := by decide +kernel
theorem f_176_1108 : mj_fetch 176 1108 = some (.invokevirtual 122, 163, 0) := by decide +kernel
theorem f_176_1111 : mj_fetch 176 1111 = some (.if_icmp .eq 243, 0, 0) := by decide +kernel
theorem f_176_1114 : mj_fetch 176 1114 = some (.iconst 0, 0, 0) := by decide +kernel
theorem f_176_1115 : mj_fetch 176 1115 = some (.ireturn, 0, 0) := by decide +kernel
theorem f_176_1116 : mj_fetch 176 1116 = some (.aload_n 1, 0, 0) := by decide +kernel
theorem f_176_1117 : mj_fetch 176 1117 = some (.aload_n 0, 0, 0) := by decide +kernel
theorem f_176_1118 : mj_fetch 176 1118 = some (.iload 4, 0, 0) := by decide +kernel
theorem f_176_1120 : mj_fetch 176 1120 = some (.iconst 1, 0, 0) := by decide +kernel
theorem f_176_1121 : mj_fetch 176 1121 = some (.iadd, 0, 0) := by decide +kernel
theorem f_176_1122 : mj_fetch 176 1122 = some (.iaload, 0, 0) := by decide +kernel
theorem f_176_1123 : mj_fetch 176 1123 = some (.aload_n 0, 0, 0) := by decide +kernel
theorem f_176_1124 : mj_fetch 176 1124 = some (.iload 4, 0, 0) := by decide +kernel
theorem f_176_1126 : mj_fetch 176 1126 = some (.iconst 2, 0, 0) := by decide +kernel
theorem f_176_1127 : mj_fetch 176 1127 = some (.iadd, 0, 0) := by decide +kernel
theorem f_176_1128 : mj_fetch 176 1128 = some (.iaload, 0, 0) := by decide +kernel
theorem f_176_1129 : mj_fetch 176 1129 = some (.ifCond .eq 7, 0, 0) := by decide +kernel
theorem f_176_1132 : mj_fetch 176 1132 = some (.iconst 1, 0, 0) := by decide +kernel
theorem f_176_1133 : mj_fetch 176 1133 = some (.goto 4, 0, 0) := by decide +kernel
theorem f_176_1136 : mj_fetch 176 1136 = some (.iconst 0, 0, 0) := by decide +kernel
theorem f_176_1137 : mj_fetch 176 1137 = some (.invokevirtual 123, 91, 0) := by decide +kernel
theorem f_176_1140 : mj_fetch 176 1140 = some (.aload_n 2, 0, 0) := by decide +kernel
theorem f_176_1141 : mj_fetch 176 1141 = some (.aload_n 0, 0, 0) := by decide +kernel
theorem f_176_1142 : mj_fetch 176 1142 = some (.iload 4, 0, 0) := by decide +kernel
theorem f_176_1144 : mj_fetch 176 1144 = some (.iconst 1, 0, 0) := by decide +kernel
theorem f_176_1145 : mj_fetch 176 1145 = some (.iadd, 0, 0) := by decide +kernel
theorem f_176_1146 : mj_fetch 176 1146 = some (.iaload, 0, 0) := by decide +kernel
theorem f_176_1147 : mj_fetch 176 1147 = some (.aload_n 0, 0, 0) := by decide +kernel
theorem f_176_1148 : mj_fetch 176 1148 = some (.iload 4, 0, 0) := by decide +kernel
theorem f_176_1150 : mj_fetch 176 1150 = some (.iconst 2, 0, 0) := by decide +kernel
theorem f_176_1151 : mj_fetch 176 1151 = some (.iadd, 0, 0) := by decide +kernel
theorem f_176_1152 : mj_fetch 176 1152 = some (.iaload, 0, 0) := by decide +kernel
theorem f_176_1153 : mj_fetch 176 1153 = some (.ifCond .eq 7, 0, 0) := by decide +kernel
theorem f_176_1156 : mj_fetch 176 1156 = some (.iconst 1, 0, 0) := by decide +kernel
theorem f_176_1157 : mj_fetch 176 1157 = some (.goto 4, 0, 0) := by decide +kernel
theorem f_176_1160 : mj_fetch 176 1160 = some (.iconst 0, 0, 0) := by decide +kernel
theorem f_176_1161 : mj_fetch 176 1161 = some (.invokevirtual 127, 164, 0) := by decide +kernel
theorem f_176_1164 : mj_fetch 176 1164 = some (.if_icmp .eq 190, 0, 0) := by decide +kernel
theorem f_176_1167 : mj_fetch 176 1167 = some (.iconst 0, 0, 0) := by decide +kernel
theorem f_176_1168 : mj_fetch 176 1168 = some (.ireturn, 0, 0) := by decide +kernel
theorem f_176_1169 : mj_fetch 176 1169 = some (.aload_n 1, 0, 0) := by decide +kernel
theorem f_176_1170 : mj_fetch 176 1170 = some (.aload_n 0, 0, 0) := by decide +kernel
theorem f_176_1171 : mj_fetch 176 1171 = some (.iload 4, 0, 0) := by decide +kernel
theorem f_176_1173 : mj_fetch 176 1173 = some (.iconst 1, 0, 0) := by decide +kernel
theorem f_176_1174 : mj_fetch 176 1174 = some (.iadd, 0, 0) := by decide +kernel
theorem f_176_1175 : mj_fetch 176 1175 = some (.iaload, 0, 0) := by decide +kernel
theorem f_176_1176 : mj_fetch 176 1176 = some (.aload_n 0, 0, 0) := by decide +kernel
theorem f_176_1177 : mj_fetch 176 1177 = some (.iload 4, 0, 0) := by decide +kernel
theorem f_176_1179 : mj_fetch 176 1179 = some (.iconst 2, 0, 0) := by decide +kernel
theorem f_176_1180 : mj_fetch 176 1180 = some (.iadd, 0, 0) := by decide +kernel
theorem f_176_1181 : mj_fetch 176 1181 = some (.iaload, 0, 0) := by decide +kernel
theorem f_176_1182 : mj_fetch 176 1182 = some (.invokevirtual 128, 92, 0) := by decide +kernel
theorem f_176_1185 : mj_fetch 176 1185 = some (.aload_n 2, 0, 0) := by decide +kernel
theorem f_176_1186 : mj_fetch 176 1186 = some (.aload_n 0, 0, 0) := by decide +kernel
theorem f_176_1187 : mj_fetch 176 1187 = some (.iload 4, 0, 0) := by decide +kernel
theorem f_176_1189 : mj_fetch 176 1189 = some (.iconst 1, 0, 0) := by decide +kernel
theorem f_176_1190 : mj_fetch 176 1190 = some (.iadd, 0, 0) := by decide +kernel
theorem f_176_1191 : mj_fetch 176 1191 = some (.iaload, 0, 0) := by decide +kernel
theorem f_176_1192 : mj_fetch 176 1192 = some (.aload_n 0, 0, 0) := by decide +kernel
theorem f_176_1193 : mj_fetch 176 1193 = some (.iload 4, 0, 0) := by decide +kernel
theorem f_176_1195 : mj_fetch 176 1195 = some (.iconst 2, 0, 0) := by decide +kernel
theorem f_176_1196 : mj_fetch 176 1196 = some (.iadd, 0, 0) := by decide +kernel
theorem f_176_1197 : mj_fetch 176 1197 = some (.iaload, 0, 0) := by decide +kernel
theorem f_176_1198 : mj_fetch 176 1198 = some (.invokevirtual 131, 166, 0) := by decide +kernel
theorem f_176_1201 : mj_fetch 176 1201 = some (.if_icmp .eq 153, 0, 0) := by decide +kernel
theorem f_176_1204 : mj_fetch 176 1204 = some (.iconst 0, 0, 0) := by decide +kernel
theorem f_176_1205 : mj_fetch 176 1205 = some (.ireturn, 0, 0) := by decide +kernel
theorem f_176_1206 : mj_fetch 176 1206 = some (.aload_n 1, 0, 0) := by decide +kernel
theorem f_176_1207 : mj_fetch 176 1207 = some (.aload_n 0, 0, 0) := by decide +kernel
theorem f_176_1208 : mj_fetch 176 1208 = some (.iload 4, 0, 0) := by decide +kernel
theorem f_176_1210 : mj_fetch 176 1210 = some (.iconst 1, 0, 0) := by decide +kernel
theorem f_176_1211 : mj_fetch 176 1211 = some (.iadd, 0, 0) := by decide +kernel
theorem f_176_1212 : mj_fetch 176 1212 = some (.iaload, 0, 0) := by decide +kernel
theorem f_176_1213 : mj_fetch 176 1213 = some (.invokevirtual 132, 93, 0) := by decide +kernel
theorem f_176_1216 : mj_fetch 176 1216 = some (.aload_n 2, 0, 0) := by decide +kernel
theorem f_176_1217 : mj_fetch 176 1217 = some (.aload_n 0, 0, 0) := by decide +kernel
theorem f_176_1218 : mj_fetch 176 1218 = some (.iload 4, 0, 0) := by decide +kernel
theorem f_176_1220 : mj_fetch 176 1220 = some (.iconst 1, 0, 0) := by decide +kernel
theorem f_176_1221 : mj_fetch 176 1221 = some (.iadd, 0, 0) := by decide +kernel
theorem f_176_1222 : mj_fetch 176 1222 = some (.iaload, 0, 0) := by decide +kernel
theorem f_176_1223 : mj_fetch 176 1223 = some (.invokevirtual 135, 167, 0) := by decide +kernel
theorem f_176_1226 : mj_fetch 176 1226 = some (.if_icmp .eq 128, 0, 0) := by decide +kernel
theorem f_176_1229 : mj_fetch 176 1229 = some (.iconst 0, 0, 0) := by decide +kernel
theorem f_176_1230 : mj_fetch 176 1230 = some (.ireturn, 0, 0) := by decide +kernel
theorem f_176_1231 : mj_fetch 176 1231 = some (.aload_n 1, 0, 0) := by decide +kernel
theorem f_176_1232 : mj_fetch 176 1232 = some (.aload_n 0, 0, 0) := by decide +kernel
theorem f_176_1233 : mj_fetch 176 1233 = some (.iload 4, 0, 0) := by decide +kernel
theorem f_176_1235 : mj_fetch 176 1235 = some (.iconst 1, 0, 0) := by decide +kernel
theorem f_176_1236 : mj_fetch 176 1236 = some (.iadd, 0, 0) := by decide +kernel
theorem f_176_1237 : mj_fetch 176 1237 = some (.iaload, 0, 0) := by decide +kernel
theorem f_176_1238 : mj_fetch 176 1238 = some (.invokevirtual 136, 94, 0) := by decide +kernel
theorem f_176_1241 : mj_fetch 176 1241 = some (.aload_n 2, 0, 0) := by decide +kernel
theorem f_176_1242 : mj_fetch 176 1242 = some (.aload_n 0, 0, 0) := by decide +kernel
theorem f_176_1243 : mj_fetch 176 1243 = some (.iload 4, 0, 0) := by decide +kernel
theorem f_176_1245 : mj_fetch 176 1245 = some (.iconst 1, 0, 0) := by decide +kernel
theorem f_176_1246 : mj_fetch 176 1246 = some (.iadd, 0, 0) := by decide +kernel
theorem f_176_1247 : mj_fetch 176 1247 = some (.iaload, 0, 0) := by decide +kernel
theorem f_176_1248 : mj_fetch 176 1248 = some (.invokevirtual 139, 168, 0) := by decide +kernel
theorem f_176_1251 : mj_fetch 176 1251 = some (.if_icmp .eq 103, 0, 0) := by decide +kernel
theorem f_176_1254 : mj_fetch 176 1254 = some (.iconst 0, 0, 0) := by decide +kernel
theorem f_176_1255 : mj_fetch 176 1255 = some (.ireturn, 0, 0) := by decide +kernel
theorem f_176_1256 : mj_fetch 176 1256 = some (.aload_n 1, 0, 0) := by decide +kernel
theorem f_176_1257 : mj_fetch 176 1257 = some (.aload_n 0, 0, 0) := by decide +kernel
theorem f_176_1258 : mj_fetch 176 1258 = some (.iload 4, 0, 0) := by decide +kernel
theorem f_176_1260 : mj_fetch 176 1260 = some (.iconst 1, 0, 0) := by decide +kernel
theorem f_176_1261 : mj_fetch 176 1261 = some (.iadd, 0, 0) := by decide +kernel
theorem f_176_1262 : mj_fetch 176 1262 = some (.iaload, 0, 0) := by decide +kernel
theorem f_176_1263 : mj_fetch 176 1263 = some (.aload_n 0, 0, 0) := by decide +kernel
theorem f_176_1264 : mj_fetch 176 1264 = some (.iload 4, 0, 0) := by decide +kernel
theorem f_176_1266 : mj_fetch 176 1266 = some (.iconst 2, 0, 0) := by decide +kernel
theorem f_176_1267 : mj_fetch 176 1267 = some (.iadd, 0, 0) := by decide +kernel
theorem f_176_1268 : mj_fetch 176 1268 = some (.iaload, 0, 0) := by decide +kernel
theorem f_176_1269 : mj_fetch 176 1269 = some (.invokevirtual 140, 95, 0) := by decide +kernel
theorem f_176_1272 : mj_fetch 176 1272 = some (.aload_n 2, 0, 0) := by decide +kernel
theorem f_176_1273 : mj_fetch 176 1273 = some (.aload_n 0, 0, 0) := by decide +kernel
theorem f_176_1274 : mj_fetch 176 1274 = some (.iload 4, 0, 0) := by decide +kernel
theorem f_176_1276 : mj_fetch 176 1276 = some (.iconst 1, 0, 0) := by decide +kernel
theorem f_176_1277 : mj_fetch 176 1277 = some (.iadd, 0, 0) := by decide +kernel
theorem f_176_1278 : mj_fetch 176 1278 = some (.iaload, 0, 0) := by decide +kernel
theorem f_176_1279 : mj_fetch 176 1279 = some (.aload_n 0, 0, 0) := by decide +kernel
theorem f_176_1280 : mj_fetch 176 1280 = some (.iload 4, 0, 0) := by decide +kernel
theorem f_176_1282 : mj_fetch 176 1282 = some (.iconst 2, 0, 0) := by decide +kernel
theorem f_176_1283 : mj_fetch 176 1283 = some (.iadd, 0, 0) := by decide +kernel
theorem f_176_1284 : mj_fetch 176 1284 = some (.iaload, 0, 0) := by decide +kernel
theorem f_176_1285 : mj_fetch 176 1285 = some (.invokevirtual 143, 169, 0) := by decide +kernel
theorem f_176_1288 : mj_fetch 176 1288 = some (.if_icmp .eq 66, 0, 0) := by decide +kernel
theorem f_176_1291 : mj_fetch 176 1291 = some (.iconst 0, 0, 0) := by decide +kernel
theorem f_176_1292 : mj_fetch 176 1292 = some (.ireturn, 0, 0) := by decide +kernel
theorem f_176_1293 : mj_fetch 176 1293 = some (.aload_n 1, 0, 0) := by decide +kernel
theorem f_176_1294 : mj_fetch 176 1294 = some (.invokevirtual 144, 96, 0) := by decide +kernel
theorem f_176_1297 : mj_fetch 176 1297 = some (.aload_n 2, 0, 0) := by decide +kernel
theorem f_176_1298 : mj_fetch 176 1298 = some (.invokevirtual 147, 170, 0) := by decide +kernel
theorem f_176_1301 : mj_fetch 176 1301 = some (.goto 53, 0, 0) := by decide +kernel
theorem f_176_1304 : mj_fetch 176 1304 = some (.aload_n 1, 0, 0) := by decide +kernel
theorem f_176_1305 : mj_fetch 176 1305 = some (.aload_n 0, 0, 0) := by decide +kernel
theorem f_176_1306 : mj_fetch 176 1306 = some (.iload 4, 0, 0) := by decide +kernel
theorem f_176_1308 : mj_fetch 176 1308 = some (.iconst 1, 0, 0) := by decide +kernel
theorem f_176_1309 : mj_fetch 176 1309 = some (.iadd, 0, 0) := by decide +kernel
theorem f_176_1310 : mj_fetch 176 1310 = some (.iaload, 0, 0) := by decide +kernel
theorem f_176_1311 : mj_fetch 176 1311 = some (.invokevirtual 148, 97, 0) := by decide +kernel
theorem f_176_1314 : mj_fetch 176 1314 = some (.aload_n 2, 0, 0) := by decide +kernel
theorem f_176_1315 : mj_fetch 176 1315 = some (.aload_n 0, 0, 0) := by decide +kernel
theorem f_176_1316 : mj_fetch 176 1316 = some (.iload 4, 0, 0) := by decide +kernel
theorem f_176_1318 : mj_fetch 176 1318 = some (.iconst 1, 0, 0) := by decide +kernel
theorem f_176_1319 : mj_fetch 176 1319 = some (.iadd, 0, 0) := by decide +kernel
theorem f_176_1320 : mj_fetch 176 1320 = some (.iaload, 0, 0) := by decide +kernel
theorem f_176_1321 : mj_fetch 176 1321 = some (.invokevirtual 151, 173, 0) := by decide +kernel
theorem f_176_1324 : mj_fetch 176 1324 = some (.if_icmp .eq 30, 0, 0) := by decide +kernel
theorem f_176_1327 : mj_fetch 176 1327 = some (.iconst 0, 0, 0) := by decide +kernel
theorem f_176_1328 : mj_fetch 176 1328 = some (.ireturn, 0, 0) := by decide +kernel
theorem f_176_1329 : mj_fetch 176 1329 = some (.aload_n 1, 0, 0) := by decide +kernel
theorem f_176_1330 : mj_fetch 176 1330 = some (.aload_n 0, 0, 0) := by decide +kernel
theorem f_176_1331 : mj_fetch 176 1331 = some (.iload 4, 0, 0) := by decide +kernel
theorem f_176_1333 : mj_fetch 176 1333 = some (.iconst 1, 0, 0) := by decide +kernel
theorem f_176_1334 : mj_fetch 176 1334 = some (.iadd, 0, 0) := by decide +kernel
theorem f_176_1335 : mj_fetch 176 1335 = some (.iaload, 0, 0) := by decide +kernel
theorem f_176_1336 : mj_fetch 176 1336 = some (.invokevirtual 152, 98, 0) := by decide +kernel
theorem f_176_1339 : mj_fetch 176 1339 = some (.aload_n 2, 0, 0) := by decide +kernel
theorem f_176_1340 : mj_fetch 176 1340 = some (.aload_n 0, 0, 0) := by decide +kernel
theorem f_176_1341 : mj_fetch 176 1341 = some (.iload 4, 0, 0) := by decide +kernel
theorem f_176_1343 : mj_fetch 176 1343 = some (.iconst 1, 0, 0) := by decide +kernel
theorem f_176_1344 : mj_fetch 176 1344 = some (.iadd, 0, 0) := by decide +kernel
theorem f_176_1345 : mj_fetch 176 1345 = some (.iaload, 0, 0) := by decide +kernel
theorem f_176_1346 : mj_fetch 176 1346 = some (.invokevirtual 155, 174, 0) := by decide +kernel
theorem f_176_1349 : mj_fetch 176 1349 = some (.if_icmp .eq 5, 0, 0) := by decide +kernel
theorem f_176_1352 : mj_fetch 176 1352 = some (.iconst 0, 0, 0) := by decide +kernel
theorem f_176_1353 : mj_fetch 176 1353 = some (.ireturn, 0, 0) := by decide +kernel
theorem f_176_1354 : mj_fetch 176 1354 = some (.iinc 4 9, 0, 0) := by decide +kernel
theorem f_176_1357 : mj_fetch 176 1357 = some (.goto (-1334), 0, 0) := by decide +kernel
theorem f_176_1360 : mj_fetch 176 1360 = some (.iconst 1, 0, 0) := by decide +kernel
theorem f_176_1361 : mj_fetch 176 1361 = some (.ireturn, 0, 0) := by decide +kernel
theorem x_told {d mid pc a x : Nat} {ls st st' : List Value} {h g : mj_H} {Q : Option Value → mj_H → Prop} (f : mj_fetch mid pc = some (.invokestatic x, a, 6)) (e : mj_told h st = some (st', g)) (k : mx d mid (pc + 3) ls st' g Q) : mx d mid pc ls st h Q := mx_step f rfl rfl (by simp [mj_step, e]) k
theorem law_lt {n i : Nat} (hn : n ≤ 4608) (hi : i ≤ 4608) : nI n - nI 9 < nI i ↔ n < i + 9 := by
  have e : (nI n - nI 9).toInt = (n : Int) - 9 := by rw [i_sub, nI_toInt (by omega), nI_toInt (by omega)]; rfl; all_goals (rw [nI_toInt (by omega), nI_toInt (by omega)]; omega)
  rw [Int32.lt_iff_toInt_lt, e, nI_toInt (by omega)]
  omega
theorem and31 (v : Int32) : ∃ c, c ≤ 31 ∧ v &&& nI 31 = nI c := by
  refine ⟨(v.toBitVec &&& 31#32).toNat, ?_, ?_⟩
  · rw [BitVec.toNat_and]
    exact Nat.and_le_right
  · have e : (v &&& nI 31).toBitVec = v.toBitVec &&& 31#32 := rfl
    have e2 : (nI (v.toBitVec &&& 31#32).toNat).toBitVec = v.toBitVec &&& 31#32 := by
      show BitVec.ofNat 32 (v.toBitVec &&& 31#32).toNat = _
      simp
    exact Int32.toBitVec_inj.mp (e.trans e2.symm)
set_option maxRecDepth 20000 in
theorem law_0 {h : mj_H} {sm jm wm tm xm km em : Nat} (v : IV h sm jm wm tm xm km em) {n i : Nat} (hn : n ≤ 4608) (hi : i + 9 ≤ n) (k7 : mj_K h 7 = (12, n)) (k62 : mj_K h 62 = (13, 1)) (x y : Value) {Q : Option Value → mj_H → Prop} (kk : ∀ k x' y', NX h k → mx 31 176 1354 [.ref 7, .ref 8, .ref 33, .ref 62, .int (nI i), x', y'] [] k Q) : mx 31 176 180 [.ref 7, .ref 8, .ref 33, .ref 62, .int (nI i), x, y] [] h Q := by
  have h63 := v.l63
  refine x_aload_n f_176_180 rfl ?_
  refine x_aload_n f_176_181 rfl ?_
  refine x_iload f_176_182 rfl ?_
  refine x_iconst (v := nI 1) f_176_184 (by decide) ?_
  refine x_iaddN f_176_185 ?_
  refine x_iald f_176_186 k7 (by omega) (by omega) ?_
  refine x_callV f_176_187 (mxc.keep (pr_days v (mj_I h 7 (i + 1))) (by omega)) (by decide) v.sc.k8 (by decide) rfl rfl (Nat.le_of_ble_eq_true rfl) rfl ?_
  rintro _ g ⟨⟨u, rfl, km⟩, kp⟩
  have g7 : mj_K g 7 = (12, n) := (kp.2.1 7 (by omega)).trans k7
  have gi : mj_I g 7 = mj_I h 7 := kp.2.2 7 (by decide) (by rw [k7])
  have g33 : mj_K g 33 = (11, 48) := (kp.2.1 33 (by omega)).trans v.mw.1.k33
  show mx 31 176 190 [.ref 7, .ref 8, .ref 33, .ref 62, .int (nI i), x, y] [.int u] g Q
  refine x_aload_n f_176_190 rfl ?_
  refine x_aload_n f_176_191 rfl ?_
  refine x_iload f_176_192 rfl ?_
  refine x_iconst (v := nI 1) f_176_194 (by decide) ?_
  refine x_iaddN f_176_195 ?_
  refine x_iald f_176_196 g7 (by omega) (by omega) ?_
  refine x_topi (congrFun gi _) ?_
  refine x_callV f_176_197 km (by decide) g33 (by decide) rfl rfl (Nat.le_of_ble_eq_true rfl) rfl ?_
  rintro _ k ⟨rfl, nx⟩
  exact x_icmp_eq (t := 1354) f_176_200 (by decide) (fun _ => kk k x y nx) (fun c => absurd rfl c)
set_option maxRecDepth 20000 in
theorem law_1 {h : mj_H} {sm jm wm tm xm km em : Nat} (v : IV h sm jm wm tm xm km em) {n i : Nat} (hn : n ≤ 4608) (hi : i + 9 ≤ n) (k7 : mj_K h 7 = (12, n)) (k62 : mj_K h 62 = (13, 1)) (x y : Value) {Q : Option Value → mj_H → Prop} (kk : ∀ k x' y', NX h k → mx 31 176 1354 [.ref 7, .ref 8, .ref 33, .ref 62, .int (nI i), x', y'] [] k Q) : mx 31 176 205 [.ref 7, .ref 8, .ref 33, .ref 62, .int (nI i), x, y] [] h Q := by
  have h63 := v.l63
  refine x_aload_n f_176_205 rfl ?_
  refine x_aload_n f_176_206 rfl ?_
  refine x_iload f_176_207 rfl ?_
  refine x_iconst (v := nI 1) f_176_209 (by decide) ?_
  refine x_iaddN f_176_210 ?_
  refine x_iald f_176_211 k7 (by omega) (by omega) ?_
  refine x_aload_n f_176_212 rfl ?_
  refine x_iload f_176_213 rfl ?_
  refine x_iconst (v := nI 2) f_176_215 (by decide) ?_
  refine x_iaddN f_176_216 ?_
  refine x_iald f_176_217 k7 (by omega) (by omega) ?_
  refine x_aload_n f_176_218 rfl ?_
  refine x_iload f_176_219 rfl ?_
  refine x_iconst (v := nI 3) f_176_221 (by decide) ?_
  refine x_iaddN f_176_222 ?_
  refine x_iald f_176_223 k7 (by omega) (by omega) ?_
  refine x_aload_n f_176_224 rfl ?_
  refine x_iload f_176_225 rfl ?_
  refine x_iconst (v := nI 4) f_176_227 (by decide) ?_
  refine x_iaddN f_176_228 ?_
  refine x_iald f_176_229 k7 (by omega) (by omega) ?_
  refine x_aload_n f_176_230 rfl ?_
  refine x_iload f_176_231 rfl ?_
  refine x_iconst (v := nI 5) f_176_233 (by decide) ?_
  refine x_iaddN f_176_234 ?_
  refine x_iald f_176_235 k7 (by omega) (by omega) ?_
  refine x_aload_n f_176_236 rfl ?_
  refine x_iload f_176_237 rfl ?_
  refine x_bipush (v := nI 6) f_176_239 (by decide) ?_
  refine x_iaddN f_176_241 ?_
  refine x_iald f_176_242 k7 (by omega) (by omega) ?_
  refine x_aload_n f_176_243 rfl ?_
  refine x_iload f_176_244 rfl ?_
  refine x_bipush (v := nI 7) f_176_246 (by decide) ?_
  refine x_iaddN f_176_248 ?_
  refine x_iald f_176_249 k7 (by omega) (by omega) ?_
  refine x_aload_n f_176_250 rfl ?_
  refine x_iload f_176_251 rfl ?_
  refine x_bipush (v := nI 8) f_176_253 (by decide) ?_
  refine x_iaddN f_176_255 ?_
  refine x_iald f_176_256 k7 (by omega) (by omega) ?_
  refine x_callV f_176_257 (mxc.keep (pr_stuff v (mj_I h 7 (i + 1)) (mj_I h 7 (i + 2)) (mj_I h 7 (i + 3)) (mj_I h 7 (i + 4)) (mj_I h 7 (i + 5)) (mj_I h 7 (i + 6)) (mj_I h 7 (i + 7)) (mj_I h 7 (i + 8))) (by omega)) (by decide) v.sc.k8 (by decide) rfl rfl (Nat.le_of_ble_eq_true rfl) rfl ?_
  rintro _ g ⟨⟨u, rfl, km⟩, kp⟩
  have g7 : mj_K g 7 = (12, n) := (kp.2.1 7 (by omega)).trans k7
  have gi : mj_I g 7 = mj_I h 7 := kp.2.2 7 (by decide) (by rw [k7])
  have g33 : mj_K g 33 = (11, 48) := (kp.2.1 33 (by omega)).trans v.mw.1.k33
  show mx 31 176 260 [.ref 7, .ref 8, .ref 33, .ref 62, .int (nI i), x, y] [.int u] g Q
  refine x_aload_n f_176_260 rfl ?_
  refine x_aload_n f_176_261 rfl ?_
  refine x_iload f_176_262 rfl ?_
  refine x_iconst (v := nI 1) f_176_264 (by decide) ?_
  refine x_iaddN f_176_265 ?_
  refine x_iald f_176_266 g7 (by omega) (by omega) ?_
  refine x_topi (congrFun gi _) ?_
  refine x_aload_n f_176_267 rfl ?_
  refine x_iload f_176_268 rfl ?_
  refine x_iconst (v := nI 2) f_176_270 (by decide) ?_
  refine x_iaddN f_176_271 ?_
  refine x_iald f_176_272 g7 (by omega) (by omega) ?_
  refine x_topi (congrFun gi _) ?_
  refine x_aload_n f_176_273 rfl ?_
  refine x_iload f_176_274 rfl ?_
  refine x_iconst (v := nI 3) f_176_276 (by decide) ?_
  refine x_iaddN f_176_277 ?_
  refine x_iald f_176_278 g7 (by omega) (by omega) ?_
  refine x_topi (congrFun gi _) ?_
  refine x_aload_n f_176_279 rfl ?_
  refine x_iload f_176_280 rfl ?_
  refine x_iconst (v := nI 4) f_176_282 (by decide) ?_
  refine x_iaddN f_176_283 ?_
  refine x_iald f_176_284 g7 (by omega) (by omega) ?_
  refine x_topi (congrFun gi _) ?_
  refine x_aload_n f_176_285 rfl ?_
  refine x_iload f_176_286 rfl ?_
  refine x_iconst (v := nI 5) f_176_288 (by decide) ?_
  refine x_iaddN f_176_289 ?_
  refine x_iald f_176_290 g7 (by omega) (by omega) ?_
  refine x_topi (congrFun gi _) ?_
  refine x_aload_n f_176_291 rfl ?_
  refine x_iload f_176_292 rfl ?_
  refine x_bipush (v := nI 6) f_176_294 (by decide) ?_
  refine x_iaddN f_176_296 ?_
  refine x_iald f_176_297 g7 (by omega) (by omega) ?_
  refine x_topi (congrFun gi _) ?_
  refine x_aload_n f_176_298 rfl ?_
  refine x_iload f_176_299 rfl ?_
  refine x_bipush (v := nI 7) f_176_301 (by decide) ?_
  refine x_iaddN f_176_303 ?_
  refine x_iald f_176_304 g7 (by omega) (by omega) ?_
  refine x_topi (congrFun gi _) ?_
  refine x_aload_n f_176_305 rfl ?_
  refine x_iload f_176_306 rfl ?_
  refine x_bipush (v := nI 8) f_176_308 (by decide) ?_
  refine x_iaddN f_176_310 ?_
  refine x_iald f_176_311 g7 (by omega) (by omega) ?_
  refine x_topi (congrFun gi _) ?_
  refine x_callV f_176_312 km (by decide) g33 (by decide) rfl rfl (Nat.le_of_ble_eq_true rfl) rfl ?_
  rintro _ k ⟨rfl, nx⟩
  exact x_icmp_eq (t := 1354) f_176_315 (by decide) (fun _ => kk k x y nx) (fun c => absurd rfl c)
set_option maxRecDepth 20000 in
theorem law_2 {h : mj_H} {sm jm wm tm xm km em : Nat} (v : IV h sm jm wm tm xm km em) {n i : Nat} (hn : n ≤ 4608) (hi : i + 9 ≤ n) (k7 : mj_K h 7 = (12, n)) (k62 : mj_K h 62 = (13, 1)) (x y : Value) {Q : Option Value → mj_H → Prop} (kk : ∀ k x' y', NX h k → mx 31 176 1354 [.ref 7, .ref 8, .ref 33, .ref 62, .int (nI i), x', y'] [] k Q) : mx 31 176 320 [.ref 7, .ref 8, .ref 33, .ref 62, .int (nI i), x, y] [] h Q := by
  have h63 := v.l63
  refine x_aload_n f_176_320 rfl ?_
  refine x_aload_n f_176_321 rfl ?_
  refine x_iload f_176_322 rfl ?_
  refine x_iconst (v := nI 1) f_176_324 (by decide) ?_
  refine x_iaddN f_176_325 ?_
  refine x_iald f_176_326 k7 (by omega) (by omega) ?_
  refine x_aload_n f_176_327 rfl ?_
  refine x_iload f_176_328 rfl ?_
  refine x_iconst (v := nI 2) f_176_330 (by decide) ?_
  refine x_iaddN f_176_331 ?_
  refine x_iald f_176_332 k7 (by omega) (by omega) ?_
  refine x_callV f_176_333 (mxc.keep (pr_bar v (mj_I h 7 (i + 1)) (mj_I h 7 (i + 2))) (by omega)) (by decide) v.sc.k8 (by decide) rfl rfl (Nat.le_of_ble_eq_true rfl) rfl ?_
  rintro _ g ⟨⟨u, rfl, km⟩, kp⟩
  have g7 : mj_K g 7 = (12, n) := (kp.2.1 7 (by omega)).trans k7
  have gi : mj_I g 7 = mj_I h 7 := kp.2.2 7 (by decide) (by rw [k7])
  have g33 : mj_K g 33 = (11, 48) := (kp.2.1 33 (by omega)).trans v.mw.1.k33
  show mx 31 176 336 [.ref 7, .ref 8, .ref 33, .ref 62, .int (nI i), x, y] [.int u] g Q
  refine x_aload_n f_176_336 rfl ?_
  refine x_aload_n f_176_337 rfl ?_
  refine x_iload f_176_338 rfl ?_
  refine x_iconst (v := nI 1) f_176_340 (by decide) ?_
  refine x_iaddN f_176_341 ?_
  refine x_iald f_176_342 g7 (by omega) (by omega) ?_
  refine x_topi (congrFun gi _) ?_
  refine x_aload_n f_176_343 rfl ?_
  refine x_iload f_176_344 rfl ?_
  refine x_iconst (v := nI 2) f_176_346 (by decide) ?_
  refine x_iaddN f_176_347 ?_
  refine x_iald f_176_348 g7 (by omega) (by omega) ?_
  refine x_topi (congrFun gi _) ?_
  refine x_callV f_176_349 km (by decide) g33 (by decide) rfl rfl (Nat.le_of_ble_eq_true rfl) rfl ?_
  rintro _ k ⟨rfl, nx⟩
  exact x_icmp_eq (t := 1354) f_176_352 (by decide) (fun _ => kk k x y nx) (fun c => absurd rfl c)
set_option maxRecDepth 20000 in
theorem law_3 {h : mj_H} {sm jm wm tm xm km em : Nat} (v : IV h sm jm wm tm xm km em) {n i : Nat} (hn : n ≤ 4608) (hi : i + 9 ≤ n) (k7 : mj_K h 7 = (12, n)) (k62 : mj_K h 62 = (13, 1)) (x y : Value) {Q : Option Value → mj_H → Prop} (kk : ∀ k x' y', NX h k → mx 31 176 1354 [.ref 7, .ref 8, .ref 33, .ref 62, .int (nI i), x', y'] [] k Q) : mx 31 176 357 [.ref 7, .ref 8, .ref 33, .ref 62, .int (nI i), x, y] [] h Q := by
  have h63 := v.l63
  refine x_aload_n f_176_357 rfl ?_
  refine x_aload_n f_176_358 rfl ?_
  refine x_iload f_176_359 rfl ?_
  refine x_iconst (v := nI 1) f_176_361 (by decide) ?_
  refine x_iaddN f_176_362 ?_
  refine x_iald f_176_363 k7 (by omega) (by omega) ?_
  refine x_aload_n f_176_364 rfl ?_
  refine x_iload f_176_365 rfl ?_
  refine x_iconst (v := nI 2) f_176_367 (by decide) ?_
  refine x_iaddN f_176_368 ?_
  refine x_iald f_176_369 k7 (by omega) (by omega) ?_
  refine x_aload_n f_176_370 rfl ?_
  refine x_iload f_176_371 rfl ?_
  refine x_iconst (v := nI 3) f_176_373 (by decide) ?_
  refine x_iaddN f_176_374 ?_
  refine x_iald f_176_375 k7 (by omega) (by omega) ?_
  refine x_callV f_176_376 (mxc.keep (pr_job v (mj_I h 7 (i + 1)) (mj_I h 7 (i + 2)) (mj_I h 7 (i + 3))) (by omega)) (by decide) v.sc.k8 (by decide) rfl rfl (Nat.le_of_ble_eq_true rfl) rfl ?_
  rintro _ g ⟨⟨u, rfl, km⟩, kp⟩
  have g7 : mj_K g 7 = (12, n) := (kp.2.1 7 (by omega)).trans k7
  have gi : mj_I g 7 = mj_I h 7 := kp.2.2 7 (by decide) (by rw [k7])
  have g33 : mj_K g 33 = (11, 48) := (kp.2.1 33 (by omega)).trans v.mw.1.k33
  show mx 31 176 379 [.ref 7, .ref 8, .ref 33, .ref 62, .int (nI i), x, y] [.int u] g Q
  refine x_aload_n f_176_379 rfl ?_
  refine x_aload_n f_176_380 rfl ?_
  refine x_iload f_176_381 rfl ?_
  refine x_iconst (v := nI 1) f_176_383 (by decide) ?_
  refine x_iaddN f_176_384 ?_
  refine x_iald f_176_385 g7 (by omega) (by omega) ?_
  refine x_topi (congrFun gi _) ?_
  refine x_aload_n f_176_386 rfl ?_
  refine x_iload f_176_387 rfl ?_
  refine x_iconst (v := nI 2) f_176_389 (by decide) ?_
  refine x_iaddN f_176_390 ?_
  refine x_iald f_176_391 g7 (by omega) (by omega) ?_
  refine x_topi (congrFun gi _) ?_
  refine x_aload_n f_176_392 rfl ?_
  refine x_iload f_176_393 rfl ?_
  refine x_iconst (v := nI 3) f_176_395 (by decide) ?_
  refine x_iaddN f_176_396 ?_
  refine x_iald f_176_397 g7 (by omega) (by omega) ?_
  refine x_topi (congrFun gi _) ?_
  refine x_callV f_176_398 km (by decide) g33 (by decide) rfl rfl (Nat.le_of_ble_eq_true rfl) rfl ?_
  rintro _ k ⟨rfl, nx⟩
  exact x_icmp_eq (t := 1354) f_176_401 (by decide) (fun _ => kk k x y nx) (fun c => absurd rfl c)
set_option maxRecDepth 20000 in
theorem law_4 {h : mj_H} {sm jm wm tm xm km em : Nat} (v : IV h sm jm wm tm xm km em) {n i : Nat} (hn : n ≤ 4608) (hi : i + 9 ≤ n) (k7 : mj_K h 7 = (12, n)) (k62 : mj_K h 62 = (13, 1)) (x y : Value) {Q : Option Value → mj_H → Prop} (kk : ∀ k x' y', NX h k → mx 31 176 1354 [.ref 7, .ref 8, .ref 33, .ref 62, .int (nI i), x', y'] [] k Q) : mx 31 176 406 [.ref 7, .ref 8, .ref 33, .ref 62, .int (nI i), x, y] [] h Q := by
  have h63 := v.l63
  refine x_aload_n f_176_406 rfl ?_
  refine x_aload_n f_176_407 rfl ?_
  refine x_iload f_176_408 rfl ?_
  refine x_iconst (v := nI 1) f_176_410 (by decide) ?_
  refine x_iaddN f_176_411 ?_
  refine x_iald f_176_412 k7 (by omega) (by omega) ?_
  refine x_aload_n f_176_413 rfl ?_
  refine x_iload f_176_414 rfl ?_
  refine x_iconst (v := nI 2) f_176_416 (by decide) ?_
  refine x_iaddN f_176_417 ?_
  refine x_iald f_176_418 k7 (by omega) (by omega) ?_
  obtain ⟨u, g, et, km⟩ := pr_told v k62 (mj_I h 7 (i + 1)) (mj_I h 7 (i + 2))
  have kp : KP h g := told_kp (by omega) et
  have g7 : mj_K g 7 = (12, n) := (kp.2.1 7 (by omega)).trans k7
  have gi : mj_I g 7 = mj_I h 7 := kp.2.2 7 (by decide) (by rw [k7])
  have g33 : mj_K g 33 = (11, 48) := (kp.2.1 33 (by omega)).trans v.mw.1.k33
  refine x_aload_n f_176_419 rfl ?_
  refine x_told f_176_420 et ?_
  refine x_istore (ls1 := [.ref 7, .ref 8, .ref 33, .ref 62, .int (nI i), .int u, y]) f_176_423 (Nat.le_of_ble_eq_true rfl) rfl ?_
  refine x_aload_n f_176_425 rfl ?_
  refine x_aload_n f_176_426 rfl ?_
  refine x_iload f_176_427 rfl ?_
  refine x_iconst (v := nI 1) f_176_429 (by decide) ?_
  refine x_iaddN f_176_430 ?_
  refine x_iald f_176_431 g7 (by omega) (by omega) ?_
  refine x_topi (congrFun gi _) ?_
  refine x_aload_n f_176_432 rfl ?_
  refine x_iload f_176_433 rfl ?_
  refine x_iconst (v := nI 2) f_176_435 (by decide) ?_
  refine x_iaddN f_176_436 ?_
  refine x_iald f_176_437 g7 (by omega) (by omega) ?_
  refine x_topi (congrFun gi _) ?_
  refine x_callV f_176_438 km (by decide) g33 (by decide) rfl rfl (Nat.le_of_ble_eq_true rfl) rfl ?_
  rintro _ k ⟨w, rfl, nx, q62, q33, kt, ej⟩
  show mx 31 176 441 [.ref 7, .ref 8, .ref 33, .ref 62, .int (nI i), .int u, y] [.int w] k Q
  refine x_istore (ls1 := [.ref 7, .ref 8, .ref 33, .ref 62, .int (nI i), .int u, .int w]) f_176_441 (Nat.le_of_ble_eq_true rfl) rfl ?_
  refine x_aload_n f_176_443 rfl ?_
  refine x_callVe f_176_444 kt (by decide) q33 (by decide) rfl rfl (Nat.le_of_ble_eq_true rfl) rfl ?_
  refine x_iload f_176_447 rfl ?_
  refine x_icmp_eq (t := 454) f_176_449 (by decide) (fun _ => ?_) (fun c => absurd rfl c)
  refine x_iload f_176_454 rfl ?_
  have fin : mx 31 176 471 [.ref 7, .ref 8, .ref 33, .ref 62, .int (nI i), .int u, .int w] [] k Q := x_goto (t := 1354) f_176_471 (by decide) (kk k _ _ nx)
  refine x_if_ne (t := 471) f_176_456 (by decide) (fun _ => fin) (fun c => ?_)
  refine x_aload_n f_176_459 rfl ?_
  refine x_iconst (v := nI 0) f_176_460 (by decide) ?_
  refine x_lald f_176_461 q62 (by decide) (by decide) ?_
  refine x_iload f_176_462 rfl ?_
  refine x_i2l f_176_464 ?_
  refine x_lcmp f_176_465 ?_
  exact x_if_eq (t := 471) f_176_466 (by decide) (fun _ => fin) (fun c1 => absurd (lg_cmp0.mpr (ej c)) c1)
set_option maxRecDepth 20000 in
theorem law_5 {h : mj_H} {sm jm wm tm xm km em : Nat} (v : IV h sm jm wm tm xm km em) {n i : Nat} (hn : n ≤ 4608) (hi : i + 9 ≤ n) (k7 : mj_K h 7 = (12, n)) (k62 : mj_K h 62 = (13, 1)) (x y : Value) {Q : Option Value → mj_H → Prop} (kk : ∀ k x' y', NX h k → mx 31 176 1354 [.ref 7, .ref 8, .ref 33, .ref 62, .int (nI i), x', y'] [] k Q) : mx 31 176 474 [.ref 7, .ref 8, .ref 33, .ref 62, .int (nI i), x, y] [] h Q := by
  have h63 := v.l63
  refine x_aload_n f_176_474 rfl ?_
  refine x_aload_n f_176_475 rfl ?_
  refine x_iload f_176_476 rfl ?_
  refine x_iconst (v := nI 1) f_176_478 (by decide) ?_
  refine x_iaddN f_176_479 ?_
  refine x_iald f_176_480 k7 (by omega) (by omega) ?_
  refine x_aload_n f_176_481 rfl ?_
  refine x_iload f_176_482 rfl ?_
  refine x_iconst (v := nI 2) f_176_484 (by decide) ?_
  refine x_iaddN f_176_485 ?_
  refine x_iald f_176_486 k7 (by omega) (by omega) ?_
  refine x_aload_n f_176_487 rfl ?_
  refine x_iload f_176_488 rfl ?_
  refine x_iconst (v := nI 3) f_176_490 (by decide) ?_
  refine x_iaddN f_176_491 ?_
  refine x_iald f_176_492 k7 (by omega) (by omega) ?_
  refine x_callV f_176_493 (mxc.keep (pr_setting v (mj_I h 7 (i + 1)) (mj_I h 7 (i + 2)) (mj_I h 7 (i + 3))) (by omega)) (by decide) v.sc.k8 (by decide) rfl rfl (Nat.le_of_ble_eq_true rfl) rfl ?_
  rintro _ g ⟨⟨u, rfl, km⟩, kp⟩
  have g7 : mj_K g 7 = (12, n) := (kp.2.1 7 (by omega)).trans k7
  have gi : mj_I g 7 = mj_I h 7 := kp.2.2 7 (by decide) (by rw [k7])
  have g33 : mj_K g 33 = (11, 48) := (kp.2.1 33 (by omega)).trans v.mw.1.k33
  show mx 31 176 496 [.ref 7, .ref 8, .ref 33, .ref 62, .int (nI i), x, y] [.int u] g Q
  refine x_aload_n f_176_496 rfl ?_
  refine x_aload_n f_176_497 rfl ?_
  refine x_iload f_176_498 rfl ?_
  refine x_iconst (v := nI 1) f_176_500 (by decide) ?_
  refine x_iaddN f_176_501 ?_
  refine x_iald f_176_502 g7 (by omega) (by omega) ?_
  refine x_topi (congrFun gi _) ?_
  refine x_aload_n f_176_503 rfl ?_
  refine x_iload f_176_504 rfl ?_
  refine x_iconst (v := nI 2) f_176_506 (by decide) ?_
  refine x_iaddN f_176_507 ?_
  refine x_iald f_176_508 g7 (by omega) (by omega) ?_
  refine x_topi (congrFun gi _) ?_
  refine x_aload_n f_176_509 rfl ?_
  refine x_iload f_176_510 rfl ?_
  refine x_iconst (v := nI 3) f_176_512 (by decide) ?_
  refine x_iaddN f_176_513 ?_
  refine x_iald f_176_514 g7 (by omega) (by omega) ?_
  refine x_topi (congrFun gi _) ?_
  refine x_callV f_176_515 km (by decide) g33 (by decide) rfl rfl (Nat.le_of_ble_eq_true rfl) rfl ?_
  rintro _ k ⟨rfl, nx⟩
  exact x_icmp_eq (t := 1354) f_176_518 (by decide) (fun _ => kk k x y nx) (fun c => absurd rfl c)
set_option maxRecDepth 20000 in
theorem law_6 {h : mj_H} {sm jm wm tm xm km em : Nat} (v : IV h sm jm wm tm xm km em) {n i : Nat} (hn : n ≤ 4608) (hi : i + 9 ≤ n) (k7 : mj_K h 7 = (12, n)) (k62 : mj_K h 62 = (13, 1)) (x y : Value) {Q : Option Value → mj_H → Prop} (kk : ∀ k x' y', NX h k → mx 31 176 1354 [.ref 7, .ref 8, .ref 33, .ref 62, .int (nI i), x', y'] [] k Q) : mx 31 176 523 [.ref 7, .ref 8, .ref 33, .ref 62, .int (nI i), x, y] [] h Q := by
  have h63 := v.l63
  refine x_aload_n f_176_523 rfl ?_
  refine x_aload_n f_176_524 rfl ?_
  refine x_iload f_176_525 rfl ?_
  refine x_iconst (v := nI 1) f_176_527 (by decide) ?_
  refine x_iaddN f_176_528 ?_
  refine x_iald f_176_529 k7 (by omega) (by omega) ?_
  refine x_aload_n f_176_530 rfl ?_
  refine x_iload f_176_531 rfl ?_
  refine x_iconst (v := nI 2) f_176_533 (by decide) ?_
  refine x_iaddN f_176_534 ?_
  refine x_iald f_176_535 k7 (by omega) (by omega) ?_
  refine x_callV f_176_536 (mxc.keep (pr_verdict v (mj_I h 7 (i + 1)) (mj_I h 7 (i + 2))) (by omega)) (by decide) v.sc.k8 (by decide) rfl rfl (Nat.le_of_ble_eq_true rfl) rfl ?_
  rintro _ g ⟨⟨u, rfl, km⟩, kp⟩
  have g7 : mj_K g 7 = (12, n) := (kp.2.1 7 (by omega)).trans k7
  have gi : mj_I g 7 = mj_I h 7 := kp.2.2 7 (by decide) (by rw [k7])
  have g33 : mj_K g 33 = (11, 48) := (kp.2.1 33 (by omega)).trans v.mw.1.k33
  show mx 31 176 539 [.ref 7, .ref 8, .ref 33, .ref 62, .int (nI i), x, y] [.int u] g Q
  refine x_aload_n f_176_539 rfl ?_
  refine x_aload_n f_176_540 rfl ?_
  refine x_iload f_176_541 rfl ?_
  refine x_iconst (v := nI 1) f_176_543 (by decide) ?_
  refine x_iaddN f_176_544 ?_
  refine x_iald f_176_545 g7 (by omega) (by omega) ?_
  refine x_topi (congrFun gi _) ?_
  refine x_aload_n f_176_546 rfl ?_
  refine x_iload f_176_547 rfl ?_
  refine x_iconst (v := nI 2) f_176_549 (by decide) ?_
  refine x_iaddN f_176_550 ?_
  refine x_iald f_176_551 g7 (by omega) (by omega) ?_
  refine x_topi (congrFun gi _) ?_
  refine x_callV f_176_552 km (by decide) g33 (by decide) rfl rfl (Nat.le_of_ble_eq_true rfl) rfl ?_
  rintro _ k ⟨rfl, nx⟩
  exact x_icmp_eq (t := 1354) f_176_555 (by decide) (fun _ => kk k x y nx) (fun c => absurd rfl c)
set_option maxRecDepth 20000 in
theorem law_7 {h : mj_H} {sm jm wm tm xm km em : Nat} (v : IV h sm jm wm tm xm km em) {n i : Nat} (hn : n ≤ 4608) (hi : i + 9 ≤ n) (k7 : mj_K h 7 = (12, n)) (k62 : mj_K h 62 = (13, 1)) (x y : Value) {Q : Option Value → mj_H → Prop} (kk : ∀ k x' y', NX h k → mx 31 176 1354 [.ref 7, .ref 8, .ref 33, .ref 62, .int (nI i), x', y'] [] k Q) : mx 31 176 560 [.ref 7, .ref 8, .ref 33, .ref 62, .int (nI i), x, y] [] h Q := by
  have h63 := v.l63
  refine x_aload_n f_176_560 rfl ?_
  refine x_aload_n f_176_561 rfl ?_
  refine x_iload f_176_562 rfl ?_
  refine x_iconst (v := nI 1) f_176_564 (by decide) ?_
  refine x_iaddN f_176_565 ?_
  refine x_iald f_176_566 k7 (by omega) (by omega) ?_
  refine x_aload_n f_176_567 rfl ?_
  refine x_iload f_176_568 rfl ?_
  refine x_iconst (v := nI 2) f_176_570 (by decide) ?_
  refine x_iaddN f_176_571 ?_
  refine x_iald f_176_572 k7 (by omega) (by omega) ?_
  refine x_aload_n f_176_573 rfl ?_
  refine x_iload f_176_574 rfl ?_
  refine x_iconst (v := nI 3) f_176_576 (by decide) ?_
  refine x_iaddN f_176_577 ?_
  refine x_iald f_176_578 k7 (by omega) (by omega) ?_
  refine x_aload_n f_176_579 rfl ?_
  refine x_iload f_176_580 rfl ?_
  refine x_iconst (v := nI 4) f_176_582 (by decide) ?_
  refine x_iaddN f_176_583 ?_
  refine x_iald f_176_584 k7 (by omega) (by omega) ?_
  refine x_callV f_176_585 (mxc.keep (pr_ring v (mj_I h 7 (i + 1)) (mj_I h 7 (i + 2)) (mj_I h 7 (i + 3)) (mj_I h 7 (i + 4))) (by omega)) (by decide) v.sc.k8 (by decide) rfl rfl (Nat.le_of_ble_eq_true rfl) rfl ?_
  rintro _ g ⟨⟨u, rfl, km⟩, kp⟩
  have g7 : mj_K g 7 = (12, n) := (kp.2.1 7 (by omega)).trans k7
  have gi : mj_I g 7 = mj_I h 7 := kp.2.2 7 (by decide) (by rw [k7])
  have g33 : mj_K g 33 = (11, 48) := (kp.2.1 33 (by omega)).trans v.mw.1.k33
  show mx 31 176 588 [.ref 7, .ref 8, .ref 33, .ref 62, .int (nI i), x, y] [.int u] g Q
  refine x_aload_n f_176_588 rfl ?_
  refine x_aload_n f_176_589 rfl ?_
  refine x_iload f_176_590 rfl ?_
  refine x_iconst (v := nI 1) f_176_592 (by decide) ?_
  refine x_iaddN f_176_593 ?_
  refine x_iald f_176_594 g7 (by omega) (by omega) ?_
  refine x_topi (congrFun gi _) ?_
  refine x_aload_n f_176_595 rfl ?_
  refine x_iload f_176_596 rfl ?_
  refine x_iconst (v := nI 2) f_176_598 (by decide) ?_
  refine x_iaddN f_176_599 ?_
  refine x_iald f_176_600 g7 (by omega) (by omega) ?_
  refine x_topi (congrFun gi _) ?_
  refine x_aload_n f_176_601 rfl ?_
  refine x_iload f_176_602 rfl ?_
  refine x_iconst (v := nI 3) f_176_604 (by decide) ?_
  refine x_iaddN f_176_605 ?_
  refine x_iald f_176_606 g7 (by omega) (by omega) ?_
  refine x_topi (congrFun gi _) ?_
  refine x_aload_n f_176_607 rfl ?_
  refine x_iload f_176_608 rfl ?_
  refine x_iconst (v := nI 4) f_176_610 (by decide) ?_
  refine x_iaddN f_176_611 ?_
  refine x_iald f_176_612 g7 (by omega) (by omega) ?_
  refine x_topi (congrFun gi _) ?_
  refine x_callV f_176_613 km (by decide) g33 (by decide) rfl rfl (Nat.le_of_ble_eq_true rfl) rfl ?_
  rintro _ k ⟨rfl, nx⟩
  exact x_icmp_eq (t := 1354) f_176_616 (by decide) (fun _ => kk k x y nx) (fun c => absurd rfl c)
set_option maxRecDepth 20000 in
theorem law_8 {h : mj_H} {sm jm wm tm xm km em : Nat} (v : IV h sm jm wm tm xm km em) {n i : Nat} (hn : n ≤ 4608) (hi : i + 9 ≤ n) (k7 : mj_K h 7 = (12, n)) (k62 : mj_K h 62 = (13, 1)) (x y : Value) {Q : Option Value → mj_H → Prop} (kk : ∀ k x' y', NX h k → mx 31 176 1354 [.ref 7, .ref 8, .ref 33, .ref 62, .int (nI i), x', y'] [] k Q) : mx 31 176 621 [.ref 7, .ref 8, .ref 33, .ref 62, .int (nI i), x, y] [] h Q := by
  have h63 := v.l63
  refine x_aload_n f_176_621 rfl ?_
  refine x_aload_n f_176_622 rfl ?_
  refine x_iload f_176_623 rfl ?_
  refine x_iconst (v := nI 1) f_176_625 (by decide) ?_
  refine x_iaddN f_176_626 ?_
  refine x_iald f_176_627 k7 (by omega) (by omega) ?_
  refine x_aload_n f_176_628 rfl ?_
  refine x_iload f_176_629 rfl ?_
  refine x_iconst (v := nI 2) f_176_631 (by decide) ?_
  refine x_iaddN f_176_632 ?_
  refine x_iald f_176_633 k7 (by omega) (by omega) ?_
  refine x_callV f_176_634 (mxc.keep (pr_by v (mj_I h 7 (i + 1)) (mj_I h 7 (i + 2))) (by omega)) (by decide) v.sc.k8 (by decide) rfl rfl (Nat.le_of_ble_eq_true rfl) rfl ?_
  rintro _ g ⟨⟨u, rfl, km⟩, kp⟩
  have g7 : mj_K g 7 = (12, n) := (kp.2.1 7 (by omega)).trans k7
  have gi : mj_I g 7 = mj_I h 7 := kp.2.2 7 (by decide) (by rw [k7])
  have g33 : mj_K g 33 = (11, 48) := (kp.2.1 33 (by omega)).trans v.mw.1.k33
  show mx 31 176 637 [.ref 7, .ref 8, .ref 33, .ref 62, .int (nI i), x, y] [.int u] g Q
  refine x_aload_n f_176_637 rfl ?_
  refine x_aload_n f_176_638 rfl ?_
  refine x_iload f_176_639 rfl ?_
  refine x_iconst (v := nI 1) f_176_641 (by decide) ?_
  refine x_iaddN f_176_642 ?_
  refine x_iald f_176_643 g7 (by omega) (by omega) ?_
  refine x_topi (congrFun gi _) ?_
  refine x_aload_n f_176_644 rfl ?_
  refine x_iload f_176_645 rfl ?_
  refine x_iconst (v := nI 2) f_176_647 (by decide) ?_
  refine x_iaddN f_176_648 ?_
  refine x_iald f_176_649 g7 (by omega) (by omega) ?_
  refine x_topi (congrFun gi _) ?_
  refine x_callV f_176_650 km (by decide) g33 (by decide) rfl rfl (Nat.le_of_ble_eq_true rfl) rfl ?_
  rintro _ k ⟨rfl, nx⟩
  exact x_icmp_eq (t := 1354) f_176_653 (by decide) (fun _ => kk k x y nx) (fun c => absurd rfl c)
set_option maxRecDepth 20000 in
theorem law_9 {h : mj_H} {sm jm wm tm xm km em : Nat} (v : IV h sm jm wm tm xm km em) {n i : Nat} (hn : n ≤ 4608) (hi : i + 9 ≤ n) (k7 : mj_K h 7 = (12, n)) (k62 : mj_K h 62 = (13, 1)) (x y : Value) {Q : Option Value → mj_H → Prop} (kk : ∀ k x' y', NX h k → mx 31 176 1354 [.ref 7, .ref 8, .ref 33, .ref 62, .int (nI i), x', y'] [] k Q) : mx 31 176 658 [.ref 7, .ref 8, .ref 33, .ref 62, .int (nI i), x, y] [] h Q := by
  have h63 := v.l63
  refine x_aload_n f_176_658 rfl ?_
  refine x_aload_n f_176_659 rfl ?_
  refine x_iload f_176_660 rfl ?_
  refine x_iconst (v := nI 1) f_176_662 (by decide) ?_
  refine x_iaddN f_176_663 ?_
  refine x_iald f_176_664 k7 (by omega) (by omega) ?_
  refine x_aload_n f_176_665 rfl ?_
  refine x_iload f_176_666 rfl ?_
  refine x_iconst (v := nI 2) f_176_668 (by decide) ?_
  refine x_iaddN f_176_669 ?_
  refine x_iald f_176_670 k7 (by omega) (by omega) ?_
  refine x_callV f_176_671 (mxc.keep (pr_ticks v (mj_I h 7 (i + 1)) (mj_I h 7 (i + 2))) (by omega)) (by decide) v.sc.k8 (by decide) rfl rfl (Nat.le_of_ble_eq_true rfl) rfl ?_
  rintro _ g ⟨⟨u, rfl, km⟩, kp⟩
  have g7 : mj_K g 7 = (12, n) := (kp.2.1 7 (by omega)).trans k7
  have gi : mj_I g 7 = mj_I h 7 := kp.2.2 7 (by decide) (by rw [k7])
  have g33 : mj_K g 33 = (11, 48) := (kp.2.1 33 (by omega)).trans v.mw.1.k33
  show mx 31 176 674 [.ref 7, .ref 8, .ref 33, .ref 62, .int (nI i), x, y] [.int u] g Q
  refine x_aload_n f_176_674 rfl ?_
  refine x_aload_n f_176_675 rfl ?_
  refine x_iload f_176_676 rfl ?_
  refine x_iconst (v := nI 1) f_176_678 (by decide) ?_
  refine x_iaddN f_176_679 ?_
  refine x_iald f_176_680 g7 (by omega) (by omega) ?_
  refine x_topi (congrFun gi _) ?_
  refine x_aload_n f_176_681 rfl ?_
  refine x_iload f_176_682 rfl ?_
  refine x_iconst (v := nI 2) f_176_684 (by decide) ?_
  refine x_iaddN f_176_685 ?_
  refine x_iald f_176_686 g7 (by omega) (by omega) ?_
  refine x_topi (congrFun gi _) ?_
  refine x_callV f_176_687 km (by decide) g33 (by decide) rfl rfl (Nat.le_of_ble_eq_true rfl) rfl ?_
  rintro _ k ⟨rfl, nx⟩
  exact x_icmp_eq (t := 1354) f_176_690 (by decide) (fun _ => kk k x y nx) (fun c => absurd rfl c)
set_option maxRecDepth 20000 in
theorem law_10 {h : mj_H} {sm jm wm tm xm km em : Nat} (v : IV h sm jm wm tm xm km em) {n i : Nat} (hn : n ≤ 4608) (hi : i + 9 ≤ n) (k7 : mj_K h 7 = (12, n)) (k62 : mj_K h 62 = (13, 1)) (x y : Value) {Q : Option Value → mj_H → Prop} (kk : ∀ k x' y', NX h k → mx 31 176 1354 [.ref 7, .ref 8, .ref 33, .ref 62, .int (nI i), x', y'] [] k Q) : mx 31 176 695 [.ref 7, .ref 8, .ref 33, .ref 62, .int (nI i), x, y] [] h Q := by
  have h63 := v.l63
  refine x_aload_n f_176_695 rfl ?_
  refine x_aload_n f_176_696 rfl ?_
  refine x_iload f_176_697 rfl ?_
  refine x_iconst (v := nI 1) f_176_699 (by decide) ?_
  refine x_iaddN f_176_700 ?_
  refine x_iald f_176_701 k7 (by omega) (by omega) ?_
  refine x_aload_n f_176_702 rfl ?_
  refine x_iload f_176_703 rfl ?_
  refine x_iconst (v := nI 2) f_176_705 (by decide) ?_
  refine x_iaddN f_176_706 ?_
  refine x_iald f_176_707 k7 (by omega) (by omega) ?_
  refine x_aload_n f_176_708 rfl ?_
  refine x_iload f_176_709 rfl ?_
  refine x_iconst (v := nI 3) f_176_711 (by decide) ?_
  refine x_iaddN f_176_712 ?_
  refine x_iald f_176_713 k7 (by omega) (by omega) ?_
  refine x_callV f_176_714 (mxc.keep (pr_window v (mj_I h 7 (i + 1)) (mj_I h 7 (i + 2)) (mj_I h 7 (i + 3))) (by omega)) (by decide) v.sc.k8 (by decide) rfl rfl (Nat.le_of_ble_eq_true rfl) rfl ?_
  rintro _ g ⟨⟨u, rfl, km⟩, kp⟩
  have g7 : mj_K g 7 = (12, n) := (kp.2.1 7 (by omega)).trans k7
  have gi : mj_I g 7 = mj_I h 7 := kp.2.2 7 (by decide) (by rw [k7])
  have g33 : mj_K g 33 = (11, 48) := (kp.2.1 33 (by omega)).trans v.mw.1.k33
  show mx 31 176 717 [.ref 7, .ref 8, .ref 33, .ref 62, .int (nI i), x, y] [.int u] g Q
  refine x_aload_n f_176_717 rfl ?_
  refine x_aload_n f_176_718 rfl ?_
  refine x_iload f_176_719 rfl ?_
  refine x_iconst (v := nI 1) f_176_721 (by decide) ?_
  refine x_iaddN f_176_722 ?_
  refine x_iald f_176_723 g7 (by omega) (by omega) ?_
  refine x_topi (congrFun gi _) ?_
  refine x_aload_n f_176_724 rfl ?_
  refine x_iload f_176_725 rfl ?_
  refine x_iconst (v := nI 2) f_176_727 (by decide) ?_
  refine x_iaddN f_176_728 ?_
  refine x_iald f_176_729 g7 (by omega) (by omega) ?_
  refine x_topi (congrFun gi _) ?_
  refine x_aload_n f_176_730 rfl ?_
  refine x_iload f_176_731 rfl ?_
  refine x_iconst (v := nI 3) f_176_733 (by decide) ?_
  refine x_iaddN f_176_734 ?_
  refine x_iald f_176_735 g7 (by omega) (by omega) ?_
  refine x_topi (congrFun gi _) ?_
  refine x_callV f_176_736 km (by decide) g33 (by decide) rfl rfl (Nat.le_of_ble_eq_true rfl) rfl ?_
  rintro _ k ⟨rfl, nx⟩
  exact x_icmp_eq (t := 1354) f_176_739 (by decide) (fun _ => kk k x y nx) (fun c => absurd rfl c)
set_option maxRecDepth 20000 in
theorem law_11 {h : mj_H} {sm jm wm tm xm km em : Nat} (v : IV h sm jm wm tm xm km em) {n i : Nat} (hn : n ≤ 4608) (hi : i + 9 ≤ n) (k7 : mj_K h 7 = (12, n)) (k62 : mj_K h 62 = (13, 1)) (x y : Value) {Q : Option Value → mj_H → Prop} (kk : ∀ k x' y', NX h k → mx 31 176 1354 [.ref 7, .ref 8, .ref 33, .ref 62, .int (nI i), x', y'] [] k Q) : mx 31 176 744 [.ref 7, .ref 8, .ref 33, .ref 62, .int (nI i), x, y] [] h Q := by
  have h63 := v.l63
  refine x_aload_n f_176_744 rfl ?_
  refine x_aload_n f_176_745 rfl ?_
  refine x_iload f_176_746 rfl ?_
  refine x_iconst (v := nI 1) f_176_748 (by decide) ?_
  refine x_iaddN f_176_749 ?_
  refine x_iald f_176_750 k7 (by omega) (by omega) ?_
  refine x_callV f_176_751 (mxc.keep (pr_good v (mj_I h 7 (i + 1))) (by omega)) (by decide) v.sc.k8 (by decide) rfl rfl (Nat.le_of_ble_eq_true rfl) rfl ?_
  rintro _ g ⟨⟨u, rfl, km⟩, kp⟩
  have g7 : mj_K g 7 = (12, n) := (kp.2.1 7 (by omega)).trans k7
  have gi : mj_I g 7 = mj_I h 7 := kp.2.2 7 (by decide) (by rw [k7])
  have g33 : mj_K g 33 = (11, 48) := (kp.2.1 33 (by omega)).trans v.mw.1.k33
  show mx 31 176 754 [.ref 7, .ref 8, .ref 33, .ref 62, .int (nI i), x, y] [.int u] g Q
  refine x_aload_n f_176_754 rfl ?_
  refine x_aload_n f_176_755 rfl ?_
  refine x_iload f_176_756 rfl ?_
  refine x_iconst (v := nI 1) f_176_758 (by decide) ?_
  refine x_iaddN f_176_759 ?_
  refine x_iald f_176_760 g7 (by omega) (by omega) ?_
  refine x_topi (congrFun gi _) ?_
  refine x_callV f_176_761 km (by decide) g33 (by decide) rfl rfl (Nat.le_of_ble_eq_true rfl) rfl ?_
  rintro _ k ⟨rfl, nx⟩
  exact x_icmp_eq (t := 1354) f_176_764 (by decide) (fun _ => kk k x y nx) (fun c => absurd rfl c)
set_option maxRecDepth 20000 in
theorem law_12 {h : mj_H} {sm jm wm tm xm km em : Nat} (v : IV h sm jm wm tm xm km em) {n i : Nat} (hn : n ≤ 4608) (hi : i + 9 ≤ n) (k7 : mj_K h 7 = (12, n)) (k62 : mj_K h 62 = (13, 1)) (x y : Value) {Q : Option Value → mj_H → Prop} (kk : ∀ k x' y', NX h k → mx 31 176 1354 [.ref 7, .ref 8, .ref 33, .ref 62, .int (nI i), x', y'] [] k Q) : mx 31 176 769 [.ref 7, .ref 8, .ref 33, .ref 62, .int (nI i), x, y] [] h Q := by
  have h63 := v.l63
  refine x_aload_n f_176_769 rfl ?_
  refine x_aload_n f_176_770 rfl ?_
  refine x_iload f_176_771 rfl ?_
  refine x_iconst (v := nI 1) f_176_773 (by decide) ?_
  refine x_iaddN f_176_774 ?_
  refine x_iald f_176_775 k7 (by omega) (by omega) ?_
  refine x_callV f_176_776 (mxc.keep (pr_leaves v (mj_I h 7 (i + 1))) (by omega)) (by decide) v.sc.k8 (by decide) rfl rfl (Nat.le_of_ble_eq_true rfl) rfl ?_
  rintro _ g ⟨⟨u, rfl, km⟩, kp⟩
  have g7 : mj_K g 7 = (12, n) := (kp.2.1 7 (by omega)).trans k7
  have gi : mj_I g 7 = mj_I h 7 := kp.2.2 7 (by decide) (by rw [k7])
  have g33 : mj_K g 33 = (11, 48) := (kp.2.1 33 (by omega)).trans v.mw.1.k33
  show mx 31 176 779 [.ref 7, .ref 8, .ref 33, .ref 62, .int (nI i), x, y] [.int u] g Q
  refine x_aload_n f_176_779 rfl ?_
  refine x_aload_n f_176_780 rfl ?_
  refine x_iload f_176_781 rfl ?_
  refine x_iconst (v := nI 1) f_176_783 (by decide) ?_
  refine x_iaddN f_176_784 ?_
  refine x_iald f_176_785 g7 (by omega) (by omega) ?_
  refine x_topi (congrFun gi _) ?_
  refine x_callV f_176_786 km (by decide) g33 (by decide) rfl rfl (Nat.le_of_ble_eq_true rfl) rfl ?_
  rintro _ k ⟨rfl, nx⟩
  exact x_icmp_eq (t := 1354) f_176_789 (by decide) (fun _ => kk k x y nx) (fun c => absurd rfl c)
set_option maxRecDepth 20000 in
theorem law_13 {h : mj_H} {sm jm wm tm xm km em : Nat} (v : IV h sm jm wm tm xm km em) {n i : Nat} (hn : n ≤ 4608) (hi : i + 9 ≤ n) (k7 : mj_K h 7 = (12, n)) (k62 : mj_K h 62 = (13, 1)) (x y : Value) {Q : Option Value → mj_H → Prop} (kk : ∀ k x' y', NX h k → mx 31 176 1354 [.ref 7, .ref 8, .ref 33, .ref 62, .int (nI i), x', y'] [] k Q) : mx 31 176 794 [.ref 7, .ref 8, .ref 33, .ref 62, .int (nI i), x, y] [] h Q := by
  have h63 := v.l63
  refine x_aload_n f_176_794 rfl ?_
  refine x_aload_n f_176_795 rfl ?_
  refine x_iload f_176_796 rfl ?_
  refine x_iconst (v := nI 1) f_176_798 (by decide) ?_
  refine x_iaddN f_176_799 ?_
  refine x_iald f_176_800 k7 (by omega) (by omega) ?_
  refine x_aload_n f_176_801 rfl ?_
  refine x_iload f_176_802 rfl ?_
  refine x_iconst (v := nI 2) f_176_804 (by decide) ?_
  refine x_iaddN f_176_805 ?_
  refine x_iald f_176_806 k7 (by omega) (by omega) ?_
  refine x_callV f_176_807 (mxc.keep (pr_proof v (mj_I h 7 (i + 1)) (mj_I h 7 (i + 2))) (by omega)) (by decide) v.sc.k8 (by decide) rfl rfl (Nat.le_of_ble_eq_true rfl) rfl ?_
  rintro _ g ⟨⟨u, rfl, km⟩, kp⟩
  have g7 : mj_K g 7 = (12, n) := (kp.2.1 7 (by omega)).trans k7
  have gi : mj_I g 7 = mj_I h 7 := kp.2.2 7 (by decide) (by rw [k7])
  have g33 : mj_K g 33 = (11, 48) := (kp.2.1 33 (by omega)).trans v.mw.1.k33
  show mx 31 176 810 [.ref 7, .ref 8, .ref 33, .ref 62, .int (nI i), x, y] [.int u] g Q
  refine x_aload_n f_176_810 rfl ?_
  refine x_aload_n f_176_811 rfl ?_
  refine x_iload f_176_812 rfl ?_
  refine x_iconst (v := nI 1) f_176_814 (by decide) ?_
  refine x_iaddN f_176_815 ?_
  refine x_iald f_176_816 g7 (by omega) (by omega) ?_
  refine x_topi (congrFun gi _) ?_
  refine x_aload_n f_176_817 rfl ?_
  refine x_iload f_176_818 rfl ?_
  refine x_iconst (v := nI 2) f_176_820 (by decide) ?_
  refine x_iaddN f_176_821 ?_
  refine x_iald f_176_822 g7 (by omega) (by omega) ?_
  refine x_topi (congrFun gi _) ?_
  refine x_callV f_176_823 km (by decide) g33 (by decide) rfl rfl (Nat.le_of_ble_eq_true rfl) rfl ?_
  rintro _ k ⟨rfl, nx⟩
  exact x_icmp_eq (t := 1354) f_176_826 (by decide) (fun _ => kk k x y nx) (fun c => absurd rfl c)
set_option maxRecDepth 20000 in
theorem law_14 {h : mj_H} {sm jm wm tm xm km em : Nat} (v : IV h sm jm wm tm xm km em) {n i : Nat} (hn : n ≤ 4608) (hi : i + 9 ≤ n) (k7 : mj_K h 7 = (12, n)) (k62 : mj_K h 62 = (13, 1)) (x y : Value) {Q : Option Value → mj_H → Prop} (kk : ∀ k x' y', NX h k → mx 31 176 1354 [.ref 7, .ref 8, .ref 33, .ref 62, .int (nI i), x', y'] [] k Q) : mx 31 176 831 [.ref 7, .ref 8, .ref 33, .ref 62, .int (nI i), x, y] [] h Q := by
  have h63 := v.l63
  refine x_aload_n f_176_831 rfl ?_
  refine x_aload_n f_176_832 rfl ?_
  refine x_iload f_176_833 rfl ?_
  refine x_iconst (v := nI 1) f_176_835 (by decide) ?_
  refine x_iaddN f_176_836 ?_
  refine x_iald f_176_837 k7 (by omega) (by omega) ?_
  refine x_callV f_176_838 (mxc.keep (pr_tell v (mj_I h 7 (i + 1))) (by omega)) (by decide) v.sc.k8 (by decide) rfl rfl (Nat.le_of_ble_eq_true rfl) rfl ?_
  rintro _ g ⟨⟨u, rfl, km⟩, kp⟩
  have g7 : mj_K g 7 = (12, n) := (kp.2.1 7 (by omega)).trans k7
  have gi : mj_I g 7 = mj_I h 7 := kp.2.2 7 (by decide) (by rw [k7])
  have g33 : mj_K g 33 = (11, 48) := (kp.2.1 33 (by omega)).trans v.mw.1.k33
  show mx 31 176 841 [.ref 7, .ref 8, .ref 33, .ref 62, .int (nI i), x, y] [.int u] g Q
  refine x_aload_n f_176_841 rfl ?_
  refine x_aload_n f_176_842 rfl ?_
  refine x_iload f_176_843 rfl ?_
  refine x_iconst (v := nI 1) f_176_845 (by decide) ?_
  refine x_iaddN f_176_846 ?_
  refine x_iald f_176_847 g7 (by omega) (by omega) ?_
  refine x_topi (congrFun gi _) ?_
  refine x_callV f_176_848 km (by decide) g33 (by decide) rfl rfl (Nat.le_of_ble_eq_true rfl) rfl ?_
  rintro _ k ⟨rfl, nx⟩
  exact x_icmp_eq (t := 1354) f_176_851 (by decide) (fun _ => kk k x y nx) (fun c => absurd rfl c)
set_option maxRecDepth 20000 in
theorem law_15 {h : mj_H} {sm jm wm tm xm km em : Nat} (v : IV h sm jm wm tm xm km em) {n i : Nat} (hn : n ≤ 4608) (hi : i + 9 ≤ n) (k7 : mj_K h 7 = (12, n)) (k62 : mj_K h 62 = (13, 1)) (x y : Value) {Q : Option Value → mj_H → Prop} (kk : ∀ k x' y', NX h k → mx 31 176 1354 [.ref 7, .ref 8, .ref 33, .ref 62, .int (nI i), x', y'] [] k Q) : mx 31 176 856 [.ref 7, .ref 8, .ref 33, .ref 62, .int (nI i), x, y] [] h Q := by
  have h63 := v.l63
  refine x_aload_n f_176_856 rfl ?_
  refine x_aload_n f_176_857 rfl ?_
  refine x_iload f_176_858 rfl ?_
  refine x_iconst (v := nI 1) f_176_860 (by decide) ?_
  refine x_iaddN f_176_861 ?_
  refine x_iald f_176_862 k7 (by omega) (by omega) ?_
  refine x_callV f_176_863 (mxc.keep (pr_copy v (mj_I h 7 (i + 1))) (by omega)) (by decide) v.sc.k8 (by decide) rfl rfl (Nat.le_of_ble_eq_true rfl) rfl ?_
  rintro _ g ⟨⟨u, rfl, km⟩, kp⟩
  have g7 : mj_K g 7 = (12, n) := (kp.2.1 7 (by omega)).trans k7
  have gi : mj_I g 7 = mj_I h 7 := kp.2.2 7 (by decide) (by rw [k7])
  have g33 : mj_K g 33 = (11, 48) := (kp.2.1 33 (by omega)).trans v.mw.1.k33
  show mx 31 176 866 [.ref 7, .ref 8, .ref 33, .ref 62, .int (nI i), x, y] [.int u] g Q
  refine x_aload_n f_176_866 rfl ?_
  refine x_aload_n f_176_867 rfl ?_
  refine x_iload f_176_868 rfl ?_
  refine x_iconst (v := nI 1) f_176_870 (by decide) ?_
  refine x_iaddN f_176_871 ?_
  refine x_iald f_176_872 g7 (by omega) (by omega) ?_
  refine x_topi (congrFun gi _) ?_
  refine x_callV f_176_873 km (by decide) g33 (by decide) rfl rfl (Nat.le_of_ble_eq_true rfl) rfl ?_
  rintro _ k ⟨rfl, nx⟩
  exact x_icmp_eq (t := 1354) f_176_876 (by decide) (fun _ => kk k x y nx) (fun c => absurd rfl c)
set_option maxRecDepth 20000 in
theorem law_16 {h : mj_H} {sm jm wm tm xm km em : Nat} (v : IV h sm jm wm tm xm km em) {n i : Nat} (hn : n ≤ 4608) (hi : i + 9 ≤ n) (k7 : mj_K h 7 = (12, n)) (k62 : mj_K h 62 = (13, 1)) (x y : Value) {Q : Option Value → mj_H → Prop} (kk : ∀ k x' y', NX h k → mx 31 176 1354 [.ref 7, .ref 8, .ref 33, .ref 62, .int (nI i), x', y'] [] k Q) : mx 31 176 881 [.ref 7, .ref 8, .ref 33, .ref 62, .int (nI i), x, y] [] h Q := by
  have h63 := v.l63
  refine x_aload_n f_176_881 rfl ?_
  refine x_aload_n f_176_882 rfl ?_
  refine x_iload f_176_883 rfl ?_
  refine x_iconst (v := nI 1) f_176_885 (by decide) ?_
  refine x_iaddN f_176_886 ?_
  refine x_iald f_176_887 k7 (by omega) (by omega) ?_
  refine x_aload_n f_176_888 rfl ?_
  refine x_iload f_176_889 rfl ?_
  refine x_iconst (v := nI 2) f_176_891 (by decide) ?_
  refine x_iaddN f_176_892 ?_
  refine x_iald f_176_893 k7 (by omega) (by omega) ?_
  refine x_callV f_176_894 (mxc.keep (pr_alter v (mj_I h 7 (i + 1)) (mj_I h 7 (i + 2))) (by omega)) (by decide) v.sc.k8 (by decide) rfl rfl (Nat.le_of_ble_eq_true rfl) rfl ?_
  rintro _ g ⟨⟨u, rfl, km⟩, kp⟩
  have g7 : mj_K g 7 = (12, n) := (kp.2.1 7 (by omega)).trans k7
  have gi : mj_I g 7 = mj_I h 7 := kp.2.2 7 (by decide) (by rw [k7])
  have g33 : mj_K g 33 = (11, 48) := (kp.2.1 33 (by omega)).trans v.mw.1.k33
  show mx 31 176 897 [.ref 7, .ref 8, .ref 33, .ref 62, .int (nI i), x, y] [.int u] g Q
  refine x_aload_n f_176_897 rfl ?_
  refine x_aload_n f_176_898 rfl ?_
  refine x_iload f_176_899 rfl ?_
  refine x_iconst (v := nI 1) f_176_901 (by decide) ?_
  refine x_iaddN f_176_902 ?_
  refine x_iald f_176_903 g7 (by omega) (by omega) ?_
  refine x_topi (congrFun gi _) ?_
  refine x_aload_n f_176_904 rfl ?_
  refine x_iload f_176_905 rfl ?_
  refine x_iconst (v := nI 2) f_176_907 (by decide) ?_
  refine x_iaddN f_176_908 ?_
  refine x_iald f_176_909 g7 (by omega) (by omega) ?_
  refine x_topi (congrFun gi _) ?_
  refine x_callV f_176_910 km (by decide) g33 (by decide) rfl rfl (Nat.le_of_ble_eq_true rfl) rfl ?_
  rintro _ k ⟨rfl, nx⟩
  exact x_icmp_eq (t := 1354) f_176_913 (by decide) (fun _ => kk k x y nx) (fun c => absurd rfl c)
set_option maxRecDepth 20000 in
theorem law_17 {h : mj_H} {sm jm wm tm xm km em : Nat} (v : IV h sm jm wm tm xm km em) {n i : Nat} (hn : n ≤ 4608) (hi : i + 9 ≤ n) (k7 : mj_K h 7 = (12, n)) (k62 : mj_K h 62 = (13, 1)) (x y : Value) {Q : Option Value → mj_H → Prop} (kk : ∀ k x' y', NX h k → mx 31 176 1354 [.ref 7, .ref 8, .ref 33, .ref 62, .int (nI i), x', y'] [] k Q) : mx 31 176 918 [.ref 7, .ref 8, .ref 33, .ref 62, .int (nI i), x, y] [] h Q := by
  have h63 := v.l63
  refine x_aload_n f_176_918 rfl ?_
  refine x_aload_n f_176_919 rfl ?_
  refine x_iload f_176_920 rfl ?_
  refine x_iconst (v := nI 1) f_176_922 (by decide) ?_
  refine x_iaddN f_176_923 ?_
  refine x_iald f_176_924 k7 (by omega) (by omega) ?_
  refine x_callV f_176_925 (mxc.keep (pr_end v (mj_I h 7 (i + 1))) (by omega)) (by decide) v.sc.k8 (by decide) rfl rfl (Nat.le_of_ble_eq_true rfl) rfl ?_
  rintro _ g ⟨⟨u, rfl, km⟩, kp⟩
  have g7 : mj_K g 7 = (12, n) := (kp.2.1 7 (by omega)).trans k7
  have gi : mj_I g 7 = mj_I h 7 := kp.2.2 7 (by decide) (by rw [k7])
  have g33 : mj_K g 33 = (11, 48) := (kp.2.1 33 (by omega)).trans v.mw.1.k33
  show mx 31 176 928 [.ref 7, .ref 8, .ref 33, .ref 62, .int (nI i), x, y] [.int u] g Q
  refine x_aload_n f_176_928 rfl ?_
  refine x_aload_n f_176_929 rfl ?_
  refine x_iload f_176_930 rfl ?_
  refine x_iconst (v := nI 1) f_176_932 (by decide) ?_
  refine x_iaddN f_176_933 ?_
  refine x_iald f_176_934 g7 (by omega) (by omega) ?_
  refine x_topi (congrFun gi _) ?_
  refine x_callV f_176_935 km (by decide) g33 (by decide) rfl rfl (Nat.le_of_ble_eq_true rfl) rfl ?_
  rintro _ k ⟨rfl, nx⟩
  exact x_icmp_eq (t := 1354) f_176_938 (by decide) (fun _ => kk k x y nx) (fun c => absurd rfl c)
set_option maxRecDepth 20000 in
theorem law_18 {h : mj_H} {sm jm wm tm xm km em : Nat} (v : IV h sm jm wm tm xm km em) {n i : Nat} (hn : n ≤ 4608) (hi : i + 9 ≤ n) (k7 : mj_K h 7 = (12, n)) (k62 : mj_K h 62 = (13, 1)) (x y : Value) {Q : Option Value → mj_H → Prop} (kk : ∀ k x' y', NX h k → mx 31 176 1354 [.ref 7, .ref 8, .ref 33, .ref 62, .int (nI i), x', y'] [] k Q) : mx 31 176 943 [.ref 7, .ref 8, .ref 33, .ref 62, .int (nI i), x, y] [] h Q := by
  have h63 := v.l63
  refine x_aload_n f_176_943 rfl ?_
  refine x_aload_n f_176_944 rfl ?_
  refine x_iload f_176_945 rfl ?_
  refine x_iconst (v := nI 1) f_176_947 (by decide) ?_
  refine x_iaddN f_176_948 ?_
  refine x_iald f_176_949 k7 (by omega) (by omega) ?_
  refine x_callV f_176_950 (mxc.keep (pr_check v (mj_I h 7 (i + 1))) (by omega)) (by decide) v.sc.k8 (by decide) rfl rfl (Nat.le_of_ble_eq_true rfl) rfl ?_
  rintro _ g ⟨⟨u, rfl, km⟩, kp⟩
  have g7 : mj_K g 7 = (12, n) := (kp.2.1 7 (by omega)).trans k7
  have gi : mj_I g 7 = mj_I h 7 := kp.2.2 7 (by decide) (by rw [k7])
  have g33 : mj_K g 33 = (11, 48) := (kp.2.1 33 (by omega)).trans v.mw.1.k33
  show mx 31 176 953 [.ref 7, .ref 8, .ref 33, .ref 62, .int (nI i), x, y] [.int u] g Q
  refine x_aload_n f_176_953 rfl ?_
  refine x_aload_n f_176_954 rfl ?_
  refine x_iload f_176_955 rfl ?_
  refine x_iconst (v := nI 1) f_176_957 (by decide) ?_
  refine x_iaddN f_176_958 ?_
  refine x_iald f_176_959 g7 (by omega) (by omega) ?_
  refine x_topi (congrFun gi _) ?_
  refine x_callV f_176_960 km (by decide) g33 (by decide) rfl rfl (Nat.le_of_ble_eq_true rfl) rfl ?_
  rintro _ k ⟨rfl, nx⟩
  exact x_icmp_eq (t := 1354) f_176_963 (by decide) (fun _ => kk k x y nx) (fun c => absurd rfl c)
set_option maxRecDepth 20000 in
theorem law_19 {h : mj_H} {sm jm wm tm xm km em : Nat} (v : IV h sm jm wm tm xm km em) {n i : Nat} (hn : n ≤ 4608) (hi : i + 9 ≤ n) (k7 : mj_K h 7 = (12, n)) (k62 : mj_K h 62 = (13, 1)) (x y : Value) {Q : Option Value → mj_H → Prop} (kk : ∀ k x' y', NX h k → mx 31 176 1354 [.ref 7, .ref 8, .ref 33, .ref 62, .int (nI i), x', y'] [] k Q) : mx 31 176 968 [.ref 7, .ref 8, .ref 33, .ref 62, .int (nI i), x, y] [] h Q := by
  have h63 := v.l63
  refine x_aload_n f_176_968 rfl ?_
  refine x_aload_n f_176_969 rfl ?_
  refine x_iload f_176_970 rfl ?_
  refine x_iconst (v := nI 1) f_176_972 (by decide) ?_
  refine x_iaddN f_176_973 ?_
  refine x_iald f_176_974 k7 (by omega) (by omega) ?_
  refine x_aload_n f_176_975 rfl ?_
  refine x_iload f_176_976 rfl ?_
  refine x_iconst (v := nI 2) f_176_978 (by decide) ?_
  refine x_iaddN f_176_979 ?_
  refine x_iald f_176_980 k7 (by omega) (by omega) ?_
  refine x_callV f_176_981 (mxc.keep (pr_greatest v (mj_I h 7 (i + 1)) (mj_I h 7 (i + 2))) (by omega)) (by decide) v.sc.k8 (by decide) rfl rfl (Nat.le_of_ble_eq_true rfl) rfl ?_
  rintro _ g ⟨⟨u, rfl, km⟩, kp⟩
  have g7 : mj_K g 7 = (12, n) := (kp.2.1 7 (by omega)).trans k7
  have gi : mj_I g 7 = mj_I h 7 := kp.2.2 7 (by decide) (by rw [k7])
  have g33 : mj_K g 33 = (11, 48) := (kp.2.1 33 (by omega)).trans v.mw.1.k33
  show mx 31 176 984 [.ref 7, .ref 8, .ref 33, .ref 62, .int (nI i), x, y] [.int u] g Q
  refine x_aload_n f_176_984 rfl ?_
  refine x_aload_n f_176_985 rfl ?_
  refine x_iload f_176_986 rfl ?_
  refine x_iconst (v := nI 1) f_176_988 (by decide) ?_
  refine x_iaddN f_176_989 ?_
  refine x_iald f_176_990 g7 (by omega) (by omega) ?_
  refine x_topi (congrFun gi _) ?_
  refine x_aload_n f_176_991 rfl ?_
  refine x_iload f_176_992 rfl ?_
  refine x_iconst (v := nI 2) f_176_994 (by decide) ?_
  refine x_iaddN f_176_995 ?_
  refine x_iald f_176_996 g7 (by omega) (by omega) ?_
  refine x_topi (congrFun gi _) ?_
  refine x_callV f_176_997 km (by decide) g33 (by decide) rfl rfl (Nat.le_of_ble_eq_true rfl) rfl ?_
  rintro _ k ⟨rfl, nx⟩
  exact x_icmp_eq (t := 1354) f_176_1000 (by decide) (fun _ => kk k x y nx) (fun c => absurd rfl c)
set_option maxRecDepth 20000 in
theorem law_20 {h : mj_H} {sm jm wm tm xm km em : Nat} (v : IV h sm jm wm tm xm km em) {n i : Nat} (hn : n ≤ 4608) (hi : i + 9 ≤ n) (k7 : mj_K h 7 = (12, n)) (k62 : mj_K h 62 = (13, 1)) (x y : Value) {Q : Option Value → mj_H → Prop} (kk : ∀ k x' y', NX h k → mx 31 176 1354 [.ref 7, .ref 8, .ref 33, .ref 62, .int (nI i), x', y'] [] k Q) : mx 31 176 1005 [.ref 7, .ref 8, .ref 33, .ref 62, .int (nI i), x, y] [] h Q := by
  have h63 := v.l63
  refine x_aload_n f_176_1005 rfl ?_
  refine x_aload_n f_176_1006 rfl ?_
  refine x_iload f_176_1007 rfl ?_
  refine x_iconst (v := nI 1) f_176_1009 (by decide) ?_
  refine x_iaddN f_176_1010 ?_
  refine x_iald f_176_1011 k7 (by omega) (by omega) ?_
  refine x_aload_n f_176_1012 rfl ?_
  refine x_iload f_176_1013 rfl ?_
  refine x_iconst (v := nI 2) f_176_1015 (by decide) ?_
  refine x_iaddN f_176_1016 ?_
  refine x_iald f_176_1017 k7 (by omega) (by omega) ?_
  refine x_callV f_176_1018 (mxc.keep (pr_edge v (mj_I h 7 (i + 1)) (mj_I h 7 (i + 2))) (by omega)) (by decide) v.sc.k8 (by decide) rfl rfl (Nat.le_of_ble_eq_true rfl) rfl ?_
  rintro _ g ⟨⟨u, rfl, km⟩, kp⟩
  have g7 : mj_K g 7 = (12, n) := (kp.2.1 7 (by omega)).trans k7
  have gi : mj_I g 7 = mj_I h 7 := kp.2.2 7 (by decide) (by rw [k7])
  have g33 : mj_K g 33 = (11, 48) := (kp.2.1 33 (by omega)).trans v.mw.1.k33
  show mx 31 176 1021 [.ref 7, .ref 8, .ref 33, .ref 62, .int (nI i), x, y] [.int u] g Q
  refine x_aload_n f_176_1021 rfl ?_
  refine x_aload_n f_176_1022 rfl ?_
  refine x_iload f_176_1023 rfl ?_
  refine x_iconst (v := nI 1) f_176_1025 (by decide) ?_
  refine x_iaddN f_176_1026 ?_
  refine x_iald f_176_1027 g7 (by omega) (by omega) ?_
  refine x_topi (congrFun gi _) ?_
  refine x_aload_n f_176_1028 rfl ?_
  refine x_iload f_176_1029 rfl ?_
  refine x_iconst (v := nI 2) f_176_1031 (by decide) ?_
  refine x_iaddN f_176_1032 ?_
  refine x_iald f_176_1033 g7 (by omega) (by omega) ?_
  refine x_topi (congrFun gi _) ?_
  refine x_callV f_176_1034 km (by decide) g33 (by decide) rfl rfl (Nat.le_of_ble_eq_true rfl) rfl ?_
  rintro _ k ⟨rfl, nx⟩
  exact x_icmp_eq (t := 1354) f_176_1037 (by decide) (fun _ => kk k x y nx) (fun c => absurd rfl c)
set_option maxRecDepth 20000 in
theorem law_21 {h : mj_H} {sm jm wm tm xm km em : Nat} (v : IV h sm jm wm tm xm km em) {n i : Nat} (hn : n ≤ 4608) (hi : i + 9 ≤ n) (k7 : mj_K h 7 = (12, n)) (k62 : mj_K h 62 = (13, 1)) (x y : Value) {Q : Option Value → mj_H → Prop} (kk : ∀ k x' y', NX h k → mx 31 176 1354 [.ref 7, .ref 8, .ref 33, .ref 62, .int (nI i), x', y'] [] k Q) : mx 31 176 1042 [.ref 7, .ref 8, .ref 33, .ref 62, .int (nI i), x, y] [] h Q := by
  have h63 := v.l63
  refine x_aload_n f_176_1042 rfl ?_
  refine x_aload_n f_176_1043 rfl ?_
  refine x_iload f_176_1044 rfl ?_
  refine x_iconst (v := nI 1) f_176_1046 (by decide) ?_
  refine x_iaddN f_176_1047 ?_
  refine x_iald f_176_1048 k7 (by omega) (by omega) ?_
  refine x_aload_n f_176_1049 rfl ?_
  refine x_iload f_176_1050 rfl ?_
  refine x_iconst (v := nI 2) f_176_1052 (by decide) ?_
  refine x_iaddN f_176_1053 ?_
  refine x_iald f_176_1054 k7 (by omega) (by omega) ?_
  refine x_callV f_176_1055 (mxc.keep (pr_mended v (mj_I h 7 (i + 1)) (mj_I h 7 (i + 2))) (by omega)) (by decide) v.sc.k8 (by decide) rfl rfl (Nat.le_of_ble_eq_true rfl) rfl ?_
  rintro _ g ⟨⟨u, rfl, km⟩, kp⟩
  have g7 : mj_K g 7 = (12, n) := (kp.2.1 7 (by omega)).trans k7
  have gi : mj_I g 7 = mj_I h 7 := kp.2.2 7 (by decide) (by rw [k7])
  have g33 : mj_K g 33 = (11, 48) := (kp.2.1 33 (by omega)).trans v.mw.1.k33
  show mx 31 176 1058 [.ref 7, .ref 8, .ref 33, .ref 62, .int (nI i), x, y] [.int u] g Q
  refine x_aload_n f_176_1058 rfl ?_
  refine x_aload_n f_176_1059 rfl ?_
  refine x_iload f_176_1060 rfl ?_
  refine x_iconst (v := nI 1) f_176_1062 (by decide) ?_
  refine x_iaddN f_176_1063 ?_
  refine x_iald f_176_1064 g7 (by omega) (by omega) ?_
  refine x_topi (congrFun gi _) ?_
  refine x_aload_n f_176_1065 rfl ?_
  refine x_iload f_176_1066 rfl ?_
  refine x_iconst (v := nI 2) f_176_1068 (by decide) ?_
  refine x_iaddN f_176_1069 ?_
  refine x_iald f_176_1070 g7 (by omega) (by omega) ?_
  refine x_topi (congrFun gi _) ?_
  refine x_callV f_176_1071 km (by decide) g33 (by decide) rfl rfl (Nat.le_of_ble_eq_true rfl) rfl ?_
  rintro _ k ⟨rfl, nx⟩
  exact x_icmp_eq (t := 1354) f_176_1074 (by decide) (fun _ => kk k x y nx) (fun c => absurd rfl c)
set_option maxRecDepth 20000 in
theorem law_22 {h : mj_H} {sm jm wm tm xm km em : Nat} (v : IV h sm jm wm tm xm km em) {n i : Nat} (hn : n ≤ 4608) (hi : i + 9 ≤ n) (k7 : mj_K h 7 = (12, n)) (k62 : mj_K h 62 = (13, 1)) (x y : Value) {Q : Option Value → mj_H → Prop} (kk : ∀ k x' y', NX h k → mx 31 176 1354 [.ref 7, .ref 8, .ref 33, .ref 62, .int (nI i), x', y'] [] k Q) : mx 31 176 1079 [.ref 7, .ref 8, .ref 33, .ref 62, .int (nI i), x, y] [] h Q := by
  have h63 := v.l63
  refine x_aload_n f_176_1079 rfl ?_
  refine x_aload_n f_176_1080 rfl ?_
  refine x_iload f_176_1081 rfl ?_
  refine x_iconst (v := nI 1) f_176_1083 (by decide) ?_
  refine x_iaddN f_176_1084 ?_
  refine x_iald f_176_1085 k7 (by omega) (by omega) ?_
  refine x_aload_n f_176_1086 rfl ?_
  refine x_iload f_176_1087 rfl ?_
  refine x_iconst (v := nI 2) f_176_1089 (by decide) ?_
  refine x_iaddN f_176_1090 ?_
  refine x_iald f_176_1091 k7 (by omega) (by omega) ?_
  refine x_callV f_176_1092 (mxc.keep (pr_joint v (mj_I h 7 (i + 1)) (mj_I h 7 (i + 2))) (by omega)) (by decide) v.sc.k8 (by decide) rfl rfl (Nat.le_of_ble_eq_true rfl) rfl ?_
  rintro _ g ⟨⟨u, rfl, km⟩, kp⟩
  have g7 : mj_K g 7 = (12, n) := (kp.2.1 7 (by omega)).trans k7
  have gi : mj_I g 7 = mj_I h 7 := kp.2.2 7 (by decide) (by rw [k7])
  have g33 : mj_K g 33 = (11, 48) := (kp.2.1 33 (by omega)).trans v.mw.1.k33
  show mx 31 176 1095 [.ref 7, .ref 8, .ref 33, .ref 62, .int (nI i), x, y] [.int u] g Q
  refine x_aload_n f_176_1095 rfl ?_
  refine x_aload_n f_176_1096 rfl ?_
  refine x_iload f_176_1097 rfl ?_
  refine x_iconst (v := nI 1) f_176_1099 (by decide) ?_
  refine x_iaddN f_176_1100 ?_
  refine x_iald f_176_1101 g7 (by omega) (by omega) ?_
  refine x_topi (congrFun gi _) ?_
  refine x_aload_n f_176_1102 rfl ?_
  refine x_iload f_176_1103 rfl ?_
  refine x_iconst (v := nI 2) f_176_1105 (by decide) ?_
  refine x_iaddN f_176_1106 ?_
  refine x_iald f_176_1107 g7 (by omega) (by omega) ?_
  refine x_topi (congrFun gi _) ?_
  refine x_callV f_176_1108 km (by decide) g33 (by decide) rfl rfl (Nat.le_of_ble_eq_true rfl) rfl ?_
  rintro _ k ⟨rfl, nx⟩
  exact x_icmp_eq (t := 1354) f_176_1111 (by decide) (fun _ => kk k x y nx) (fun c => absurd rfl c)
set_option maxRecDepth 20000 in
theorem law_23 {h : mj_H} {sm jm wm tm xm km em : Nat} (v : IV h sm jm wm tm xm km em) {n i : Nat} (hn : n ≤ 4608) (hi : i + 9 ≤ n) (k7 : mj_K h 7 = (12, n)) (k62 : mj_K h 62 = (13, 1)) (x y : Value) {Q : Option Value → mj_H → Prop} (kk : ∀ k x' y', NX h k → mx 31 176 1354 [.ref 7, .ref 8, .ref 33, .ref 62, .int (nI i), x', y'] [] k Q) : mx 31 176 1116 [.ref 7, .ref 8, .ref 33, .ref 62, .int (nI i), x, y] [] h Q := by
  have h63 := v.l63
  refine x_aload_n f_176_1116 rfl ?_
  refine x_aload_n f_176_1117 rfl ?_
  refine x_iload f_176_1118 rfl ?_
  refine x_iconst (v := nI 1) f_176_1120 (by decide) ?_
  refine x_iaddN f_176_1121 ?_
  refine x_iald f_176_1122 k7 (by omega) (by omega) ?_
  refine x_aload_n f_176_1123 rfl ?_
  refine x_iload f_176_1124 rfl ?_
  refine x_iconst (v := nI 2) f_176_1126 (by decide) ?_
  refine x_iaddN f_176_1127 ?_
  refine x_iald f_176_1128 k7 (by omega) (by omega) ?_
  refine x_if_eq (t := 1136) f_176_1129 (by decide) (fun c => ?_) (fun c => ?_)
  · refine x_iconst (v := nI 0) f_176_1136 (by decide) ?_
    refine x_callV f_176_1137 (mxc.keep (pr_attempt v (mj_I h 7 (i + 1)) (nI 0) (Or.inl rfl)) (by omega)) (by decide) v.sc.k8 (by decide) rfl rfl (Nat.le_of_ble_eq_true rfl) rfl ?_
    rintro _ g ⟨⟨u, rfl, km⟩, kp⟩
    have g7 : mj_K g 7 = (12, n) := (kp.2.1 7 (by omega)).trans k7
    have gi : mj_I g 7 = mj_I h 7 := kp.2.2 7 (by decide) (by rw [k7])
    have g33 : mj_K g 33 = (11, 48) := (kp.2.1 33 (by omega)).trans v.mw.1.k33
    show mx 31 176 1140 [.ref 7, .ref 8, .ref 33, .ref 62, .int (nI i), x, y] [.int u] g Q
    refine x_aload_n f_176_1140 rfl ?_
    refine x_aload_n f_176_1141 rfl ?_
    refine x_iload f_176_1142 rfl ?_
    refine x_iconst (v := nI 1) f_176_1144 (by decide) ?_
    refine x_iaddN f_176_1145 ?_
    refine x_iald f_176_1146 g7 (by omega) (by omega) ?_
    refine x_topi (congrFun gi _) ?_
    refine x_aload_n f_176_1147 rfl ?_
    refine x_iload f_176_1148 rfl ?_
    refine x_iconst (v := nI 2) f_176_1150 (by decide) ?_
    refine x_iaddN f_176_1151 ?_
    refine x_iald f_176_1152 g7 (by omega) (by omega) ?_
    refine x_topi (congrFun gi _) ?_
    refine x_if_eq (t := 1160) f_176_1153 (by decide) (fun _ => ?_) (fun c1 => absurd c c1)
    refine x_iconst (v := nI 0) f_176_1160 (by decide) ?_
    refine x_callV f_176_1161 km (by decide) g33 (by decide) rfl rfl (Nat.le_of_ble_eq_true rfl) rfl ?_
    rintro _ k ⟨rfl, nx⟩
    exact x_icmp_eq (t := 1354) f_176_1164 (by decide) (fun _ => kk k x y nx) (fun c => absurd rfl c)
  · refine x_iconst (v := nI 1) f_176_1132 (by decide) ?_
    refine x_goto (t := 1137) f_176_1133 (by decide) ?_
    refine x_callV f_176_1137 (mxc.keep (pr_attempt v (mj_I h 7 (i + 1)) (nI 1) (Or.inr rfl)) (by omega)) (by decide) v.sc.k8 (by decide) rfl rfl (Nat.le_of_ble_eq_true rfl) rfl ?_
    rintro _ g ⟨⟨u, rfl, km⟩, kp⟩
    have g7 : mj_K g 7 = (12, n) := (kp.2.1 7 (by omega)).trans k7
    have gi : mj_I g 7 = mj_I h 7 := kp.2.2 7 (by decide) (by rw [k7])
    have g33 : mj_K g 33 = (11, 48) := (kp.2.1 33 (by omega)).trans v.mw.1.k33
    show mx 31 176 1140 [.ref 7, .ref 8, .ref 33, .ref 62, .int (nI i), x, y] [.int u] g Q
    refine x_aload_n f_176_1140 rfl ?_
    refine x_aload_n f_176_1141 rfl ?_
    refine x_iload f_176_1142 rfl ?_
    refine x_iconst (v := nI 1) f_176_1144 (by decide) ?_
    refine x_iaddN f_176_1145 ?_
    refine x_iald f_176_1146 g7 (by omega) (by omega) ?_
    refine x_topi (congrFun gi _) ?_
    refine x_aload_n f_176_1147 rfl ?_
    refine x_iload f_176_1148 rfl ?_
    refine x_iconst (v := nI 2) f_176_1150 (by decide) ?_
    refine x_iaddN f_176_1151 ?_
    refine x_iald f_176_1152 g7 (by omega) (by omega) ?_
    refine x_topi (congrFun gi _) ?_
    refine x_if_eq (t := 1160) f_176_1153 (by decide) (fun c1 => absurd c1 c) (fun _ => ?_)
    refine x_iconst (v := nI 1) f_176_1156 (by decide) ?_
    refine x_goto (t := 1161) f_176_1157 (by decide) ?_
    refine x_callV f_176_1161 km (by decide) g33 (by decide) rfl rfl (Nat.le_of_ble_eq_true rfl) rfl ?_
    rintro _ k ⟨rfl, nx⟩
    exact x_icmp_eq (t := 1354) f_176_1164 (by decide) (fun _ => kk k x y nx) (fun c => absurd rfl c)
set_option maxRecDepth 20000 in
theorem law_24 {h : mj_H} {sm jm wm tm xm km em : Nat} (v : IV h sm jm wm tm xm km em) {n i : Nat} (hn : n ≤ 4608) (hi : i + 9 ≤ n) (k7 : mj_K h 7 = (12, n)) (k62 : mj_K h 62 = (13, 1)) (x y : Value) {Q : Option Value → mj_H → Prop} (kk : ∀ k x' y', NX h k → mx 31 176 1354 [.ref 7, .ref 8, .ref 33, .ref 62, .int (nI i), x', y'] [] k Q) : mx 31 176 1169 [.ref 7, .ref 8, .ref 33, .ref 62, .int (nI i), x, y] [] h Q := by
  have h63 := v.l63
  refine x_aload_n f_176_1169 rfl ?_
  refine x_aload_n f_176_1170 rfl ?_
  refine x_iload f_176_1171 rfl ?_
  refine x_iconst (v := nI 1) f_176_1173 (by decide) ?_
  refine x_iaddN f_176_1174 ?_
  refine x_iald f_176_1175 k7 (by omega) (by omega) ?_
  refine x_aload_n f_176_1176 rfl ?_
  refine x_iload f_176_1177 rfl ?_
  refine x_iconst (v := nI 2) f_176_1179 (by decide) ?_
  refine x_iaddN f_176_1180 ?_
  refine x_iald f_176_1181 k7 (by omega) (by omega) ?_
  refine x_callV f_176_1182 (mxc.keep (pr_tried v (mj_I h 7 (i + 1)) (mj_I h 7 (i + 2))) (by omega)) (by decide) v.sc.k8 (by decide) rfl rfl (Nat.le_of_ble_eq_true rfl) rfl ?_
  rintro _ g ⟨⟨u, rfl, km⟩, kp⟩
  have g7 : mj_K g 7 = (12, n) := (kp.2.1 7 (by omega)).trans k7
  have gi : mj_I g 7 = mj_I h 7 := kp.2.2 7 (by decide) (by rw [k7])
  have g33 : mj_K g 33 = (11, 48) := (kp.2.1 33 (by omega)).trans v.mw.1.k33
  show mx 31 176 1185 [.ref 7, .ref 8, .ref 33, .ref 62, .int (nI i), x, y] [.int u] g Q
  refine x_aload_n f_176_1185 rfl ?_
  refine x_aload_n f_176_1186 rfl ?_
  refine x_iload f_176_1187 rfl ?_
  refine x_iconst (v := nI 1) f_176_1189 (by decide) ?_
  refine x_iaddN f_176_1190 ?_
  refine x_iald f_176_1191 g7 (by omega) (by omega) ?_
  refine x_topi (congrFun gi _) ?_
  refine x_aload_n f_176_1192 rfl ?_
  refine x_iload f_176_1193 rfl ?_
  refine x_iconst (v := nI 2) f_176_1195 (by decide) ?_
  refine x_iaddN f_176_1196 ?_
  refine x_iald f_176_1197 g7 (by omega) (by omega) ?_
  refine x_topi (congrFun gi _) ?_
  refine x_callV f_176_1198 km (by decide) g33 (by decide) rfl rfl (Nat.le_of_ble_eq_true rfl) rfl ?_
  rintro _ k ⟨rfl, nx⟩
  exact x_icmp_eq (t := 1354) f_176_1201 (by decide) (fun _ => kk k x y nx) (fun c => absurd rfl c)
set_option maxRecDepth 20000 in
theorem law_25 {h : mj_H} {sm jm wm tm xm km em : Nat} (v : IV h sm jm wm tm xm km em) {n i : Nat} (hn : n ≤ 4608) (hi : i + 9 ≤ n) (k7 : mj_K h 7 = (12, n)) (k62 : mj_K h 62 = (13, 1)) (x y : Value) {Q : Option Value → mj_H → Prop} (kk : ∀ k x' y', NX h k → mx 31 176 1354 [.ref 7, .ref 8, .ref 33, .ref 62, .int (nI i), x', y'] [] k Q) : mx 31 176 1206 [.ref 7, .ref 8, .ref 33, .ref 62, .int (nI i), x, y] [] h Q := by
  have h63 := v.l63
  refine x_aload_n f_176_1206 rfl ?_
  refine x_aload_n f_176_1207 rfl ?_
  refine x_iload f_176_1208 rfl ?_
  refine x_iconst (v := nI 1) f_176_1210 (by decide) ?_
  refine x_iaddN f_176_1211 ?_
  refine x_iald f_176_1212 k7 (by omega) (by omega) ?_
  refine x_callV f_176_1213 (mxc.keep (pr_odd v (mj_I h 7 (i + 1))) (by omega)) (by decide) v.sc.k8 (by decide) rfl rfl (Nat.le_of_ble_eq_true rfl) rfl ?_
  rintro _ g ⟨⟨u, rfl, km⟩, kp⟩
  have g7 : mj_K g 7 = (12, n) := (kp.2.1 7 (by omega)).trans k7
  have gi : mj_I g 7 = mj_I h 7 := kp.2.2 7 (by decide) (by rw [k7])
  have g33 : mj_K g 33 = (11, 48) := (kp.2.1 33 (by omega)).trans v.mw.1.k33
  show mx 31 176 1216 [.ref 7, .ref 8, .ref 33, .ref 62, .int (nI i), x, y] [.int u] g Q
  refine x_aload_n f_176_1216 rfl ?_
  refine x_aload_n f_176_1217 rfl ?_
  refine x_iload f_176_1218 rfl ?_
  refine x_iconst (v := nI 1) f_176_1220 (by decide) ?_
  refine x_iaddN f_176_1221 ?_
  refine x_iald f_176_1222 g7 (by omega) (by omega) ?_
  refine x_topi (congrFun gi _) ?_
  refine x_callV f_176_1223 km (by decide) g33 (by decide) rfl rfl (Nat.le_of_ble_eq_true rfl) rfl ?_
  rintro _ k ⟨rfl, nx⟩
  exact x_icmp_eq (t := 1354) f_176_1226 (by decide) (fun _ => kk k x y nx) (fun c => absurd rfl c)
set_option maxRecDepth 20000 in
theorem law_26 {h : mj_H} {sm jm wm tm xm km em : Nat} (v : IV h sm jm wm tm xm km em) {n i : Nat} (hn : n ≤ 4608) (hi : i + 9 ≤ n) (k7 : mj_K h 7 = (12, n)) (k62 : mj_K h 62 = (13, 1)) (x y : Value) {Q : Option Value → mj_H → Prop} (kk : ∀ k x' y', NX h k → mx 31 176 1354 [.ref 7, .ref 8, .ref 33, .ref 62, .int (nI i), x', y'] [] k Q) : mx 31 176 1231 [.ref 7, .ref 8, .ref 33, .ref 62, .int (nI i), x, y] [] h Q := by
  have h63 := v.l63
  refine x_aload_n f_176_1231 rfl ?_
  refine x_aload_n f_176_1232 rfl ?_
  refine x_iload f_176_1233 rfl ?_
  refine x_iconst (v := nI 1) f_176_1235 (by decide) ?_
  refine x_iaddN f_176_1236 ?_
  refine x_iald f_176_1237 k7 (by omega) (by omega) ?_
  refine x_callV f_176_1238 (mxc.keep (pr_led v (mj_I h 7 (i + 1))) (by omega)) (by decide) v.sc.k8 (by decide) rfl rfl (Nat.le_of_ble_eq_true rfl) rfl ?_
  rintro _ g ⟨⟨u, rfl, km⟩, kp⟩
  have g7 : mj_K g 7 = (12, n) := (kp.2.1 7 (by omega)).trans k7
  have gi : mj_I g 7 = mj_I h 7 := kp.2.2 7 (by decide) (by rw [k7])
  have g33 : mj_K g 33 = (11, 48) := (kp.2.1 33 (by omega)).trans v.mw.1.k33
  show mx 31 176 1241 [.ref 7, .ref 8, .ref 33, .ref 62, .int (nI i), x, y] [.int u] g Q
  refine x_aload_n f_176_1241 rfl ?_
  refine x_aload_n f_176_1242 rfl ?_
  refine x_iload f_176_1243 rfl ?_
  refine x_iconst (v := nI 1) f_176_1245 (by decide) ?_
  refine x_iaddN f_176_1246 ?_
  refine x_iald f_176_1247 g7 (by omega) (by omega) ?_
  refine x_topi (congrFun gi _) ?_
  refine x_callV f_176_1248 km (by decide) g33 (by decide) rfl rfl (Nat.le_of_ble_eq_true rfl) rfl ?_
  rintro _ k ⟨rfl, nx⟩
  exact x_icmp_eq (t := 1354) f_176_1251 (by decide) (fun _ => kk k x y nx) (fun c => absurd rfl c)
set_option maxRecDepth 20000 in
theorem law_27 {h : mj_H} {sm jm wm tm xm km em : Nat} (v : IV h sm jm wm tm xm km em) {n i : Nat} (hn : n ≤ 4608) (hi : i + 9 ≤ n) (k7 : mj_K h 7 = (12, n)) (k62 : mj_K h 62 = (13, 1)) (x y : Value) {Q : Option Value → mj_H → Prop} (kk : ∀ k x' y', NX h k → mx 31 176 1354 [.ref 7, .ref 8, .ref 33, .ref 62, .int (nI i), x', y'] [] k Q) : mx 31 176 1256 [.ref 7, .ref 8, .ref 33, .ref 62, .int (nI i), x, y] [] h Q := by
  have h63 := v.l63
  refine x_aload_n f_176_1256 rfl ?_
  refine x_aload_n f_176_1257 rfl ?_
  refine x_iload f_176_1258 rfl ?_
  refine x_iconst (v := nI 1) f_176_1260 (by decide) ?_
  refine x_iaddN f_176_1261 ?_
  refine x_iald f_176_1262 k7 (by omega) (by omega) ?_
  refine x_aload_n f_176_1263 rfl ?_
  refine x_iload f_176_1264 rfl ?_
  refine x_iconst (v := nI 2) f_176_1266 (by decide) ?_
  refine x_iaddN f_176_1267 ?_
  refine x_iald f_176_1268 k7 (by omega) (by omega) ?_
  refine x_callV f_176_1269 (mxc.keep (pr_work v (mj_I h 7 (i + 1)) (mj_I h 7 (i + 2))) (by omega)) (by decide) v.sc.k8 (by decide) rfl rfl (Nat.le_of_ble_eq_true rfl) rfl ?_
  rintro _ g ⟨⟨u, rfl, km⟩, kp⟩
  have g7 : mj_K g 7 = (12, n) := (kp.2.1 7 (by omega)).trans k7
  have gi : mj_I g 7 = mj_I h 7 := kp.2.2 7 (by decide) (by rw [k7])
  have g33 : mj_K g 33 = (11, 48) := (kp.2.1 33 (by omega)).trans v.mw.1.k33
  show mx 31 176 1272 [.ref 7, .ref 8, .ref 33, .ref 62, .int (nI i), x, y] [.int u] g Q
  refine x_aload_n f_176_1272 rfl ?_
  refine x_aload_n f_176_1273 rfl ?_
  refine x_iload f_176_1274 rfl ?_
  refine x_iconst (v := nI 1) f_176_1276 (by decide) ?_
  refine x_iaddN f_176_1277 ?_
  refine x_iald f_176_1278 g7 (by omega) (by omega) ?_
  refine x_topi (congrFun gi _) ?_
  refine x_aload_n f_176_1279 rfl ?_
  refine x_iload f_176_1280 rfl ?_
  refine x_iconst (v := nI 2) f_176_1282 (by decide) ?_
  refine x_iaddN f_176_1283 ?_
  refine x_iald f_176_1284 g7 (by omega) (by omega) ?_
  refine x_topi (congrFun gi _) ?_
  refine x_callV f_176_1285 km (by decide) g33 (by decide) rfl rfl (Nat.le_of_ble_eq_true rfl) rfl ?_
  rintro _ k ⟨rfl, nx⟩
  exact x_icmp_eq (t := 1354) f_176_1288 (by decide) (fun _ => kk k x y nx) (fun c => absurd rfl c)
set_option maxRecDepth 20000 in
theorem law_28 {h : mj_H} {sm jm wm tm xm km em : Nat} (v : IV h sm jm wm tm xm km em) {n i : Nat} (hn : n ≤ 4608) (hi : i + 9 ≤ n) (k7 : mj_K h 7 = (12, n)) (k62 : mj_K h 62 = (13, 1)) (x y : Value) {Q : Option Value → mj_H → Prop} (kk : ∀ k x' y', NX h k → mx 31 176 1354 [.ref 7, .ref 8, .ref 33, .ref 62, .int (nI i), x', y'] [] k Q) : mx 31 176 1293 [.ref 7, .ref 8, .ref 33, .ref 62, .int (nI i), x, y] [] h Q := by
  have h63 := v.l63
  refine x_aload_n f_176_1293 rfl ?_
  refine x_callV f_176_1294 (mxc.keep (pr_clear v) (by omega)) (by decide) v.sc.k8 (by decide) rfl rfl (Nat.le_of_ble_eq_true rfl) rfl ?_
  rintro _ g ⟨⟨rfl, km⟩, kp⟩
  have g7 : mj_K g 7 = (12, n) := (kp.2.1 7 (by omega)).trans k7
  have gi : mj_I g 7 = mj_I h 7 := kp.2.2 7 (by decide) (by rw [k7])
  have g33 : mj_K g 33 = (11, 48) := (kp.2.1 33 (by omega)).trans v.mw.1.k33
  refine x_aload_n f_176_1297 rfl ?_
  refine x_callV f_176_1298 km (by decide) g33 (by decide) rfl rfl (Nat.le_of_ble_eq_true rfl) rfl ?_
  rintro _ k ⟨rfl, nx⟩
  exact x_goto (t := 1354) f_176_1301 (by decide) (kk k x y nx)
set_option maxRecDepth 20000 in
theorem law_29 {h : mj_H} {sm jm wm tm xm km em : Nat} (v : IV h sm jm wm tm xm km em) {n i : Nat} (hn : n ≤ 4608) (hi : i + 9 ≤ n) (k7 : mj_K h 7 = (12, n)) (k62 : mj_K h 62 = (13, 1)) (x y : Value) {Q : Option Value → mj_H → Prop} (kk : ∀ k x' y', NX h k → mx 31 176 1354 [.ref 7, .ref 8, .ref 33, .ref 62, .int (nI i), x', y'] [] k Q) : mx 31 176 1304 [.ref 7, .ref 8, .ref 33, .ref 62, .int (nI i), x, y] [] h Q := by
  have h63 := v.l63
  refine x_aload_n f_176_1304 rfl ?_
  refine x_aload_n f_176_1305 rfl ?_
  refine x_iload f_176_1306 rfl ?_
  refine x_iconst (v := nI 1) f_176_1308 (by decide) ?_
  refine x_iaddN f_176_1309 ?_
  refine x_iald f_176_1310 k7 (by omega) (by omega) ?_
  refine x_callV f_176_1311 (mxc.keep (pr_order v (mj_I h 7 (i + 1))) (by omega)) (by decide) v.sc.k8 (by decide) rfl rfl (Nat.le_of_ble_eq_true rfl) rfl ?_
  rintro _ g ⟨⟨u, rfl, km⟩, kp⟩
  have g7 : mj_K g 7 = (12, n) := (kp.2.1 7 (by omega)).trans k7
  have gi : mj_I g 7 = mj_I h 7 := kp.2.2 7 (by decide) (by rw [k7])
  have g33 : mj_K g 33 = (11, 48) := (kp.2.1 33 (by omega)).trans v.mw.1.k33
  show mx 31 176 1314 [.ref 7, .ref 8, .ref 33, .ref 62, .int (nI i), x, y] [.int u] g Q
  refine x_aload_n f_176_1314 rfl ?_
  refine x_aload_n f_176_1315 rfl ?_
  refine x_iload f_176_1316 rfl ?_
  refine x_iconst (v := nI 1) f_176_1318 (by decide) ?_
  refine x_iaddN f_176_1319 ?_
  refine x_iald f_176_1320 g7 (by omega) (by omega) ?_
  refine x_topi (congrFun gi _) ?_
  refine x_callV f_176_1321 km (by decide) g33 (by decide) rfl rfl (Nat.le_of_ble_eq_true rfl) rfl ?_
  rintro _ k ⟨rfl, nx⟩
  exact x_icmp_eq (t := 1354) f_176_1324 (by decide) (fun _ => kk k x y nx) (fun c => absurd rfl c)
set_option maxRecDepth 20000 in
theorem law_30 {h : mj_H} {sm jm wm tm xm km em : Nat} (v : IV h sm jm wm tm xm km em) {n i : Nat} (hn : n ≤ 4608) (hi : i + 9 ≤ n) (k7 : mj_K h 7 = (12, n)) (k62 : mj_K h 62 = (13, 1)) (x y : Value) {Q : Option Value → mj_H → Prop} (kk : ∀ k x' y', NX h k → mx 31 176 1354 [.ref 7, .ref 8, .ref 33, .ref 62, .int (nI i), x', y'] [] k Q) : mx 31 176 1329 [.ref 7, .ref 8, .ref 33, .ref 62, .int (nI i), x, y] [] h Q := by
  have h63 := v.l63
  refine x_aload_n f_176_1329 rfl ?_
  refine x_aload_n f_176_1330 rfl ?_
  refine x_iload f_176_1331 rfl ?_
  refine x_iconst (v := nI 1) f_176_1333 (by decide) ?_
  refine x_iaddN f_176_1334 ?_
  refine x_iald f_176_1335 k7 (by omega) (by omega) ?_
  refine x_callV f_176_1336 (mxc.keep (pr_count v (mj_I h 7 (i + 1))) (by omega)) (by decide) v.sc.k8 (by decide) rfl rfl (Nat.le_of_ble_eq_true rfl) rfl ?_
  rintro _ g ⟨⟨u, rfl, km⟩, kp⟩
  have g7 : mj_K g 7 = (12, n) := (kp.2.1 7 (by omega)).trans k7
  have gi : mj_I g 7 = mj_I h 7 := kp.2.2 7 (by decide) (by rw [k7])
  have g33 : mj_K g 33 = (11, 48) := (kp.2.1 33 (by omega)).trans v.mw.1.k33
  show mx 31 176 1339 [.ref 7, .ref 8, .ref 33, .ref 62, .int (nI i), x, y] [.int u] g Q
  refine x_aload_n f_176_1339 rfl ?_
  refine x_aload_n f_176_1340 rfl ?_
  refine x_iload f_176_1341 rfl ?_
  refine x_iconst (v := nI 1) f_176_1343 (by decide) ?_
  refine x_iaddN f_176_1344 ?_
  refine x_iald f_176_1345 g7 (by omega) (by omega) ?_
  refine x_topi (congrFun gi _) ?_
  refine x_callV f_176_1346 km (by decide) g33 (by decide) rfl rfl (Nat.le_of_ble_eq_true rfl) rfl ?_
  rintro _ k ⟨rfl, nx⟩
  exact x_icmp_eq (t := 1354) f_176_1349 (by decide) (fun _ => kk k x y nx) (fun c => absurd rfl c)
set_option maxRecDepth 20000 in
theorem law_loop {n : Nat} (hn : n ≤ 4608) (B1 B2 : Nat) : ∀ (m i : Nat) (h : mj_H) (x y : Value), n < i + 9 * m + 9 → i ≤ 4608 → (∃ sm jm wm tm xm km em, IV h sm jm wm tm xm km em) → mj_K h 7 = (12, n) → mj_K h 62 = (13, 1) → h.1 + 5 * m ≤ B1 → h.2.1 + 12000 * m ≤ B2 → mx 31 176 23 [.ref 7, .ref 8, .ref 33, .ref 62, .int (nI i), x, y] [] h (fun r h' => r = some (.int 1) ∧ h'.1 ≤ B1 ∧ h'.2.1 ≤ B2) := by
  intro m
  induction m with
  | zero =>
    intro i h x y h1 h2 iv k7 k62 b1 b2
    refine x_iload f_176_23 rfl ?_
    refine x_aload_n f_176_25 rfl ?_
    refine x_alen f_176_26 k7 (by decide) ?_
    refine x_bipush (v := nI 9) f_176_27 (by decide) ?_
    refine x_isub f_176_29 ?_
    refine x_icmp_gt (t := 1360) f_176_30 (by decide) (fun _ => ?_) (fun c => absurd ((law_lt hn h2).mpr (by omega)) c)
    refine x_iconst (v := 1) f_176_1360 (by decide) ?_
    exact x_retZ f_176_1361 rfl (Or.inr rfl) ⟨rfl, by omega, by omega⟩
  | succ m ih =>
    intro i h x y h1 h2 iv k7 k62 b1 b2
    refine x_iload f_176_23 rfl ?_
    refine x_aload_n f_176_25 rfl ?_
    refine x_alen f_176_26 k7 (by decide) ?_
    refine x_bipush (v := nI 9) f_176_27 (by decide) ?_
    refine x_isub f_176_29 ?_
    refine x_icmp_gt (t := 1360) f_176_30 (by decide) (fun _ => ?_) (fun c => ?_)
    · refine x_iconst (v := 1) f_176_1360 (by decide) ?_
      exact x_retZ f_176_1361 rfl (Or.inr rfl) ⟨rfl, by omega, by omega⟩
    have hi : i + 9 ≤ n := by
      have : ¬ n < i + 9 := fun z => c ((law_lt hn h2).mpr z)
      omega
    have kk : ∀ k x' y', NX h k → mx 31 176 1354 [.ref 7, .ref 8, .ref 33, .ref 62, .int (nI i), x', y'] [] k (fun r h' => r = some (.int 1) ∧ h'.1 ≤ B1 ∧ h'.2.1 ≤ B2) := fun k x' y' nx => by
      obtain ⟨ivk, c1, c2, c3, c4, c5⟩ := nx
      refine x_iinc (v := nI (i + 9)) (ls1 := [.ref 7, .ref 8, .ref 33, .ref 62, .int (nI (i + 9)), x', y']) f_176_1354 rfl (by exact nI_add _ 9) rfl ?_
      refine x_goto (t := 23) f_176_1357 (by decide) ?_
      exact ih (i + 9) k x' y' (by omega) (by omega) ivk (c3.trans k7) (c5.trans k62) (by omega) (by omega)
    obtain ⟨sm, jm, wm, tm, xm, km, em, v⟩ := iv
    refine x_aload_n f_176_33 rfl ?_
    refine x_iload f_176_34 rfl ?_
    refine x_iald f_176_36 k7 (by omega) (by omega) ?_
    refine x_bipush (v := nI 31) f_176_37 (by decide) ?_
    refine x_iand f_176_39 ?_
    obtain ⟨c, hc, ec⟩ := and31 (mj_I h 7 i)
    refine x_topi ec ?_
    have hcs : c = 0 ∨ c = 1 ∨ c = 2 ∨ c = 3 ∨ c = 4 ∨ c = 5 ∨ c = 6 ∨ c = 7 ∨ c = 8 ∨ c = 9 ∨ c = 10 ∨ c = 11 ∨ c = 12 ∨ c = 13 ∨ c = 14 ∨ c = 15 ∨ c = 16 ∨ c = 17 ∨ c = 18 ∨ c = 19 ∨ c = 20 ∨ c = 21 ∨ c = 22 ∨ c = 23 ∨ c = 24 ∨ c = 25 ∨ c = 26 ∨ c = 27 ∨ c = 28 ∨ c = 29 ∨ c = 30 ∨ c = 31 := by omega
    rcases hcs with rfl | rfl | rfl | rfl | rfl | rfl | rfl | rfl | rfl | rfl | rfl | rfl | rfl | rfl | rfl | rfl | rfl | rfl | rfl | rfl | rfl | rfl | rfl | rfl | rfl | rfl | rfl | rfl | rfl | rfl | rfl | rfl
    · exact x_tsw (off := 140) (t := 180) f_176_40 (by decide) rfl (by decide) (law_0 v hn hi k7 k62 x y kk)
    · exact x_tsw (off := 165) (t := 205) f_176_40 (by decide) rfl (by decide) (law_1 v hn hi k7 k62 x y kk)
    · exact x_tsw (off := 280) (t := 320) f_176_40 (by decide) rfl (by decide) (law_2 v hn hi k7 k62 x y kk)
    · exact x_tsw (off := 317) (t := 357) f_176_40 (by decide) rfl (by decide) (law_3 v hn hi k7 k62 x y kk)
    · exact x_tsw (off := 366) (t := 406) f_176_40 (by decide) rfl (by decide) (law_4 v hn hi k7 k62 x y kk)
    · exact x_tsw (off := 434) (t := 474) f_176_40 (by decide) rfl (by decide) (law_5 v hn hi k7 k62 x y kk)
    · exact x_tsw (off := 483) (t := 523) f_176_40 (by decide) rfl (by decide) (law_6 v hn hi k7 k62 x y kk)
    · exact x_tsw (off := 520) (t := 560) f_176_40 (by decide) rfl (by decide) (law_7 v hn hi k7 k62 x y kk)
    · exact x_tsw (off := 581) (t := 621) f_176_40 (by decide) rfl (by decide) (law_8 v hn hi k7 k62 x y kk)
    · exact x_tsw (off := 618) (t := 658) f_176_40 (by decide) rfl (by decide) (law_9 v hn hi k7 k62 x y kk)
    · exact x_tsw (off := 655) (t := 695) f_176_40 (by decide) rfl (by decide) (law_10 v hn hi k7 k62 x y kk)
    · exact x_tsw (off := 704) (t := 744) f_176_40 (by decide) rfl (by decide) (law_11 v hn hi k7 k62 x y kk)
    · exact x_tsw (off := 729) (t := 769) f_176_40 (by decide) rfl (by decide) (law_12 v hn hi k7 k62 x y kk)
    · exact x_tsw (off := 754) (t := 794) f_176_40 (by decide) rfl (by decide) (law_13 v hn hi k7 k62 x y kk)
    · exact x_tsw (off := 791) (t := 831) f_176_40 (by decide) rfl (by decide) (law_14 v hn hi k7 k62 x y kk)
    · exact x_tsw (off := 816) (t := 856) f_176_40 (by decide) rfl (by decide) (law_15 v hn hi k7 k62 x y kk)
    · exact x_tsw (off := 841) (t := 881) f_176_40 (by decide) rfl (by decide) (law_16 v hn hi k7 k62 x y kk)
    · exact x_tsw (off := 878) (t := 918) f_176_40 (by decide) rfl (by decide) (law_17 v hn hi k7 k62 x y kk)
    · exact x_tsw (off := 903) (t := 943) f_176_40 (by decide) rfl (by decide) (law_18 v hn hi k7 k62 x y kk)
    · exact x_tsw (off := 928) (t := 968) f_176_40 (by decide) rfl (by decide) (law_19 v hn hi k7 k62 x y kk)
    · exact x_tsw (off := 965) (t := 1005) f_176_40 (by decide) rfl (by decide) (law_20 v hn hi k7 k62 x y kk)
    · exact x_tsw (off := 1002) (t := 1042) f_176_40 (by decide) rfl (by decide) (law_21 v hn hi k7 k62 x y kk)
    · exact x_tsw (off := 1039) (t := 1079) f_176_40 (by decide) rfl (by decide) (law_22 v hn hi k7 k62 x y kk)
    · exact x_tsw (off := 1076) (t := 1116) f_176_40 (by decide) rfl (by decide) (law_23 v hn hi k7 k62 x y kk)
    · exact x_tsw (off := 1129) (t := 1169) f_176_40 (by decide) rfl (by decide) (law_24 v hn hi k7 k62 x y kk)
    · exact x_tsw (off := 1166) (t := 1206) f_176_40 (by decide) rfl (by decide) (law_25 v hn hi k7 k62 x y kk)
    · exact x_tsw (off := 1191) (t := 1231) f_176_40 (by decide) rfl (by decide) (law_26 v hn hi k7 k62 x y kk)
    · exact x_tsw (off := 1216) (t := 1256) f_176_40 (by decide) rfl (by decide) (law_27 v hn hi k7 k62 x y kk)
    · exact x_tsw (off := 1253) (t := 1293) f_176_40 (by decide) rfl (by decide) (law_28 v hn hi k7 k62 x y kk)
    · exact x_tsw (off := 1264) (t := 1304) f_176_40 (by decide) rfl (by decide) (law_29 v hn hi k7 k62 x y kk)
    · exact x_tsw (off := 1289) (t := 1329) f_176_40 (by decide) rfl (by decide) (law_30 v hn hi k7 k62 x y kk)
    · exact x_tswD (t := 1354) f_176_40 (by decide) (by decide) (kk h x y ⟨⟨sm, jm, wm, tm, xm, km, em, v⟩, B0.rf h⟩)
/-- THE LAW, in the small machine: over every script of at most 4608 ints it answers true -/
theorem law_run {h0 : mj_H} (h8 : h0.1 = 8) (hk : ∀ k, k < 7 → mj_K h0 k = (12, mj_sL k)) (hi : ∀ k, k < 7 → mj_I h0 k = mj_sV k) {n : Nat} (hn : n ≤ 4608) (k7 : mj_K h0 7 = (12, n)) : mxc 31 176 [.ref 7] h0 (fun r h' => r = some (.int 1) ∧ h'.1 ≤ 3000 ∧ h'.2.1 ≤ h0.2.1 + 6300000) := by
  show mx 31 176 0 [.ref 7, mj_unset, mj_unset, mj_unset, mj_unset, mj_unset, mj_unset] [] h0 _
  refine x_new (n := 13) f_176_0 (by decide) (by decide) ?_
  refine x_dup f_176_3 rfl ?_
  refine x_callIn f_176_4 (k_i10 (mj_K_newA h0 10 13) (Nat.lt_succ_self _)) (by decide) rfl rfl rfl (Nat.le_of_ble_eq_true rfl) rfl ?_
  have e33 : (mkC (mj_new h0 10 13) h0.1).1 = 33 := by
    obtain ⟨n0, s, K, I, J, R⟩ := h0
    have h8 : n0 = 8 := h8
    subst h8
    exact (mkC_at s K I J R).1
  rw [h8] at e33 ⊢
  refine x_astore_n (ls1 := [.ref 7, .ref 8, mj_unset, mj_unset, mj_unset, mj_unset, mj_unset]) f_176_7 (Nat.le_of_ble_eq_true rfl) rfl ?_
  refine x_new (n := 48) f_176_8 (by decide) (by decide) ?_
  refine x_dup f_176_11 rfl ?_
  refine x_callI f_176_12 (c_i11 e33 (by show (mkC (mj_new h0 10 13) 8).1 + 1 = 34; omega) (mj_K_newA _ 11 48)) (by decide) rfl rfl rfl (Nat.le_of_ble_eq_true rfl) rfl ?_
  rintro _ g ⟨rfl, r, hz⟩
  rw [e33] at r
  show mx 31 176 15 [.ref 7, .ref 8, mj_unset, mj_unset, mj_unset, mj_unset, mj_unset] [.ref (mkC (mj_new h0 10 13) 8).1] g _
  rw [e33]
  obtain ⟨v, l62, s62, q7, _⟩ := IV_first h8 hk hi r hz
  refine x_astore_n (ls1 := [.ref 7, .ref 8, .ref 33, mj_unset, mj_unset, mj_unset, mj_unset]) f_176_15 (Nat.le_of_ble_eq_true rfl) rfl ?_
  refine x_iconst (v := nI 1) f_176_16 (by decide) ?_
  refine x_newa f_176_17 (by decide) ?_
  have k62 : mj_K (mj_new g 13 1) 62 = (13, 1) := by rw [← l62]; exact mj_K_newA g 13 1
  have n7 : mj_K (mj_new g 13 1) 7 = (12, n) := (mj_K_new (by omega)).trans (q7.trans k7)
  rw [l62]
  refine x_astore_n (ls1 := [.ref 7, .ref 8, .ref 33, .ref 62, mj_unset, mj_unset, mj_unset]) f_176_19 (Nat.le_of_ble_eq_true rfl) rfl ?_
  refine x_iconst (v := nI 0) f_176_20 (by decide) ?_
  refine x_istore (ls1 := [.ref 7, .ref 8, .ref 33, .ref 62, .int (nI 0), mj_unset, mj_unset]) f_176_21 (Nat.le_of_ble_eq_true rfl) rfl ?_
  exact law_loop hn 3000 (h0.2.1 + 6300000) 512 0 _ _ _ (by omega) (by decide) ⟨_, _, _, _, _, _, _, v⟩ n7 k62 (by show g.1 + 1 + 5 * 512 ≤ 3000; omega) (by show g.2.1 + 1 + 12000 * 512 ≤ _; omega)
