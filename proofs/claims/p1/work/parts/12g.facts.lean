theorem f189_0 : zf 189 0 = some (.new 7) := by decide +kernel
theorem f189_3 : zf 189 3 = some (.dup) := by decide +kernel
theorem f189_4 : zf 189 4 = some (.invokespecial 9) := by decide +kernel
theorem f189_7 : zf 189 7 = some (.astore_n 1) := by decide +kernel
theorem f189_8 : zf 189 8 = some (.new 10) := by decide +kernel
theorem f189_11 : zf 189 11 = some (.dup) := by decide +kernel
theorem f189_12 : zf 189 12 = some (.invokespecial 12) := by decide +kernel
theorem f189_15 : zf 189 15 = some (.astore_n 2) := by decide +kernel
theorem f189_16 : zf 189 16 = some (.iconst 0) := by decide +kernel
theorem f189_17 : zf 189 17 = some (.istore_n 3) := by decide +kernel
theorem f189_18 : zf 189 18 = some (.iload_n 3) := by decide +kernel
theorem f189_19 : zf 189 19 = some (.aload_n 0) := by decide +kernel
theorem f189_20 : zf 189 20 = some (.arraylength) := by decide +kernel
theorem f189_21 : zf 189 21 = some (.bipush 6) := by decide +kernel
theorem f189_23 : zf 189 23 = some (.isub) := by decide +kernel
theorem f189_24 : zf 189 24 = some (.if_icmp .gt 997) := by decide +kernel
theorem f189_27 : zf 189 27 = some (.aload_n 0) := by decide +kernel
theorem f189_28 : zf 189 28 = some (.iload_n 3) := by decide +kernel
theorem f189_29 : zf 189 29 = some (.iaload) := by decide +kernel
theorem f189_30 : zf 189 30 = some (.bipush 31) := by decide +kernel
theorem f189_32 : zf 189 32 = some (.iand) := by decide +kernel
theorem f189_33 : zf 189 33 = some (.tableswitch 982 0 26 #[123, 156, 199, 232, 265, 298, 341, 374, 423, 456, 479, 502, 526, 559, 582, 605, 628, 661, 694, 717, 750, 774, 797, 860, 903, 926, 969]) := by decide +kernel
theorem f189_156 : zf 189 156 = some (.aload_n 1) := by decide +kernel
theorem f189_157 : zf 189 157 = some (.aload_n 0) := by decide +kernel
theorem f189_158 : zf 189 158 = some (.iload_n 3) := by decide +kernel
theorem f189_159 : zf 189 159 = some (.iconst 1) := by decide +kernel
theorem f189_160 : zf 189 160 = some (.iadd) := by decide +kernel
theorem f189_161 : zf 189 161 = some (.iaload) := by decide +kernel
theorem f189_162 : zf 189 162 = some (.aload_n 0) := by decide +kernel
theorem f189_163 : zf 189 163 = some (.iload_n 3) := by decide +kernel
theorem f189_164 : zf 189 164 = some (.iconst 2) := by decide +kernel
theorem f189_165 : zf 189 165 = some (.iadd) := by decide +kernel
theorem f189_166 : zf 189 166 = some (.iaload) := by decide +kernel
theorem f189_167 : zf 189 167 = some (.invokevirtual 13) := by decide +kernel
theorem f189_170 : zf 189 170 = some (.aload_n 2) := by decide +kernel
theorem f189_171 : zf 189 171 = some (.aload_n 0) := by decide +kernel
theorem f189_172 : zf 189 172 = some (.iload_n 3) := by decide +kernel
theorem f189_173 : zf 189 173 = some (.iconst 1) := by decide +kernel
theorem f189_174 : zf 189 174 = some (.iadd) := by decide +kernel
theorem f189_175 : zf 189 175 = some (.iaload) := by decide +kernel
theorem f189_176 : zf 189 176 = some (.aload_n 0) := by decide +kernel
theorem f189_177 : zf 189 177 = some (.iload_n 3) := by decide +kernel
theorem f189_178 : zf 189 178 = some (.iconst 2) := by decide +kernel
theorem f189_179 : zf 189 179 = some (.iadd) := by decide +kernel
theorem f189_180 : zf 189 180 = some (.iaload) := by decide +kernel
theorem f189_181 : zf 189 181 = some (.invokevirtual 17) := by decide +kernel
theorem f189_184 : zf 189 184 = some (.if_icmp .eq 831) := by decide +kernel
theorem f189_187 : zf 189 187 = some (.iconst 0) := by decide +kernel
theorem f189_188 : zf 189 188 = some (.ireturn) := by decide +kernel
theorem f189_189 : zf 189 189 = some (.aload_n 1) := by decide +kernel
theorem f189_190 : zf 189 190 = some (.aload_n 0) := by decide +kernel
theorem f189_191 : zf 189 191 = some (.iload_n 3) := by decide +kernel
theorem f189_192 : zf 189 192 = some (.iconst 1) := by decide +kernel
theorem f189_193 : zf 189 193 = some (.iadd) := by decide +kernel
theorem f189_194 : zf 189 194 = some (.iaload) := by decide +kernel
theorem f189_195 : zf 189 195 = some (.aload_n 0) := by decide +kernel
theorem f189_196 : zf 189 196 = some (.iload_n 3) := by decide +kernel
theorem f189_197 : zf 189 197 = some (.iconst 2) := by decide +kernel
theorem f189_198 : zf 189 198 = some (.iadd) := by decide +kernel
theorem f189_199 : zf 189 199 = some (.iaload) := by decide +kernel
theorem f189_200 : zf 189 200 = some (.aload_n 0) := by decide +kernel
theorem f189_201 : zf 189 201 = some (.iload_n 3) := by decide +kernel
theorem f189_202 : zf 189 202 = some (.iconst 3) := by decide +kernel
theorem f189_203 : zf 189 203 = some (.iadd) := by decide +kernel
theorem f189_204 : zf 189 204 = some (.iaload) := by decide +kernel
theorem f189_205 : zf 189 205 = some (.invokevirtual 18) := by decide +kernel
theorem f189_208 : zf 189 208 = some (.aload_n 2) := by decide +kernel
theorem f189_209 : zf 189 209 = some (.aload_n 0) := by decide +kernel
theorem f189_210 : zf 189 210 = some (.iload_n 3) := by decide +kernel
theorem f189_211 : zf 189 211 = some (.iconst 1) := by decide +kernel
theorem f189_212 : zf 189 212 = some (.iadd) := by decide +kernel
theorem f189_213 : zf 189 213 = some (.iaload) := by decide +kernel
theorem f189_214 : zf 189 214 = some (.aload_n 0) := by decide +kernel
theorem f189_215 : zf 189 215 = some (.iload_n 3) := by decide +kernel
theorem f189_216 : zf 189 216 = some (.iconst 2) := by decide +kernel
theorem f189_217 : zf 189 217 = some (.iadd) := by decide +kernel
theorem f189_218 : zf 189 218 = some (.iaload) := by decide +kernel
theorem f189_219 : zf 189 219 = some (.aload_n 0) := by decide +kernel
theorem f189_220 : zf 189 220 = some (.iload_n 3) := by decide +kernel
theorem f189_221 : zf 189 221 = some (.iconst 3) := by decide +kernel
theorem f189_222 : zf 189 222 = some (.iadd) := by decide +kernel
theorem f189_223 : zf 189 223 = some (.iaload) := by decide +kernel
theorem f189_224 : zf 189 224 = some (.invokevirtual 22) := by decide +kernel
theorem f189_227 : zf 189 227 = some (.if_icmp .eq 788) := by decide +kernel
theorem f189_230 : zf 189 230 = some (.iconst 0) := by decide +kernel
theorem f189_231 : zf 189 231 = some (.ireturn) := by decide +kernel
theorem f189_232 : zf 189 232 = some (.aload_n 1) := by decide +kernel
theorem f189_233 : zf 189 233 = some (.aload_n 0) := by decide +kernel
theorem f189_234 : zf 189 234 = some (.iload_n 3) := by decide +kernel
theorem f189_235 : zf 189 235 = some (.iconst 1) := by decide +kernel
theorem f189_236 : zf 189 236 = some (.iadd) := by decide +kernel
theorem f189_237 : zf 189 237 = some (.iaload) := by decide +kernel
theorem f189_238 : zf 189 238 = some (.aload_n 0) := by decide +kernel
theorem f189_239 : zf 189 239 = some (.iload_n 3) := by decide +kernel
theorem f189_240 : zf 189 240 = some (.iconst 2) := by decide +kernel
theorem f189_241 : zf 189 241 = some (.iadd) := by decide +kernel
theorem f189_242 : zf 189 242 = some (.iaload) := by decide +kernel
theorem f189_243 : zf 189 243 = some (.invokevirtual 23) := by decide +kernel
theorem f189_246 : zf 189 246 = some (.aload_n 2) := by decide +kernel
theorem f189_247 : zf 189 247 = some (.aload_n 0) := by decide +kernel
theorem f189_248 : zf 189 248 = some (.iload_n 3) := by decide +kernel
theorem f189_249 : zf 189 249 = some (.iconst 1) := by decide +kernel
theorem f189_250 : zf 189 250 = some (.iadd) := by decide +kernel
theorem f189_251 : zf 189 251 = some (.iaload) := by decide +kernel
theorem f189_252 : zf 189 252 = some (.aload_n 0) := by decide +kernel
theorem f189_253 : zf 189 253 = some (.iload_n 3) := by decide +kernel
theorem f189_254 : zf 189 254 = some (.iconst 2) := by decide +kernel
theorem f189_255 : zf 189 255 = some (.iadd) := by decide +kernel
theorem f189_256 : zf 189 256 = some (.iaload) := by decide +kernel
theorem f189_257 : zf 189 257 = some (.invokevirtual 26) := by decide +kernel
theorem f189_260 : zf 189 260 = some (.if_icmp .eq 755) := by decide +kernel
theorem f189_263 : zf 189 263 = some (.iconst 0) := by decide +kernel
theorem f189_264 : zf 189 264 = some (.ireturn) := by decide +kernel
theorem f189_265 : zf 189 265 = some (.aload_n 1) := by decide +kernel
theorem f189_266 : zf 189 266 = some (.aload_n 0) := by decide +kernel
theorem f189_267 : zf 189 267 = some (.iload_n 3) := by decide +kernel
theorem f189_268 : zf 189 268 = some (.iconst 1) := by decide +kernel
theorem f189_269 : zf 189 269 = some (.iadd) := by decide +kernel
theorem f189_270 : zf 189 270 = some (.iaload) := by decide +kernel
theorem f189_271 : zf 189 271 = some (.aload_n 0) := by decide +kernel
theorem f189_272 : zf 189 272 = some (.iload_n 3) := by decide +kernel
theorem f189_273 : zf 189 273 = some (.iconst 2) := by decide +kernel
theorem f189_274 : zf 189 274 = some (.iadd) := by decide +kernel
theorem f189_275 : zf 189 275 = some (.iaload) := by decide +kernel
theorem f189_276 : zf 189 276 = some (.invokevirtual 27) := by decide +kernel
theorem f189_279 : zf 189 279 = some (.aload_n 2) := by decide +kernel
theorem f189_280 : zf 189 280 = some (.aload_n 0) := by decide +kernel
theorem f189_281 : zf 189 281 = some (.iload_n 3) := by decide +kernel
theorem f189_282 : zf 189 282 = some (.iconst 1) := by decide +kernel
theorem f189_283 : zf 189 283 = some (.iadd) := by decide +kernel
theorem f189_284 : zf 189 284 = some (.iaload) := by decide +kernel
theorem f189_285 : zf 189 285 = some (.aload_n 0) := by decide +kernel
theorem f189_286 : zf 189 286 = some (.iload_n 3) := by decide +kernel
theorem f189_287 : zf 189 287 = some (.iconst 2) := by decide +kernel
theorem f189_288 : zf 189 288 = some (.iadd) := by decide +kernel
theorem f189_289 : zf 189 289 = some (.iaload) := by decide +kernel
theorem f189_290 : zf 189 290 = some (.invokevirtual 30) := by decide +kernel
theorem f189_293 : zf 189 293 = some (.if_icmp .eq 722) := by decide +kernel
theorem f189_296 : zf 189 296 = some (.iconst 0) := by decide +kernel
theorem f189_297 : zf 189 297 = some (.ireturn) := by decide +kernel
theorem f189_298 : zf 189 298 = some (.aload_n 1) := by decide +kernel
theorem f189_299 : zf 189 299 = some (.aload_n 0) := by decide +kernel
theorem f189_300 : zf 189 300 = some (.iload_n 3) := by decide +kernel
theorem f189_301 : zf 189 301 = some (.iconst 1) := by decide +kernel
theorem f189_302 : zf 189 302 = some (.iadd) := by decide +kernel
theorem f189_303 : zf 189 303 = some (.iaload) := by decide +kernel
theorem f189_304 : zf 189 304 = some (.aload_n 0) := by decide +kernel
theorem f189_305 : zf 189 305 = some (.iload_n 3) := by decide +kernel
theorem f189_306 : zf 189 306 = some (.iconst 2) := by decide +kernel
theorem f189_307 : zf 189 307 = some (.iadd) := by decide +kernel
theorem f189_308 : zf 189 308 = some (.iaload) := by decide +kernel
theorem f189_309 : zf 189 309 = some (.invokevirtual 31) := by decide +kernel
theorem f189_312 : zf 189 312 = some (.aload_n 2) := by decide +kernel
theorem f189_313 : zf 189 313 = some (.aload_n 0) := by decide +kernel
theorem f189_314 : zf 189 314 = some (.iload_n 3) := by decide +kernel
theorem f189_315 : zf 189 315 = some (.iconst 1) := by decide +kernel
theorem f189_316 : zf 189 316 = some (.iadd) := by decide +kernel
theorem f189_317 : zf 189 317 = some (.iaload) := by decide +kernel
theorem f189_318 : zf 189 318 = some (.aload_n 0) := by decide +kernel
theorem f189_319 : zf 189 319 = some (.iload_n 3) := by decide +kernel
theorem f189_320 : zf 189 320 = some (.iconst 2) := by decide +kernel
theorem f189_321 : zf 189 321 = some (.iadd) := by decide +kernel
theorem f189_322 : zf 189 322 = some (.iaload) := by decide +kernel
theorem f189_323 : zf 189 323 = some (.invokevirtual 34) := by decide +kernel
theorem f189_326 : zf 189 326 = some (.if_icmp .eq 689) := by decide +kernel
theorem f189_329 : zf 189 329 = some (.iconst 0) := by decide +kernel
theorem f189_330 : zf 189 330 = some (.ireturn) := by decide +kernel
theorem f189_331 : zf 189 331 = some (.aload_n 1) := by decide +kernel
theorem f189_332 : zf 189 332 = some (.aload_n 0) := by decide +kernel
theorem f189_333 : zf 189 333 = some (.iload_n 3) := by decide +kernel
theorem f189_334 : zf 189 334 = some (.iconst 1) := by decide +kernel
theorem f189_335 : zf 189 335 = some (.iadd) := by decide +kernel
theorem f189_336 : zf 189 336 = some (.iaload) := by decide +kernel
theorem f189_337 : zf 189 337 = some (.aload_n 0) := by decide +kernel
theorem f189_338 : zf 189 338 = some (.iload_n 3) := by decide +kernel
theorem f189_339 : zf 189 339 = some (.iconst 2) := by decide +kernel
theorem f189_340 : zf 189 340 = some (.iadd) := by decide +kernel
theorem f189_341 : zf 189 341 = some (.iaload) := by decide +kernel
theorem f189_342 : zf 189 342 = some (.aload_n 0) := by decide +kernel
theorem f189_343 : zf 189 343 = some (.iload_n 3) := by decide +kernel
theorem f189_344 : zf 189 344 = some (.iconst 3) := by decide +kernel
theorem f189_345 : zf 189 345 = some (.iadd) := by decide +kernel
theorem f189_346 : zf 189 346 = some (.iaload) := by decide +kernel
theorem f189_347 : zf 189 347 = some (.invokevirtual 35) := by decide +kernel
theorem f189_350 : zf 189 350 = some (.aload_n 2) := by decide +kernel
theorem f189_351 : zf 189 351 = some (.aload_n 0) := by decide +kernel
theorem f189_352 : zf 189 352 = some (.iload_n 3) := by decide +kernel
theorem f189_353 : zf 189 353 = some (.iconst 1) := by decide +kernel
theorem f189_354 : zf 189 354 = some (.iadd) := by decide +kernel
theorem f189_355 : zf 189 355 = some (.iaload) := by decide +kernel
theorem f189_356 : zf 189 356 = some (.aload_n 0) := by decide +kernel
theorem f189_357 : zf 189 357 = some (.iload_n 3) := by decide +kernel
theorem f189_358 : zf 189 358 = some (.iconst 2) := by decide +kernel
theorem f189_359 : zf 189 359 = some (.iadd) := by decide +kernel
theorem f189_360 : zf 189 360 = some (.iaload) := by decide +kernel
theorem f189_361 : zf 189 361 = some (.aload_n 0) := by decide +kernel
theorem f189_362 : zf 189 362 = some (.iload_n 3) := by decide +kernel
theorem f189_363 : zf 189 363 = some (.iconst 3) := by decide +kernel
theorem f189_364 : zf 189 364 = some (.iadd) := by decide +kernel
theorem f189_365 : zf 189 365 = some (.iaload) := by decide +kernel
theorem f189_366 : zf 189 366 = some (.invokevirtual 38) := by decide +kernel
theorem f189_369 : zf 189 369 = some (.if_icmp .eq 646) := by decide +kernel
theorem f189_372 : zf 189 372 = some (.iconst 0) := by decide +kernel
theorem f189_373 : zf 189 373 = some (.ireturn) := by decide +kernel
theorem f189_374 : zf 189 374 = some (.aload_n 1) := by decide +kernel
theorem f189_375 : zf 189 375 = some (.aload_n 0) := by decide +kernel
theorem f189_376 : zf 189 376 = some (.iload_n 3) := by decide +kernel
theorem f189_377 : zf 189 377 = some (.iconst 1) := by decide +kernel
theorem f189_378 : zf 189 378 = some (.iadd) := by decide +kernel
theorem f189_379 : zf 189 379 = some (.iaload) := by decide +kernel
theorem f189_380 : zf 189 380 = some (.aload_n 0) := by decide +kernel
theorem f189_381 : zf 189 381 = some (.iload_n 3) := by decide +kernel
theorem f189_382 : zf 189 382 = some (.iconst 2) := by decide +kernel
theorem f189_383 : zf 189 383 = some (.iadd) := by decide +kernel
theorem f189_384 : zf 189 384 = some (.iaload) := by decide +kernel
theorem f189_385 : zf 189 385 = some (.invokevirtual 39) := by decide +kernel
theorem f189_388 : zf 189 388 = some (.aload_n 2) := by decide +kernel
theorem f189_389 : zf 189 389 = some (.aload_n 0) := by decide +kernel
theorem f189_390 : zf 189 390 = some (.iload_n 3) := by decide +kernel
theorem f189_391 : zf 189 391 = some (.iconst 1) := by decide +kernel
theorem f189_392 : zf 189 392 = some (.iadd) := by decide +kernel
theorem f189_393 : zf 189 393 = some (.iaload) := by decide +kernel
theorem f189_394 : zf 189 394 = some (.aload_n 0) := by decide +kernel
theorem f189_395 : zf 189 395 = some (.iload_n 3) := by decide +kernel
theorem f189_396 : zf 189 396 = some (.iconst 2) := by decide +kernel
theorem f189_397 : zf 189 397 = some (.iadd) := by decide +kernel
theorem f189_398 : zf 189 398 = some (.iaload) := by decide +kernel
theorem f189_399 : zf 189 399 = some (.invokevirtual 42) := by decide +kernel
theorem f189_402 : zf 189 402 = some (.if_icmp .eq 613) := by decide +kernel
theorem f189_405 : zf 189 405 = some (.iconst 0) := by decide +kernel
theorem f189_406 : zf 189 406 = some (.ireturn) := by decide +kernel
theorem f189_407 : zf 189 407 = some (.aload_n 1) := by decide +kernel
theorem f189_408 : zf 189 408 = some (.aload_n 0) := by decide +kernel
theorem f189_409 : zf 189 409 = some (.iload_n 3) := by decide +kernel
theorem f189_410 : zf 189 410 = some (.iconst 1) := by decide +kernel
theorem f189_411 : zf 189 411 = some (.iadd) := by decide +kernel
theorem f189_412 : zf 189 412 = some (.iaload) := by decide +kernel
theorem f189_413 : zf 189 413 = some (.aload_n 0) := by decide +kernel
theorem f189_414 : zf 189 414 = some (.iload_n 3) := by decide +kernel
theorem f189_415 : zf 189 415 = some (.iconst 2) := by decide +kernel
theorem f189_416 : zf 189 416 = some (.iadd) := by decide +kernel
theorem f189_417 : zf 189 417 = some (.iaload) := by decide +kernel
theorem f189_418 : zf 189 418 = some (.ifCond .eq 7) := by decide +kernel
theorem f189_421 : zf 189 421 = some (.iconst 1) := by decide +kernel
theorem f189_422 : zf 189 422 = some (.goto 4) := by decide +kernel
theorem f189_425 : zf 189 425 = some (.iconst 0) := by decide +kernel
theorem f189_426 : zf 189 426 = some (.invokevirtual 43) := by decide +kernel
theorem f189_429 : zf 189 429 = some (.aload_n 2) := by decide +kernel
theorem f189_430 : zf 189 430 = some (.aload_n 0) := by decide +kernel
theorem f189_431 : zf 189 431 = some (.iload_n 3) := by decide +kernel
theorem f189_432 : zf 189 432 = some (.iconst 1) := by decide +kernel
theorem f189_433 : zf 189 433 = some (.iadd) := by decide +kernel
theorem f189_434 : zf 189 434 = some (.iaload) := by decide +kernel
theorem f189_435 : zf 189 435 = some (.aload_n 0) := by decide +kernel
theorem f189_436 : zf 189 436 = some (.iload_n 3) := by decide +kernel
theorem f189_437 : zf 189 437 = some (.iconst 2) := by decide +kernel
theorem f189_438 : zf 189 438 = some (.iadd) := by decide +kernel
theorem f189_439 : zf 189 439 = some (.iaload) := by decide +kernel
theorem f189_440 : zf 189 440 = some (.ifCond .eq 7) := by decide +kernel
theorem f189_443 : zf 189 443 = some (.iconst 1) := by decide +kernel
theorem f189_444 : zf 189 444 = some (.goto 4) := by decide +kernel
theorem f189_447 : zf 189 447 = some (.iconst 0) := by decide +kernel
theorem f189_448 : zf 189 448 = some (.invokevirtual 47) := by decide +kernel
theorem f189_451 : zf 189 451 = some (.if_icmp .eq 564) := by decide +kernel
theorem f189_454 : zf 189 454 = some (.iconst 0) := by decide +kernel
theorem f189_455 : zf 189 455 = some (.ireturn) := by decide +kernel
theorem f189_456 : zf 189 456 = some (.aload_n 1) := by decide +kernel
theorem f189_457 : zf 189 457 = some (.aload_n 0) := by decide +kernel
theorem f189_458 : zf 189 458 = some (.iload_n 3) := by decide +kernel
theorem f189_459 : zf 189 459 = some (.iconst 1) := by decide +kernel
theorem f189_460 : zf 189 460 = some (.iadd) := by decide +kernel
theorem f189_461 : zf 189 461 = some (.iaload) := by decide +kernel
theorem f189_462 : zf 189 462 = some (.aload_n 0) := by decide +kernel
theorem f189_463 : zf 189 463 = some (.iload_n 3) := by decide +kernel
theorem f189_464 : zf 189 464 = some (.iconst 2) := by decide +kernel
theorem f189_465 : zf 189 465 = some (.iadd) := by decide +kernel
theorem f189_466 : zf 189 466 = some (.iaload) := by decide +kernel
theorem f189_467 : zf 189 467 = some (.invokevirtual 48) := by decide +kernel
theorem f189_470 : zf 189 470 = some (.aload_n 2) := by decide +kernel
theorem f189_471 : zf 189 471 = some (.aload_n 0) := by decide +kernel
theorem f189_472 : zf 189 472 = some (.iload_n 3) := by decide +kernel
theorem f189_473 : zf 189 473 = some (.iconst 1) := by decide +kernel
theorem f189_474 : zf 189 474 = some (.iadd) := by decide +kernel
theorem f189_475 : zf 189 475 = some (.iaload) := by decide +kernel
theorem f189_476 : zf 189 476 = some (.aload_n 0) := by decide +kernel
theorem f189_477 : zf 189 477 = some (.iload_n 3) := by decide +kernel
theorem f189_478 : zf 189 478 = some (.iconst 2) := by decide +kernel
theorem f189_479 : zf 189 479 = some (.iadd) := by decide +kernel
theorem f189_480 : zf 189 480 = some (.iaload) := by decide +kernel
theorem f189_481 : zf 189 481 = some (.invokevirtual 51) := by decide +kernel
theorem f189_484 : zf 189 484 = some (.if_icmp .eq 531) := by decide +kernel
theorem f189_487 : zf 189 487 = some (.iconst 0) := by decide +kernel
theorem f189_488 : zf 189 488 = some (.ireturn) := by decide +kernel
theorem f189_489 : zf 189 489 = some (.aload_n 1) := by decide +kernel
theorem f189_490 : zf 189 490 = some (.aload_n 0) := by decide +kernel
theorem f189_491 : zf 189 491 = some (.iload_n 3) := by decide +kernel
theorem f189_492 : zf 189 492 = some (.iconst 1) := by decide +kernel
theorem f189_493 : zf 189 493 = some (.iadd) := by decide +kernel
theorem f189_494 : zf 189 494 = some (.iaload) := by decide +kernel
theorem f189_495 : zf 189 495 = some (.invokevirtual 52) := by decide +kernel
theorem f189_498 : zf 189 498 = some (.aload_n 2) := by decide +kernel
theorem f189_499 : zf 189 499 = some (.aload_n 0) := by decide +kernel
theorem f189_500 : zf 189 500 = some (.iload_n 3) := by decide +kernel
theorem f189_501 : zf 189 501 = some (.iconst 1) := by decide +kernel
theorem f189_502 : zf 189 502 = some (.iadd) := by decide +kernel
theorem f189_503 : zf 189 503 = some (.iaload) := by decide +kernel
theorem f189_504 : zf 189 504 = some (.invokevirtual 56) := by decide +kernel
theorem f189_507 : zf 189 507 = some (.if_icmp .eq 508) := by decide +kernel
theorem f189_510 : zf 189 510 = some (.iconst 0) := by decide +kernel
theorem f189_511 : zf 189 511 = some (.ireturn) := by decide +kernel
theorem f189_512 : zf 189 512 = some (.aload_n 1) := by decide +kernel
theorem f189_513 : zf 189 513 = some (.aload_n 0) := by decide +kernel
theorem f189_514 : zf 189 514 = some (.iload_n 3) := by decide +kernel
theorem f189_515 : zf 189 515 = some (.iconst 1) := by decide +kernel
theorem f189_516 : zf 189 516 = some (.iadd) := by decide +kernel
theorem f189_517 : zf 189 517 = some (.iaload) := by decide +kernel
theorem f189_518 : zf 189 518 = some (.invokevirtual 57) := by decide +kernel
theorem f189_521 : zf 189 521 = some (.aload_n 2) := by decide +kernel
theorem f189_522 : zf 189 522 = some (.aload_n 0) := by decide +kernel
theorem f189_523 : zf 189 523 = some (.iload_n 3) := by decide +kernel
theorem f189_524 : zf 189 524 = some (.iconst 1) := by decide +kernel
theorem f189_525 : zf 189 525 = some (.iadd) := by decide +kernel
theorem f189_526 : zf 189 526 = some (.iaload) := by decide +kernel
theorem f189_527 : zf 189 527 = some (.invokevirtual 60) := by decide +kernel
theorem f189_530 : zf 189 530 = some (.if_icmp .eq 485) := by decide +kernel
theorem f189_533 : zf 189 533 = some (.iconst 0) := by decide +kernel
theorem f189_534 : zf 189 534 = some (.ireturn) := by decide +kernel
theorem f189_535 : zf 189 535 = some (.aload_n 1) := by decide +kernel
theorem f189_536 : zf 189 536 = some (.aload_n 0) := by decide +kernel
theorem f189_537 : zf 189 537 = some (.iload_n 3) := by decide +kernel
theorem f189_538 : zf 189 538 = some (.iconst 1) := by decide +kernel
theorem f189_539 : zf 189 539 = some (.iadd) := by decide +kernel
theorem f189_540 : zf 189 540 = some (.iaload) := by decide +kernel
theorem f189_541 : zf 189 541 = some (.invokevirtual 61) := by decide +kernel
theorem f189_544 : zf 189 544 = some (.aload_n 2) := by decide +kernel
theorem f189_545 : zf 189 545 = some (.aload_n 0) := by decide +kernel
theorem f189_546 : zf 189 546 = some (.iload_n 3) := by decide +kernel
theorem f189_547 : zf 189 547 = some (.iconst 1) := by decide +kernel
theorem f189_548 : zf 189 548 = some (.iadd) := by decide +kernel
theorem f189_549 : zf 189 549 = some (.iaload) := by decide +kernel
theorem f189_550 : zf 189 550 = some (.invokevirtual 65) := by decide +kernel
theorem f189_553 : zf 189 553 = some (.lcmp) := by decide +kernel
theorem f189_554 : zf 189 554 = some (.ifCond .eq 461) := by decide +kernel
theorem f189_557 : zf 189 557 = some (.iconst 0) := by decide +kernel
theorem f189_558 : zf 189 558 = some (.ireturn) := by decide +kernel
theorem f189_559 : zf 189 559 = some (.aload_n 1) := by decide +kernel
theorem f189_560 : zf 189 560 = some (.aload_n 0) := by decide +kernel
theorem f189_561 : zf 189 561 = some (.iload_n 3) := by decide +kernel
theorem f189_562 : zf 189 562 = some (.iconst 1) := by decide +kernel
theorem f189_563 : zf 189 563 = some (.iadd) := by decide +kernel
theorem f189_564 : zf 189 564 = some (.iaload) := by decide +kernel
theorem f189_565 : zf 189 565 = some (.aload_n 0) := by decide +kernel
theorem f189_566 : zf 189 566 = some (.iload_n 3) := by decide +kernel
theorem f189_567 : zf 189 567 = some (.iconst 2) := by decide +kernel
theorem f189_568 : zf 189 568 = some (.iadd) := by decide +kernel
theorem f189_569 : zf 189 569 = some (.iaload) := by decide +kernel
theorem f189_570 : zf 189 570 = some (.invokevirtual 66) := by decide +kernel
theorem f189_573 : zf 189 573 = some (.aload_n 2) := by decide +kernel
theorem f189_574 : zf 189 574 = some (.aload_n 0) := by decide +kernel
theorem f189_575 : zf 189 575 = some (.iload_n 3) := by decide +kernel
theorem f189_576 : zf 189 576 = some (.iconst 1) := by decide +kernel
theorem f189_577 : zf 189 577 = some (.iadd) := by decide +kernel
theorem f189_578 : zf 189 578 = some (.iaload) := by decide +kernel
theorem f189_579 : zf 189 579 = some (.aload_n 0) := by decide +kernel
theorem f189_580 : zf 189 580 = some (.iload_n 3) := by decide +kernel
theorem f189_581 : zf 189 581 = some (.iconst 2) := by decide +kernel
theorem f189_582 : zf 189 582 = some (.iadd) := by decide +kernel
theorem f189_583 : zf 189 583 = some (.iaload) := by decide +kernel
theorem f189_584 : zf 189 584 = some (.invokevirtual 69) := by decide +kernel
theorem f189_587 : zf 189 587 = some (.if_icmp .eq 428) := by decide +kernel
theorem f189_590 : zf 189 590 = some (.iconst 0) := by decide +kernel
theorem f189_591 : zf 189 591 = some (.ireturn) := by decide +kernel
theorem f189_592 : zf 189 592 = some (.aload_n 1) := by decide +kernel
theorem f189_593 : zf 189 593 = some (.aload_n 0) := by decide +kernel
theorem f189_594 : zf 189 594 = some (.iload_n 3) := by decide +kernel
theorem f189_595 : zf 189 595 = some (.iconst 1) := by decide +kernel
theorem f189_596 : zf 189 596 = some (.iadd) := by decide +kernel
theorem f189_597 : zf 189 597 = some (.iaload) := by decide +kernel
theorem f189_598 : zf 189 598 = some (.invokevirtual 70) := by decide +kernel
theorem f189_601 : zf 189 601 = some (.aload_n 2) := by decide +kernel
theorem f189_602 : zf 189 602 = some (.aload_n 0) := by decide +kernel
theorem f189_603 : zf 189 603 = some (.iload_n 3) := by decide +kernel
theorem f189_604 : zf 189 604 = some (.iconst 1) := by decide +kernel
theorem f189_605 : zf 189 605 = some (.iadd) := by decide +kernel
theorem f189_606 : zf 189 606 = some (.iaload) := by decide +kernel
theorem f189_607 : zf 189 607 = some (.invokevirtual 73) := by decide +kernel
theorem f189_610 : zf 189 610 = some (.if_icmp .eq 405) := by decide +kernel
theorem f189_613 : zf 189 613 = some (.iconst 0) := by decide +kernel
theorem f189_614 : zf 189 614 = some (.ireturn) := by decide +kernel
theorem f189_615 : zf 189 615 = some (.aload_n 1) := by decide +kernel
theorem f189_616 : zf 189 616 = some (.aload_n 0) := by decide +kernel
theorem f189_617 : zf 189 617 = some (.iload_n 3) := by decide +kernel
theorem f189_618 : zf 189 618 = some (.iconst 1) := by decide +kernel
theorem f189_619 : zf 189 619 = some (.iadd) := by decide +kernel
theorem f189_620 : zf 189 620 = some (.iaload) := by decide +kernel
theorem f189_621 : zf 189 621 = some (.invokevirtual 74) := by decide +kernel
theorem f189_624 : zf 189 624 = some (.aload_n 2) := by decide +kernel
theorem f189_625 : zf 189 625 = some (.aload_n 0) := by decide +kernel
theorem f189_626 : zf 189 626 = some (.iload_n 3) := by decide +kernel
theorem f189_627 : zf 189 627 = some (.iconst 1) := by decide +kernel
theorem f189_628 : zf 189 628 = some (.iadd) := by decide +kernel
theorem f189_629 : zf 189 629 = some (.iaload) := by decide +kernel
theorem f189_630 : zf 189 630 = some (.invokevirtual 77) := by decide +kernel
theorem f189_633 : zf 189 633 = some (.if_icmp .eq 382) := by decide +kernel
theorem f189_636 : zf 189 636 = some (.iconst 0) := by decide +kernel
theorem f189_637 : zf 189 637 = some (.ireturn) := by decide +kernel
theorem f189_638 : zf 189 638 = some (.aload_n 1) := by decide +kernel
theorem f189_639 : zf 189 639 = some (.aload_n 0) := by decide +kernel
theorem f189_640 : zf 189 640 = some (.iload_n 3) := by decide +kernel
theorem f189_641 : zf 189 641 = some (.iconst 1) := by decide +kernel
theorem f189_642 : zf 189 642 = some (.iadd) := by decide +kernel
theorem f189_643 : zf 189 643 = some (.iaload) := by decide +kernel
theorem f189_644 : zf 189 644 = some (.invokevirtual 78) := by decide +kernel
theorem f189_647 : zf 189 647 = some (.aload_n 2) := by decide +kernel
theorem f189_648 : zf 189 648 = some (.aload_n 0) := by decide +kernel
theorem f189_649 : zf 189 649 = some (.iload_n 3) := by decide +kernel
theorem f189_650 : zf 189 650 = some (.iconst 1) := by decide +kernel
theorem f189_651 : zf 189 651 = some (.iadd) := by decide +kernel
theorem f189_652 : zf 189 652 = some (.iaload) := by decide +kernel
theorem f189_653 : zf 189 653 = some (.invokevirtual 81) := by decide +kernel
theorem f189_656 : zf 189 656 = some (.if_icmp .eq 359) := by decide +kernel
theorem f189_659 : zf 189 659 = some (.iconst 0) := by decide +kernel
theorem f189_660 : zf 189 660 = some (.ireturn) := by decide +kernel
theorem f189_661 : zf 189 661 = some (.aload_n 1) := by decide +kernel
theorem f189_662 : zf 189 662 = some (.aload_n 0) := by decide +kernel
theorem f189_663 : zf 189 663 = some (.iload_n 3) := by decide +kernel
theorem f189_664 : zf 189 664 = some (.iconst 1) := by decide +kernel
theorem f189_665 : zf 189 665 = some (.iadd) := by decide +kernel
theorem f189_666 : zf 189 666 = some (.iaload) := by decide +kernel
theorem f189_667 : zf 189 667 = some (.aload_n 0) := by decide +kernel
theorem f189_668 : zf 189 668 = some (.iload_n 3) := by decide +kernel
theorem f189_669 : zf 189 669 = some (.iconst 2) := by decide +kernel
theorem f189_670 : zf 189 670 = some (.iadd) := by decide +kernel
theorem f189_671 : zf 189 671 = some (.iaload) := by decide +kernel
theorem f189_672 : zf 189 672 = some (.invokevirtual 82) := by decide +kernel
theorem f189_675 : zf 189 675 = some (.aload_n 2) := by decide +kernel
theorem f189_676 : zf 189 676 = some (.aload_n 0) := by decide +kernel
theorem f189_677 : zf 189 677 = some (.iload_n 3) := by decide +kernel
theorem f189_678 : zf 189 678 = some (.iconst 1) := by decide +kernel
theorem f189_679 : zf 189 679 = some (.iadd) := by decide +kernel
theorem f189_680 : zf 189 680 = some (.iaload) := by decide +kernel
theorem f189_681 : zf 189 681 = some (.aload_n 0) := by decide +kernel
theorem f189_682 : zf 189 682 = some (.iload_n 3) := by decide +kernel
theorem f189_683 : zf 189 683 = some (.iconst 2) := by decide +kernel
theorem f189_684 : zf 189 684 = some (.iadd) := by decide +kernel
theorem f189_685 : zf 189 685 = some (.iaload) := by decide +kernel
theorem f189_686 : zf 189 686 = some (.invokevirtual 85) := by decide +kernel
theorem f189_689 : zf 189 689 = some (.if_icmp .eq 326) := by decide +kernel
theorem f189_692 : zf 189 692 = some (.iconst 0) := by decide +kernel
theorem f189_693 : zf 189 693 = some (.ireturn) := by decide +kernel
theorem f189_694 : zf 189 694 = some (.aload_n 1) := by decide +kernel
theorem f189_695 : zf 189 695 = some (.aload_n 0) := by decide +kernel
theorem f189_696 : zf 189 696 = some (.iload_n 3) := by decide +kernel
theorem f189_697 : zf 189 697 = some (.iconst 1) := by decide +kernel
theorem f189_698 : zf 189 698 = some (.iadd) := by decide +kernel
theorem f189_699 : zf 189 699 = some (.iaload) := by decide +kernel
theorem f189_700 : zf 189 700 = some (.aload_n 0) := by decide +kernel
theorem f189_701 : zf 189 701 = some (.iload_n 3) := by decide +kernel
theorem f189_702 : zf 189 702 = some (.iconst 2) := by decide +kernel
theorem f189_703 : zf 189 703 = some (.iadd) := by decide +kernel
theorem f189_704 : zf 189 704 = some (.iaload) := by decide +kernel
theorem f189_705 : zf 189 705 = some (.invokevirtual 86) := by decide +kernel
theorem f189_708 : zf 189 708 = some (.aload_n 2) := by decide +kernel
theorem f189_709 : zf 189 709 = some (.aload_n 0) := by decide +kernel
theorem f189_710 : zf 189 710 = some (.iload_n 3) := by decide +kernel
theorem f189_711 : zf 189 711 = some (.iconst 1) := by decide +kernel
theorem f189_712 : zf 189 712 = some (.iadd) := by decide +kernel
theorem f189_713 : zf 189 713 = some (.iaload) := by decide +kernel
theorem f189_714 : zf 189 714 = some (.aload_n 0) := by decide +kernel
theorem f189_715 : zf 189 715 = some (.iload_n 3) := by decide +kernel
theorem f189_716 : zf 189 716 = some (.iconst 2) := by decide +kernel
theorem f189_717 : zf 189 717 = some (.iadd) := by decide +kernel
theorem f189_718 : zf 189 718 = some (.iaload) := by decide +kernel
theorem f189_719 : zf 189 719 = some (.invokevirtual 89) := by decide +kernel
theorem f189_722 : zf 189 722 = some (.if_icmp .eq 293) := by decide +kernel
theorem f189_725 : zf 189 725 = some (.iconst 0) := by decide +kernel
theorem f189_726 : zf 189 726 = some (.ireturn) := by decide +kernel
theorem f189_727 : zf 189 727 = some (.aload_n 1) := by decide +kernel
theorem f189_728 : zf 189 728 = some (.aload_n 0) := by decide +kernel
theorem f189_729 : zf 189 729 = some (.iload_n 3) := by decide +kernel
theorem f189_730 : zf 189 730 = some (.iconst 1) := by decide +kernel
theorem f189_731 : zf 189 731 = some (.iadd) := by decide +kernel
theorem f189_732 : zf 189 732 = some (.iaload) := by decide +kernel
theorem f189_733 : zf 189 733 = some (.invokevirtual 90) := by decide +kernel
theorem f189_736 : zf 189 736 = some (.aload_n 2) := by decide +kernel
theorem f189_737 : zf 189 737 = some (.aload_n 0) := by decide +kernel
theorem f189_738 : zf 189 738 = some (.iload_n 3) := by decide +kernel
theorem f189_739 : zf 189 739 = some (.iconst 1) := by decide +kernel
theorem f189_740 : zf 189 740 = some (.iadd) := by decide +kernel
theorem f189_741 : zf 189 741 = some (.iaload) := by decide +kernel
theorem f189_742 : zf 189 742 = some (.invokevirtual 93) := by decide +kernel
theorem f189_745 : zf 189 745 = some (.if_icmp .eq 270) := by decide +kernel
theorem f189_748 : zf 189 748 = some (.iconst 0) := by decide +kernel
theorem f189_749 : zf 189 749 = some (.ireturn) := by decide +kernel
theorem f189_750 : zf 189 750 = some (.aload_n 1) := by decide +kernel
theorem f189_751 : zf 189 751 = some (.aload_n 0) := by decide +kernel
theorem f189_752 : zf 189 752 = some (.iload_n 3) := by decide +kernel
theorem f189_753 : zf 189 753 = some (.iconst 1) := by decide +kernel
theorem f189_754 : zf 189 754 = some (.iadd) := by decide +kernel
theorem f189_755 : zf 189 755 = some (.iaload) := by decide +kernel
theorem f189_756 : zf 189 756 = some (.aload_n 0) := by decide +kernel
theorem f189_757 : zf 189 757 = some (.iload_n 3) := by decide +kernel
theorem f189_758 : zf 189 758 = some (.iconst 2) := by decide +kernel
theorem f189_759 : zf 189 759 = some (.iadd) := by decide +kernel
theorem f189_760 : zf 189 760 = some (.iaload) := by decide +kernel
theorem f189_761 : zf 189 761 = some (.invokevirtual 94) := by decide +kernel
theorem f189_764 : zf 189 764 = some (.aload_n 2) := by decide +kernel
theorem f189_765 : zf 189 765 = some (.aload_n 0) := by decide +kernel
theorem f189_766 : zf 189 766 = some (.iload_n 3) := by decide +kernel
theorem f189_767 : zf 189 767 = some (.iconst 1) := by decide +kernel
theorem f189_768 : zf 189 768 = some (.iadd) := by decide +kernel
theorem f189_769 : zf 189 769 = some (.iaload) := by decide +kernel
theorem f189_770 : zf 189 770 = some (.aload_n 0) := by decide +kernel
theorem f189_771 : zf 189 771 = some (.iload_n 3) := by decide +kernel
theorem f189_772 : zf 189 772 = some (.iconst 2) := by decide +kernel
theorem f189_773 : zf 189 773 = some (.iadd) := by decide +kernel
theorem f189_774 : zf 189 774 = some (.iaload) := by decide +kernel
theorem f189_775 : zf 189 775 = some (.invokevirtual 97) := by decide +kernel
theorem f189_778 : zf 189 778 = some (.if_icmp .eq 237) := by decide +kernel
theorem f189_781 : zf 189 781 = some (.iconst 0) := by decide +kernel
theorem f189_782 : zf 189 782 = some (.ireturn) := by decide +kernel
theorem f189_783 : zf 189 783 = some (.aload_n 1) := by decide +kernel
theorem f189_784 : zf 189 784 = some (.aload_n 0) := by decide +kernel
theorem f189_785 : zf 189 785 = some (.iload_n 3) := by decide +kernel
theorem f189_786 : zf 189 786 = some (.iconst 1) := by decide +kernel
theorem f189_787 : zf 189 787 = some (.iadd) := by decide +kernel
theorem f189_788 : zf 189 788 = some (.iaload) := by decide +kernel
theorem f189_789 : zf 189 789 = some (.invokevirtual 98) := by decide +kernel
theorem f189_792 : zf 189 792 = some (.aload_n 2) := by decide +kernel
theorem f189_793 : zf 189 793 = some (.aload_n 0) := by decide +kernel
theorem f189_794 : zf 189 794 = some (.iload_n 3) := by decide +kernel
theorem f189_795 : zf 189 795 = some (.iconst 1) := by decide +kernel
theorem f189_796 : zf 189 796 = some (.iadd) := by decide +kernel
theorem f189_797 : zf 189 797 = some (.iaload) := by decide +kernel
theorem f189_798 : zf 189 798 = some (.invokevirtual 101) := by decide +kernel
theorem f189_801 : zf 189 801 = some (.lcmp) := by decide +kernel
theorem f189_802 : zf 189 802 = some (.ifCond .eq 213) := by decide +kernel
theorem f189_805 : zf 189 805 = some (.iconst 0) := by decide +kernel
theorem f189_806 : zf 189 806 = some (.ireturn) := by decide +kernel
theorem f189_807 : zf 189 807 = some (.aload_n 1) := by decide +kernel
theorem f189_808 : zf 189 808 = some (.aload_n 0) := by decide +kernel
theorem f189_809 : zf 189 809 = some (.iload_n 3) := by decide +kernel
theorem f189_810 : zf 189 810 = some (.iconst 1) := by decide +kernel
theorem f189_811 : zf 189 811 = some (.iadd) := by decide +kernel
theorem f189_812 : zf 189 812 = some (.iaload) := by decide +kernel
theorem f189_813 : zf 189 813 = some (.invokevirtual 102) := by decide +kernel
theorem f189_816 : zf 189 816 = some (.aload_n 2) := by decide +kernel
theorem f189_817 : zf 189 817 = some (.aload_n 0) := by decide +kernel
theorem f189_818 : zf 189 818 = some (.iload_n 3) := by decide +kernel
theorem f189_819 : zf 189 819 = some (.iconst 1) := by decide +kernel
theorem f189_820 : zf 189 820 = some (.iadd) := by decide +kernel
theorem f189_821 : zf 189 821 = some (.iaload) := by decide +kernel
theorem f189_822 : zf 189 822 = some (.invokevirtual 105) := by decide +kernel
theorem f189_825 : zf 189 825 = some (.if_icmp .eq 190) := by decide +kernel
theorem f189_828 : zf 189 828 = some (.iconst 0) := by decide +kernel
theorem f189_829 : zf 189 829 = some (.ireturn) := by decide +kernel
theorem f189_830 : zf 189 830 = some (.aload_n 1) := by decide +kernel
theorem f189_831 : zf 189 831 = some (.aload_n 0) := by decide +kernel
theorem f189_832 : zf 189 832 = some (.iload_n 3) := by decide +kernel
theorem f189_833 : zf 189 833 = some (.iconst 1) := by decide +kernel
theorem f189_834 : zf 189 834 = some (.iadd) := by decide +kernel
theorem f189_835 : zf 189 835 = some (.iaload) := by decide +kernel
theorem f189_836 : zf 189 836 = some (.aload_n 0) := by decide +kernel
theorem f189_837 : zf 189 837 = some (.iload_n 3) := by decide +kernel
theorem f189_838 : zf 189 838 = some (.iconst 2) := by decide +kernel
theorem f189_839 : zf 189 839 = some (.iadd) := by decide +kernel
theorem f189_840 : zf 189 840 = some (.iaload) := by decide +kernel
theorem f189_841 : zf 189 841 = some (.aload_n 0) := by decide +kernel
theorem f189_842 : zf 189 842 = some (.iload_n 3) := by decide +kernel
theorem f189_843 : zf 189 843 = some (.iconst 3) := by decide +kernel
theorem f189_844 : zf 189 844 = some (.iadd) := by decide +kernel
theorem f189_845 : zf 189 845 = some (.iaload) := by decide +kernel
theorem f189_846 : zf 189 846 = some (.aload_n 0) := by decide +kernel
theorem f189_847 : zf 189 847 = some (.iload_n 3) := by decide +kernel
theorem f189_848 : zf 189 848 = some (.iconst 4) := by decide +kernel
theorem f189_849 : zf 189 849 = some (.iadd) := by decide +kernel
theorem f189_850 : zf 189 850 = some (.iaload) := by decide +kernel
theorem f189_851 : zf 189 851 = some (.aload_n 0) := by decide +kernel
theorem f189_852 : zf 189 852 = some (.iload_n 3) := by decide +kernel
theorem f189_853 : zf 189 853 = some (.iconst 5) := by decide +kernel
theorem f189_854 : zf 189 854 = some (.iadd) := by decide +kernel
theorem f189_855 : zf 189 855 = some (.iaload) := by decide +kernel
theorem f189_856 : zf 189 856 = some (.invokevirtual 106) := by decide +kernel
theorem f189_859 : zf 189 859 = some (.aload_n 2) := by decide +kernel
theorem f189_860 : zf 189 860 = some (.aload_n 0) := by decide +kernel
theorem f189_861 : zf 189 861 = some (.iload_n 3) := by decide +kernel
theorem f189_862 : zf 189 862 = some (.iconst 1) := by decide +kernel
theorem f189_863 : zf 189 863 = some (.iadd) := by decide +kernel
theorem f189_864 : zf 189 864 = some (.iaload) := by decide +kernel
theorem f189_865 : zf 189 865 = some (.aload_n 0) := by decide +kernel
theorem f189_866 : zf 189 866 = some (.iload_n 3) := by decide +kernel
theorem f189_867 : zf 189 867 = some (.iconst 2) := by decide +kernel
theorem f189_868 : zf 189 868 = some (.iadd) := by decide +kernel
theorem f189_869 : zf 189 869 = some (.iaload) := by decide +kernel
theorem f189_870 : zf 189 870 = some (.aload_n 0) := by decide +kernel
theorem f189_871 : zf 189 871 = some (.iload_n 3) := by decide +kernel
theorem f189_872 : zf 189 872 = some (.iconst 3) := by decide +kernel
theorem f189_873 : zf 189 873 = some (.iadd) := by decide +kernel
theorem f189_874 : zf 189 874 = some (.iaload) := by decide +kernel
theorem f189_875 : zf 189 875 = some (.aload_n 0) := by decide +kernel
theorem f189_876 : zf 189 876 = some (.iload_n 3) := by decide +kernel
theorem f189_877 : zf 189 877 = some (.iconst 4) := by decide +kernel
theorem f189_878 : zf 189 878 = some (.iadd) := by decide +kernel
theorem f189_879 : zf 189 879 = some (.iaload) := by decide +kernel
theorem f189_880 : zf 189 880 = some (.aload_n 0) := by decide +kernel
theorem f189_881 : zf 189 881 = some (.iload_n 3) := by decide +kernel
theorem f189_882 : zf 189 882 = some (.iconst 5) := by decide +kernel
theorem f189_883 : zf 189 883 = some (.iadd) := by decide +kernel
theorem f189_884 : zf 189 884 = some (.iaload) := by decide +kernel
theorem f189_885 : zf 189 885 = some (.invokevirtual 110) := by decide +kernel
theorem f189_888 : zf 189 888 = some (.if_icmp .eq 127) := by decide +kernel
theorem f189_891 : zf 189 891 = some (.iconst 0) := by decide +kernel
theorem f189_892 : zf 189 892 = some (.ireturn) := by decide +kernel
theorem f189_893 : zf 189 893 = some (.aload_n 1) := by decide +kernel
theorem f189_894 : zf 189 894 = some (.aload_n 0) := by decide +kernel
theorem f189_895 : zf 189 895 = some (.iload_n 3) := by decide +kernel
theorem f189_896 : zf 189 896 = some (.iconst 1) := by decide +kernel
theorem f189_897 : zf 189 897 = some (.iadd) := by decide +kernel
theorem f189_898 : zf 189 898 = some (.iaload) := by decide +kernel
theorem f189_899 : zf 189 899 = some (.aload_n 0) := by decide +kernel
theorem f189_900 : zf 189 900 = some (.iload_n 3) := by decide +kernel
theorem f189_901 : zf 189 901 = some (.iconst 2) := by decide +kernel
theorem f189_902 : zf 189 902 = some (.iadd) := by decide +kernel
theorem f189_903 : zf 189 903 = some (.iaload) := by decide +kernel
theorem f189_904 : zf 189 904 = some (.aload_n 0) := by decide +kernel
theorem f189_905 : zf 189 905 = some (.iload_n 3) := by decide +kernel
theorem f189_906 : zf 189 906 = some (.iconst 3) := by decide +kernel
theorem f189_907 : zf 189 907 = some (.iadd) := by decide +kernel
theorem f189_908 : zf 189 908 = some (.iaload) := by decide +kernel
theorem f189_909 : zf 189 909 = some (.invokevirtual 111) := by decide +kernel
theorem f189_912 : zf 189 912 = some (.aload_n 2) := by decide +kernel
theorem f189_913 : zf 189 913 = some (.aload_n 0) := by decide +kernel
theorem f189_914 : zf 189 914 = some (.iload_n 3) := by decide +kernel
theorem f189_915 : zf 189 915 = some (.iconst 1) := by decide +kernel
theorem f189_916 : zf 189 916 = some (.iadd) := by decide +kernel
theorem f189_917 : zf 189 917 = some (.iaload) := by decide +kernel
theorem f189_918 : zf 189 918 = some (.aload_n 0) := by decide +kernel
theorem f189_919 : zf 189 919 = some (.iload_n 3) := by decide +kernel
theorem f189_920 : zf 189 920 = some (.iconst 2) := by decide +kernel
theorem f189_921 : zf 189 921 = some (.iadd) := by decide +kernel
theorem f189_922 : zf 189 922 = some (.iaload) := by decide +kernel
theorem f189_923 : zf 189 923 = some (.aload_n 0) := by decide +kernel
theorem f189_924 : zf 189 924 = some (.iload_n 3) := by decide +kernel
theorem f189_925 : zf 189 925 = some (.iconst 3) := by decide +kernel
theorem f189_926 : zf 189 926 = some (.iadd) := by decide +kernel
theorem f189_927 : zf 189 927 = some (.iaload) := by decide +kernel
theorem f189_928 : zf 189 928 = some (.invokevirtual 114) := by decide +kernel
theorem f189_931 : zf 189 931 = some (.if_icmp .eq 84) := by decide +kernel
theorem f189_934 : zf 189 934 = some (.iconst 0) := by decide +kernel
theorem f189_935 : zf 189 935 = some (.ireturn) := by decide +kernel
theorem f189_936 : zf 189 936 = some (.aload_n 1) := by decide +kernel
theorem f189_937 : zf 189 937 = some (.aload_n 0) := by decide +kernel
theorem f189_938 : zf 189 938 = some (.iload_n 3) := by decide +kernel
theorem f189_939 : zf 189 939 = some (.iconst 1) := by decide +kernel
theorem f189_940 : zf 189 940 = some (.iadd) := by decide +kernel
theorem f189_941 : zf 189 941 = some (.iaload) := by decide +kernel
theorem f189_942 : zf 189 942 = some (.invokevirtual 115) := by decide +kernel
theorem f189_945 : zf 189 945 = some (.aload_n 2) := by decide +kernel
theorem f189_946 : zf 189 946 = some (.aload_n 0) := by decide +kernel
theorem f189_947 : zf 189 947 = some (.iload_n 3) := by decide +kernel
theorem f189_948 : zf 189 948 = some (.iconst 1) := by decide +kernel
theorem f189_949 : zf 189 949 = some (.iadd) := by decide +kernel
theorem f189_950 : zf 189 950 = some (.iaload) := by decide +kernel
theorem f189_951 : zf 189 951 = some (.invokevirtual 118) := by decide +kernel
theorem f189_954 : zf 189 954 = some (.if_icmp .eq 61) := by decide +kernel
theorem f189_957 : zf 189 957 = some (.iconst 0) := by decide +kernel
theorem f189_958 : zf 189 958 = some (.ireturn) := by decide +kernel
theorem f189_959 : zf 189 959 = some (.aload_n 1) := by decide +kernel
theorem f189_960 : zf 189 960 = some (.aload_n 0) := by decide +kernel
theorem f189_961 : zf 189 961 = some (.iload_n 3) := by decide +kernel
theorem f189_962 : zf 189 962 = some (.iconst 1) := by decide +kernel
theorem f189_963 : zf 189 963 = some (.iadd) := by decide +kernel
theorem f189_964 : zf 189 964 = some (.iaload) := by decide +kernel
theorem f189_965 : zf 189 965 = some (.aload_n 0) := by decide +kernel
theorem f189_966 : zf 189 966 = some (.iload_n 3) := by decide +kernel
theorem f189_967 : zf 189 967 = some (.iconst 2) := by decide +kernel
theorem f189_968 : zf 189 968 = some (.iadd) := by decide +kernel
theorem f189_969 : zf 189 969 = some (.iaload) := by decide +kernel
theorem f189_970 : zf 189 970 = some (.aload_n 0) := by decide +kernel
theorem f189_971 : zf 189 971 = some (.iload_n 3) := by decide +kernel
theorem f189_972 : zf 189 972 = some (.iconst 3) := by decide +kernel
theorem f189_973 : zf 189 973 = some (.iadd) := by decide +kernel
theorem f189_974 : zf 189 974 = some (.iaload) := by decide +kernel
theorem f189_975 : zf 189 975 = some (.invokevirtual 119) := by decide +kernel
theorem f189_978 : zf 189 978 = some (.aload_n 2) := by decide +kernel
theorem f189_979 : zf 189 979 = some (.aload_n 0) := by decide +kernel
theorem f189_980 : zf 189 980 = some (.iload_n 3) := by decide +kernel
theorem f189_981 : zf 189 981 = some (.iconst 1) := by decide +kernel
theorem f189_982 : zf 189 982 = some (.iadd) := by decide +kernel
theorem f189_983 : zf 189 983 = some (.iaload) := by decide +kernel
theorem f189_984 : zf 189 984 = some (.aload_n 0) := by decide +kernel
theorem f189_985 : zf 189 985 = some (.iload_n 3) := by decide +kernel
theorem f189_986 : zf 189 986 = some (.iconst 2) := by decide +kernel
theorem f189_987 : zf 189 987 = some (.iadd) := by decide +kernel
theorem f189_988 : zf 189 988 = some (.iaload) := by decide +kernel
theorem f189_989 : zf 189 989 = some (.aload_n 0) := by decide +kernel
theorem f189_990 : zf 189 990 = some (.iload_n 3) := by decide +kernel
theorem f189_991 : zf 189 991 = some (.iconst 3) := by decide +kernel
theorem f189_992 : zf 189 992 = some (.iadd) := by decide +kernel
theorem f189_993 : zf 189 993 = some (.iaload) := by decide +kernel
theorem f189_994 : zf 189 994 = some (.invokevirtual 122) := by decide +kernel
theorem f189_997 : zf 189 997 = some (.if_icmp .eq 18) := by decide +kernel
theorem f189_1000 : zf 189 1000 = some (.iconst 0) := by decide +kernel
theorem f189_1001 : zf 189 1001 = some (.ireturn) := by decide +kernel
theorem f189_1002 : zf 189 1002 = some (.aload_n 1) := by decide +kernel
theorem f189_1003 : zf 189 1003 = some (.invokevirtual 123) := by decide +kernel
theorem f189_1006 : zf 189 1006 = some (.aload_n 2) := by decide +kernel
theorem f189_1007 : zf 189 1007 = some (.invokevirtual 127) := by decide +kernel
theorem f189_1010 : zf 189 1010 = some (.if_icmp .eq 5) := by decide +kernel
theorem f189_1013 : zf 189 1013 = some (.iconst 0) := by decide +kernel
theorem f189_1014 : zf 189 1014 = some (.ireturn) := by decide +kernel
theorem f189_1015 : zf 189 1015 = some (.iinc 3 6) := by decide +kernel
theorem f189_1018 : zf 189 1018 = some (.goto (-1000)) := by decide +kernel
theorem f189_1021 : zf 189 1021 = some (.iconst 1) := by decide +kernel
theorem f189_1022 : zf 189 1022 = some (.ireturn) := by decide +kernel
