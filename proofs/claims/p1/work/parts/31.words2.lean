theorem dL_law_0 : decode code 0 = .ok (.new 7, 3) := by decide +kernel
theorem dL_law_3 : decode code 3 = .ok (.dup, 1) := by decide +kernel
theorem dL_law_4 : decode code 4 = .ok (.invokespecial 9, 3) := by decide +kernel
theorem dL_law_7 : decode code 7 = .ok (.astore_n 1, 1) := by decide +kernel
theorem dL_law_8 : decode code 8 = .ok (.new 10, 3) := by decide +kernel
theorem dL_law_11 : decode code 11 = .ok (.dup, 1) := by decide +kernel
theorem dL_law_12 : decode code 12 = .ok (.invokespecial 12, 3) := by decide +kernel
theorem dL_law_15 : decode code 15 = .ok (.astore_n 2, 1) := by decide +kernel
theorem dL_law_16 : decode code 16 = .ok (.iconst 0, 1) := by decide +kernel
theorem dL_law_17 : decode code 17 = .ok (.istore_n 3, 1) := by decide +kernel
theorem dL_law_18 : decode code 18 = .ok (.iload_n 3, 1) := by decide +kernel
theorem dL_law_19 : decode code 19 = .ok (.aload_n 0, 1) := by decide +kernel
theorem dL_law_20 : decode code 20 = .ok (.arraylength, 1) := by decide +kernel
theorem dL_law_21 : decode code 21 = .ok (.bipush 6, 2) := by decide +kernel
theorem dL_law_23 : decode code 23 = .ok (.isub, 1) := by decide +kernel
theorem dL_law_24 : decode code 24 = .ok (.if_icmp .gt 1019, 3) := by decide +kernel
theorem dL_law_27 : decode code 27 = .ok (.aload_n 0, 1) := by decide +kernel
theorem dL_law_28 : decode code 28 = .ok (.iload_n 3, 1) := by decide +kernel
theorem dL_law_29 : decode code 29 = .ok (.iaload, 1) := by decide +kernel
theorem dL_law_30 : decode code 30 = .ok (.bipush 31, 2) := by decide +kernel
theorem dL_law_32 : decode code 32 = .ok (.iand, 1) := by decide +kernel
theorem dL_law_33 : decode code 33 = .ok (.tableswitch 1004 0 27 #[127, 150, 193, 236, 295, 358, 381, 404, 427, 450, 483, 516, 549, 582, 615, 648, 671, 694, 717, 730, 773, 806, 839, 863, 896, 929, 942, 981], 127) := by decide +kernel
theorem dL_law_160 : decode code 160 = .ok (.aload_n 1, 1) := by decide +kernel
theorem dL_law_161 : decode code 161 = .ok (.aload_n 0, 1) := by decide +kernel
theorem dL_law_162 : decode code 162 = .ok (.iload_n 3, 1) := by decide +kernel
theorem dL_law_163 : decode code 163 = .ok (.iconst 1, 1) := by decide +kernel
theorem dL_law_164 : decode code 164 = .ok (.iadd, 1) := by decide +kernel
theorem dL_law_165 : decode code 165 = .ok (.iaload, 1) := by decide +kernel
theorem dL_law_166 : decode code 166 = .ok (.invokevirtual 13, 3) := by decide +kernel
theorem dL_law_169 : decode code 169 = .ok (.aload_n 2, 1) := by decide +kernel
theorem dL_law_170 : decode code 170 = .ok (.aload_n 0, 1) := by decide +kernel
theorem dL_law_171 : decode code 171 = .ok (.iload_n 3, 1) := by decide +kernel
theorem dL_law_172 : decode code 172 = .ok (.iconst 1, 1) := by decide +kernel
theorem dL_law_173 : decode code 173 = .ok (.iadd, 1) := by decide +kernel
theorem dL_law_174 : decode code 174 = .ok (.iaload, 1) := by decide +kernel
theorem dL_law_175 : decode code 175 = .ok (.invokevirtual 17, 3) := by decide +kernel
theorem dL_law_178 : decode code 178 = .ok (.if_icmp .eq 859, 3) := by decide +kernel
theorem dL_law_183 : decode code 183 = .ok (.aload_n 1, 1) := by decide +kernel
theorem dL_law_184 : decode code 184 = .ok (.aload_n 0, 1) := by decide +kernel
theorem dL_law_185 : decode code 185 = .ok (.iload_n 3, 1) := by decide +kernel
theorem dL_law_186 : decode code 186 = .ok (.iconst 1, 1) := by decide +kernel
theorem dL_law_187 : decode code 187 = .ok (.iadd, 1) := by decide +kernel
theorem dL_law_188 : decode code 188 = .ok (.iaload, 1) := by decide +kernel
theorem dL_law_189 : decode code 189 = .ok (.aload_n 0, 1) := by decide +kernel
theorem dL_law_190 : decode code 190 = .ok (.iload_n 3, 1) := by decide +kernel
theorem dL_law_191 : decode code 191 = .ok (.iconst 2, 1) := by decide +kernel
theorem dL_law_192 : decode code 192 = .ok (.iadd, 1) := by decide +kernel
theorem dL_law_193 : decode code 193 = .ok (.iaload, 1) := by decide +kernel
theorem dL_law_194 : decode code 194 = .ok (.aload_n 0, 1) := by decide +kernel
theorem dL_law_195 : decode code 195 = .ok (.iload_n 3, 1) := by decide +kernel
theorem dL_law_196 : decode code 196 = .ok (.iconst 3, 1) := by decide +kernel
theorem dL_law_197 : decode code 197 = .ok (.iadd, 1) := by decide +kernel
theorem dL_law_198 : decode code 198 = .ok (.iaload, 1) := by decide +kernel
theorem dL_law_199 : decode code 199 = .ok (.invokevirtual 18, 3) := by decide +kernel
theorem dL_law_202 : decode code 202 = .ok (.aload_n 2, 1) := by decide +kernel
theorem dL_law_203 : decode code 203 = .ok (.aload_n 0, 1) := by decide +kernel
theorem dL_law_204 : decode code 204 = .ok (.iload_n 3, 1) := by decide +kernel
theorem dL_law_205 : decode code 205 = .ok (.iconst 1, 1) := by decide +kernel
theorem dL_law_206 : decode code 206 = .ok (.iadd, 1) := by decide +kernel
theorem dL_law_207 : decode code 207 = .ok (.iaload, 1) := by decide +kernel
theorem dL_law_208 : decode code 208 = .ok (.aload_n 0, 1) := by decide +kernel
theorem dL_law_209 : decode code 209 = .ok (.iload_n 3, 1) := by decide +kernel
theorem dL_law_210 : decode code 210 = .ok (.iconst 2, 1) := by decide +kernel
theorem dL_law_211 : decode code 211 = .ok (.iadd, 1) := by decide +kernel
theorem dL_law_212 : decode code 212 = .ok (.iaload, 1) := by decide +kernel
theorem dL_law_213 : decode code 213 = .ok (.aload_n 0, 1) := by decide +kernel
theorem dL_law_214 : decode code 214 = .ok (.iload_n 3, 1) := by decide +kernel
theorem dL_law_215 : decode code 215 = .ok (.iconst 3, 1) := by decide +kernel
theorem dL_law_216 : decode code 216 = .ok (.iadd, 1) := by decide +kernel
theorem dL_law_217 : decode code 217 = .ok (.iaload, 1) := by decide +kernel
theorem dL_law_218 : decode code 218 = .ok (.invokevirtual 22, 3) := by decide +kernel
theorem dL_law_221 : decode code 221 = .ok (.if_icmp .eq 816, 3) := by decide +kernel
theorem dL_law_226 : decode code 226 = .ok (.aload_n 1, 1) := by decide +kernel
theorem dL_law_227 : decode code 227 = .ok (.aload_n 0, 1) := by decide +kernel
theorem dL_law_228 : decode code 228 = .ok (.iload_n 3, 1) := by decide +kernel
theorem dL_law_229 : decode code 229 = .ok (.iconst 1, 1) := by decide +kernel
theorem dL_law_230 : decode code 230 = .ok (.iadd, 1) := by decide +kernel
theorem dL_law_231 : decode code 231 = .ok (.iaload, 1) := by decide +kernel
theorem dL_law_232 : decode code 232 = .ok (.aload_n 0, 1) := by decide +kernel
theorem dL_law_233 : decode code 233 = .ok (.iload_n 3, 1) := by decide +kernel
theorem dL_law_234 : decode code 234 = .ok (.iconst 2, 1) := by decide +kernel
theorem dL_law_235 : decode code 235 = .ok (.iadd, 1) := by decide +kernel
theorem dL_law_236 : decode code 236 = .ok (.iaload, 1) := by decide +kernel
theorem dL_law_237 : decode code 237 = .ok (.aload_n 0, 1) := by decide +kernel
theorem dL_law_238 : decode code 238 = .ok (.iload_n 3, 1) := by decide +kernel
theorem dL_law_239 : decode code 239 = .ok (.iconst 3, 1) := by decide +kernel
theorem dL_law_240 : decode code 240 = .ok (.iadd, 1) := by decide +kernel
theorem dL_law_241 : decode code 241 = .ok (.iaload, 1) := by decide +kernel
theorem dL_law_242 : decode code 242 = .ok (.invokevirtual 23, 3) := by decide +kernel
theorem dL_law_245 : decode code 245 = .ok (.aload_n 2, 1) := by decide +kernel
theorem dL_law_246 : decode code 246 = .ok (.aload_n 0, 1) := by decide +kernel
theorem dL_law_247 : decode code 247 = .ok (.iload_n 3, 1) := by decide +kernel
theorem dL_law_248 : decode code 248 = .ok (.iconst 1, 1) := by decide +kernel
theorem dL_law_249 : decode code 249 = .ok (.iadd, 1) := by decide +kernel
theorem dL_law_250 : decode code 250 = .ok (.iaload, 1) := by decide +kernel
theorem dL_law_251 : decode code 251 = .ok (.aload_n 0, 1) := by decide +kernel
theorem dL_law_252 : decode code 252 = .ok (.iload_n 3, 1) := by decide +kernel
theorem dL_law_253 : decode code 253 = .ok (.iconst 2, 1) := by decide +kernel
theorem dL_law_254 : decode code 254 = .ok (.iadd, 1) := by decide +kernel
theorem dL_law_255 : decode code 255 = .ok (.iaload, 1) := by decide +kernel
theorem dL_law_256 : decode code 256 = .ok (.aload_n 0, 1) := by decide +kernel
theorem dL_law_257 : decode code 257 = .ok (.iload_n 3, 1) := by decide +kernel
theorem dL_law_258 : decode code 258 = .ok (.iconst 3, 1) := by decide +kernel
theorem dL_law_259 : decode code 259 = .ok (.iadd, 1) := by decide +kernel
theorem dL_law_260 : decode code 260 = .ok (.iaload, 1) := by decide +kernel
theorem dL_law_261 : decode code 261 = .ok (.invokevirtual 27, 3) := by decide +kernel
theorem dL_law_264 : decode code 264 = .ok (.if_icmp .eq 773, 3) := by decide +kernel
theorem dL_law_269 : decode code 269 = .ok (.aload_n 1, 1) := by decide +kernel
theorem dL_law_270 : decode code 270 = .ok (.aload_n 0, 1) := by decide +kernel
theorem dL_law_271 : decode code 271 = .ok (.iload_n 3, 1) := by decide +kernel
theorem dL_law_272 : decode code 272 = .ok (.iconst 1, 1) := by decide +kernel
theorem dL_law_273 : decode code 273 = .ok (.iadd, 1) := by decide +kernel
theorem dL_law_274 : decode code 274 = .ok (.iaload, 1) := by decide +kernel
theorem dL_law_275 : decode code 275 = .ok (.aload_n 0, 1) := by decide +kernel
theorem dL_law_276 : decode code 276 = .ok (.iload_n 3, 1) := by decide +kernel
theorem dL_law_277 : decode code 277 = .ok (.iconst 2, 1) := by decide +kernel
theorem dL_law_278 : decode code 278 = .ok (.iadd, 1) := by decide +kernel
theorem dL_law_279 : decode code 279 = .ok (.iaload, 1) := by decide +kernel
theorem dL_law_280 : decode code 280 = .ok (.aload_n 0, 1) := by decide +kernel
theorem dL_law_281 : decode code 281 = .ok (.iload_n 3, 1) := by decide +kernel
theorem dL_law_282 : decode code 282 = .ok (.iconst 3, 1) := by decide +kernel
theorem dL_law_283 : decode code 283 = .ok (.iadd, 1) := by decide +kernel
theorem dL_law_284 : decode code 284 = .ok (.iaload, 1) := by decide +kernel
theorem dL_law_285 : decode code 285 = .ok (.ifCond .eq 7, 3) := by decide +kernel
theorem dL_law_288 : decode code 288 = .ok (.iconst 1, 1) := by decide +kernel
theorem dL_law_289 : decode code 289 = .ok (.goto 4, 3) := by decide +kernel
theorem dL_law_292 : decode code 292 = .ok (.iconst 0, 1) := by decide +kernel
theorem dL_law_293 : decode code 293 = .ok (.invokevirtual 28, 3) := by decide +kernel
theorem dL_law_296 : decode code 296 = .ok (.aload_n 2, 1) := by decide +kernel
theorem dL_law_297 : decode code 297 = .ok (.aload_n 0, 1) := by decide +kernel
theorem dL_law_298 : decode code 298 = .ok (.iload_n 3, 1) := by decide +kernel
theorem dL_law_299 : decode code 299 = .ok (.iconst 1, 1) := by decide +kernel
theorem dL_law_300 : decode code 300 = .ok (.iadd, 1) := by decide +kernel
theorem dL_law_301 : decode code 301 = .ok (.iaload, 1) := by decide +kernel
theorem dL_law_302 : decode code 302 = .ok (.aload_n 0, 1) := by decide +kernel
theorem dL_law_303 : decode code 303 = .ok (.iload_n 3, 1) := by decide +kernel
theorem dL_law_304 : decode code 304 = .ok (.iconst 2, 1) := by decide +kernel
theorem dL_law_305 : decode code 305 = .ok (.iadd, 1) := by decide +kernel
theorem dL_law_306 : decode code 306 = .ok (.iaload, 1) := by decide +kernel
theorem dL_law_307 : decode code 307 = .ok (.aload_n 0, 1) := by decide +kernel
theorem dL_law_308 : decode code 308 = .ok (.iload_n 3, 1) := by decide +kernel
theorem dL_law_309 : decode code 309 = .ok (.iconst 3, 1) := by decide +kernel
theorem dL_law_310 : decode code 310 = .ok (.iadd, 1) := by decide +kernel
theorem dL_law_311 : decode code 311 = .ok (.iaload, 1) := by decide +kernel
theorem dL_law_312 : decode code 312 = .ok (.ifCond .eq 7, 3) := by decide +kernel
theorem dL_law_315 : decode code 315 = .ok (.iconst 1, 1) := by decide +kernel
theorem dL_law_316 : decode code 316 = .ok (.goto 4, 3) := by decide +kernel
theorem dL_law_319 : decode code 319 = .ok (.iconst 0, 1) := by decide +kernel
theorem dL_law_320 : decode code 320 = .ok (.invokevirtual 32, 3) := by decide +kernel
theorem dL_law_323 : decode code 323 = .ok (.if_icmp .eq 714, 3) := by decide +kernel
theorem dL_law_328 : decode code 328 = .ok (.aload_n 1, 1) := by decide +kernel
theorem dL_law_329 : decode code 329 = .ok (.aload_n 0, 1) := by decide +kernel
theorem dL_law_330 : decode code 330 = .ok (.iload_n 3, 1) := by decide +kernel
theorem dL_law_331 : decode code 331 = .ok (.iconst 1, 1) := by decide +kernel
theorem dL_law_332 : decode code 332 = .ok (.iadd, 1) := by decide +kernel
theorem dL_law_333 : decode code 333 = .ok (.iaload, 1) := by decide +kernel
theorem dL_law_334 : decode code 334 = .ok (.aload_n 0, 1) := by decide +kernel
theorem dL_law_335 : decode code 335 = .ok (.iload_n 3, 1) := by decide +kernel
theorem dL_law_336 : decode code 336 = .ok (.iconst 2, 1) := by decide +kernel
theorem dL_law_337 : decode code 337 = .ok (.iadd, 1) := by decide +kernel
theorem dL_law_338 : decode code 338 = .ok (.iaload, 1) := by decide +kernel
theorem dL_law_339 : decode code 339 = .ok (.aload_n 0, 1) := by decide +kernel
theorem dL_law_340 : decode code 340 = .ok (.iload_n 3, 1) := by decide +kernel
theorem dL_law_341 : decode code 341 = .ok (.iconst 3, 1) := by decide +kernel
theorem dL_law_342 : decode code 342 = .ok (.iadd, 1) := by decide +kernel
theorem dL_law_343 : decode code 343 = .ok (.iaload, 1) := by decide +kernel
theorem dL_law_344 : decode code 344 = .ok (.aload_n 0, 1) := by decide +kernel
theorem dL_law_345 : decode code 345 = .ok (.iload_n 3, 1) := by decide +kernel
theorem dL_law_346 : decode code 346 = .ok (.iconst 4, 1) := by decide +kernel
theorem dL_law_347 : decode code 347 = .ok (.iadd, 1) := by decide +kernel
theorem dL_law_348 : decode code 348 = .ok (.iaload, 1) := by decide +kernel
theorem dL_law_349 : decode code 349 = .ok (.aload_n 0, 1) := by decide +kernel
theorem dL_law_350 : decode code 350 = .ok (.iload_n 3, 1) := by decide +kernel
theorem dL_law_351 : decode code 351 = .ok (.iconst 5, 1) := by decide +kernel
theorem dL_law_352 : decode code 352 = .ok (.iadd, 1) := by decide +kernel
theorem dL_law_353 : decode code 353 = .ok (.iaload, 1) := by decide +kernel
theorem dL_law_354 : decode code 354 = .ok (.invokevirtual 33, 3) := by decide +kernel
theorem dL_law_357 : decode code 357 = .ok (.aload_n 2, 1) := by decide +kernel
theorem dL_law_358 : decode code 358 = .ok (.aload_n 0, 1) := by decide +kernel
theorem dL_law_359 : decode code 359 = .ok (.iload_n 3, 1) := by decide +kernel
theorem dL_law_360 : decode code 360 = .ok (.iconst 1, 1) := by decide +kernel
theorem dL_law_361 : decode code 361 = .ok (.iadd, 1) := by decide +kernel
theorem dL_law_362 : decode code 362 = .ok (.iaload, 1) := by decide +kernel
theorem dL_law_363 : decode code 363 = .ok (.aload_n 0, 1) := by decide +kernel
theorem dL_law_364 : decode code 364 = .ok (.iload_n 3, 1) := by decide +kernel
theorem dL_law_365 : decode code 365 = .ok (.iconst 2, 1) := by decide +kernel
theorem dL_law_366 : decode code 366 = .ok (.iadd, 1) := by decide +kernel
theorem dL_law_367 : decode code 367 = .ok (.iaload, 1) := by decide +kernel
theorem dL_law_368 : decode code 368 = .ok (.aload_n 0, 1) := by decide +kernel
theorem dL_law_369 : decode code 369 = .ok (.iload_n 3, 1) := by decide +kernel
theorem dL_law_370 : decode code 370 = .ok (.iconst 3, 1) := by decide +kernel
theorem dL_law_371 : decode code 371 = .ok (.iadd, 1) := by decide +kernel
theorem dL_law_372 : decode code 372 = .ok (.iaload, 1) := by decide +kernel
theorem dL_law_373 : decode code 373 = .ok (.aload_n 0, 1) := by decide +kernel
theorem dL_law_374 : decode code 374 = .ok (.iload_n 3, 1) := by decide +kernel
theorem dL_law_375 : decode code 375 = .ok (.iconst 4, 1) := by decide +kernel
theorem dL_law_376 : decode code 376 = .ok (.iadd, 1) := by decide +kernel
theorem dL_law_377 : decode code 377 = .ok (.iaload, 1) := by decide +kernel
theorem dL_law_378 : decode code 378 = .ok (.aload_n 0, 1) := by decide +kernel
theorem dL_law_379 : decode code 379 = .ok (.iload_n 3, 1) := by decide +kernel
theorem dL_law_380 : decode code 380 = .ok (.iconst 5, 1) := by decide +kernel
theorem dL_law_381 : decode code 381 = .ok (.iadd, 1) := by decide +kernel
theorem dL_law_382 : decode code 382 = .ok (.iaload, 1) := by decide +kernel
theorem dL_law_383 : decode code 383 = .ok (.invokevirtual 37, 3) := by decide +kernel
theorem dL_law_386 : decode code 386 = .ok (.if_icmp .eq 651, 3) := by decide +kernel
theorem dL_law_391 : decode code 391 = .ok (.aload_n 1, 1) := by decide +kernel
theorem dL_law_392 : decode code 392 = .ok (.aload_n 0, 1) := by decide +kernel
theorem dL_law_393 : decode code 393 = .ok (.iload_n 3, 1) := by decide +kernel
theorem dL_law_394 : decode code 394 = .ok (.iconst 1, 1) := by decide +kernel
theorem dL_law_395 : decode code 395 = .ok (.iadd, 1) := by decide +kernel
theorem dL_law_396 : decode code 396 = .ok (.iaload, 1) := by decide +kernel
theorem dL_law_397 : decode code 397 = .ok (.invokevirtual 38, 3) := by decide +kernel
theorem dL_law_400 : decode code 400 = .ok (.aload_n 2, 1) := by decide +kernel
theorem dL_law_401 : decode code 401 = .ok (.aload_n 0, 1) := by decide +kernel
theorem dL_law_402 : decode code 402 = .ok (.iload_n 3, 1) := by decide +kernel
theorem dL_law_403 : decode code 403 = .ok (.iconst 1, 1) := by decide +kernel
theorem dL_law_404 : decode code 404 = .ok (.iadd, 1) := by decide +kernel
theorem dL_law_405 : decode code 405 = .ok (.iaload, 1) := by decide +kernel
theorem dL_law_406 : decode code 406 = .ok (.invokevirtual 42, 3) := by decide +kernel
theorem dL_law_409 : decode code 409 = .ok (.if_icmp .eq 628, 3) := by decide +kernel
theorem dL_law_414 : decode code 414 = .ok (.aload_n 1, 1) := by decide +kernel
theorem dL_law_415 : decode code 415 = .ok (.aload_n 0, 1) := by decide +kernel
theorem dL_law_416 : decode code 416 = .ok (.iload_n 3, 1) := by decide +kernel
theorem dL_law_417 : decode code 417 = .ok (.iconst 1, 1) := by decide +kernel
theorem dL_law_418 : decode code 418 = .ok (.iadd, 1) := by decide +kernel
theorem dL_law_419 : decode code 419 = .ok (.iaload, 1) := by decide +kernel
theorem dL_law_420 : decode code 420 = .ok (.invokevirtual 43, 3) := by decide +kernel
theorem dL_law_423 : decode code 423 = .ok (.aload_n 2, 1) := by decide +kernel
theorem dL_law_424 : decode code 424 = .ok (.aload_n 0, 1) := by decide +kernel
theorem dL_law_425 : decode code 425 = .ok (.iload_n 3, 1) := by decide +kernel
theorem dL_law_426 : decode code 426 = .ok (.iconst 1, 1) := by decide +kernel
theorem dL_law_427 : decode code 427 = .ok (.iadd, 1) := by decide +kernel
theorem dL_law_428 : decode code 428 = .ok (.iaload, 1) := by decide +kernel
theorem dL_law_429 : decode code 429 = .ok (.invokevirtual 46, 3) := by decide +kernel
theorem dL_law_432 : decode code 432 = .ok (.if_icmp .eq 605, 3) := by decide +kernel
theorem dL_law_437 : decode code 437 = .ok (.aload_n 1, 1) := by decide +kernel
theorem dL_law_438 : decode code 438 = .ok (.aload_n 0, 1) := by decide +kernel
theorem dL_law_439 : decode code 439 = .ok (.iload_n 3, 1) := by decide +kernel
theorem dL_law_440 : decode code 440 = .ok (.iconst 1, 1) := by decide +kernel
theorem dL_law_441 : decode code 441 = .ok (.iadd, 1) := by decide +kernel
theorem dL_law_442 : decode code 442 = .ok (.iaload, 1) := by decide +kernel
theorem dL_law_443 : decode code 443 = .ok (.invokevirtual 47, 3) := by decide +kernel
theorem dL_law_446 : decode code 446 = .ok (.aload_n 2, 1) := by decide +kernel
theorem dL_law_447 : decode code 447 = .ok (.aload_n 0, 1) := by decide +kernel
theorem dL_law_448 : decode code 448 = .ok (.iload_n 3, 1) := by decide +kernel
theorem dL_law_449 : decode code 449 = .ok (.iconst 1, 1) := by decide +kernel
theorem dL_law_450 : decode code 450 = .ok (.iadd, 1) := by decide +kernel
theorem dL_law_451 : decode code 451 = .ok (.iaload, 1) := by decide +kernel
theorem dL_law_452 : decode code 452 = .ok (.invokevirtual 50, 3) := by decide +kernel
theorem dL_law_455 : decode code 455 = .ok (.if_icmp .eq 582, 3) := by decide +kernel
theorem dL_law_460 : decode code 460 = .ok (.aload_n 1, 1) := by decide +kernel
theorem dL_law_461 : decode code 461 = .ok (.aload_n 0, 1) := by decide +kernel
theorem dL_law_462 : decode code 462 = .ok (.iload_n 3, 1) := by decide +kernel
theorem dL_law_463 : decode code 463 = .ok (.iconst 1, 1) := by decide +kernel
theorem dL_law_464 : decode code 464 = .ok (.iadd, 1) := by decide +kernel
theorem dL_law_465 : decode code 465 = .ok (.iaload, 1) := by decide +kernel
theorem dL_law_466 : decode code 466 = .ok (.invokevirtual 51, 3) := by decide +kernel
theorem dL_law_469 : decode code 469 = .ok (.aload_n 2, 1) := by decide +kernel
theorem dL_law_470 : decode code 470 = .ok (.aload_n 0, 1) := by decide +kernel
theorem dL_law_471 : decode code 471 = .ok (.iload_n 3, 1) := by decide +kernel
theorem dL_law_472 : decode code 472 = .ok (.iconst 1, 1) := by decide +kernel
theorem dL_law_473 : decode code 473 = .ok (.iadd, 1) := by decide +kernel
theorem dL_law_474 : decode code 474 = .ok (.iaload, 1) := by decide +kernel
theorem dL_law_475 : decode code 475 = .ok (.invokevirtual 54, 3) := by decide +kernel
theorem dL_law_478 : decode code 478 = .ok (.if_icmp .eq 559, 3) := by decide +kernel
theorem dL_law_483 : decode code 483 = .ok (.aload_n 1, 1) := by decide +kernel
theorem dL_law_484 : decode code 484 = .ok (.aload_n 0, 1) := by decide +kernel
theorem dL_law_485 : decode code 485 = .ok (.iload_n 3, 1) := by decide +kernel
theorem dL_law_486 : decode code 486 = .ok (.iconst 1, 1) := by decide +kernel
theorem dL_law_487 : decode code 487 = .ok (.iadd, 1) := by decide +kernel
theorem dL_law_488 : decode code 488 = .ok (.iaload, 1) := by decide +kernel
theorem dL_law_489 : decode code 489 = .ok (.aload_n 0, 1) := by decide +kernel
theorem dL_law_490 : decode code 490 = .ok (.iload_n 3, 1) := by decide +kernel
theorem dL_law_491 : decode code 491 = .ok (.iconst 2, 1) := by decide +kernel
theorem dL_law_492 : decode code 492 = .ok (.iadd, 1) := by decide +kernel
theorem dL_law_493 : decode code 493 = .ok (.iaload, 1) := by decide +kernel
theorem dL_law_494 : decode code 494 = .ok (.invokevirtual 55, 3) := by decide +kernel
theorem dL_law_497 : decode code 497 = .ok (.aload_n 2, 1) := by decide +kernel
theorem dL_law_498 : decode code 498 = .ok (.aload_n 0, 1) := by decide +kernel
theorem dL_law_499 : decode code 499 = .ok (.iload_n 3, 1) := by decide +kernel
theorem dL_law_500 : decode code 500 = .ok (.iconst 1, 1) := by decide +kernel
theorem dL_law_501 : decode code 501 = .ok (.iadd, 1) := by decide +kernel
theorem dL_law_502 : decode code 502 = .ok (.iaload, 1) := by decide +kernel
theorem dL_law_503 : decode code 503 = .ok (.aload_n 0, 1) := by decide +kernel
theorem dL_law_504 : decode code 504 = .ok (.iload_n 3, 1) := by decide +kernel
theorem dL_law_505 : decode code 505 = .ok (.iconst 2, 1) := by decide +kernel
theorem dL_law_506 : decode code 506 = .ok (.iadd, 1) := by decide +kernel
theorem dL_law_507 : decode code 507 = .ok (.iaload, 1) := by decide +kernel
theorem dL_law_508 : decode code 508 = .ok (.invokevirtual 59, 3) := by decide +kernel
theorem dL_law_511 : decode code 511 = .ok (.if_icmp .eq 526, 3) := by decide +kernel
theorem dL_law_516 : decode code 516 = .ok (.aload_n 1, 1) := by decide +kernel
theorem dL_law_517 : decode code 517 = .ok (.aload_n 0, 1) := by decide +kernel
theorem dL_law_518 : decode code 518 = .ok (.iload_n 3, 1) := by decide +kernel
theorem dL_law_519 : decode code 519 = .ok (.iconst 1, 1) := by decide +kernel
theorem dL_law_520 : decode code 520 = .ok (.iadd, 1) := by decide +kernel
theorem dL_law_521 : decode code 521 = .ok (.iaload, 1) := by decide +kernel
theorem dL_law_522 : decode code 522 = .ok (.aload_n 0, 1) := by decide +kernel
theorem dL_law_523 : decode code 523 = .ok (.iload_n 3, 1) := by decide +kernel
theorem dL_law_524 : decode code 524 = .ok (.iconst 2, 1) := by decide +kernel
theorem dL_law_525 : decode code 525 = .ok (.iadd, 1) := by decide +kernel
theorem dL_law_526 : decode code 526 = .ok (.iaload, 1) := by decide +kernel
theorem dL_law_527 : decode code 527 = .ok (.invokevirtual 60, 3) := by decide +kernel
theorem dL_law_530 : decode code 530 = .ok (.aload_n 2, 1) := by decide +kernel
theorem dL_law_531 : decode code 531 = .ok (.aload_n 0, 1) := by decide +kernel
theorem dL_law_532 : decode code 532 = .ok (.iload_n 3, 1) := by decide +kernel
theorem dL_law_533 : decode code 533 = .ok (.iconst 1, 1) := by decide +kernel
theorem dL_law_534 : decode code 534 = .ok (.iadd, 1) := by decide +kernel
theorem dL_law_535 : decode code 535 = .ok (.iaload, 1) := by decide +kernel
theorem dL_law_536 : decode code 536 = .ok (.aload_n 0, 1) := by decide +kernel
theorem dL_law_537 : decode code 537 = .ok (.iload_n 3, 1) := by decide +kernel
theorem dL_law_538 : decode code 538 = .ok (.iconst 2, 1) := by decide +kernel
theorem dL_law_539 : decode code 539 = .ok (.iadd, 1) := by decide +kernel
theorem dL_law_540 : decode code 540 = .ok (.iaload, 1) := by decide +kernel
theorem dL_law_541 : decode code 541 = .ok (.invokevirtual 63, 3) := by decide +kernel
theorem dL_law_544 : decode code 544 = .ok (.if_icmp .eq 493, 3) := by decide +kernel
theorem dL_law_549 : decode code 549 = .ok (.aload_n 1, 1) := by decide +kernel
theorem dL_law_550 : decode code 550 = .ok (.aload_n 0, 1) := by decide +kernel
theorem dL_law_551 : decode code 551 = .ok (.iload_n 3, 1) := by decide +kernel
theorem dL_law_552 : decode code 552 = .ok (.iconst 1, 1) := by decide +kernel
theorem dL_law_553 : decode code 553 = .ok (.iadd, 1) := by decide +kernel
theorem dL_law_554 : decode code 554 = .ok (.iaload, 1) := by decide +kernel
theorem dL_law_555 : decode code 555 = .ok (.aload_n 0, 1) := by decide +kernel
theorem dL_law_556 : decode code 556 = .ok (.iload_n 3, 1) := by decide +kernel
theorem dL_law_557 : decode code 557 = .ok (.iconst 2, 1) := by decide +kernel
theorem dL_law_558 : decode code 558 = .ok (.iadd, 1) := by decide +kernel
theorem dL_law_559 : decode code 559 = .ok (.iaload, 1) := by decide +kernel
theorem dL_law_560 : decode code 560 = .ok (.invokevirtual 64, 3) := by decide +kernel
theorem dL_law_563 : decode code 563 = .ok (.aload_n 2, 1) := by decide +kernel
theorem dL_law_564 : decode code 564 = .ok (.aload_n 0, 1) := by decide +kernel
theorem dL_law_565 : decode code 565 = .ok (.iload_n 3, 1) := by decide +kernel
theorem dL_law_566 : decode code 566 = .ok (.iconst 1, 1) := by decide +kernel
theorem dL_law_567 : decode code 567 = .ok (.iadd, 1) := by decide +kernel
theorem dL_law_568 : decode code 568 = .ok (.iaload, 1) := by decide +kernel
theorem dL_law_569 : decode code 569 = .ok (.aload_n 0, 1) := by decide +kernel
theorem dL_law_570 : decode code 570 = .ok (.iload_n 3, 1) := by decide +kernel
theorem dL_law_571 : decode code 571 = .ok (.iconst 2, 1) := by decide +kernel
theorem dL_law_572 : decode code 572 = .ok (.iadd, 1) := by decide +kernel
theorem dL_law_573 : decode code 573 = .ok (.iaload, 1) := by decide +kernel
theorem dL_law_574 : decode code 574 = .ok (.invokevirtual 67, 3) := by decide +kernel
theorem dL_law_577 : decode code 577 = .ok (.if_icmp .eq 460, 3) := by decide +kernel
theorem dL_law_582 : decode code 582 = .ok (.aload_n 1, 1) := by decide +kernel
theorem dL_law_583 : decode code 583 = .ok (.aload_n 0, 1) := by decide +kernel
theorem dL_law_584 : decode code 584 = .ok (.iload_n 3, 1) := by decide +kernel
theorem dL_law_585 : decode code 585 = .ok (.iconst 1, 1) := by decide +kernel
theorem dL_law_586 : decode code 586 = .ok (.iadd, 1) := by decide +kernel
theorem dL_law_587 : decode code 587 = .ok (.iaload, 1) := by decide +kernel
theorem dL_law_588 : decode code 588 = .ok (.aload_n 0, 1) := by decide +kernel
theorem dL_law_589 : decode code 589 = .ok (.iload_n 3, 1) := by decide +kernel
theorem dL_law_590 : decode code 590 = .ok (.iconst 2, 1) := by decide +kernel
theorem dL_law_591 : decode code 591 = .ok (.iadd, 1) := by decide +kernel
theorem dL_law_592 : decode code 592 = .ok (.iaload, 1) := by decide +kernel
theorem dL_law_593 : decode code 593 = .ok (.invokevirtual 68, 3) := by decide +kernel
theorem dL_law_596 : decode code 596 = .ok (.aload_n 2, 1) := by decide +kernel
theorem dL_law_597 : decode code 597 = .ok (.aload_n 0, 1) := by decide +kernel
theorem dL_law_598 : decode code 598 = .ok (.iload_n 3, 1) := by decide +kernel
theorem dL_law_599 : decode code 599 = .ok (.iconst 1, 1) := by decide +kernel
theorem dL_law_600 : decode code 600 = .ok (.iadd, 1) := by decide +kernel
theorem dL_law_601 : decode code 601 = .ok (.iaload, 1) := by decide +kernel
theorem dL_law_602 : decode code 602 = .ok (.aload_n 0, 1) := by decide +kernel
theorem dL_law_603 : decode code 603 = .ok (.iload_n 3, 1) := by decide +kernel
theorem dL_law_604 : decode code 604 = .ok (.iconst 2, 1) := by decide +kernel
theorem dL_law_605 : decode code 605 = .ok (.iadd, 1) := by decide +kernel
theorem dL_law_606 : decode code 606 = .ok (.iaload, 1) := by decide +kernel
theorem dL_law_607 : decode code 607 = .ok (.invokevirtual 71, 3) := by decide +kernel
theorem dL_law_610 : decode code 610 = .ok (.if_icmp .eq 427, 3) := by decide +kernel
theorem dL_law_615 : decode code 615 = .ok (.aload_n 1, 1) := by decide +kernel
theorem dL_law_616 : decode code 616 = .ok (.aload_n 0, 1) := by decide +kernel
theorem dL_law_617 : decode code 617 = .ok (.iload_n 3, 1) := by decide +kernel
theorem dL_law_618 : decode code 618 = .ok (.iconst 1, 1) := by decide +kernel
theorem dL_law_619 : decode code 619 = .ok (.iadd, 1) := by decide +kernel
theorem dL_law_620 : decode code 620 = .ok (.iaload, 1) := by decide +kernel
theorem dL_law_621 : decode code 621 = .ok (.aload_n 0, 1) := by decide +kernel
theorem dL_law_622 : decode code 622 = .ok (.iload_n 3, 1) := by decide +kernel
theorem dL_law_623 : decode code 623 = .ok (.iconst 2, 1) := by decide +kernel
theorem dL_law_624 : decode code 624 = .ok (.iadd, 1) := by decide +kernel
theorem dL_law_625 : decode code 625 = .ok (.iaload, 1) := by decide +kernel
theorem dL_law_626 : decode code 626 = .ok (.invokevirtual 72, 3) := by decide +kernel
theorem dL_law_629 : decode code 629 = .ok (.aload_n 2, 1) := by decide +kernel
theorem dL_law_630 : decode code 630 = .ok (.aload_n 0, 1) := by decide +kernel
theorem dL_law_631 : decode code 631 = .ok (.iload_n 3, 1) := by decide +kernel
theorem dL_law_632 : decode code 632 = .ok (.iconst 1, 1) := by decide +kernel
theorem dL_law_633 : decode code 633 = .ok (.iadd, 1) := by decide +kernel
theorem dL_law_634 : decode code 634 = .ok (.iaload, 1) := by decide +kernel
theorem dL_law_635 : decode code 635 = .ok (.aload_n 0, 1) := by decide +kernel
theorem dL_law_636 : decode code 636 = .ok (.iload_n 3, 1) := by decide +kernel
theorem dL_law_637 : decode code 637 = .ok (.iconst 2, 1) := by decide +kernel
theorem dL_law_638 : decode code 638 = .ok (.iadd, 1) := by decide +kernel
theorem dL_law_639 : decode code 639 = .ok (.iaload, 1) := by decide +kernel
theorem dL_law_640 : decode code 640 = .ok (.invokevirtual 75, 3) := by decide +kernel
theorem dL_law_643 : decode code 643 = .ok (.if_icmp .eq 394, 3) := by decide +kernel
theorem dL_law_648 : decode code 648 = .ok (.aload_n 1, 1) := by decide +kernel
theorem dL_law_649 : decode code 649 = .ok (.aload_n 0, 1) := by decide +kernel
theorem dL_law_650 : decode code 650 = .ok (.iload_n 3, 1) := by decide +kernel
theorem dL_law_651 : decode code 651 = .ok (.iconst 1, 1) := by decide +kernel
theorem dL_law_652 : decode code 652 = .ok (.iadd, 1) := by decide +kernel
theorem dL_law_653 : decode code 653 = .ok (.iaload, 1) := by decide +kernel
theorem dL_law_654 : decode code 654 = .ok (.aload_n 0, 1) := by decide +kernel
theorem dL_law_655 : decode code 655 = .ok (.iload_n 3, 1) := by decide +kernel
theorem dL_law_656 : decode code 656 = .ok (.iconst 2, 1) := by decide +kernel
theorem dL_law_657 : decode code 657 = .ok (.iadd, 1) := by decide +kernel
theorem dL_law_658 : decode code 658 = .ok (.iaload, 1) := by decide +kernel
theorem dL_law_659 : decode code 659 = .ok (.invokevirtual 76, 3) := by decide +kernel
theorem dL_law_662 : decode code 662 = .ok (.aload_n 2, 1) := by decide +kernel
theorem dL_law_663 : decode code 663 = .ok (.aload_n 0, 1) := by decide +kernel
theorem dL_law_664 : decode code 664 = .ok (.iload_n 3, 1) := by decide +kernel
theorem dL_law_665 : decode code 665 = .ok (.iconst 1, 1) := by decide +kernel
theorem dL_law_666 : decode code 666 = .ok (.iadd, 1) := by decide +kernel
theorem dL_law_667 : decode code 667 = .ok (.iaload, 1) := by decide +kernel
theorem dL_law_668 : decode code 668 = .ok (.aload_n 0, 1) := by decide +kernel
theorem dL_law_669 : decode code 669 = .ok (.iload_n 3, 1) := by decide +kernel
theorem dL_law_670 : decode code 670 = .ok (.iconst 2, 1) := by decide +kernel
theorem dL_law_671 : decode code 671 = .ok (.iadd, 1) := by decide +kernel
theorem dL_law_672 : decode code 672 = .ok (.iaload, 1) := by decide +kernel
theorem dL_law_673 : decode code 673 = .ok (.invokevirtual 79, 3) := by decide +kernel
theorem dL_law_676 : decode code 676 = .ok (.if_icmp .eq 361, 3) := by decide +kernel
theorem dL_law_681 : decode code 681 = .ok (.aload_n 1, 1) := by decide +kernel
theorem dL_law_682 : decode code 682 = .ok (.aload_n 0, 1) := by decide +kernel
theorem dL_law_683 : decode code 683 = .ok (.iload_n 3, 1) := by decide +kernel
theorem dL_law_684 : decode code 684 = .ok (.iconst 1, 1) := by decide +kernel
theorem dL_law_685 : decode code 685 = .ok (.iadd, 1) := by decide +kernel
theorem dL_law_686 : decode code 686 = .ok (.iaload, 1) := by decide +kernel
theorem dL_law_687 : decode code 687 = .ok (.invokevirtual 80, 3) := by decide +kernel
theorem dL_law_690 : decode code 690 = .ok (.aload_n 2, 1) := by decide +kernel
theorem dL_law_691 : decode code 691 = .ok (.aload_n 0, 1) := by decide +kernel
theorem dL_law_692 : decode code 692 = .ok (.iload_n 3, 1) := by decide +kernel
theorem dL_law_693 : decode code 693 = .ok (.iconst 1, 1) := by decide +kernel
theorem dL_law_694 : decode code 694 = .ok (.iadd, 1) := by decide +kernel
theorem dL_law_695 : decode code 695 = .ok (.iaload, 1) := by decide +kernel
theorem dL_law_696 : decode code 696 = .ok (.invokevirtual 83, 3) := by decide +kernel
theorem dL_law_699 : decode code 699 = .ok (.if_icmp .eq 338, 3) := by decide +kernel
theorem dL_law_704 : decode code 704 = .ok (.aload_n 1, 1) := by decide +kernel
theorem dL_law_705 : decode code 705 = .ok (.aload_n 0, 1) := by decide +kernel
theorem dL_law_706 : decode code 706 = .ok (.iload_n 3, 1) := by decide +kernel
theorem dL_law_707 : decode code 707 = .ok (.iconst 1, 1) := by decide +kernel
theorem dL_law_708 : decode code 708 = .ok (.iadd, 1) := by decide +kernel
theorem dL_law_709 : decode code 709 = .ok (.iaload, 1) := by decide +kernel
theorem dL_law_710 : decode code 710 = .ok (.invokevirtual 84, 3) := by decide +kernel
theorem dL_law_713 : decode code 713 = .ok (.aload_n 2, 1) := by decide +kernel
theorem dL_law_714 : decode code 714 = .ok (.aload_n 0, 1) := by decide +kernel
theorem dL_law_715 : decode code 715 = .ok (.iload_n 3, 1) := by decide +kernel
theorem dL_law_716 : decode code 716 = .ok (.iconst 1, 1) := by decide +kernel
theorem dL_law_717 : decode code 717 = .ok (.iadd, 1) := by decide +kernel
theorem dL_law_718 : decode code 718 = .ok (.iaload, 1) := by decide +kernel
theorem dL_law_719 : decode code 719 = .ok (.invokevirtual 87, 3) := by decide +kernel
theorem dL_law_722 : decode code 722 = .ok (.if_icmp .eq 315, 3) := by decide +kernel
theorem dL_law_727 : decode code 727 = .ok (.aload_n 1, 1) := by decide +kernel
theorem dL_law_728 : decode code 728 = .ok (.aload_n 0, 1) := by decide +kernel
theorem dL_law_729 : decode code 729 = .ok (.iload_n 3, 1) := by decide +kernel
theorem dL_law_730 : decode code 730 = .ok (.iconst 1, 1) := by decide +kernel
theorem dL_law_731 : decode code 731 = .ok (.iadd, 1) := by decide +kernel
theorem dL_law_732 : decode code 732 = .ok (.iaload, 1) := by decide +kernel
theorem dL_law_733 : decode code 733 = .ok (.invokevirtual 88, 3) := by decide +kernel
theorem dL_law_736 : decode code 736 = .ok (.aload_n 2, 1) := by decide +kernel
theorem dL_law_737 : decode code 737 = .ok (.aload_n 0, 1) := by decide +kernel
theorem dL_law_738 : decode code 738 = .ok (.iload_n 3, 1) := by decide +kernel
theorem dL_law_739 : decode code 739 = .ok (.iconst 1, 1) := by decide +kernel
theorem dL_law_740 : decode code 740 = .ok (.iadd, 1) := by decide +kernel
theorem dL_law_741 : decode code 741 = .ok (.iaload, 1) := by decide +kernel
theorem dL_law_742 : decode code 742 = .ok (.invokevirtual 91, 3) := by decide +kernel
theorem dL_law_745 : decode code 745 = .ok (.if_icmp .eq 292, 3) := by decide +kernel
theorem dL_law_750 : decode code 750 = .ok (.aload_n 1, 1) := by decide +kernel
theorem dL_law_751 : decode code 751 = .ok (.invokevirtual 92, 3) := by decide +kernel
theorem dL_law_754 : decode code 754 = .ok (.aload_n 2, 1) := by decide +kernel
theorem dL_law_755 : decode code 755 = .ok (.invokevirtual 96, 3) := by decide +kernel
theorem dL_law_758 : decode code 758 = .ok (.if_icmp .eq 279, 3) := by decide +kernel
theorem dL_law_763 : decode code 763 = .ok (.aload_n 1, 1) := by decide +kernel
theorem dL_law_764 : decode code 764 = .ok (.aload_n 0, 1) := by decide +kernel
theorem dL_law_765 : decode code 765 = .ok (.iload_n 3, 1) := by decide +kernel
theorem dL_law_766 : decode code 766 = .ok (.iconst 1, 1) := by decide +kernel
theorem dL_law_767 : decode code 767 = .ok (.iadd, 1) := by decide +kernel
theorem dL_law_768 : decode code 768 = .ok (.iaload, 1) := by decide +kernel
theorem dL_law_769 : decode code 769 = .ok (.aload_n 0, 1) := by decide +kernel
theorem dL_law_770 : decode code 770 = .ok (.iload_n 3, 1) := by decide +kernel
theorem dL_law_771 : decode code 771 = .ok (.iconst 2, 1) := by decide +kernel
theorem dL_law_772 : decode code 772 = .ok (.iadd, 1) := by decide +kernel
theorem dL_law_773 : decode code 773 = .ok (.iaload, 1) := by decide +kernel
theorem dL_law_774 : decode code 774 = .ok (.aload_n 0, 1) := by decide +kernel
theorem dL_law_775 : decode code 775 = .ok (.iload_n 3, 1) := by decide +kernel
theorem dL_law_776 : decode code 776 = .ok (.iconst 3, 1) := by decide +kernel
theorem dL_law_777 : decode code 777 = .ok (.iadd, 1) := by decide +kernel
theorem dL_law_778 : decode code 778 = .ok (.iaload, 1) := by decide +kernel
theorem dL_law_779 : decode code 779 = .ok (.invokevirtual 97, 3) := by decide +kernel
theorem dL_law_782 : decode code 782 = .ok (.aload_n 2, 1) := by decide +kernel
theorem dL_law_783 : decode code 783 = .ok (.aload_n 0, 1) := by decide +kernel
theorem dL_law_784 : decode code 784 = .ok (.iload_n 3, 1) := by decide +kernel
theorem dL_law_785 : decode code 785 = .ok (.iconst 1, 1) := by decide +kernel
theorem dL_law_786 : decode code 786 = .ok (.iadd, 1) := by decide +kernel
theorem dL_law_787 : decode code 787 = .ok (.iaload, 1) := by decide +kernel
theorem dL_law_788 : decode code 788 = .ok (.aload_n 0, 1) := by decide +kernel
theorem dL_law_789 : decode code 789 = .ok (.iload_n 3, 1) := by decide +kernel
theorem dL_law_790 : decode code 790 = .ok (.iconst 2, 1) := by decide +kernel
theorem dL_law_791 : decode code 791 = .ok (.iadd, 1) := by decide +kernel
theorem dL_law_792 : decode code 792 = .ok (.iaload, 1) := by decide +kernel
theorem dL_law_793 : decode code 793 = .ok (.aload_n 0, 1) := by decide +kernel
theorem dL_law_794 : decode code 794 = .ok (.iload_n 3, 1) := by decide +kernel
theorem dL_law_795 : decode code 795 = .ok (.iconst 3, 1) := by decide +kernel
theorem dL_law_796 : decode code 796 = .ok (.iadd, 1) := by decide +kernel
theorem dL_law_797 : decode code 797 = .ok (.iaload, 1) := by decide +kernel
theorem dL_law_798 : decode code 798 = .ok (.invokevirtual 100, 3) := by decide +kernel
theorem dL_law_801 : decode code 801 = .ok (.if_icmp .eq 236, 3) := by decide +kernel
theorem dL_law_806 : decode code 806 = .ok (.aload_n 1, 1) := by decide +kernel
theorem dL_law_807 : decode code 807 = .ok (.aload_n 0, 1) := by decide +kernel
theorem dL_law_808 : decode code 808 = .ok (.iload_n 3, 1) := by decide +kernel
theorem dL_law_809 : decode code 809 = .ok (.iconst 1, 1) := by decide +kernel
theorem dL_law_810 : decode code 810 = .ok (.iadd, 1) := by decide +kernel
theorem dL_law_811 : decode code 811 = .ok (.iaload, 1) := by decide +kernel
theorem dL_law_812 : decode code 812 = .ok (.aload_n 0, 1) := by decide +kernel
theorem dL_law_813 : decode code 813 = .ok (.iload_n 3, 1) := by decide +kernel
theorem dL_law_814 : decode code 814 = .ok (.iconst 2, 1) := by decide +kernel
theorem dL_law_815 : decode code 815 = .ok (.iadd, 1) := by decide +kernel
theorem dL_law_816 : decode code 816 = .ok (.iaload, 1) := by decide +kernel
theorem dL_law_817 : decode code 817 = .ok (.invokevirtual 101, 3) := by decide +kernel
theorem dL_law_820 : decode code 820 = .ok (.aload_n 2, 1) := by decide +kernel
theorem dL_law_821 : decode code 821 = .ok (.aload_n 0, 1) := by decide +kernel
theorem dL_law_822 : decode code 822 = .ok (.iload_n 3, 1) := by decide +kernel
theorem dL_law_823 : decode code 823 = .ok (.iconst 1, 1) := by decide +kernel
theorem dL_law_824 : decode code 824 = .ok (.iadd, 1) := by decide +kernel
theorem dL_law_825 : decode code 825 = .ok (.iaload, 1) := by decide +kernel
theorem dL_law_826 : decode code 826 = .ok (.aload_n 0, 1) := by decide +kernel
theorem dL_law_827 : decode code 827 = .ok (.iload_n 3, 1) := by decide +kernel
theorem dL_law_828 : decode code 828 = .ok (.iconst 2, 1) := by decide +kernel
theorem dL_law_829 : decode code 829 = .ok (.iadd, 1) := by decide +kernel
theorem dL_law_830 : decode code 830 = .ok (.iaload, 1) := by decide +kernel
theorem dL_law_831 : decode code 831 = .ok (.invokevirtual 104, 3) := by decide +kernel
theorem dL_law_834 : decode code 834 = .ok (.if_icmp .eq 203, 3) := by decide +kernel
theorem dL_law_839 : decode code 839 = .ok (.aload_n 1, 1) := by decide +kernel
theorem dL_law_840 : decode code 840 = .ok (.aload_n 0, 1) := by decide +kernel
theorem dL_law_841 : decode code 841 = .ok (.iload_n 3, 1) := by decide +kernel
theorem dL_law_842 : decode code 842 = .ok (.iconst 1, 1) := by decide +kernel
theorem dL_law_843 : decode code 843 = .ok (.iadd, 1) := by decide +kernel
theorem dL_law_844 : decode code 844 = .ok (.iaload, 1) := by decide +kernel
theorem dL_law_845 : decode code 845 = .ok (.aload_n 0, 1) := by decide +kernel
theorem dL_law_846 : decode code 846 = .ok (.iload_n 3, 1) := by decide +kernel
theorem dL_law_847 : decode code 847 = .ok (.iconst 2, 1) := by decide +kernel
theorem dL_law_848 : decode code 848 = .ok (.iadd, 1) := by decide +kernel
theorem dL_law_849 : decode code 849 = .ok (.iaload, 1) := by decide +kernel
theorem dL_law_850 : decode code 850 = .ok (.invokevirtual 105, 3) := by decide +kernel
theorem dL_law_853 : decode code 853 = .ok (.aload_n 2, 1) := by decide +kernel
theorem dL_law_854 : decode code 854 = .ok (.aload_n 0, 1) := by decide +kernel
theorem dL_law_855 : decode code 855 = .ok (.iload_n 3, 1) := by decide +kernel
theorem dL_law_856 : decode code 856 = .ok (.iconst 1, 1) := by decide +kernel
theorem dL_law_857 : decode code 857 = .ok (.iadd, 1) := by decide +kernel
theorem dL_law_858 : decode code 858 = .ok (.iaload, 1) := by decide +kernel
theorem dL_law_859 : decode code 859 = .ok (.aload_n 0, 1) := by decide +kernel
theorem dL_law_860 : decode code 860 = .ok (.iload_n 3, 1) := by decide +kernel
theorem dL_law_861 : decode code 861 = .ok (.iconst 2, 1) := by decide +kernel
theorem dL_law_862 : decode code 862 = .ok (.iadd, 1) := by decide +kernel
theorem dL_law_863 : decode code 863 = .ok (.iaload, 1) := by decide +kernel
theorem dL_law_864 : decode code 864 = .ok (.invokevirtual 108, 3) := by decide +kernel
theorem dL_law_867 : decode code 867 = .ok (.if_icmp .eq 170, 3) := by decide +kernel
theorem dL_law_872 : decode code 872 = .ok (.aload_n 1, 1) := by decide +kernel
theorem dL_law_873 : decode code 873 = .ok (.aload_n 0, 1) := by decide +kernel
theorem dL_law_874 : decode code 874 = .ok (.iload_n 3, 1) := by decide +kernel
theorem dL_law_875 : decode code 875 = .ok (.iconst 1, 1) := by decide +kernel
theorem dL_law_876 : decode code 876 = .ok (.iadd, 1) := by decide +kernel
theorem dL_law_877 : decode code 877 = .ok (.iaload, 1) := by decide +kernel
theorem dL_law_878 : decode code 878 = .ok (.invokevirtual 109, 3) := by decide +kernel
theorem dL_law_881 : decode code 881 = .ok (.aload_n 2, 1) := by decide +kernel
theorem dL_law_882 : decode code 882 = .ok (.aload_n 0, 1) := by decide +kernel
theorem dL_law_883 : decode code 883 = .ok (.iload_n 3, 1) := by decide +kernel
theorem dL_law_884 : decode code 884 = .ok (.iconst 1, 1) := by decide +kernel
theorem dL_law_885 : decode code 885 = .ok (.iadd, 1) := by decide +kernel
theorem dL_law_886 : decode code 886 = .ok (.iaload, 1) := by decide +kernel
theorem dL_law_887 : decode code 887 = .ok (.invokevirtual 113, 3) := by decide +kernel
theorem dL_law_890 : decode code 890 = .ok (.lcmp, 1) := by decide +kernel
theorem dL_law_891 : decode code 891 = .ok (.ifCond .eq 146, 3) := by decide +kernel
theorem dL_law_896 : decode code 896 = .ok (.aload_n 1, 1) := by decide +kernel
theorem dL_law_897 : decode code 897 = .ok (.aload_n 0, 1) := by decide +kernel
theorem dL_law_898 : decode code 898 = .ok (.iload_n 3, 1) := by decide +kernel
theorem dL_law_899 : decode code 899 = .ok (.iconst 1, 1) := by decide +kernel
theorem dL_law_900 : decode code 900 = .ok (.iadd, 1) := by decide +kernel
theorem dL_law_901 : decode code 901 = .ok (.iaload, 1) := by decide +kernel
theorem dL_law_902 : decode code 902 = .ok (.aload_n 0, 1) := by decide +kernel
theorem dL_law_903 : decode code 903 = .ok (.iload_n 3, 1) := by decide +kernel
theorem dL_law_904 : decode code 904 = .ok (.iconst 2, 1) := by decide +kernel
theorem dL_law_905 : decode code 905 = .ok (.iadd, 1) := by decide +kernel
theorem dL_law_906 : decode code 906 = .ok (.iaload, 1) := by decide +kernel
theorem dL_law_907 : decode code 907 = .ok (.invokevirtual 114, 3) := by decide +kernel
theorem dL_law_910 : decode code 910 = .ok (.aload_n 2, 1) := by decide +kernel
theorem dL_law_911 : decode code 911 = .ok (.aload_n 0, 1) := by decide +kernel
theorem dL_law_912 : decode code 912 = .ok (.iload_n 3, 1) := by decide +kernel
theorem dL_law_913 : decode code 913 = .ok (.iconst 1, 1) := by decide +kernel
theorem dL_law_914 : decode code 914 = .ok (.iadd, 1) := by decide +kernel
theorem dL_law_915 : decode code 915 = .ok (.iaload, 1) := by decide +kernel
theorem dL_law_916 : decode code 916 = .ok (.aload_n 0, 1) := by decide +kernel
theorem dL_law_917 : decode code 917 = .ok (.iload_n 3, 1) := by decide +kernel
theorem dL_law_918 : decode code 918 = .ok (.iconst 2, 1) := by decide +kernel
theorem dL_law_919 : decode code 919 = .ok (.iadd, 1) := by decide +kernel
theorem dL_law_920 : decode code 920 = .ok (.iaload, 1) := by decide +kernel
theorem dL_law_921 : decode code 921 = .ok (.invokevirtual 117, 3) := by decide +kernel
theorem dL_law_924 : decode code 924 = .ok (.if_icmp .eq 113, 3) := by decide +kernel
theorem dL_law_929 : decode code 929 = .ok (.aload_n 1, 1) := by decide +kernel
theorem dL_law_930 : decode code 930 = .ok (.aload_n 0, 1) := by decide +kernel
theorem dL_law_931 : decode code 931 = .ok (.iload_n 3, 1) := by decide +kernel
theorem dL_law_932 : decode code 932 = .ok (.iconst 1, 1) := by decide +kernel
theorem dL_law_933 : decode code 933 = .ok (.iadd, 1) := by decide +kernel
theorem dL_law_934 : decode code 934 = .ok (.iaload, 1) := by decide +kernel
theorem dL_law_935 : decode code 935 = .ok (.aload_n 0, 1) := by decide +kernel
theorem dL_law_936 : decode code 936 = .ok (.iload_n 3, 1) := by decide +kernel
theorem dL_law_937 : decode code 937 = .ok (.iconst 2, 1) := by decide +kernel
theorem dL_law_938 : decode code 938 = .ok (.iadd, 1) := by decide +kernel
theorem dL_law_939 : decode code 939 = .ok (.iaload, 1) := by decide +kernel
theorem dL_law_940 : decode code 940 = .ok (.invokevirtual 118, 3) := by decide +kernel
theorem dL_law_943 : decode code 943 = .ok (.aload_n 2, 1) := by decide +kernel
theorem dL_law_944 : decode code 944 = .ok (.aload_n 0, 1) := by decide +kernel
theorem dL_law_945 : decode code 945 = .ok (.iload_n 3, 1) := by decide +kernel
theorem dL_law_946 : decode code 946 = .ok (.iconst 1, 1) := by decide +kernel
theorem dL_law_947 : decode code 947 = .ok (.iadd, 1) := by decide +kernel
theorem dL_law_948 : decode code 948 = .ok (.iaload, 1) := by decide +kernel
theorem dL_law_949 : decode code 949 = .ok (.aload_n 0, 1) := by decide +kernel
theorem dL_law_950 : decode code 950 = .ok (.iload_n 3, 1) := by decide +kernel
theorem dL_law_951 : decode code 951 = .ok (.iconst 2, 1) := by decide +kernel
theorem dL_law_952 : decode code 952 = .ok (.iadd, 1) := by decide +kernel
theorem dL_law_953 : decode code 953 = .ok (.iaload, 1) := by decide +kernel
theorem dL_law_954 : decode code 954 = .ok (.invokevirtual 121, 3) := by decide +kernel
theorem dL_law_957 : decode code 957 = .ok (.if_icmp .eq 80, 3) := by decide +kernel
theorem dL_law_962 : decode code 962 = .ok (.aload_n 1, 1) := by decide +kernel
theorem dL_law_963 : decode code 963 = .ok (.invokevirtual 122, 3) := by decide +kernel
theorem dL_law_966 : decode code 966 = .ok (.aload_n 2, 1) := by decide +kernel
theorem dL_law_967 : decode code 967 = .ok (.invokevirtual 126, 3) := by decide +kernel
theorem dL_law_970 : decode code 970 = .ok (.if_icmp .eq 67, 3) := by decide +kernel
theorem dL_law_975 : decode code 975 = .ok (.aload_n 1, 1) := by decide +kernel
theorem dL_law_976 : decode code 976 = .ok (.aload_n 0, 1) := by decide +kernel
theorem dL_law_977 : decode code 977 = .ok (.iload_n 3, 1) := by decide +kernel
theorem dL_law_978 : decode code 978 = .ok (.iconst 1, 1) := by decide +kernel
theorem dL_law_979 : decode code 979 = .ok (.iadd, 1) := by decide +kernel
theorem dL_law_980 : decode code 980 = .ok (.iaload, 1) := by decide +kernel
theorem dL_law_981 : decode code 981 = .ok (.ifCond .eq 7, 3) := by decide +kernel
theorem dL_law_984 : decode code 984 = .ok (.iconst 1, 1) := by decide +kernel
theorem dL_law_985 : decode code 985 = .ok (.goto 4, 3) := by decide +kernel
theorem dL_law_988 : decode code 988 = .ok (.iconst 0, 1) := by decide +kernel
theorem dL_law_989 : decode code 989 = .ok (.invokevirtual 127, 3) := by decide +kernel
theorem dL_law_992 : decode code 992 = .ok (.aload_n 2, 1) := by decide +kernel
theorem dL_law_993 : decode code 993 = .ok (.aload_n 0, 1) := by decide +kernel
theorem dL_law_994 : decode code 994 = .ok (.iload_n 3, 1) := by decide +kernel
theorem dL_law_995 : decode code 995 = .ok (.iconst 1, 1) := by decide +kernel
theorem dL_law_996 : decode code 996 = .ok (.iadd, 1) := by decide +kernel
theorem dL_law_997 : decode code 997 = .ok (.iaload, 1) := by decide +kernel
theorem dL_law_998 : decode code 998 = .ok (.ifCond .eq 7, 3) := by decide +kernel
theorem dL_law_1001 : decode code 1001 = .ok (.iconst 1, 1) := by decide +kernel
theorem dL_law_1002 : decode code 1002 = .ok (.goto 4, 3) := by decide +kernel
theorem dL_law_1005 : decode code 1005 = .ok (.iconst 0, 1) := by decide +kernel
theorem dL_law_1006 : decode code 1006 = .ok (.invokevirtual 131, 3) := by decide +kernel
theorem dL_law_1009 : decode code 1009 = .ok (.if_icmp .eq 28, 3) := by decide +kernel
theorem dL_law_1014 : decode code 1014 = .ok (.aload_n 1, 1) := by decide +kernel
theorem dL_law_1015 : decode code 1015 = .ok (.aload_n 0, 1) := by decide +kernel
theorem dL_law_1016 : decode code 1016 = .ok (.iload_n 3, 1) := by decide +kernel
theorem dL_law_1017 : decode code 1017 = .ok (.iconst 1, 1) := by decide +kernel
theorem dL_law_1018 : decode code 1018 = .ok (.iadd, 1) := by decide +kernel
theorem dL_law_1019 : decode code 1019 = .ok (.iaload, 1) := by decide +kernel
theorem dL_law_1020 : decode code 1020 = .ok (.invokevirtual 132, 3) := by decide +kernel
theorem dL_law_1023 : decode code 1023 = .ok (.aload_n 2, 1) := by decide +kernel
theorem dL_law_1024 : decode code 1024 = .ok (.aload_n 0, 1) := by decide +kernel
theorem dL_law_1025 : decode code 1025 = .ok (.iload_n 3, 1) := by decide +kernel
theorem dL_law_1026 : decode code 1026 = .ok (.iconst 1, 1) := by decide +kernel
theorem dL_law_1027 : decode code 1027 = .ok (.iadd, 1) := by decide +kernel
theorem dL_law_1028 : decode code 1028 = .ok (.iaload, 1) := by decide +kernel
theorem dL_law_1029 : decode code 1029 = .ok (.invokevirtual 135, 3) := by decide +kernel
theorem dL_law_1032 : decode code 1032 = .ok (.if_icmp .eq 5, 3) := by decide +kernel
theorem dL_law_1037 : decode code 1037 = .ok (.iinc 3 6, 3) := by decide +kernel
theorem dL_law_1040 : decode code 1040 = .ok (.goto (-1022), 3) := by decide +kernel
theorem dL_law_1043 : decode code 1043 = .ok (.iconst 1, 1) := by decide +kernel
theorem dL_law_1044 : decode code 1044 = .ok (.ireturn, 1) := by decide +kernel
theorem dX11_set_0 : decode cX11_set 0 = .ok (.iload_n 1, 1) := by decide +kernel
theorem dX11_set_1 : decode cX11_set 1 = .ok (.ifCond .lt 19, 3) := by decide +kernel
theorem dX11_set_4 : decode cX11_set 4 = .ok (.iload_n 1, 1) := by decide +kernel
theorem dX11_set_5 : decode cX11_set 5 = .ok (.getstatic 105, 3) := by decide +kernel
theorem dX11_set_8 : decode cX11_set 8 = .ok (.arraylength, 1) := by decide +kernel
theorem dX11_set_9 : decode cX11_set 9 = .ok (.if_icmp .ge 11, 3) := by decide +kernel
theorem dX11_set_12 : decode cX11_set 12 = .ok (.iload_n 1, 1) := by decide +kernel
theorem dX11_set_13 : decode cX11_set 13 = .ok (.getstatic 108, 3) := by decide +kernel
theorem dX11_set_16 : decode cX11_set 16 = .ok (.arraylength, 1) := by decide +kernel
theorem dX11_set_17 : decode cX11_set 17 = .ok (.if_icmp .lt 5, 3) := by decide +kernel
theorem dX11_set_20 : decode cX11_set 20 = .ok (.iconst 0, 1) := by decide +kernel
theorem dX11_set_21 : decode cX11_set 21 = .ok (.ireturn, 1) := by decide +kernel
theorem dX11_set_22 : decode cX11_set 22 = .ok (.iload_n 3, 1) := by decide +kernel
theorem dX11_set_23 : decode cX11_set 23 = .ok (.getstatic 105, 3) := by decide +kernel
theorem dX11_set_26 : decode cX11_set 26 = .ok (.iload_n 1, 1) := by decide +kernel
theorem dX11_set_27 : decode cX11_set 27 = .ok (.iaload, 1) := by decide +kernel
theorem dX11_set_28 : decode cX11_set 28 = .ok (.if_icmp .lt 12, 3) := by decide +kernel
theorem dX11_set_31 : decode cX11_set 31 = .ok (.iload_n 3, 1) := by decide +kernel
theorem dX11_set_32 : decode cX11_set 32 = .ok (.getstatic 108, 3) := by decide +kernel
theorem dX11_set_35 : decode cX11_set 35 = .ok (.iload_n 1, 1) := by decide +kernel
theorem dX11_set_36 : decode cX11_set 36 = .ok (.iaload, 1) := by decide +kernel
theorem dX11_set_37 : decode cX11_set 37 = .ok (.if_icmp .le 5, 3) := by decide +kernel
theorem dX11_set_40 : decode cX11_set 40 = .ok (.iconst 0, 1) := by decide +kernel
theorem dX11_set_41 : decode cX11_set 41 = .ok (.ireturn, 1) := by decide +kernel
theorem dX11_set_42 : decode cX11_set 42 = .ok (.iload_n 1, 1) := by decide +kernel
theorem dX11_set_43 : decode cX11_set 43 = .ok (.iconst 5, 1) := by decide +kernel
theorem dX11_set_44 : decode cX11_set 44 = .ok (.if_icmp .ne 19, 3) := by decide +kernel
theorem dX11_set_47 : decode cX11_set 47 = .ok (.aload_n 0, 1) := by decide +kernel
theorem dX11_set_48 : decode cX11_set 48 = .ok (.getfield 12, 3) := by decide +kernel
theorem dX11_set_51 : decode cX11_set 51 = .ok (.getfield 79, 3) := by decide +kernel
theorem dX11_set_54 : decode cX11_set 54 = .ok (.iload_n 3, 1) := by decide +kernel
theorem dX11_set_55 : decode cX11_set 55 = .ok (.invokevirtual 111, 3) := by decide +kernel
theorem dX11_set_58 : decode cX11_set 58 = .ok (.ifCond .ne 5, 3) := by decide +kernel
theorem dX11_set_61 : decode cX11_set 61 = .ok (.iconst 0, 1) := by decide +kernel
theorem dX11_set_62 : decode cX11_set 62 = .ok (.ireturn, 1) := by decide +kernel
theorem dX11_set_63 : decode cX11_set 63 = .ok (.iload_n 1, 1) := by decide +kernel
theorem dX11_set_64 : decode cX11_set 64 = .ok (.iconst 5, 1) := by decide +kernel
theorem dX11_set_65 : decode cX11_set 65 = .ok (.if_icmp .le 19, 3) := by decide +kernel
theorem dX11_set_68 : decode cX11_set 68 = .ok (.aload_n 0, 1) := by decide +kernel
theorem dX11_set_69 : decode cX11_set 69 = .ok (.getfield 12, 3) := by decide +kernel
theorem dX11_set_72 : decode cX11_set 72 = .ok (.getfield 79, 3) := by decide +kernel
theorem dX11_set_75 : decode cX11_set 75 = .ok (.iload_n 2, 1) := by decide +kernel
theorem dX11_set_76 : decode cX11_set 76 = .ok (.invokevirtual 111, 3) := by decide +kernel
theorem dX11_set_79 : decode cX11_set 79 = .ok (.ifCond .ne 5, 3) := by decide +kernel
theorem dX11_set_82 : decode cX11_set 82 = .ok (.iconst 0, 1) := by decide +kernel
theorem dX11_set_83 : decode cX11_set 83 = .ok (.ireturn, 1) := by decide +kernel
theorem dX11_set_84 : decode cX11_set 84 = .ok (.iload_n 1, 1) := by decide +kernel
theorem dX11_set_85 : decode cX11_set 85 = .ok (.iconst 5, 1) := by decide +kernel
theorem dX11_set_86 : decode cX11_set 86 = .ok (.if_icmp .le 16, 3) := by decide +kernel
theorem dX11_set_102 : decode cX11_set 102 = .ok (.aload_n 0, 1) := by decide +kernel
theorem dX11_set_103 : decode cX11_set 103 = .ok (.getfield 12, 3) := by decide +kernel
theorem dX11_set_106 : decode cX11_set 106 = .ok (.iload_n 1, 1) := by decide +kernel
theorem dX11_set_107 : decode cX11_set 107 = .ok (.iload_n 3, 1) := by decide +kernel
theorem dX11_set_108 : decode cX11_set 108 = .ok (.invokevirtual 118, 3) := by decide +kernel
theorem dX11_set_111 : decode cX11_set 111 = .ok (.aload_n 0, 1) := by decide +kernel
theorem dX11_set_112 : decode cX11_set 112 = .ok (.invokevirtual 76, 3) := by decide +kernel
theorem dX11_set_115 : decode cX11_set 115 = .ok (.iconst 1, 1) := by decide +kernel
theorem dX11_set_116 : decode cX11_set 116 = .ok (.ireturn, 1) := by decide +kernel
theorem q_1100 : Cond.methodLink RL 55 yX11_of ∈ GW := inG 1100 (by decide +kernel) (by decide +kernel)
theorem q_1101 : Cond.instanceMethod yX11_of ∈ GW := inG 1101 (by decide +kernel) (by decide +kernel)
theorem q_1102 : Cond.selects RX11 yX11_of yX11_of ∈ GW := inG 1102 (by decide +kernel) (by decide +kernel)
theorem q_1103 : Cond.code yX11_of cX11_of 4 (some .int) ∈ GW := inG 1103 (by decide +kernel) (by decide +kernel)
theorem q_1129 : Cond.methodLink RL 60 yX11_far ∈ GW := inG 1129 (by decide +kernel) (by decide +kernel)
theorem q_1130 : Cond.instanceMethod yX11_far ∈ GW := inG 1130 (by decide +kernel) (by decide +kernel)
theorem q_1131 : Cond.selects RX11 yX11_far yX11_far ∈ GW := inG 1131 (by decide +kernel) (by decide +kernel)
theorem q_1132 : Cond.code yX11_far cX11_far 3 (some .int) ∈ GW := inG 1132 (by decide +kernel) (by decide +kernel)
theorem q_1134 : Cond.methodLink RL 64 yX11_need ∈ GW := inG 1134 (by decide +kernel) (by decide +kernel)
theorem q_1135 : Cond.instanceMethod yX11_need ∈ GW := inG 1135 (by decide +kernel) (by decide +kernel)
theorem q_1136 : Cond.selects RX11 yX11_need yX11_need ∈ GW := inG 1136 (by decide +kernel) (by decide +kernel)
theorem q_1137 : Cond.code yX11_need cX11_need 4 (some .int) ∈ GW := inG 1137 (by decide +kernel) (by decide +kernel)
theorem q_1139 : Cond.methodLink RL 68 yX11_book ∈ GW := inG 1139 (by decide +kernel) (by decide +kernel)
theorem q_1140 : Cond.instanceMethod yX11_book ∈ GW := inG 1140 (by decide +kernel) (by decide +kernel)
theorem q_1141 : Cond.selects RX11 yX11_book yX11_book ∈ GW := inG 1141 (by decide +kernel) (by decide +kernel)
theorem q_1142 : Cond.code yX11_book cX11_book 3 (some .int) ∈ GW := inG 1142 (by decide +kernel) (by decide +kernel)
theorem q_1143 : Cond.methodLink RL 72 yX11_run ∈ GW := inG 1143 (by decide +kernel) (by decide +kernel)
theorem q_1144 : Cond.instanceMethod yX11_run ∈ GW := inG 1144 (by decide +kernel) (by decide +kernel)
theorem q_1145 : Cond.selects RX11 yX11_run yX11_run ∈ GW := inG 1145 (by decide +kernel) (by decide +kernel)
theorem q_1146 : Cond.code yX11_run cX11_run 7 (some .int) ∈ GW := inG 1146 (by decide +kernel) (by decide +kernel)
theorem q_1150 : Cond.methodLink RL 76 yX11_plan ∈ GW := inG 1150 (by decide +kernel) (by decide +kernel)
theorem q_1151 : Cond.instanceMethod yX11_plan ∈ GW := inG 1151 (by decide +kernel) (by decide +kernel)
theorem q_1152 : Cond.selects RX11 yX11_plan yX11_plan ∈ GW := inG 1152 (by decide +kernel) (by decide +kernel)
theorem q_1153 : Cond.code yX11_plan cX11_plan 4 (some .int) ∈ GW := inG 1153 (by decide +kernel) (by decide +kernel)
theorem q_1246 : Cond.methodLink RL 80 yX11_mend ∈ GW := inG 1246 (by decide +kernel) (by decide +kernel)
theorem q_1247 : Cond.instanceMethod yX11_mend ∈ GW := inG 1247 (by decide +kernel) (by decide +kernel)
theorem q_1248 : Cond.selects RX11 yX11_mend yX11_mend ∈ GW := inG 1248 (by decide +kernel) (by decide +kernel)
theorem q_1249 : Cond.code yX11_mend cX11_mend 5 (some .int) ∈ GW := inG 1249 (by decide +kernel) (by decide +kernel)
theorem q_1260 : Cond.methodLink RL 84 yX11_rooms ∈ GW := inG 1260 (by decide +kernel) (by decide +kernel)
theorem q_1261 : Cond.instanceMethod yX11_rooms ∈ GW := inG 1261 (by decide +kernel) (by decide +kernel)
theorem q_1262 : Cond.selects RX11 yX11_rooms yX11_rooms ∈ GW := inG 1262 (by decide +kernel) (by decide +kernel)
theorem q_1263 : Cond.code yX11_rooms cX11_rooms 3 (some .int) ∈ GW := inG 1263 (by decide +kernel) (by decide +kernel)
theorem q_1288 : Cond.methodLink RL 88 yX11_sale ∈ GW := inG 1288 (by decide +kernel) (by decide +kernel)
theorem q_1289 : Cond.instanceMethod yX11_sale ∈ GW := inG 1289 (by decide +kernel) (by decide +kernel)
theorem q_1290 : Cond.selects RX11 yX11_sale yX11_sale ∈ GW := inG 1290 (by decide +kernel) (by decide +kernel)
theorem q_1291 : Cond.code yX11_sale cX11_sale 4 (some .int) ∈ GW := inG 1291 (by decide +kernel) (by decide +kernel)
theorem q_1296 : Cond.methodLink RL 92 yX11_liars ∈ GW := inG 1296 (by decide +kernel) (by decide +kernel)
theorem q_1297 : Cond.instanceMethod yX11_liars ∈ GW := inG 1297 (by decide +kernel) (by decide +kernel)
theorem q_1298 : Cond.selects RX11 yX11_liars yX11_liars ∈ GW := inG 1298 (by decide +kernel) (by decide +kernel)
theorem q_1299 : Cond.code yX11_liars cX11_liars 3 (some .int) ∈ GW := inG 1299 (by decide +kernel) (by decide +kernel)
theorem q_1300 : Cond.methodLink RL 97 yX11_sure ∈ GW := inG 1300 (by decide +kernel) (by decide +kernel)
theorem q_1301 : Cond.instanceMethod yX11_sure ∈ GW := inG 1301 (by decide +kernel) (by decide +kernel)
theorem q_1302 : Cond.selects RX11 yX11_sure yX11_sure ∈ GW := inG 1302 (by decide +kernel) (by decide +kernel)
theorem q_1303 : Cond.code yX11_sure cX11_sure 4 (some .int) ∈ GW := inG 1303 (by decide +kernel) (by decide +kernel)
theorem q_1314 : Cond.methodLink RL 101 yX11_best ∈ GW := inG 1314 (by decide +kernel) (by decide +kernel)
theorem q_1315 : Cond.instanceMethod yX11_best ∈ GW := inG 1315 (by decide +kernel) (by decide +kernel)
theorem q_1316 : Cond.selects RX11 yX11_best yX11_best ∈ GW := inG 1316 (by decide +kernel) (by decide +kernel)
theorem q_1317 : Cond.code yX11_best cX11_best 7 (some .int) ∈ GW := inG 1317 (by decide +kernel) (by decide +kernel)
theorem q_1318 : Cond.methodLink RL 105 yX11_clue ∈ GW := inG 1318 (by decide +kernel) (by decide +kernel)
theorem q_1319 : Cond.instanceMethod yX11_clue ∈ GW := inG 1319 (by decide +kernel) (by decide +kernel)
theorem q_1320 : Cond.selects RX11 yX11_clue yX11_clue ∈ GW := inG 1320 (by decide +kernel) (by decide +kernel)
theorem q_1321 : Cond.code yX11_clue cX11_clue 5 (some .int) ∈ GW := inG 1321 (by decide +kernel) (by decide +kernel)
theorem q_1323 : Cond.methodLink RL 109 yX11_ways ∈ GW := inG 1323 (by decide +kernel) (by decide +kernel)
theorem q_1324 : Cond.instanceMethod yX11_ways ∈ GW := inG 1324 (by decide +kernel) (by decide +kernel)
theorem q_1325 : Cond.selects RX11 yX11_ways yX11_ways ∈ GW := inG 1325 (by decide +kernel) (by decide +kernel)
theorem q_1326 : Cond.code yX11_ways cX11_ways 2 (some .long) ∈ GW := inG 1326 (by decide +kernel) (by decide +kernel)
theorem q_1342 : Cond.methodLink RL 114 yX11_been ∈ GW := inG 1342 (by decide +kernel) (by decide +kernel)
theorem q_1343 : Cond.instanceMethod yX11_been ∈ GW := inG 1343 (by decide +kernel) (by decide +kernel)
theorem q_1344 : Cond.selects RX11 yX11_been yX11_been ∈ GW := inG 1344 (by decide +kernel) (by decide +kernel)
theorem q_1345 : Cond.code yX11_been cX11_been 5 (some .int) ∈ GW := inG 1345 (by decide +kernel) (by decide +kernel)
theorem q_1350 : Cond.methodLink RL 118 yX11_ask ∈ GW := inG 1350 (by decide +kernel) (by decide +kernel)
theorem q_1351 : Cond.instanceMethod yX11_ask ∈ GW := inG 1351 (by decide +kernel) (by decide +kernel)
theorem q_1352 : Cond.selects RX11 yX11_ask yX11_ask ∈ GW := inG 1352 (by decide +kernel) (by decide +kernel)
theorem q_1353 : Cond.code yX11_ask cX11_ask 6 (some .int) ∈ GW := inG 1353 (by decide +kernel) (by decide +kernel)
theorem q_1362 : Cond.methodLink RL 122 yX11_undo ∈ GW := inG 1362 (by decide +kernel) (by decide +kernel)
theorem q_1363 : Cond.instanceMethod yX11_undo ∈ GW := inG 1363 (by decide +kernel) (by decide +kernel)
theorem q_1364 : Cond.selects RX11 yX11_undo yX11_undo ∈ GW := inG 1364 (by decide +kernel) (by decide +kernel)
theorem q_1365 : Cond.code yX11_undo cX11_undo 2 (some .boolean) ∈ GW := inG 1365 (by decide +kernel) (by decide +kernel)
theorem q_1366 : Cond.methodLink RL 127 yX11_image ∈ GW := inG 1366 (by decide +kernel) (by decide +kernel)
theorem q_1367 : Cond.instanceMethod yX11_image ∈ GW := inG 1367 (by decide +kernel) (by decide +kernel)
theorem q_1368 : Cond.selects RX11 yX11_image yX11_image ∈ GW := inG 1368 (by decide +kernel) (by decide +kernel)
theorem q_1369 : Cond.code yX11_image cX11_image 2 (some .boolean) ∈ GW := inG 1369 (by decide +kernel) (by decide +kernel)
theorem q_1388 : Cond.methodLink RL 132 yX11_look ∈ GW := inG 1388 (by decide +kernel) (by decide +kernel)
theorem q_1389 : Cond.instanceMethod yX11_look ∈ GW := inG 1389 (by decide +kernel) (by decide +kernel)
theorem q_1390 : Cond.selects RX11 yX11_look yX11_look ∈ GW := inG 1390 (by decide +kernel) (by decide +kernel)
theorem q_1391 : Cond.code yX11_look cX11_look 3 (some .int) ∈ GW := inG 1391 (by decide +kernel) (by decide +kernel)
theorem q_1392 : Cond.classLink RL 10 RX12 ∈ GW := inG 1392 (by decide +kernel) (by decide +kernel)
theorem q_1393 : Cond.instantiable RX12 70 ∈ GW := inG 1393 (by decide +kernel) (by decide +kernel)
theorem q_1394 : Cond.methodLink RL 12 yX12_init ∈ GW := inG 1394 (by decide +kernel) (by decide +kernel)
theorem q_1395 : Cond.instanceMethod yX12_init ∈ GW := inG 1395 (by decide +kernel) (by decide +kernel)
theorem q_1396 : Cond.code yX12_init cX12_init 1 none ∈ GW := inG 1396 (by decide +kernel) (by decide +kernel)
theorem q_1610 : Cond.methodLink RL 126 yX12_undo ∈ GW := inG 1610 (by decide +kernel) (by decide +kernel)
theorem q_1611 : Cond.instanceMethod yX12_undo ∈ GW := inG 1611 (by decide +kernel) (by decide +kernel)
theorem q_1612 : Cond.selects RX12 yX12_undo yX12_undo ∈ GW := inG 1612 (by decide +kernel) (by decide +kernel)
theorem q_1613 : Cond.code yX12_undo cX12_undo 2 (some .boolean) ∈ GW := inG 1613 (by decide +kernel) (by decide +kernel)
theorem q_1614 : Cond.methodLink RL 17 yX12_state ∈ GW := inG 1614 (by decide +kernel) (by decide +kernel)
theorem q_1615 : Cond.instanceMethod yX12_state ∈ GW := inG 1615 (by decide +kernel) (by decide +kernel)
theorem q_1616 : Cond.selects RX12 yX12_state yX12_state ∈ GW := inG 1616 (by decide +kernel) (by decide +kernel)
theorem q_1617 : Cond.code yX12_state cX12_state 3 (some .int) ∈ GW := inG 1617 (by decide +kernel) (by decide +kernel)
theorem q_1618 : Cond.methodLink RL 22 yX12_house ∈ GW := inG 1618 (by decide +kernel) (by decide +kernel)
theorem q_1619 : Cond.instanceMethod yX12_house ∈ GW := inG 1619 (by decide +kernel) (by decide +kernel)
theorem q_1620 : Cond.selects RX12 yX12_house yX12_house ∈ GW := inG 1620 (by decide +kernel) (by decide +kernel)
theorem q_1621 : Cond.code yX12_house cX12_house 5 (some .int) ∈ GW := inG 1621 (by decide +kernel) (by decide +kernel)
theorem q_1626 : Cond.methodLink RL 27 yX12_set ∈ GW := inG 1626 (by decide +kernel) (by decide +kernel)
theorem q_1627 : Cond.instanceMethod yX12_set ∈ GW := inG 1627 (by decide +kernel) (by decide +kernel)
theorem q_1628 : Cond.selects RX12 yX12_set yX12_set ∈ GW := inG 1628 (by decide +kernel) (by decide +kernel)
theorem q_1629 : Cond.code yX12_set cX12_set 4 (some .boolean) ∈ GW := inG 1629 (by decide +kernel) (by decide +kernel)
theorem q_1642 : Cond.methodLink RL 32 yX12_friends ∈ GW := inG 1642 (by decide +kernel) (by decide +kernel)
theorem q_1643 : Cond.instanceMethod yX12_friends ∈ GW := inG 1643 (by decide +kernel) (by decide +kernel)
theorem q_1644 : Cond.selects RX12 yX12_friends yX12_friends ∈ GW := inG 1644 (by decide +kernel) (by decide +kernel)
theorem q_1645 : Cond.code yX12_friends cX12_friends 4 (some .boolean) ∈ GW := inG 1645 (by decide +kernel) (by decide +kernel)
theorem q_1646 : Cond.methodLink RL 37 yX12_feed ∈ GW := inG 1646 (by decide +kernel) (by decide +kernel)
theorem q_1647 : Cond.instanceMethod yX12_feed ∈ GW := inG 1647 (by decide +kernel) (by decide +kernel)
theorem q_1648 : Cond.selects RX12 yX12_feed yX12_feed ∈ GW := inG 1648 (by decide +kernel) (by decide +kernel)
theorem q_1649 : Cond.code yX12_feed cX12_feed 6 (some .int) ∈ GW := inG 1649 (by decide +kernel) (by decide +kernel)
theorem q_1654 : Cond.methodLink RL 42 yX12_end ∈ GW := inG 1654 (by decide +kernel) (by decide +kernel)
theorem q_1655 : Cond.instanceMethod yX12_end ∈ GW := inG 1655 (by decide +kernel) (by decide +kernel)
theorem q_1656 : Cond.selects RX12 yX12_end yX12_end ∈ GW := inG 1656 (by decide +kernel) (by decide +kernel)
theorem q_1657 : Cond.code yX12_end cX12_end 2 (some .boolean) ∈ GW := inG 1657 (by decide +kernel) (by decide +kernel)
theorem q_1658 : Cond.methodLink RL 46 yX12_text ∈ GW := inG 1658 (by decide +kernel) (by decide +kernel)
theorem q_1659 : Cond.instanceMethod yX12_text ∈ GW := inG 1659 (by decide +kernel) (by decide +kernel)
theorem q_1660 : Cond.selects RX12 yX12_text yX12_text ∈ GW := inG 1660 (by decide +kernel) (by decide +kernel)
theorem q_1661 : Cond.code yX12_text cX12_text 3 (some .int) ∈ GW := inG 1661 (by decide +kernel) (by decide +kernel)
theorem q_171 : Cond.classLink RL 7 RX11 ∈ GW := inG 171 (by decide +kernel) (by decide +kernel)
theorem q_172 : Cond.instantiable RX11 13 ∈ GW := inG 172 (by decide +kernel) (by decide +kernel)
theorem q_173 : Cond.methodLink RL 9 yX11_init ∈ GW := inG 173 (by decide +kernel) (by decide +kernel)
theorem q_174 : Cond.instanceMethod yX11_init ∈ GW := inG 174 (by decide +kernel) (by decide +kernel)
theorem q_175 : Cond.code yX11_init cX11_init 2 none ∈ GW := inG 175 (by decide +kernel) (by decide +kernel)
theorem q_1814 : Cond.methodLink RL 50 yX12_fault ∈ GW := inG 1814 (by decide +kernel) (by decide +kernel)
theorem q_1815 : Cond.instanceMethod yX12_fault ∈ GW := inG 1815 (by decide +kernel) (by decide +kernel)
theorem q_1816 : Cond.selects RX12 yX12_fault yX12_fault ∈ GW := inG 1816 (by decide +kernel) (by decide +kernel)
theorem q_1817 : Cond.code yX12_fault cX12_fault 2 (some .int) ∈ GW := inG 1817 (by decide +kernel) (by decide +kernel)
theorem q_1818 : Cond.methodLink RL 63 yX12_far ∈ GW := inG 1818 (by decide +kernel) (by decide +kernel)
theorem q_1819 : Cond.instanceMethod yX12_far ∈ GW := inG 1819 (by decide +kernel) (by decide +kernel)
theorem q_1820 : Cond.selects RX12 yX12_far yX12_far ∈ GW := inG 1820 (by decide +kernel) (by decide +kernel)
theorem q_1821 : Cond.code yX12_far cX12_far 3 (some .int) ∈ GW := inG 1821 (by decide +kernel) (by decide +kernel)
theorem q_1827 : Cond.methodLink RL 54 yX12_nights ∈ GW := inG 1827 (by decide +kernel) (by decide +kernel)
theorem q_1828 : Cond.instanceMethod yX12_nights ∈ GW := inG 1828 (by decide +kernel) (by decide +kernel)
theorem q_1829 : Cond.selects RX12 yX12_nights yX12_nights ∈ GW := inG 1829 (by decide +kernel) (by decide +kernel)
theorem q_1830 : Cond.code yX12_nights cX12_nights 4 (some .int) ∈ GW := inG 1830 (by decide +kernel) (by decide +kernel)
theorem q_1929 : Cond.methodLink RL 59 yX12_of ∈ GW := inG 1929 (by decide +kernel) (by decide +kernel)
theorem q_1930 : Cond.instanceMethod yX12_of ∈ GW := inG 1930 (by decide +kernel) (by decide +kernel)
theorem q_1931 : Cond.selects RX12 yX12_of yX12_of ∈ GW := inG 1931 (by decide +kernel) (by decide +kernel)
theorem q_1932 : Cond.code yX12_of cX12_of 3 (some .int) ∈ GW := inG 1932 (by decide +kernel) (by decide +kernel)
theorem q_1962 : Cond.methodLink RL 67 yX12_need ∈ GW := inG 1962 (by decide +kernel) (by decide +kernel)
theorem q_1963 : Cond.instanceMethod yX12_need ∈ GW := inG 1963 (by decide +kernel) (by decide +kernel)
theorem q_1964 : Cond.selects RX12 yX12_need yX12_need ∈ GW := inG 1964 (by decide +kernel) (by decide +kernel)
theorem q_1965 : Cond.code yX12_need cX12_need 3 (some .int) ∈ GW := inG 1965 (by decide +kernel) (by decide +kernel)
theorem q_1966 : Cond.methodLink RL 71 yX12_book ∈ GW := inG 1966 (by decide +kernel) (by decide +kernel)
theorem q_1967 : Cond.instanceMethod yX12_book ∈ GW := inG 1967 (by decide +kernel) (by decide +kernel)
theorem q_1968 : Cond.selects RX12 yX12_book yX12_book ∈ GW := inG 1968 (by decide +kernel) (by decide +kernel)
theorem q_1969 : Cond.code yX12_book cX12_book 3 (some .int) ∈ GW := inG 1969 (by decide +kernel) (by decide +kernel)
theorem q_1970 : Cond.methodLink RL 75 yX12_run ∈ GW := inG 1970 (by decide +kernel) (by decide +kernel)
theorem q_1971 : Cond.instanceMethod yX12_run ∈ GW := inG 1971 (by decide +kernel) (by decide +kernel)
theorem q_1972 : Cond.selects RX12 yX12_run yX12_run ∈ GW := inG 1972 (by decide +kernel) (by decide +kernel)
theorem q_1973 : Cond.code yX12_run cX12_run 4 (some .int) ∈ GW := inG 1973 (by decide +kernel) (by decide +kernel)
theorem q_1986 : Cond.methodLink RL 79 yX12_plan ∈ GW := inG 1986 (by decide +kernel) (by decide +kernel)
theorem q_1987 : Cond.instanceMethod yX12_plan ∈ GW := inG 1987 (by decide +kernel) (by decide +kernel)
theorem q_1988 : Cond.selects RX12 yX12_plan yX12_plan ∈ GW := inG 1988 (by decide +kernel) (by decide +kernel)
theorem q_1989 : Cond.code yX12_plan cX12_plan 8 (some .int) ∈ GW := inG 1989 (by decide +kernel) (by decide +kernel)
theorem q_2014 : Cond.methodLink RL 83 yX12_mend ∈ GW := inG 2014 (by decide +kernel) (by decide +kernel)
theorem q_2015 : Cond.instanceMethod yX12_mend ∈ GW := inG 2015 (by decide +kernel) (by decide +kernel)
theorem q_2016 : Cond.selects RX12 yX12_mend yX12_mend ∈ GW := inG 2016 (by decide +kernel) (by decide +kernel)
theorem q_2017 : Cond.code yX12_mend cX12_mend 4 (some .int) ∈ GW := inG 2017 (by decide +kernel) (by decide +kernel)
theorem q_2022 : Cond.methodLink RL 87 yX12_rooms ∈ GW := inG 2022 (by decide +kernel) (by decide +kernel)
theorem q_2023 : Cond.instanceMethod yX12_rooms ∈ GW := inG 2023 (by decide +kernel) (by decide +kernel)
theorem q_2024 : Cond.selects RX12 yX12_rooms yX12_rooms ∈ GW := inG 2024 (by decide +kernel) (by decide +kernel)
theorem q_2025 : Cond.code yX12_rooms cX12_rooms 2 (some .int) ∈ GW := inG 2025 (by decide +kernel) (by decide +kernel)
theorem q_2050 : Cond.methodLink RL 91 yX12_sale ∈ GW := inG 2050 (by decide +kernel) (by decide +kernel)
theorem q_2051 : Cond.instanceMethod yX12_sale ∈ GW := inG 2051 (by decide +kernel) (by decide +kernel)
theorem q_2052 : Cond.selects RX12 yX12_sale yX12_sale ∈ GW := inG 2052 (by decide +kernel) (by decide +kernel)
theorem q_2053 : Cond.code yX12_sale cX12_sale 4 (some .int) ∈ GW := inG 2053 (by decide +kernel) (by decide +kernel)
theorem q_2058 : Cond.methodLink RL 96 yX12_liars ∈ GW := inG 2058 (by decide +kernel) (by decide +kernel)
theorem q_2059 : Cond.instanceMethod yX12_liars ∈ GW := inG 2059 (by decide +kernel) (by decide +kernel)
theorem q_2060 : Cond.selects RX12 yX12_liars yX12_liars ∈ GW := inG 2060 (by decide +kernel) (by decide +kernel)
theorem q_2061 : Cond.code yX12_liars cX12_liars 3 (some .int) ∈ GW := inG 2061 (by decide +kernel) (by decide +kernel)
theorem q_2062 : Cond.methodLink RL 100 yX12_sure ∈ GW := inG 2062 (by decide +kernel) (by decide +kernel)
theorem q_2063 : Cond.instanceMethod yX12_sure ∈ GW := inG 2063 (by decide +kernel) (by decide +kernel)
theorem q_2064 : Cond.selects RX12 yX12_sure yX12_sure ∈ GW := inG 2064 (by decide +kernel) (by decide +kernel)
theorem q_2065 : Cond.code yX12_sure cX12_sure 4 (some .int) ∈ GW := inG 2065 (by decide +kernel) (by decide +kernel)
theorem q_2080 : Cond.methodLink RL 104 yX12_best ∈ GW := inG 2080 (by decide +kernel) (by decide +kernel)
theorem q_2081 : Cond.instanceMethod yX12_best ∈ GW := inG 2081 (by decide +kernel) (by decide +kernel)
theorem q_2082 : Cond.selects RX12 yX12_best yX12_best ∈ GW := inG 2082 (by decide +kernel) (by decide +kernel)
theorem q_2083 : Cond.code yX12_best cX12_best 8 (some .int) ∈ GW := inG 2083 (by decide +kernel) (by decide +kernel)
theorem q_2084 : Cond.methodLink RL 108 yX12_clue ∈ GW := inG 2084 (by decide +kernel) (by decide +kernel)
theorem q_2085 : Cond.instanceMethod yX12_clue ∈ GW := inG 2085 (by decide +kernel) (by decide +kernel)
theorem q_2086 : Cond.selects RX12 yX12_clue yX12_clue ∈ GW := inG 2086 (by decide +kernel) (by decide +kernel)
theorem q_2087 : Cond.code yX12_clue cX12_clue 3 (some .int) ∈ GW := inG 2087 (by decide +kernel) (by decide +kernel)
theorem q_2088 : Cond.methodLink RL 113 yX12_ways ∈ GW := inG 2088 (by decide +kernel) (by decide +kernel)
theorem q_2089 : Cond.instanceMethod yX12_ways ∈ GW := inG 2089 (by decide +kernel) (by decide +kernel)
theorem q_2090 : Cond.selects RX12 yX12_ways yX12_ways ∈ GW := inG 2090 (by decide +kernel) (by decide +kernel)
theorem q_2091 : Cond.code yX12_ways cX12_ways 2 (some .long) ∈ GW := inG 2091 (by decide +kernel) (by decide +kernel)
theorem q_2109 : Cond.methodLink RL 117 yX12_been ∈ GW := inG 2109 (by decide +kernel) (by decide +kernel)
theorem q_2110 : Cond.instanceMethod yX12_been ∈ GW := inG 2110 (by decide +kernel) (by decide +kernel)
theorem q_2111 : Cond.selects RX12 yX12_been yX12_been ∈ GW := inG 2111 (by decide +kernel) (by decide +kernel)
theorem q_2112 : Cond.code yX12_been cX12_been 5 (some .int) ∈ GW := inG 2112 (by decide +kernel) (by decide +kernel)
theorem q_2117 : Cond.methodLink RL 121 yX12_ask ∈ GW := inG 2117 (by decide +kernel) (by decide +kernel)
theorem q_2118 : Cond.instanceMethod yX12_ask ∈ GW := inG 2118 (by decide +kernel) (by decide +kernel)
theorem q_2119 : Cond.selects RX12 yX12_ask yX12_ask ∈ GW := inG 2119 (by decide +kernel) (by decide +kernel)
theorem q_2120 : Cond.code yX12_ask cX12_ask 14 (some .int) ∈ GW := inG 2120 (by decide +kernel) (by decide +kernel)
theorem q_2121 : Cond.methodLink RL 131 yX12_image ∈ GW := inG 2121 (by decide +kernel) (by decide +kernel)
theorem q_2122 : Cond.instanceMethod yX12_image ∈ GW := inG 2122 (by decide +kernel) (by decide +kernel)
theorem q_2123 : Cond.selects RX12 yX12_image yX12_image ∈ GW := inG 2123 (by decide +kernel) (by decide +kernel)
theorem q_2124 : Cond.code yX12_image cX12_image 3 (some .boolean) ∈ GW := inG 2124 (by decide +kernel) (by decide +kernel)
theorem q_2141 : Cond.methodLink RL 135 yX12_look ∈ GW := inG 2141 (by decide +kernel) (by decide +kernel)
theorem q_2142 : Cond.instanceMethod yX12_look ∈ GW := inG 2142 (by decide +kernel) (by decide +kernel)
theorem q_2143 : Cond.selects RX12 yX12_look yX12_look ∈ GW := inG 2143 (by decide +kernel) (by decide +kernel)
theorem q_2144 : Cond.code yX12_look cX12_look 2 (some .int) ∈ GW := inG 2144 (by decide +kernel) (by decide +kernel)
theorem q_646 : Cond.methodLink RL 13 yX11_state ∈ GW := inG 646 (by decide +kernel) (by decide +kernel)
theorem q_647 : Cond.instanceMethod yX11_state ∈ GW := inG 647 (by decide +kernel) (by decide +kernel)
theorem q_648 : Cond.selects RX11 yX11_state yX11_state ∈ GW := inG 648 (by decide +kernel) (by decide +kernel)
theorem q_649 : Cond.code yX11_state cX11_state 3 (some .int) ∈ GW := inG 649 (by decide +kernel) (by decide +kernel)
theorem q_658 : Cond.methodLink RL 18 yX11_house ∈ GW := inG 658 (by decide +kernel) (by decide +kernel)
theorem q_659 : Cond.instanceMethod yX11_house ∈ GW := inG 659 (by decide +kernel) (by decide +kernel)
theorem q_660 : Cond.selects RX11 yX11_house yX11_house ∈ GW := inG 660 (by decide +kernel) (by decide +kernel)
theorem q_661 : Cond.code yX11_house cX11_house 6 (some .int) ∈ GW := inG 661 (by decide +kernel) (by decide +kernel)
theorem q_666 : Cond.methodLink RL 23 yX11_set ∈ GW := inG 666 (by decide +kernel) (by decide +kernel)
theorem q_667 : Cond.instanceMethod yX11_set ∈ GW := inG 667 (by decide +kernel) (by decide +kernel)
theorem q_668 : Cond.selects RX11 yX11_set yX11_set ∈ GW := inG 668 (by decide +kernel) (by decide +kernel)
theorem q_669 : Cond.code yX11_set cX11_set 4 (some .boolean) ∈ GW := inG 669 (by decide +kernel) (by decide +kernel)
theorem q_670 : Cond.fieldLink RX11 105 "LampRound" "LEAST_SET" "[I" ∈ GW := inG 670 (by decide +kernel) (by decide +kernel)
theorem q_672 : Cond.fieldLink RX11 108 "LampRound" "MOST_SET" "[I" ∈ GW := inG 672 (by decide +kernel) (by decide +kernel)
theorem q_682 : Cond.methodLink RX11 118 yX10_tellOfAll ∈ GW := inG 682 (by decide +kernel) (by decide +kernel)
theorem q_683 : Cond.instanceMethod yX10_tellOfAll ∈ GW := inG 683 (by decide +kernel) (by decide +kernel)
theorem q_684 : Cond.selects RX10 yX10_tellOfAll yX10_tellOfAll ∈ GW := inG 684 (by decide +kernel) (by decide +kernel)
theorem q_685 : Cond.code yX10_tellOfAll cX10_tellOfAll 3 none ∈ GW := inG 685 (by decide +kernel) (by decide +kernel)
theorem q_686 : Cond.methodLink RL 28 yX11_friends ∈ GW := inG 686 (by decide +kernel) (by decide +kernel)
theorem q_687 : Cond.instanceMethod yX11_friends ∈ GW := inG 687 (by decide +kernel) (by decide +kernel)
theorem q_688 : Cond.selects RX11 yX11_friends yX11_friends ∈ GW := inG 688 (by decide +kernel) (by decide +kernel)
theorem q_689 : Cond.code yX11_friends cX11_friends 5 (some .boolean) ∈ GW := inG 689 (by decide +kernel) (by decide +kernel)
theorem q_694 : Cond.methodLink RL 33 yX11_feed ∈ GW := inG 694 (by decide +kernel) (by decide +kernel)
theorem q_695 : Cond.instanceMethod yX11_feed ∈ GW := inG 695 (by decide +kernel) (by decide +kernel)
theorem q_696 : Cond.selects RX11 yX11_feed yX11_feed ∈ GW := inG 696 (by decide +kernel) (by decide +kernel)
theorem q_697 : Cond.code yX11_feed cX11_feed 6 (some .int) ∈ GW := inG 697 (by decide +kernel) (by decide +kernel)
theorem q_702 : Cond.methodLink RL 38 yX11_end ∈ GW := inG 702 (by decide +kernel) (by decide +kernel)
theorem q_703 : Cond.instanceMethod yX11_end ∈ GW := inG 703 (by decide +kernel) (by decide +kernel)
theorem q_704 : Cond.selects RX11 yX11_end yX11_end ∈ GW := inG 704 (by decide +kernel) (by decide +kernel)
theorem q_705 : Cond.code yX11_end cX11_end 2 (some .boolean) ∈ GW := inG 705 (by decide +kernel) (by decide +kernel)
theorem q_706 : Cond.methodLink RL 43 yX11_text ∈ GW := inG 706 (by decide +kernel) (by decide +kernel)
theorem q_707 : Cond.instanceMethod yX11_text ∈ GW := inG 707 (by decide +kernel) (by decide +kernel)
theorem q_708 : Cond.selects RX11 yX11_text yX11_text ∈ GW := inG 708 (by decide +kernel) (by decide +kernel)
theorem q_709 : Cond.code yX11_text cX11_text 3 (some .int) ∈ GW := inG 709 (by decide +kernel) (by decide +kernel)
theorem q_987 : Cond.methodLink RL 47 yX11_fault ∈ GW := inG 987 (by decide +kernel) (by decide +kernel)
theorem q_988 : Cond.instanceMethod yX11_fault ∈ GW := inG 988 (by decide +kernel) (by decide +kernel)
theorem q_989 : Cond.selects RX11 yX11_fault yX11_fault ∈ GW := inG 989 (by decide +kernel) (by decide +kernel)
theorem q_990 : Cond.code yX11_fault cX11_fault 2 (some .int) ∈ GW := inG 990 (by decide +kernel) (by decide +kernel)
theorem q_991 : Cond.methodLink RL 51 yX11_nights ∈ GW := inG 991 (by decide +kernel) (by decide +kernel)
theorem q_992 : Cond.instanceMethod yX11_nights ∈ GW := inG 992 (by decide +kernel) (by decide +kernel)
theorem q_993 : Cond.selects RX11 yX11_nights yX11_nights ∈ GW := inG 993 (by decide +kernel) (by decide +kernel)
theorem q_994 : Cond.code yX11_nights cX11_nights 4 (some .int) ∈ GW := inG 994 (by decide +kernel) (by decide +kernel)
theorem hdV_X10_tellOfAll : yX10_tellOfAll.cls = RX10 ∧ yX10_tellOfAll.cls ≠ "java/lang/invoke/MethodHandle" ∧ yX10_tellOfAll.cls ≠ "java/lang/invoke/VarHandle" ∧ (parseMethodDescriptor yX10_tellOfAll.desc).map (fun d => d.parameters.length) = some 2 := by decide +kernel
theorem hdV_X11_ask : yX11_ask.cls = RX11 ∧ yX11_ask.cls ≠ "java/lang/invoke/MethodHandle" ∧ yX11_ask.cls ≠ "java/lang/invoke/VarHandle" ∧ (parseMethodDescriptor yX11_ask.desc).map (fun d => d.parameters.length) = some 2 := by decide +kernel
theorem hdV_X11_been : yX11_been.cls = RX11 ∧ yX11_been.cls ≠ "java/lang/invoke/MethodHandle" ∧ yX11_been.cls ≠ "java/lang/invoke/VarHandle" ∧ (parseMethodDescriptor yX11_been.desc).map (fun d => d.parameters.length) = some 2 := by decide +kernel
theorem hdV_X11_best : yX11_best.cls = RX11 ∧ yX11_best.cls ≠ "java/lang/invoke/MethodHandle" ∧ yX11_best.cls ≠ "java/lang/invoke/VarHandle" ∧ (parseMethodDescriptor yX11_best.desc).map (fun d => d.parameters.length) = some 2 := by decide +kernel
theorem hdV_X11_book : yX11_book.cls = RX11 ∧ yX11_book.cls ≠ "java/lang/invoke/MethodHandle" ∧ yX11_book.cls ≠ "java/lang/invoke/VarHandle" ∧ (parseMethodDescriptor yX11_book.desc).map (fun d => d.parameters.length) = some 2 := by decide +kernel
theorem hdV_X11_clue : yX11_clue.cls = RX11 ∧ yX11_clue.cls ≠ "java/lang/invoke/MethodHandle" ∧ yX11_clue.cls ≠ "java/lang/invoke/VarHandle" ∧ (parseMethodDescriptor yX11_clue.desc).map (fun d => d.parameters.length) = some 2 := by decide +kernel
theorem hdV_X11_end : yX11_end.cls = RX11 ∧ yX11_end.cls ≠ "java/lang/invoke/MethodHandle" ∧ yX11_end.cls ≠ "java/lang/invoke/VarHandle" ∧ (parseMethodDescriptor yX11_end.desc).map (fun d => d.parameters.length) = some 1 := by decide +kernel
theorem hdV_X11_far : yX11_far.cls = RX11 ∧ yX11_far.cls ≠ "java/lang/invoke/MethodHandle" ∧ yX11_far.cls ≠ "java/lang/invoke/VarHandle" ∧ (parseMethodDescriptor yX11_far.desc).map (fun d => d.parameters.length) = some 2 := by decide +kernel
theorem hdV_X11_fault : yX11_fault.cls = RX11 ∧ yX11_fault.cls ≠ "java/lang/invoke/MethodHandle" ∧ yX11_fault.cls ≠ "java/lang/invoke/VarHandle" ∧ (parseMethodDescriptor yX11_fault.desc).map (fun d => d.parameters.length) = some 1 := by decide +kernel
theorem hdV_X11_feed : yX11_feed.cls = RX11 ∧ yX11_feed.cls ≠ "java/lang/invoke/MethodHandle" ∧ yX11_feed.cls ≠ "java/lang/invoke/VarHandle" ∧ (parseMethodDescriptor yX11_feed.desc).map (fun d => d.parameters.length) = some 5 := by decide +kernel
theorem hdV_X11_friends : yX11_friends.cls = RX11 ∧ yX11_friends.cls ≠ "java/lang/invoke/MethodHandle" ∧ yX11_friends.cls ≠ "java/lang/invoke/VarHandle" ∧ (parseMethodDescriptor yX11_friends.desc).map (fun d => d.parameters.length) = some 3 := by decide +kernel
theorem hdV_X11_house : yX11_house.cls = RX11 ∧ yX11_house.cls ≠ "java/lang/invoke/MethodHandle" ∧ yX11_house.cls ≠ "java/lang/invoke/VarHandle" ∧ (parseMethodDescriptor yX11_house.desc).map (fun d => d.parameters.length) = some 3 := by decide +kernel
theorem hdV_X11_image : yX11_image.cls = RX11 ∧ yX11_image.cls ≠ "java/lang/invoke/MethodHandle" ∧ yX11_image.cls ≠ "java/lang/invoke/VarHandle" ∧ (parseMethodDescriptor yX11_image.desc).map (fun d => d.parameters.length) = some 1 := by decide +kernel
theorem hdI_X11_init : yX11_init.cls ≠ "java/lang/invoke/MethodHandle" ∧ yX11_init.cls ≠ "java/lang/invoke/VarHandle" ∧ (parseMethodDescriptor yX11_init.desc).map (fun d => d.parameters.length) = some 0 := by decide +kernel
theorem hdV_X11_liars : yX11_liars.cls = RX11 ∧ yX11_liars.cls ≠ "java/lang/invoke/MethodHandle" ∧ yX11_liars.cls ≠ "java/lang/invoke/VarHandle" ∧ (parseMethodDescriptor yX11_liars.desc).map (fun d => d.parameters.length) = some 0 := by decide +kernel
theorem hdV_X11_look : yX11_look.cls = RX11 ∧ yX11_look.cls ≠ "java/lang/invoke/MethodHandle" ∧ yX11_look.cls ≠ "java/lang/invoke/VarHandle" ∧ (parseMethodDescriptor yX11_look.desc).map (fun d => d.parameters.length) = some 1 := by decide +kernel
theorem hdV_X11_mend : yX11_mend.cls = RX11 ∧ yX11_mend.cls ≠ "java/lang/invoke/MethodHandle" ∧ yX11_mend.cls ≠ "java/lang/invoke/VarHandle" ∧ (parseMethodDescriptor yX11_mend.desc).map (fun d => d.parameters.length) = some 1 := by decide +kernel
theorem hdV_X11_need : yX11_need.cls = RX11 ∧ yX11_need.cls ≠ "java/lang/invoke/MethodHandle" ∧ yX11_need.cls ≠ "java/lang/invoke/VarHandle" ∧ (parseMethodDescriptor yX11_need.desc).map (fun d => d.parameters.length) = some 2 := by decide +kernel
theorem hdV_X11_nights : yX11_nights.cls = RX11 ∧ yX11_nights.cls ≠ "java/lang/invoke/MethodHandle" ∧ yX11_nights.cls ≠ "java/lang/invoke/VarHandle" ∧ (parseMethodDescriptor yX11_nights.desc).map (fun d => d.parameters.length) = some 1 := by decide +kernel
theorem hdV_X11_of : yX11_of.cls = RX11 ∧ yX11_of.cls ≠ "java/lang/invoke/MethodHandle" ∧ yX11_of.cls ≠ "java/lang/invoke/VarHandle" ∧ (parseMethodDescriptor yX11_of.desc).map (fun d => d.parameters.length) = some 2 := by decide +kernel
theorem hdV_X11_plan : yX11_plan.cls = RX11 ∧ yX11_plan.cls ≠ "java/lang/invoke/MethodHandle" ∧ yX11_plan.cls ≠ "java/lang/invoke/VarHandle" ∧ (parseMethodDescriptor yX11_plan.desc).map (fun d => d.parameters.length) = some 2 := by decide +kernel
theorem hdV_X11_rooms : yX11_rooms.cls = RX11 ∧ yX11_rooms.cls ≠ "java/lang/invoke/MethodHandle" ∧ yX11_rooms.cls ≠ "java/lang/invoke/VarHandle" ∧ (parseMethodDescriptor yX11_rooms.desc).map (fun d => d.parameters.length) = some 1 := by decide +kernel
theorem hdV_X11_run : yX11_run.cls = RX11 ∧ yX11_run.cls ≠ "java/lang/invoke/MethodHandle" ∧ yX11_run.cls ≠ "java/lang/invoke/VarHandle" ∧ (parseMethodDescriptor yX11_run.desc).map (fun d => d.parameters.length) = some 2 := by decide +kernel
theorem hdV_X11_sale : yX11_sale.cls = RX11 ∧ yX11_sale.cls ≠ "java/lang/invoke/MethodHandle" ∧ yX11_sale.cls ≠ "java/lang/invoke/VarHandle" ∧ (parseMethodDescriptor yX11_sale.desc).map (fun d => d.parameters.length) = some 1 := by decide +kernel
theorem hdV_X11_set : yX11_set.cls = RX11 ∧ yX11_set.cls ≠ "java/lang/invoke/MethodHandle" ∧ yX11_set.cls ≠ "java/lang/invoke/VarHandle" ∧ (parseMethodDescriptor yX11_set.desc).map (fun d => d.parameters.length) = some 3 := by decide +kernel
theorem hdV_X11_state : yX11_state.cls = RX11 ∧ yX11_state.cls ≠ "java/lang/invoke/MethodHandle" ∧ yX11_state.cls ≠ "java/lang/invoke/VarHandle" ∧ (parseMethodDescriptor yX11_state.desc).map (fun d => d.parameters.length) = some 1 := by decide +kernel
theorem hdV_X11_sure : yX11_sure.cls = RX11 ∧ yX11_sure.cls ≠ "java/lang/invoke/MethodHandle" ∧ yX11_sure.cls ≠ "java/lang/invoke/VarHandle" ∧ (parseMethodDescriptor yX11_sure.desc).map (fun d => d.parameters.length) = some 3 := by decide +kernel
theorem hdV_X11_text : yX11_text.cls = RX11 ∧ yX11_text.cls ≠ "java/lang/invoke/MethodHandle" ∧ yX11_text.cls ≠ "java/lang/invoke/VarHandle" ∧ (parseMethodDescriptor yX11_text.desc).map (fun d => d.parameters.length) = some 1 := by decide +kernel
theorem hdV_X11_undo : yX11_undo.cls = RX11 ∧ yX11_undo.cls ≠ "java/lang/invoke/MethodHandle" ∧ yX11_undo.cls ≠ "java/lang/invoke/VarHandle" ∧ (parseMethodDescriptor yX11_undo.desc).map (fun d => d.parameters.length) = some 0 := by decide +kernel
theorem hdV_X11_ways : yX11_ways.cls = RX11 ∧ yX11_ways.cls ≠ "java/lang/invoke/MethodHandle" ∧ yX11_ways.cls ≠ "java/lang/invoke/VarHandle" ∧ (parseMethodDescriptor yX11_ways.desc).map (fun d => d.parameters.length) = some 1 := by decide +kernel
theorem hdV_X12_ask : yX12_ask.cls = RX12 ∧ yX12_ask.cls ≠ "java/lang/invoke/MethodHandle" ∧ yX12_ask.cls ≠ "java/lang/invoke/VarHandle" ∧ (parseMethodDescriptor yX12_ask.desc).map (fun d => d.parameters.length) = some 2 := by decide +kernel
theorem hdV_X12_been : yX12_been.cls = RX12 ∧ yX12_been.cls ≠ "java/lang/invoke/MethodHandle" ∧ yX12_been.cls ≠ "java/lang/invoke/VarHandle" ∧ (parseMethodDescriptor yX12_been.desc).map (fun d => d.parameters.length) = some 2 := by decide +kernel
theorem hdV_X12_best : yX12_best.cls = RX12 ∧ yX12_best.cls ≠ "java/lang/invoke/MethodHandle" ∧ yX12_best.cls ≠ "java/lang/invoke/VarHandle" ∧ (parseMethodDescriptor yX12_best.desc).map (fun d => d.parameters.length) = some 2 := by decide +kernel
theorem hdV_X12_book : yX12_book.cls = RX12 ∧ yX12_book.cls ≠ "java/lang/invoke/MethodHandle" ∧ yX12_book.cls ≠ "java/lang/invoke/VarHandle" ∧ (parseMethodDescriptor yX12_book.desc).map (fun d => d.parameters.length) = some 2 := by decide +kernel
theorem hdV_X12_clue : yX12_clue.cls = RX12 ∧ yX12_clue.cls ≠ "java/lang/invoke/MethodHandle" ∧ yX12_clue.cls ≠ "java/lang/invoke/VarHandle" ∧ (parseMethodDescriptor yX12_clue.desc).map (fun d => d.parameters.length) = some 2 := by decide +kernel
theorem hdV_X12_end : yX12_end.cls = RX12 ∧ yX12_end.cls ≠ "java/lang/invoke/MethodHandle" ∧ yX12_end.cls ≠ "java/lang/invoke/VarHandle" ∧ (parseMethodDescriptor yX12_end.desc).map (fun d => d.parameters.length) = some 1 := by decide +kernel
theorem hdV_X12_far : yX12_far.cls = RX12 ∧ yX12_far.cls ≠ "java/lang/invoke/MethodHandle" ∧ yX12_far.cls ≠ "java/lang/invoke/VarHandle" ∧ (parseMethodDescriptor yX12_far.desc).map (fun d => d.parameters.length) = some 2 := by decide +kernel
theorem hdV_X12_fault : yX12_fault.cls = RX12 ∧ yX12_fault.cls ≠ "java/lang/invoke/MethodHandle" ∧ yX12_fault.cls ≠ "java/lang/invoke/VarHandle" ∧ (parseMethodDescriptor yX12_fault.desc).map (fun d => d.parameters.length) = some 1 := by decide +kernel
theorem hdV_X12_feed : yX12_feed.cls = RX12 ∧ yX12_feed.cls ≠ "java/lang/invoke/MethodHandle" ∧ yX12_feed.cls ≠ "java/lang/invoke/VarHandle" ∧ (parseMethodDescriptor yX12_feed.desc).map (fun d => d.parameters.length) = some 5 := by decide +kernel
theorem hdV_X12_friends : yX12_friends.cls = RX12 ∧ yX12_friends.cls ≠ "java/lang/invoke/MethodHandle" ∧ yX12_friends.cls ≠ "java/lang/invoke/VarHandle" ∧ (parseMethodDescriptor yX12_friends.desc).map (fun d => d.parameters.length) = some 3 := by decide +kernel
theorem hdV_X12_house : yX12_house.cls = RX12 ∧ yX12_house.cls ≠ "java/lang/invoke/MethodHandle" ∧ yX12_house.cls ≠ "java/lang/invoke/VarHandle" ∧ (parseMethodDescriptor yX12_house.desc).map (fun d => d.parameters.length) = some 3 := by decide +kernel
theorem hdV_X12_image : yX12_image.cls = RX12 ∧ yX12_image.cls ≠ "java/lang/invoke/MethodHandle" ∧ yX12_image.cls ≠ "java/lang/invoke/VarHandle" ∧ (parseMethodDescriptor yX12_image.desc).map (fun d => d.parameters.length) = some 1 := by decide +kernel
theorem hdI_X12_init : yX12_init.cls ≠ "java/lang/invoke/MethodHandle" ∧ yX12_init.cls ≠ "java/lang/invoke/VarHandle" ∧ (parseMethodDescriptor yX12_init.desc).map (fun d => d.parameters.length) = some 0 := by decide +kernel
theorem hdV_X12_liars : yX12_liars.cls = RX12 ∧ yX12_liars.cls ≠ "java/lang/invoke/MethodHandle" ∧ yX12_liars.cls ≠ "java/lang/invoke/VarHandle" ∧ (parseMethodDescriptor yX12_liars.desc).map (fun d => d.parameters.length) = some 0 := by decide +kernel
theorem hdV_X12_look : yX12_look.cls = RX12 ∧ yX12_look.cls ≠ "java/lang/invoke/MethodHandle" ∧ yX12_look.cls ≠ "java/lang/invoke/VarHandle" ∧ (parseMethodDescriptor yX12_look.desc).map (fun d => d.parameters.length) = some 1 := by decide +kernel
theorem hdV_X12_mend : yX12_mend.cls = RX12 ∧ yX12_mend.cls ≠ "java/lang/invoke/MethodHandle" ∧ yX12_mend.cls ≠ "java/lang/invoke/VarHandle" ∧ (parseMethodDescriptor yX12_mend.desc).map (fun d => d.parameters.length) = some 1 := by decide +kernel
theorem hdV_X12_need : yX12_need.cls = RX12 ∧ yX12_need.cls ≠ "java/lang/invoke/MethodHandle" ∧ yX12_need.cls ≠ "java/lang/invoke/VarHandle" ∧ (parseMethodDescriptor yX12_need.desc).map (fun d => d.parameters.length) = some 2 := by decide +kernel
theorem hdV_X12_nights : yX12_nights.cls = RX12 ∧ yX12_nights.cls ≠ "java/lang/invoke/MethodHandle" ∧ yX12_nights.cls ≠ "java/lang/invoke/VarHandle" ∧ (parseMethodDescriptor yX12_nights.desc).map (fun d => d.parameters.length) = some 1 := by decide +kernel
theorem hdV_X12_of : yX12_of.cls = RX12 ∧ yX12_of.cls ≠ "java/lang/invoke/MethodHandle" ∧ yX12_of.cls ≠ "java/lang/invoke/VarHandle" ∧ (parseMethodDescriptor yX12_of.desc).map (fun d => d.parameters.length) = some 2 := by decide +kernel
theorem hdV_X12_plan : yX12_plan.cls = RX12 ∧ yX12_plan.cls ≠ "java/lang/invoke/MethodHandle" ∧ yX12_plan.cls ≠ "java/lang/invoke/VarHandle" ∧ (parseMethodDescriptor yX12_plan.desc).map (fun d => d.parameters.length) = some 2 := by decide +kernel
theorem hdV_X12_rooms : yX12_rooms.cls = RX12 ∧ yX12_rooms.cls ≠ "java/lang/invoke/MethodHandle" ∧ yX12_rooms.cls ≠ "java/lang/invoke/VarHandle" ∧ (parseMethodDescriptor yX12_rooms.desc).map (fun d => d.parameters.length) = some 1 := by decide +kernel
theorem hdV_X12_run : yX12_run.cls = RX12 ∧ yX12_run.cls ≠ "java/lang/invoke/MethodHandle" ∧ yX12_run.cls ≠ "java/lang/invoke/VarHandle" ∧ (parseMethodDescriptor yX12_run.desc).map (fun d => d.parameters.length) = some 2 := by decide +kernel
theorem hdV_X12_sale : yX12_sale.cls = RX12 ∧ yX12_sale.cls ≠ "java/lang/invoke/MethodHandle" ∧ yX12_sale.cls ≠ "java/lang/invoke/VarHandle" ∧ (parseMethodDescriptor yX12_sale.desc).map (fun d => d.parameters.length) = some 1 := by decide +kernel
theorem hdV_X12_set : yX12_set.cls = RX12 ∧ yX12_set.cls ≠ "java/lang/invoke/MethodHandle" ∧ yX12_set.cls ≠ "java/lang/invoke/VarHandle" ∧ (parseMethodDescriptor yX12_set.desc).map (fun d => d.parameters.length) = some 3 := by decide +kernel
theorem hdV_X12_state : yX12_state.cls = RX12 ∧ yX12_state.cls ≠ "java/lang/invoke/MethodHandle" ∧ yX12_state.cls ≠ "java/lang/invoke/VarHandle" ∧ (parseMethodDescriptor yX12_state.desc).map (fun d => d.parameters.length) = some 1 := by decide +kernel
theorem hdV_X12_sure : yX12_sure.cls = RX12 ∧ yX12_sure.cls ≠ "java/lang/invoke/MethodHandle" ∧ yX12_sure.cls ≠ "java/lang/invoke/VarHandle" ∧ (parseMethodDescriptor yX12_sure.desc).map (fun d => d.parameters.length) = some 3 := by decide +kernel
theorem hdV_X12_text : yX12_text.cls = RX12 ∧ yX12_text.cls ≠ "java/lang/invoke/MethodHandle" ∧ yX12_text.cls ≠ "java/lang/invoke/VarHandle" ∧ (parseMethodDescriptor yX12_text.desc).map (fun d => d.parameters.length) = some 1 := by decide +kernel
theorem hdV_X12_undo : yX12_undo.cls = RX12 ∧ yX12_undo.cls ≠ "java/lang/invoke/MethodHandle" ∧ yX12_undo.cls ≠ "java/lang/invoke/VarHandle" ∧ (parseMethodDescriptor yX12_undo.desc).map (fun d => d.parameters.length) = some 0 := by decide +kernel
theorem hdV_X12_ways : yX12_ways.cls = RX12 ∧ yX12_ways.cls ≠ "java/lang/invoke/MethodHandle" ∧ yX12_ways.cls ≠ "java/lang/invoke/VarHandle" ∧ (parseMethodDescriptor yX12_ways.desc).map (fun d => d.parameters.length) = some 1 := by decide +kernel
