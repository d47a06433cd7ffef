/-! How the law decodes. By program (wip/whole/gen/law.py). -/
theorem d_Law_law_0 : decode code 0 = .ok (.new 7, 3) := by decide +kernel
theorem d_Law_law_3 : decode code 3 = .ok (.dup, 1) := by decide +kernel
theorem d_Law_law_4 : decode code 4 = .ok (.aload_n 0, 1) := by decide +kernel
theorem d_Law_law_5 : decode code 5 = .ok (.iconst 0, 1) := by decide +kernel
theorem d_Law_law_6 : decode code 6 = .ok (.invokestatic 9, 3) := by decide +kernel
theorem d_Law_law_9 : decode code 9 = .ok (.invokespecial 15, 3) := by decide +kernel
theorem d_Law_law_12 : decode code 12 = .ok (.astore_n 1, 1) := by decide +kernel
theorem d_Law_law_13 : decode code 13 = .ok (.new 18, 3) := by decide +kernel
theorem d_Law_law_16 : decode code 16 = .ok (.dup, 1) := by decide +kernel
theorem d_Law_law_17 : decode code 17 = .ok (.aload_n 0, 1) := by decide +kernel
theorem d_Law_law_18 : decode code 18 = .ok (.iconst 0, 1) := by decide +kernel
theorem d_Law_law_19 : decode code 19 = .ok (.invokestatic 9, 3) := by decide +kernel
theorem d_Law_law_22 : decode code 22 = .ok (.invokespecial 20, 3) := by decide +kernel
theorem d_Law_law_25 : decode code 25 = .ok (.astore_n 2, 1) := by decide +kernel
theorem d_Law_law_26 : decode code 26 = .ok (.iconst 1, 1) := by decide +kernel
theorem d_Law_law_27 : decode code 27 = .ok (.istore_n 3, 1) := by decide +kernel
theorem d_Law_law_28 : decode code 28 = .ok (.iload_n 3, 1) := by decide +kernel
theorem d_Law_law_29 : decode code 29 = .ok (.aload_n 0, 1) := by decide +kernel
theorem d_Law_law_30 : decode code 30 = .ok (.arraylength, 1) := by decide +kernel
theorem d_Law_law_31 : decode code 31 = .ok (.iconst 4, 1) := by decide +kernel
theorem d_Law_law_32 : decode code 32 = .ok (.isub, 1) := by decide +kernel
theorem d_Law_law_33 : decode code 33 = .ok (.if_icmp .gt 742, 3) := by decide +kernel
theorem d_Law_law_36 : decode code 36 = .ok (.aload_n 0, 1) := by decide +kernel
theorem d_Law_law_37 : decode code 37 = .ok (.iload_n 3, 1) := by decide +kernel
theorem d_Law_law_38 : decode code 38 = .ok (.iaload, 1) := by decide +kernel
theorem d_Law_law_39 : decode code 39 = .ok (.bipush 31, 2) := by decide +kernel
theorem d_Law_law_41 : decode code 41 = .ok (.iand, 1) := by decide +kernel
theorem d_Law_law_42 : decode code 42 = .ok (.tableswitch 727 0 24 #[114, 127, 140, 163, 196, 239, 252, 263, 276, 309, 342, 375, 408, 431, 454, 487, 510, 553, 576, 609, 632, 655, 668, 681, 704], 114) := by decide +kernel
theorem d_Law_law_156 : decode code 156 = .ok (.aload_n 1, 1) := by decide +kernel
theorem d_Law_law_157 : decode code 157 = .ok (.invokevirtual 21, 3) := by decide +kernel
theorem d_Law_law_160 : decode code 160 = .ok (.aload_n 2, 1) := by decide +kernel
theorem d_Law_law_161 : decode code 161 = .ok (.invokevirtual 25, 3) := by decide +kernel
theorem d_Law_law_164 : decode code 164 = .ok (.if_icmp .eq 605, 3) := by decide +kernel
theorem d_Law_law_167 : decode code 167 = .ok (.iconst 0, 1) := by decide +kernel
theorem d_Law_law_168 : decode code 168 = .ok (.ireturn, 1) := by decide +kernel
theorem d_Law_law_169 : decode code 169 = .ok (.aload_n 1, 1) := by decide +kernel
theorem d_Law_law_170 : decode code 170 = .ok (.invokevirtual 26, 3) := by decide +kernel
theorem d_Law_law_173 : decode code 173 = .ok (.aload_n 2, 1) := by decide +kernel
theorem d_Law_law_174 : decode code 174 = .ok (.invokevirtual 29, 3) := by decide +kernel
theorem d_Law_law_177 : decode code 177 = .ok (.if_icmp .eq 592, 3) := by decide +kernel
theorem d_Law_law_180 : decode code 180 = .ok (.iconst 0, 1) := by decide +kernel
theorem d_Law_law_181 : decode code 181 = .ok (.ireturn, 1) := by decide +kernel
theorem d_Law_law_182 : decode code 182 = .ok (.aload_n 1, 1) := by decide +kernel
theorem d_Law_law_183 : decode code 183 = .ok (.aload_n 0, 1) := by decide +kernel
theorem d_Law_law_184 : decode code 184 = .ok (.iload_n 3, 1) := by decide +kernel
theorem d_Law_law_185 : decode code 185 = .ok (.iconst 1, 1) := by decide +kernel
theorem d_Law_law_186 : decode code 186 = .ok (.iadd, 1) := by decide +kernel
theorem d_Law_law_187 : decode code 187 = .ok (.iaload, 1) := by decide +kernel
theorem d_Law_law_188 : decode code 188 = .ok (.invokevirtual 30, 3) := by decide +kernel
theorem d_Law_law_191 : decode code 191 = .ok (.aload_n 2, 1) := by decide +kernel
theorem d_Law_law_192 : decode code 192 = .ok (.aload_n 0, 1) := by decide +kernel
theorem d_Law_law_193 : decode code 193 = .ok (.iload_n 3, 1) := by decide +kernel
theorem d_Law_law_194 : decode code 194 = .ok (.iconst 1, 1) := by decide +kernel
theorem d_Law_law_195 : decode code 195 = .ok (.iadd, 1) := by decide +kernel
theorem d_Law_law_196 : decode code 196 = .ok (.iaload, 1) := by decide +kernel
theorem d_Law_law_197 : decode code 197 = .ok (.invokevirtual 34, 3) := by decide +kernel
theorem d_Law_law_200 : decode code 200 = .ok (.if_icmp .eq 569, 3) := by decide +kernel
theorem d_Law_law_203 : decode code 203 = .ok (.iconst 0, 1) := by decide +kernel
theorem d_Law_law_204 : decode code 204 = .ok (.ireturn, 1) := by decide +kernel
theorem d_Law_law_205 : decode code 205 = .ok (.aload_n 1, 1) := by decide +kernel
theorem d_Law_law_206 : decode code 206 = .ok (.aload_n 0, 1) := by decide +kernel
theorem d_Law_law_207 : decode code 207 = .ok (.iload_n 3, 1) := by decide +kernel
theorem d_Law_law_208 : decode code 208 = .ok (.iconst 1, 1) := by decide +kernel
theorem d_Law_law_209 : decode code 209 = .ok (.iadd, 1) := by decide +kernel
theorem d_Law_law_210 : decode code 210 = .ok (.iaload, 1) := by decide +kernel
theorem d_Law_law_211 : decode code 211 = .ok (.aload_n 0, 1) := by decide +kernel
theorem d_Law_law_212 : decode code 212 = .ok (.iload_n 3, 1) := by decide +kernel
theorem d_Law_law_213 : decode code 213 = .ok (.iconst 2, 1) := by decide +kernel
theorem d_Law_law_214 : decode code 214 = .ok (.iadd, 1) := by decide +kernel
theorem d_Law_law_215 : decode code 215 = .ok (.iaload, 1) := by decide +kernel
theorem d_Law_law_216 : decode code 216 = .ok (.invokevirtual 35, 3) := by decide +kernel
theorem d_Law_law_219 : decode code 219 = .ok (.aload_n 2, 1) := by decide +kernel
theorem d_Law_law_220 : decode code 220 = .ok (.aload_n 0, 1) := by decide +kernel
theorem d_Law_law_221 : decode code 221 = .ok (.iload_n 3, 1) := by decide +kernel
theorem d_Law_law_222 : decode code 222 = .ok (.iconst 1, 1) := by decide +kernel
theorem d_Law_law_223 : decode code 223 = .ok (.iadd, 1) := by decide +kernel
theorem d_Law_law_224 : decode code 224 = .ok (.iaload, 1) := by decide +kernel
theorem d_Law_law_225 : decode code 225 = .ok (.aload_n 0, 1) := by decide +kernel
theorem d_Law_law_226 : decode code 226 = .ok (.iload_n 3, 1) := by decide +kernel
theorem d_Law_law_227 : decode code 227 = .ok (.iconst 2, 1) := by decide +kernel
theorem d_Law_law_228 : decode code 228 = .ok (.iadd, 1) := by decide +kernel
theorem d_Law_law_229 : decode code 229 = .ok (.iaload, 1) := by decide +kernel
theorem d_Law_law_230 : decode code 230 = .ok (.invokevirtual 39, 3) := by decide +kernel
theorem d_Law_law_233 : decode code 233 = .ok (.if_icmp .eq 536, 3) := by decide +kernel
theorem d_Law_law_236 : decode code 236 = .ok (.iconst 0, 1) := by decide +kernel
theorem d_Law_law_237 : decode code 237 = .ok (.ireturn, 1) := by decide +kernel
theorem d_Law_law_238 : decode code 238 = .ok (.aload_n 1, 1) := by decide +kernel
theorem d_Law_law_239 : decode code 239 = .ok (.aload_n 0, 1) := by decide +kernel
theorem d_Law_law_240 : decode code 240 = .ok (.iload_n 3, 1) := by decide +kernel
theorem d_Law_law_241 : decode code 241 = .ok (.iconst 1, 1) := by decide +kernel
theorem d_Law_law_242 : decode code 242 = .ok (.iadd, 1) := by decide +kernel
theorem d_Law_law_243 : decode code 243 = .ok (.iaload, 1) := by decide +kernel
theorem d_Law_law_244 : decode code 244 = .ok (.aload_n 0, 1) := by decide +kernel
theorem d_Law_law_245 : decode code 245 = .ok (.iload_n 3, 1) := by decide +kernel
theorem d_Law_law_246 : decode code 246 = .ok (.iconst 2, 1) := by decide +kernel
theorem d_Law_law_247 : decode code 247 = .ok (.iadd, 1) := by decide +kernel
theorem d_Law_law_248 : decode code 248 = .ok (.iaload, 1) := by decide +kernel
theorem d_Law_law_249 : decode code 249 = .ok (.aload_n 0, 1) := by decide +kernel
theorem d_Law_law_250 : decode code 250 = .ok (.iload_n 3, 1) := by decide +kernel
theorem d_Law_law_251 : decode code 251 = .ok (.iconst 3, 1) := by decide +kernel
theorem d_Law_law_252 : decode code 252 = .ok (.iadd, 1) := by decide +kernel
theorem d_Law_law_253 : decode code 253 = .ok (.iaload, 1) := by decide +kernel
theorem d_Law_law_254 : decode code 254 = .ok (.invokevirtual 40, 3) := by decide +kernel
theorem d_Law_law_257 : decode code 257 = .ok (.aload_n 2, 1) := by decide +kernel
theorem d_Law_law_258 : decode code 258 = .ok (.aload_n 0, 1) := by decide +kernel
theorem d_Law_law_259 : decode code 259 = .ok (.iload_n 3, 1) := by decide +kernel
theorem d_Law_law_260 : decode code 260 = .ok (.iconst 1, 1) := by decide +kernel
theorem d_Law_law_261 : decode code 261 = .ok (.iadd, 1) := by decide +kernel
theorem d_Law_law_262 : decode code 262 = .ok (.iaload, 1) := by decide +kernel
theorem d_Law_law_263 : decode code 263 = .ok (.aload_n 0, 1) := by decide +kernel
theorem d_Law_law_264 : decode code 264 = .ok (.iload_n 3, 1) := by decide +kernel
theorem d_Law_law_265 : decode code 265 = .ok (.iconst 2, 1) := by decide +kernel
theorem d_Law_law_266 : decode code 266 = .ok (.iadd, 1) := by decide +kernel
theorem d_Law_law_267 : decode code 267 = .ok (.iaload, 1) := by decide +kernel
theorem d_Law_law_268 : decode code 268 = .ok (.aload_n 0, 1) := by decide +kernel
theorem d_Law_law_269 : decode code 269 = .ok (.iload_n 3, 1) := by decide +kernel
theorem d_Law_law_270 : decode code 270 = .ok (.iconst 3, 1) := by decide +kernel
theorem d_Law_law_271 : decode code 271 = .ok (.iadd, 1) := by decide +kernel
theorem d_Law_law_272 : decode code 272 = .ok (.iaload, 1) := by decide +kernel
theorem d_Law_law_273 : decode code 273 = .ok (.invokevirtual 44, 3) := by decide +kernel
theorem d_Law_law_276 : decode code 276 = .ok (.if_icmp .eq 493, 3) := by decide +kernel
theorem d_Law_law_279 : decode code 279 = .ok (.iconst 0, 1) := by decide +kernel
theorem d_Law_law_280 : decode code 280 = .ok (.ireturn, 1) := by decide +kernel
theorem d_Law_law_281 : decode code 281 = .ok (.aload_n 1, 1) := by decide +kernel
theorem d_Law_law_282 : decode code 282 = .ok (.invokevirtual 45, 3) := by decide +kernel
theorem d_Law_law_285 : decode code 285 = .ok (.aload_n 2, 1) := by decide +kernel
theorem d_Law_law_286 : decode code 286 = .ok (.invokevirtual 49, 3) := by decide +kernel
theorem d_Law_law_289 : decode code 289 = .ok (.if_icmp .eq 480, 3) := by decide +kernel
theorem d_Law_law_292 : decode code 292 = .ok (.iconst 0, 1) := by decide +kernel
theorem d_Law_law_293 : decode code 293 = .ok (.ireturn, 1) := by decide +kernel
theorem d_Law_law_294 : decode code 294 = .ok (.aload_n 1, 1) := by decide +kernel
theorem d_Law_law_295 : decode code 295 = .ok (.invokevirtual 50, 3) := by decide +kernel
theorem d_Law_law_298 : decode code 298 = .ok (.aload_n 2, 1) := by decide +kernel
theorem d_Law_law_299 : decode code 299 = .ok (.invokevirtual 53, 3) := by decide +kernel
theorem d_Law_law_302 : decode code 302 = .ok (.goto 467, 3) := by decide +kernel
theorem d_Law_law_305 : decode code 305 = .ok (.aload_n 1, 1) := by decide +kernel
theorem d_Law_law_306 : decode code 306 = .ok (.invokevirtual 54, 3) := by decide +kernel
theorem d_Law_law_309 : decode code 309 = .ok (.aload_n 2, 1) := by decide +kernel
theorem d_Law_law_310 : decode code 310 = .ok (.invokevirtual 57, 3) := by decide +kernel
theorem d_Law_law_313 : decode code 313 = .ok (.if_icmp .eq 456, 3) := by decide +kernel
theorem d_Law_law_316 : decode code 316 = .ok (.iconst 0, 1) := by decide +kernel
theorem d_Law_law_317 : decode code 317 = .ok (.ireturn, 1) := by decide +kernel
theorem d_Law_law_318 : decode code 318 = .ok (.aload_n 1, 1) := by decide +kernel
theorem d_Law_law_319 : decode code 319 = .ok (.aload_n 0, 1) := by decide +kernel
theorem d_Law_law_320 : decode code 320 = .ok (.iload_n 3, 1) := by decide +kernel
theorem d_Law_law_321 : decode code 321 = .ok (.iconst 1, 1) := by decide +kernel
theorem d_Law_law_322 : decode code 322 = .ok (.iadd, 1) := by decide +kernel
theorem d_Law_law_323 : decode code 323 = .ok (.iaload, 1) := by decide +kernel
theorem d_Law_law_324 : decode code 324 = .ok (.aload_n 0, 1) := by decide +kernel
theorem d_Law_law_325 : decode code 325 = .ok (.iload_n 3, 1) := by decide +kernel
theorem d_Law_law_326 : decode code 326 = .ok (.iconst 2, 1) := by decide +kernel
theorem d_Law_law_327 : decode code 327 = .ok (.iadd, 1) := by decide +kernel
theorem d_Law_law_328 : decode code 328 = .ok (.iaload, 1) := by decide +kernel
theorem d_Law_law_329 : decode code 329 = .ok (.invokevirtual 58, 3) := by decide +kernel
theorem d_Law_law_332 : decode code 332 = .ok (.aload_n 2, 1) := by decide +kernel
theorem d_Law_law_333 : decode code 333 = .ok (.aload_n 0, 1) := by decide +kernel
theorem d_Law_law_334 : decode code 334 = .ok (.iload_n 3, 1) := by decide +kernel
theorem d_Law_law_335 : decode code 335 = .ok (.iconst 1, 1) := by decide +kernel
theorem d_Law_law_336 : decode code 336 = .ok (.iadd, 1) := by decide +kernel
theorem d_Law_law_337 : decode code 337 = .ok (.iaload, 1) := by decide +kernel
theorem d_Law_law_338 : decode code 338 = .ok (.aload_n 0, 1) := by decide +kernel
theorem d_Law_law_339 : decode code 339 = .ok (.iload_n 3, 1) := by decide +kernel
theorem d_Law_law_340 : decode code 340 = .ok (.iconst 2, 1) := by decide +kernel
theorem d_Law_law_341 : decode code 341 = .ok (.iadd, 1) := by decide +kernel
theorem d_Law_law_342 : decode code 342 = .ok (.iaload, 1) := by decide +kernel
theorem d_Law_law_343 : decode code 343 = .ok (.invokevirtual 62, 3) := by decide +kernel
theorem d_Law_law_346 : decode code 346 = .ok (.if_icmp .eq 423, 3) := by decide +kernel
theorem d_Law_law_349 : decode code 349 = .ok (.iconst 0, 1) := by decide +kernel
theorem d_Law_law_350 : decode code 350 = .ok (.ireturn, 1) := by decide +kernel
theorem d_Law_law_351 : decode code 351 = .ok (.aload_n 1, 1) := by decide +kernel
theorem d_Law_law_352 : decode code 352 = .ok (.aload_n 0, 1) := by decide +kernel
theorem d_Law_law_353 : decode code 353 = .ok (.iload_n 3, 1) := by decide +kernel
theorem d_Law_law_354 : decode code 354 = .ok (.iconst 1, 1) := by decide +kernel
theorem d_Law_law_355 : decode code 355 = .ok (.iadd, 1) := by decide +kernel
theorem d_Law_law_356 : decode code 356 = .ok (.iaload, 1) := by decide +kernel
theorem d_Law_law_357 : decode code 357 = .ok (.aload_n 0, 1) := by decide +kernel
theorem d_Law_law_358 : decode code 358 = .ok (.iload_n 3, 1) := by decide +kernel
theorem d_Law_law_359 : decode code 359 = .ok (.iconst 2, 1) := by decide +kernel
theorem d_Law_law_360 : decode code 360 = .ok (.iadd, 1) := by decide +kernel
theorem d_Law_law_361 : decode code 361 = .ok (.iaload, 1) := by decide +kernel
theorem d_Law_law_362 : decode code 362 = .ok (.invokevirtual 63, 3) := by decide +kernel
theorem d_Law_law_365 : decode code 365 = .ok (.aload_n 2, 1) := by decide +kernel
theorem d_Law_law_366 : decode code 366 = .ok (.aload_n 0, 1) := by decide +kernel
theorem d_Law_law_367 : decode code 367 = .ok (.iload_n 3, 1) := by decide +kernel
theorem d_Law_law_368 : decode code 368 = .ok (.iconst 1, 1) := by decide +kernel
theorem d_Law_law_369 : decode code 369 = .ok (.iadd, 1) := by decide +kernel
theorem d_Law_law_370 : decode code 370 = .ok (.iaload, 1) := by decide +kernel
theorem d_Law_law_371 : decode code 371 = .ok (.aload_n 0, 1) := by decide +kernel
theorem d_Law_law_372 : decode code 372 = .ok (.iload_n 3, 1) := by decide +kernel
theorem d_Law_law_373 : decode code 373 = .ok (.iconst 2, 1) := by decide +kernel
theorem d_Law_law_374 : decode code 374 = .ok (.iadd, 1) := by decide +kernel
theorem d_Law_law_375 : decode code 375 = .ok (.iaload, 1) := by decide +kernel
theorem d_Law_law_376 : decode code 376 = .ok (.invokevirtual 66, 3) := by decide +kernel
theorem d_Law_law_379 : decode code 379 = .ok (.if_icmp .eq 390, 3) := by decide +kernel
theorem d_Law_law_382 : decode code 382 = .ok (.iconst 0, 1) := by decide +kernel
theorem d_Law_law_383 : decode code 383 = .ok (.ireturn, 1) := by decide +kernel
theorem d_Law_law_384 : decode code 384 = .ok (.aload_n 1, 1) := by decide +kernel
theorem d_Law_law_385 : decode code 385 = .ok (.aload_n 0, 1) := by decide +kernel
theorem d_Law_law_386 : decode code 386 = .ok (.iload_n 3, 1) := by decide +kernel
theorem d_Law_law_387 : decode code 387 = .ok (.iconst 1, 1) := by decide +kernel
theorem d_Law_law_388 : decode code 388 = .ok (.iadd, 1) := by decide +kernel
theorem d_Law_law_389 : decode code 389 = .ok (.iaload, 1) := by decide +kernel
theorem d_Law_law_390 : decode code 390 = .ok (.aload_n 0, 1) := by decide +kernel
theorem d_Law_law_391 : decode code 391 = .ok (.iload_n 3, 1) := by decide +kernel
theorem d_Law_law_392 : decode code 392 = .ok (.iconst 2, 1) := by decide +kernel
theorem d_Law_law_393 : decode code 393 = .ok (.iadd, 1) := by decide +kernel
theorem d_Law_law_394 : decode code 394 = .ok (.iaload, 1) := by decide +kernel
theorem d_Law_law_395 : decode code 395 = .ok (.invokevirtual 67, 3) := by decide +kernel
theorem d_Law_law_398 : decode code 398 = .ok (.aload_n 2, 1) := by decide +kernel
theorem d_Law_law_399 : decode code 399 = .ok (.aload_n 0, 1) := by decide +kernel
theorem d_Law_law_400 : decode code 400 = .ok (.iload_n 3, 1) := by decide +kernel
theorem d_Law_law_401 : decode code 401 = .ok (.iconst 1, 1) := by decide +kernel
theorem d_Law_law_402 : decode code 402 = .ok (.iadd, 1) := by decide +kernel
theorem d_Law_law_403 : decode code 403 = .ok (.iaload, 1) := by decide +kernel
theorem d_Law_law_404 : decode code 404 = .ok (.aload_n 0, 1) := by decide +kernel
theorem d_Law_law_405 : decode code 405 = .ok (.iload_n 3, 1) := by decide +kernel
theorem d_Law_law_406 : decode code 406 = .ok (.iconst 2, 1) := by decide +kernel
theorem d_Law_law_407 : decode code 407 = .ok (.iadd, 1) := by decide +kernel
theorem d_Law_law_408 : decode code 408 = .ok (.iaload, 1) := by decide +kernel
theorem d_Law_law_409 : decode code 409 = .ok (.invokevirtual 70, 3) := by decide +kernel
theorem d_Law_law_412 : decode code 412 = .ok (.if_icmp .eq 357, 3) := by decide +kernel
theorem d_Law_law_415 : decode code 415 = .ok (.iconst 0, 1) := by decide +kernel
theorem d_Law_law_416 : decode code 416 = .ok (.ireturn, 1) := by decide +kernel
theorem d_Law_law_417 : decode code 417 = .ok (.aload_n 1, 1) := by decide +kernel
theorem d_Law_law_418 : decode code 418 = .ok (.aload_n 0, 1) := by decide +kernel
theorem d_Law_law_419 : decode code 419 = .ok (.iload_n 3, 1) := by decide +kernel
theorem d_Law_law_420 : decode code 420 = .ok (.iconst 1, 1) := by decide +kernel
theorem d_Law_law_421 : decode code 421 = .ok (.iadd, 1) := by decide +kernel
theorem d_Law_law_422 : decode code 422 = .ok (.iaload, 1) := by decide +kernel
theorem d_Law_law_423 : decode code 423 = .ok (.aload_n 0, 1) := by decide +kernel
theorem d_Law_law_424 : decode code 424 = .ok (.iload_n 3, 1) := by decide +kernel
theorem d_Law_law_425 : decode code 425 = .ok (.iconst 2, 1) := by decide +kernel
theorem d_Law_law_426 : decode code 426 = .ok (.iadd, 1) := by decide +kernel
theorem d_Law_law_427 : decode code 427 = .ok (.iaload, 1) := by decide +kernel
theorem d_Law_law_428 : decode code 428 = .ok (.invokevirtual 71, 3) := by decide +kernel
theorem d_Law_law_431 : decode code 431 = .ok (.aload_n 2, 1) := by decide +kernel
theorem d_Law_law_432 : decode code 432 = .ok (.aload_n 0, 1) := by decide +kernel
theorem d_Law_law_433 : decode code 433 = .ok (.iload_n 3, 1) := by decide +kernel
theorem d_Law_law_434 : decode code 434 = .ok (.iconst 1, 1) := by decide +kernel
theorem d_Law_law_435 : decode code 435 = .ok (.iadd, 1) := by decide +kernel
theorem d_Law_law_436 : decode code 436 = .ok (.iaload, 1) := by decide +kernel
theorem d_Law_law_437 : decode code 437 = .ok (.aload_n 0, 1) := by decide +kernel
theorem d_Law_law_438 : decode code 438 = .ok (.iload_n 3, 1) := by decide +kernel
theorem d_Law_law_439 : decode code 439 = .ok (.iconst 2, 1) := by decide +kernel
theorem d_Law_law_440 : decode code 440 = .ok (.iadd, 1) := by decide +kernel
theorem d_Law_law_441 : decode code 441 = .ok (.iaload, 1) := by decide +kernel
theorem d_Law_law_442 : decode code 442 = .ok (.invokevirtual 74, 3) := by decide +kernel
theorem d_Law_law_445 : decode code 445 = .ok (.if_icmp .eq 324, 3) := by decide +kernel
theorem d_Law_law_448 : decode code 448 = .ok (.iconst 0, 1) := by decide +kernel
theorem d_Law_law_449 : decode code 449 = .ok (.ireturn, 1) := by decide +kernel
theorem d_Law_law_450 : decode code 450 = .ok (.aload_n 1, 1) := by decide +kernel
theorem d_Law_law_451 : decode code 451 = .ok (.aload_n 0, 1) := by decide +kernel
theorem d_Law_law_452 : decode code 452 = .ok (.iload_n 3, 1) := by decide +kernel
theorem d_Law_law_453 : decode code 453 = .ok (.iconst 1, 1) := by decide +kernel
theorem d_Law_law_454 : decode code 454 = .ok (.iadd, 1) := by decide +kernel
theorem d_Law_law_455 : decode code 455 = .ok (.iaload, 1) := by decide +kernel
theorem d_Law_law_456 : decode code 456 = .ok (.invokevirtual 75, 3) := by decide +kernel
theorem d_Law_law_459 : decode code 459 = .ok (.aload_n 2, 1) := by decide +kernel
theorem d_Law_law_460 : decode code 460 = .ok (.aload_n 0, 1) := by decide +kernel
theorem d_Law_law_461 : decode code 461 = .ok (.iload_n 3, 1) := by decide +kernel
theorem d_Law_law_462 : decode code 462 = .ok (.iconst 1, 1) := by decide +kernel
theorem d_Law_law_463 : decode code 463 = .ok (.iadd, 1) := by decide +kernel
theorem d_Law_law_464 : decode code 464 = .ok (.iaload, 1) := by decide +kernel
theorem d_Law_law_465 : decode code 465 = .ok (.invokevirtual 78, 3) := by decide +kernel
theorem d_Law_law_468 : decode code 468 = .ok (.if_icmp .eq 301, 3) := by decide +kernel
theorem d_Law_law_471 : decode code 471 = .ok (.iconst 0, 1) := by decide +kernel
theorem d_Law_law_472 : decode code 472 = .ok (.ireturn, 1) := by decide +kernel
theorem d_Law_law_473 : decode code 473 = .ok (.aload_n 1, 1) := by decide +kernel
theorem d_Law_law_474 : decode code 474 = .ok (.aload_n 0, 1) := by decide +kernel
theorem d_Law_law_475 : decode code 475 = .ok (.iload_n 3, 1) := by decide +kernel
theorem d_Law_law_476 : decode code 476 = .ok (.iconst 1, 1) := by decide +kernel
theorem d_Law_law_477 : decode code 477 = .ok (.iadd, 1) := by decide +kernel
theorem d_Law_law_478 : decode code 478 = .ok (.iaload, 1) := by decide +kernel
theorem d_Law_law_479 : decode code 479 = .ok (.invokevirtual 79, 3) := by decide +kernel
theorem d_Law_law_482 : decode code 482 = .ok (.aload_n 2, 1) := by decide +kernel
theorem d_Law_law_483 : decode code 483 = .ok (.aload_n 0, 1) := by decide +kernel
theorem d_Law_law_484 : decode code 484 = .ok (.iload_n 3, 1) := by decide +kernel
theorem d_Law_law_485 : decode code 485 = .ok (.iconst 1, 1) := by decide +kernel
theorem d_Law_law_486 : decode code 486 = .ok (.iadd, 1) := by decide +kernel
theorem d_Law_law_487 : decode code 487 = .ok (.iaload, 1) := by decide +kernel
theorem d_Law_law_488 : decode code 488 = .ok (.invokevirtual 82, 3) := by decide +kernel
theorem d_Law_law_491 : decode code 491 = .ok (.if_icmp .eq 278, 3) := by decide +kernel
theorem d_Law_law_494 : decode code 494 = .ok (.iconst 0, 1) := by decide +kernel
theorem d_Law_law_495 : decode code 495 = .ok (.ireturn, 1) := by decide +kernel
theorem d_Law_law_496 : decode code 496 = .ok (.aload_n 1, 1) := by decide +kernel
theorem d_Law_law_497 : decode code 497 = .ok (.aload_n 0, 1) := by decide +kernel
theorem d_Law_law_498 : decode code 498 = .ok (.iload_n 3, 1) := by decide +kernel
theorem d_Law_law_499 : decode code 499 = .ok (.iconst 1, 1) := by decide +kernel
theorem d_Law_law_500 : decode code 500 = .ok (.iadd, 1) := by decide +kernel
theorem d_Law_law_501 : decode code 501 = .ok (.iaload, 1) := by decide +kernel
theorem d_Law_law_502 : decode code 502 = .ok (.aload_n 0, 1) := by decide +kernel
theorem d_Law_law_503 : decode code 503 = .ok (.iload_n 3, 1) := by decide +kernel
theorem d_Law_law_504 : decode code 504 = .ok (.iconst 2, 1) := by decide +kernel
theorem d_Law_law_505 : decode code 505 = .ok (.iadd, 1) := by decide +kernel
theorem d_Law_law_506 : decode code 506 = .ok (.iaload, 1) := by decide +kernel
theorem d_Law_law_507 : decode code 507 = .ok (.invokevirtual 83, 3) := by decide +kernel
theorem d_Law_law_510 : decode code 510 = .ok (.aload_n 2, 1) := by decide +kernel
theorem d_Law_law_511 : decode code 511 = .ok (.aload_n 0, 1) := by decide +kernel
theorem d_Law_law_512 : decode code 512 = .ok (.iload_n 3, 1) := by decide +kernel
theorem d_Law_law_513 : decode code 513 = .ok (.iconst 1, 1) := by decide +kernel
theorem d_Law_law_514 : decode code 514 = .ok (.iadd, 1) := by decide +kernel
theorem d_Law_law_515 : decode code 515 = .ok (.iaload, 1) := by decide +kernel
theorem d_Law_law_516 : decode code 516 = .ok (.aload_n 0, 1) := by decide +kernel
theorem d_Law_law_517 : decode code 517 = .ok (.iload_n 3, 1) := by decide +kernel
theorem d_Law_law_518 : decode code 518 = .ok (.iconst 2, 1) := by decide +kernel
theorem d_Law_law_519 : decode code 519 = .ok (.iadd, 1) := by decide +kernel
theorem d_Law_law_520 : decode code 520 = .ok (.iaload, 1) := by decide +kernel
theorem d_Law_law_521 : decode code 521 = .ok (.invokevirtual 86, 3) := by decide +kernel
theorem d_Law_law_524 : decode code 524 = .ok (.if_icmp .eq 245, 3) := by decide +kernel
theorem d_Law_law_527 : decode code 527 = .ok (.iconst 0, 1) := by decide +kernel
theorem d_Law_law_528 : decode code 528 = .ok (.ireturn, 1) := by decide +kernel
theorem d_Law_law_529 : decode code 529 = .ok (.aload_n 1, 1) := by decide +kernel
theorem d_Law_law_530 : decode code 530 = .ok (.aload_n 0, 1) := by decide +kernel
theorem d_Law_law_531 : decode code 531 = .ok (.iload_n 3, 1) := by decide +kernel
theorem d_Law_law_532 : decode code 532 = .ok (.iconst 1, 1) := by decide +kernel
theorem d_Law_law_533 : decode code 533 = .ok (.iadd, 1) := by decide +kernel
theorem d_Law_law_534 : decode code 534 = .ok (.iaload, 1) := by decide +kernel
theorem d_Law_law_535 : decode code 535 = .ok (.invokevirtual 87, 3) := by decide +kernel
theorem d_Law_law_538 : decode code 538 = .ok (.aload_n 2, 1) := by decide +kernel
theorem d_Law_law_539 : decode code 539 = .ok (.aload_n 0, 1) := by decide +kernel
theorem d_Law_law_540 : decode code 540 = .ok (.iload_n 3, 1) := by decide +kernel
theorem d_Law_law_541 : decode code 541 = .ok (.iconst 1, 1) := by decide +kernel
theorem d_Law_law_542 : decode code 542 = .ok (.iadd, 1) := by decide +kernel
theorem d_Law_law_543 : decode code 543 = .ok (.iaload, 1) := by decide +kernel
theorem d_Law_law_544 : decode code 544 = .ok (.invokevirtual 90, 3) := by decide +kernel
theorem d_Law_law_547 : decode code 547 = .ok (.if_icmp .eq 222, 3) := by decide +kernel
theorem d_Law_law_550 : decode code 550 = .ok (.iconst 0, 1) := by decide +kernel
theorem d_Law_law_551 : decode code 551 = .ok (.ireturn, 1) := by decide +kernel
theorem d_Law_law_552 : decode code 552 = .ok (.aload_n 1, 1) := by decide +kernel
theorem d_Law_law_553 : decode code 553 = .ok (.aload_n 0, 1) := by decide +kernel
theorem d_Law_law_554 : decode code 554 = .ok (.iload_n 3, 1) := by decide +kernel
theorem d_Law_law_555 : decode code 555 = .ok (.iconst 1, 1) := by decide +kernel
theorem d_Law_law_556 : decode code 556 = .ok (.iadd, 1) := by decide +kernel
theorem d_Law_law_557 : decode code 557 = .ok (.iaload, 1) := by decide +kernel
theorem d_Law_law_558 : decode code 558 = .ok (.aload_n 0, 1) := by decide +kernel
theorem d_Law_law_559 : decode code 559 = .ok (.iload_n 3, 1) := by decide +kernel
theorem d_Law_law_560 : decode code 560 = .ok (.iconst 2, 1) := by decide +kernel
theorem d_Law_law_561 : decode code 561 = .ok (.iadd, 1) := by decide +kernel
theorem d_Law_law_562 : decode code 562 = .ok (.iaload, 1) := by decide +kernel
theorem d_Law_law_563 : decode code 563 = .ok (.aload_n 0, 1) := by decide +kernel
theorem d_Law_law_564 : decode code 564 = .ok (.iload_n 3, 1) := by decide +kernel
theorem d_Law_law_565 : decode code 565 = .ok (.iconst 3, 1) := by decide +kernel
theorem d_Law_law_566 : decode code 566 = .ok (.iadd, 1) := by decide +kernel
theorem d_Law_law_567 : decode code 567 = .ok (.iaload, 1) := by decide +kernel
theorem d_Law_law_568 : decode code 568 = .ok (.invokevirtual 91, 3) := by decide +kernel
theorem d_Law_law_571 : decode code 571 = .ok (.aload_n 2, 1) := by decide +kernel
theorem d_Law_law_572 : decode code 572 = .ok (.aload_n 0, 1) := by decide +kernel
theorem d_Law_law_573 : decode code 573 = .ok (.iload_n 3, 1) := by decide +kernel
theorem d_Law_law_574 : decode code 574 = .ok (.iconst 1, 1) := by decide +kernel
theorem d_Law_law_575 : decode code 575 = .ok (.iadd, 1) := by decide +kernel
theorem d_Law_law_576 : decode code 576 = .ok (.iaload, 1) := by decide +kernel
theorem d_Law_law_577 : decode code 577 = .ok (.aload_n 0, 1) := by decide +kernel
theorem d_Law_law_578 : decode code 578 = .ok (.iload_n 3, 1) := by decide +kernel
theorem d_Law_law_579 : decode code 579 = .ok (.iconst 2, 1) := by decide +kernel
theorem d_Law_law_580 : decode code 580 = .ok (.iadd, 1) := by decide +kernel
theorem d_Law_law_581 : decode code 581 = .ok (.iaload, 1) := by decide +kernel
theorem d_Law_law_582 : decode code 582 = .ok (.aload_n 0, 1) := by decide +kernel
theorem d_Law_law_583 : decode code 583 = .ok (.iload_n 3, 1) := by decide +kernel
theorem d_Law_law_584 : decode code 584 = .ok (.iconst 3, 1) := by decide +kernel
theorem d_Law_law_585 : decode code 585 = .ok (.iadd, 1) := by decide +kernel
theorem d_Law_law_586 : decode code 586 = .ok (.iaload, 1) := by decide +kernel
theorem d_Law_law_587 : decode code 587 = .ok (.invokevirtual 95, 3) := by decide +kernel
theorem d_Law_law_590 : decode code 590 = .ok (.if_icmp .eq 179, 3) := by decide +kernel
theorem d_Law_law_593 : decode code 593 = .ok (.iconst 0, 1) := by decide +kernel
theorem d_Law_law_594 : decode code 594 = .ok (.ireturn, 1) := by decide +kernel
theorem d_Law_law_595 : decode code 595 = .ok (.aload_n 1, 1) := by decide +kernel
theorem d_Law_law_596 : decode code 596 = .ok (.aload_n 0, 1) := by decide +kernel
theorem d_Law_law_597 : decode code 597 = .ok (.iload_n 3, 1) := by decide +kernel
theorem d_Law_law_598 : decode code 598 = .ok (.iconst 1, 1) := by decide +kernel
theorem d_Law_law_599 : decode code 599 = .ok (.iadd, 1) := by decide +kernel
theorem d_Law_law_600 : decode code 600 = .ok (.iaload, 1) := by decide +kernel
theorem d_Law_law_601 : decode code 601 = .ok (.invokevirtual 96, 3) := by decide +kernel
theorem d_Law_law_604 : decode code 604 = .ok (.aload_n 2, 1) := by decide +kernel
theorem d_Law_law_605 : decode code 605 = .ok (.aload_n 0, 1) := by decide +kernel
theorem d_Law_law_606 : decode code 606 = .ok (.iload_n 3, 1) := by decide +kernel
theorem d_Law_law_607 : decode code 607 = .ok (.iconst 1, 1) := by decide +kernel
theorem d_Law_law_608 : decode code 608 = .ok (.iadd, 1) := by decide +kernel
theorem d_Law_law_609 : decode code 609 = .ok (.iaload, 1) := by decide +kernel
theorem d_Law_law_610 : decode code 610 = .ok (.invokevirtual 99, 3) := by decide +kernel
theorem d_Law_law_613 : decode code 613 = .ok (.if_icmp .eq 156, 3) := by decide +kernel
theorem d_Law_law_616 : decode code 616 = .ok (.iconst 0, 1) := by decide +kernel
theorem d_Law_law_617 : decode code 617 = .ok (.ireturn, 1) := by decide +kernel
theorem d_Law_law_618 : decode code 618 = .ok (.aload_n 1, 1) := by decide +kernel
theorem d_Law_law_619 : decode code 619 = .ok (.aload_n 0, 1) := by decide +kernel
theorem d_Law_law_620 : decode code 620 = .ok (.iload_n 3, 1) := by decide +kernel
theorem d_Law_law_621 : decode code 621 = .ok (.iconst 1, 1) := by decide +kernel
theorem d_Law_law_622 : decode code 622 = .ok (.iadd, 1) := by decide +kernel
theorem d_Law_law_623 : decode code 623 = .ok (.iaload, 1) := by decide +kernel
theorem d_Law_law_624 : decode code 624 = .ok (.aload_n 0, 1) := by decide +kernel
theorem d_Law_law_625 : decode code 625 = .ok (.iload_n 3, 1) := by decide +kernel
theorem d_Law_law_626 : decode code 626 = .ok (.iconst 2, 1) := by decide +kernel
theorem d_Law_law_627 : decode code 627 = .ok (.iadd, 1) := by decide +kernel
theorem d_Law_law_628 : decode code 628 = .ok (.iaload, 1) := by decide +kernel
theorem d_Law_law_629 : decode code 629 = .ok (.invokevirtual 100, 3) := by decide +kernel
theorem d_Law_law_632 : decode code 632 = .ok (.aload_n 2, 1) := by decide +kernel
theorem d_Law_law_633 : decode code 633 = .ok (.aload_n 0, 1) := by decide +kernel
theorem d_Law_law_634 : decode code 634 = .ok (.iload_n 3, 1) := by decide +kernel
theorem d_Law_law_635 : decode code 635 = .ok (.iconst 1, 1) := by decide +kernel
theorem d_Law_law_636 : decode code 636 = .ok (.iadd, 1) := by decide +kernel
theorem d_Law_law_637 : decode code 637 = .ok (.iaload, 1) := by decide +kernel
theorem d_Law_law_638 : decode code 638 = .ok (.aload_n 0, 1) := by decide +kernel
theorem d_Law_law_639 : decode code 639 = .ok (.iload_n 3, 1) := by decide +kernel
theorem d_Law_law_640 : decode code 640 = .ok (.iconst 2, 1) := by decide +kernel
theorem d_Law_law_641 : decode code 641 = .ok (.iadd, 1) := by decide +kernel
theorem d_Law_law_642 : decode code 642 = .ok (.iaload, 1) := by decide +kernel
theorem d_Law_law_643 : decode code 643 = .ok (.invokevirtual 103, 3) := by decide +kernel
theorem d_Law_law_646 : decode code 646 = .ok (.if_icmp .eq 123, 3) := by decide +kernel
theorem d_Law_law_649 : decode code 649 = .ok (.iconst 0, 1) := by decide +kernel
theorem d_Law_law_650 : decode code 650 = .ok (.ireturn, 1) := by decide +kernel
theorem d_Law_law_651 : decode code 651 = .ok (.aload_n 1, 1) := by decide +kernel
theorem d_Law_law_652 : decode code 652 = .ok (.aload_n 0, 1) := by decide +kernel
theorem d_Law_law_653 : decode code 653 = .ok (.iload_n 3, 1) := by decide +kernel
theorem d_Law_law_654 : decode code 654 = .ok (.iconst 1, 1) := by decide +kernel
theorem d_Law_law_655 : decode code 655 = .ok (.iadd, 1) := by decide +kernel
theorem d_Law_law_656 : decode code 656 = .ok (.iaload, 1) := by decide +kernel
theorem d_Law_law_657 : decode code 657 = .ok (.invokevirtual 104, 3) := by decide +kernel
theorem d_Law_law_660 : decode code 660 = .ok (.aload_n 2, 1) := by decide +kernel
theorem d_Law_law_661 : decode code 661 = .ok (.aload_n 0, 1) := by decide +kernel
theorem d_Law_law_662 : decode code 662 = .ok (.iload_n 3, 1) := by decide +kernel
theorem d_Law_law_663 : decode code 663 = .ok (.iconst 1, 1) := by decide +kernel
theorem d_Law_law_664 : decode code 664 = .ok (.iadd, 1) := by decide +kernel
theorem d_Law_law_665 : decode code 665 = .ok (.iaload, 1) := by decide +kernel
theorem d_Law_law_666 : decode code 666 = .ok (.invokevirtual 107, 3) := by decide +kernel
theorem d_Law_law_669 : decode code 669 = .ok (.if_icmp .eq 100, 3) := by decide +kernel
theorem d_Law_law_672 : decode code 672 = .ok (.iconst 0, 1) := by decide +kernel
theorem d_Law_law_673 : decode code 673 = .ok (.ireturn, 1) := by decide +kernel
theorem d_Law_law_674 : decode code 674 = .ok (.aload_n 1, 1) := by decide +kernel
theorem d_Law_law_675 : decode code 675 = .ok (.aload_n 0, 1) := by decide +kernel
theorem d_Law_law_676 : decode code 676 = .ok (.iload_n 3, 1) := by decide +kernel
theorem d_Law_law_677 : decode code 677 = .ok (.iconst 1, 1) := by decide +kernel
theorem d_Law_law_678 : decode code 678 = .ok (.iadd, 1) := by decide +kernel
theorem d_Law_law_679 : decode code 679 = .ok (.iaload, 1) := by decide +kernel
theorem d_Law_law_680 : decode code 680 = .ok (.invokevirtual 108, 3) := by decide +kernel
theorem d_Law_law_683 : decode code 683 = .ok (.aload_n 2, 1) := by decide +kernel
theorem d_Law_law_684 : decode code 684 = .ok (.aload_n 0, 1) := by decide +kernel
theorem d_Law_law_685 : decode code 685 = .ok (.iload_n 3, 1) := by decide +kernel
theorem d_Law_law_686 : decode code 686 = .ok (.iconst 1, 1) := by decide +kernel
theorem d_Law_law_687 : decode code 687 = .ok (.iadd, 1) := by decide +kernel
theorem d_Law_law_688 : decode code 688 = .ok (.iaload, 1) := by decide +kernel
theorem d_Law_law_689 : decode code 689 = .ok (.invokevirtual 111, 3) := by decide +kernel
theorem d_Law_law_692 : decode code 692 = .ok (.if_icmp .eq 77, 3) := by decide +kernel
theorem d_Law_law_695 : decode code 695 = .ok (.iconst 0, 1) := by decide +kernel
theorem d_Law_law_696 : decode code 696 = .ok (.ireturn, 1) := by decide +kernel
theorem d_Law_law_697 : decode code 697 = .ok (.aload_n 1, 1) := by decide +kernel
theorem d_Law_law_698 : decode code 698 = .ok (.invokevirtual 112, 3) := by decide +kernel
theorem d_Law_law_701 : decode code 701 = .ok (.aload_n 2, 1) := by decide +kernel
theorem d_Law_law_702 : decode code 702 = .ok (.invokevirtual 115, 3) := by decide +kernel
theorem d_Law_law_705 : decode code 705 = .ok (.if_icmp .eq 64, 3) := by decide +kernel
theorem d_Law_law_708 : decode code 708 = .ok (.iconst 0, 1) := by decide +kernel
theorem d_Law_law_709 : decode code 709 = .ok (.ireturn, 1) := by decide +kernel
theorem d_Law_law_710 : decode code 710 = .ok (.aload_n 1, 1) := by decide +kernel
theorem d_Law_law_711 : decode code 711 = .ok (.invokevirtual 116, 3) := by decide +kernel
theorem d_Law_law_714 : decode code 714 = .ok (.aload_n 2, 1) := by decide +kernel
theorem d_Law_law_715 : decode code 715 = .ok (.invokevirtual 119, 3) := by decide +kernel
theorem d_Law_law_718 : decode code 718 = .ok (.if_icmp .eq 51, 3) := by decide +kernel
theorem d_Law_law_721 : decode code 721 = .ok (.iconst 0, 1) := by decide +kernel
theorem d_Law_law_722 : decode code 722 = .ok (.ireturn, 1) := by decide +kernel
theorem d_Law_law_723 : decode code 723 = .ok (.aload_n 1, 1) := by decide +kernel
theorem d_Law_law_724 : decode code 724 = .ok (.aload_n 0, 1) := by decide +kernel
theorem d_Law_law_725 : decode code 725 = .ok (.iload_n 3, 1) := by decide +kernel
theorem d_Law_law_726 : decode code 726 = .ok (.iconst 1, 1) := by decide +kernel
theorem d_Law_law_727 : decode code 727 = .ok (.iadd, 1) := by decide +kernel
theorem d_Law_law_728 : decode code 728 = .ok (.iaload, 1) := by decide +kernel
theorem d_Law_law_729 : decode code 729 = .ok (.invokevirtual 120, 3) := by decide +kernel
theorem d_Law_law_732 : decode code 732 = .ok (.aload_n 2, 1) := by decide +kernel
theorem d_Law_law_733 : decode code 733 = .ok (.aload_n 0, 1) := by decide +kernel
theorem d_Law_law_734 : decode code 734 = .ok (.iload_n 3, 1) := by decide +kernel
theorem d_Law_law_735 : decode code 735 = .ok (.iconst 1, 1) := by decide +kernel
theorem d_Law_law_736 : decode code 736 = .ok (.iadd, 1) := by decide +kernel
theorem d_Law_law_737 : decode code 737 = .ok (.iaload, 1) := by decide +kernel
theorem d_Law_law_738 : decode code 738 = .ok (.invokevirtual 123, 3) := by decide +kernel
theorem d_Law_law_741 : decode code 741 = .ok (.if_icmp .eq 28, 3) := by decide +kernel
theorem d_Law_law_744 : decode code 744 = .ok (.iconst 0, 1) := by decide +kernel
theorem d_Law_law_745 : decode code 745 = .ok (.ireturn, 1) := by decide +kernel
theorem d_Law_law_746 : decode code 746 = .ok (.aload_n 1, 1) := by decide +kernel
theorem d_Law_law_747 : decode code 747 = .ok (.aload_n 0, 1) := by decide +kernel
theorem d_Law_law_748 : decode code 748 = .ok (.iload_n 3, 1) := by decide +kernel
theorem d_Law_law_749 : decode code 749 = .ok (.iconst 1, 1) := by decide +kernel
theorem d_Law_law_750 : decode code 750 = .ok (.iadd, 1) := by decide +kernel
theorem d_Law_law_751 : decode code 751 = .ok (.iaload, 1) := by decide +kernel
theorem d_Law_law_752 : decode code 752 = .ok (.invokevirtual 124, 3) := by decide +kernel
theorem d_Law_law_755 : decode code 755 = .ok (.aload_n 2, 1) := by decide +kernel
theorem d_Law_law_756 : decode code 756 = .ok (.aload_n 0, 1) := by decide +kernel
theorem d_Law_law_757 : decode code 757 = .ok (.iload_n 3, 1) := by decide +kernel
theorem d_Law_law_758 : decode code 758 = .ok (.iconst 1, 1) := by decide +kernel
theorem d_Law_law_759 : decode code 759 = .ok (.iadd, 1) := by decide +kernel
theorem d_Law_law_760 : decode code 760 = .ok (.iaload, 1) := by decide +kernel
theorem d_Law_law_761 : decode code 761 = .ok (.invokevirtual 127, 3) := by decide +kernel
theorem d_Law_law_764 : decode code 764 = .ok (.if_icmp .eq 5, 3) := by decide +kernel
theorem d_Law_law_767 : decode code 767 = .ok (.iconst 0, 1) := by decide +kernel
theorem d_Law_law_768 : decode code 768 = .ok (.ireturn, 1) := by decide +kernel
theorem d_Law_law_769 : decode code 769 = .ok (.iinc 3 4, 3) := by decide +kernel
theorem d_Law_law_772 : decode code 772 = .ok (.goto (-744), 3) := by decide +kernel
theorem d_Law_law_775 : decode code 775 = .ok (.iconst 1, 1) := by decide +kernel
theorem d_Law_law_776 : decode code 776 = .ok (.ireturn, 1) := by decide +kernel
theorem d_Law_cell_0 : decode b_Law_cell 0 = .ok (.iload_n 1, 1) := by decide +kernel
theorem d_Law_cell_1 : decode b_Law_cell 1 = .ok (.aload_n 0, 1) := by decide +kernel
theorem d_Law_cell_2 : decode b_Law_cell 2 = .ok (.arraylength, 1) := by decide +kernel
theorem d_Law_cell_3 : decode b_Law_cell 3 = .ok (.if_icmp .ge 9, 3) := by decide +kernel
theorem d_Law_cell_6 : decode b_Law_cell 6 = .ok (.aload_n 0, 1) := by decide +kernel
theorem d_Law_cell_7 : decode b_Law_cell 7 = .ok (.iload_n 1, 1) := by decide +kernel
theorem d_Law_cell_8 : decode b_Law_cell 8 = .ok (.iaload, 1) := by decide +kernel
theorem d_Law_cell_9 : decode b_Law_cell 9 = .ok (.goto 4, 3) := by decide +kernel
theorem d_Law_cell_12 : decode b_Law_cell 12 = .ok (.iconst 0, 1) := by decide +kernel
theorem d_Law_cell_13 : decode b_Law_cell 13 = .ok (.ireturn, 1) := by decide +kernel
