theorem dL_0 : decode cL_law 0 = .ok (.new 7, 3) := by decide +kernel
theorem dL_3 : decode cL_law 3 = .ok (.dup, 1) := by decide +kernel
theorem dL_4 : decode cL_law 4 = .ok (.invokespecial 9, 3) := by decide +kernel
theorem dL_7 : decode cL_law 7 = .ok (.astore_n 1, 1) := by decide +kernel
theorem dL_8 : decode cL_law 8 = .ok (.new 10, 3) := by decide +kernel
theorem dL_11 : decode cL_law 11 = .ok (.dup, 1) := by decide +kernel
theorem dL_12 : decode cL_law 12 = .ok (.invokespecial 12, 3) := by decide +kernel
theorem dL_15 : decode cL_law 15 = .ok (.astore_n 2, 1) := by decide +kernel
theorem dL_16 : decode cL_law 16 = .ok (.iconst 0, 1) := by decide +kernel
theorem dL_17 : decode cL_law 17 = .ok (.istore_n 3, 1) := by decide +kernel
theorem dL_18 : decode cL_law 18 = .ok (.iload_n 3, 1) := by decide +kernel
theorem dL_19 : decode cL_law 19 = .ok (.aload_n 0, 1) := by decide +kernel
theorem dL_20 : decode cL_law 20 = .ok (.arraylength, 1) := by decide +kernel
theorem dL_21 : decode cL_law 21 = .ok (.bipush 7, 2) := by decide +kernel
theorem dL_23 : decode cL_law 23 = .ok (.isub, 1) := by decide +kernel
theorem dL_24 : decode cL_law 24 = .ok (.if_icmp .gt 1128, 3) := by decide +kernel
theorem dL_27 : decode cL_law 27 = .ok (.aload_n 0, 1) := by decide +kernel
theorem dL_28 : decode cL_law 28 = .ok (.iload_n 3, 1) := by decide +kernel
theorem dL_29 : decode cL_law 29 = .ok (.iaload, 1) := by decide +kernel
theorem dL_30 : decode cL_law 30 = .ok (.bipush 31, 2) := by decide +kernel
theorem dL_32 : decode cL_law 32 = .ok (.iand, 1) := by decide +kernel
theorem dL_33 : decode cL_law 33 = .ok (.tableswitch 1113 0 27 #[127, 170, 213, 276, 299, 362, 375, 388, 401, 414, 437, 470, 503, 536, 611, 654, 697, 720, 783, 836, 889, 912, 935, 968, 1011, 1054, 1077, 1100], 127) := by decide +kernel
theorem dL_160 : decode cL_law 160 = .ok (.aload_n 1, 1) := by decide +kernel
theorem dL_161 : decode cL_law 161 = .ok (.aload_n 0, 1) := by decide +kernel
theorem dL_162 : decode cL_law 162 = .ok (.iload_n 3, 1) := by decide +kernel
theorem dL_163 : decode cL_law 163 = .ok (.iconst 1, 1) := by decide +kernel
theorem dL_164 : decode cL_law 164 = .ok (.iadd, 1) := by decide +kernel
theorem dL_165 : decode cL_law 165 = .ok (.iaload, 1) := by decide +kernel
theorem dL_166 : decode cL_law 166 = .ok (.aload_n 0, 1) := by decide +kernel
theorem dL_167 : decode cL_law 167 = .ok (.iload_n 3, 1) := by decide +kernel
theorem dL_168 : decode cL_law 168 = .ok (.iconst 2, 1) := by decide +kernel
theorem dL_169 : decode cL_law 169 = .ok (.iadd, 1) := by decide +kernel
theorem dL_170 : decode cL_law 170 = .ok (.iaload, 1) := by decide +kernel
theorem dL_171 : decode cL_law 171 = .ok (.aload_n 0, 1) := by decide +kernel
theorem dL_172 : decode cL_law 172 = .ok (.iload_n 3, 1) := by decide +kernel
theorem dL_173 : decode cL_law 173 = .ok (.iconst 3, 1) := by decide +kernel
theorem dL_174 : decode cL_law 174 = .ok (.iadd, 1) := by decide +kernel
theorem dL_175 : decode cL_law 175 = .ok (.iaload, 1) := by decide +kernel
theorem dL_176 : decode cL_law 176 = .ok (.invokevirtual 13, 3) := by decide +kernel
theorem dL_179 : decode cL_law 179 = .ok (.aload_n 2, 1) := by decide +kernel
theorem dL_180 : decode cL_law 180 = .ok (.aload_n 0, 1) := by decide +kernel
theorem dL_181 : decode cL_law 181 = .ok (.iload_n 3, 1) := by decide +kernel
theorem dL_182 : decode cL_law 182 = .ok (.iconst 1, 1) := by decide +kernel
theorem dL_183 : decode cL_law 183 = .ok (.iadd, 1) := by decide +kernel
theorem dL_184 : decode cL_law 184 = .ok (.iaload, 1) := by decide +kernel
theorem dL_185 : decode cL_law 185 = .ok (.aload_n 0, 1) := by decide +kernel
theorem dL_186 : decode cL_law 186 = .ok (.iload_n 3, 1) := by decide +kernel
theorem dL_187 : decode cL_law 187 = .ok (.iconst 2, 1) := by decide +kernel
theorem dL_188 : decode cL_law 188 = .ok (.iadd, 1) := by decide +kernel
theorem dL_189 : decode cL_law 189 = .ok (.iaload, 1) := by decide +kernel
theorem dL_190 : decode cL_law 190 = .ok (.aload_n 0, 1) := by decide +kernel
theorem dL_191 : decode cL_law 191 = .ok (.iload_n 3, 1) := by decide +kernel
theorem dL_192 : decode cL_law 192 = .ok (.iconst 3, 1) := by decide +kernel
theorem dL_193 : decode cL_law 193 = .ok (.iadd, 1) := by decide +kernel
theorem dL_194 : decode cL_law 194 = .ok (.iaload, 1) := by decide +kernel
theorem dL_195 : decode cL_law 195 = .ok (.invokevirtual 17, 3) := by decide +kernel
theorem dL_198 : decode cL_law 198 = .ok (.if_icmp .eq 948, 3) := by decide +kernel
theorem dL_201 : decode cL_law 201 = .ok (.iconst 0, 1) := by decide +kernel
theorem dL_202 : decode cL_law 202 = .ok (.ireturn, 1) := by decide +kernel
theorem dL_203 : decode cL_law 203 = .ok (.aload_n 1, 1) := by decide +kernel
theorem dL_204 : decode cL_law 204 = .ok (.aload_n 0, 1) := by decide +kernel
theorem dL_205 : decode cL_law 205 = .ok (.iload_n 3, 1) := by decide +kernel
theorem dL_206 : decode cL_law 206 = .ok (.iconst 1, 1) := by decide +kernel
theorem dL_207 : decode cL_law 207 = .ok (.iadd, 1) := by decide +kernel
theorem dL_208 : decode cL_law 208 = .ok (.iaload, 1) := by decide +kernel
theorem dL_209 : decode cL_law 209 = .ok (.aload_n 0, 1) := by decide +kernel
theorem dL_210 : decode cL_law 210 = .ok (.iload_n 3, 1) := by decide +kernel
theorem dL_211 : decode cL_law 211 = .ok (.iconst 2, 1) := by decide +kernel
theorem dL_212 : decode cL_law 212 = .ok (.iadd, 1) := by decide +kernel
theorem dL_213 : decode cL_law 213 = .ok (.iaload, 1) := by decide +kernel
theorem dL_214 : decode cL_law 214 = .ok (.aload_n 0, 1) := by decide +kernel
theorem dL_215 : decode cL_law 215 = .ok (.iload_n 3, 1) := by decide +kernel
theorem dL_216 : decode cL_law 216 = .ok (.iconst 3, 1) := by decide +kernel
theorem dL_217 : decode cL_law 217 = .ok (.iadd, 1) := by decide +kernel
theorem dL_218 : decode cL_law 218 = .ok (.iaload, 1) := by decide +kernel
theorem dL_219 : decode cL_law 219 = .ok (.invokevirtual 18, 3) := by decide +kernel
theorem dL_222 : decode cL_law 222 = .ok (.aload_n 2, 1) := by decide +kernel
theorem dL_223 : decode cL_law 223 = .ok (.aload_n 0, 1) := by decide +kernel
theorem dL_224 : decode cL_law 224 = .ok (.iload_n 3, 1) := by decide +kernel
theorem dL_225 : decode cL_law 225 = .ok (.iconst 1, 1) := by decide +kernel
theorem dL_226 : decode cL_law 226 = .ok (.iadd, 1) := by decide +kernel
theorem dL_227 : decode cL_law 227 = .ok (.iaload, 1) := by decide +kernel
theorem dL_228 : decode cL_law 228 = .ok (.aload_n 0, 1) := by decide +kernel
theorem dL_229 : decode cL_law 229 = .ok (.iload_n 3, 1) := by decide +kernel
theorem dL_230 : decode cL_law 230 = .ok (.iconst 2, 1) := by decide +kernel
theorem dL_231 : decode cL_law 231 = .ok (.iadd, 1) := by decide +kernel
theorem dL_232 : decode cL_law 232 = .ok (.iaload, 1) := by decide +kernel
theorem dL_233 : decode cL_law 233 = .ok (.aload_n 0, 1) := by decide +kernel
theorem dL_234 : decode cL_law 234 = .ok (.iload_n 3, 1) := by decide +kernel
theorem dL_235 : decode cL_law 235 = .ok (.iconst 3, 1) := by decide +kernel
theorem dL_236 : decode cL_law 236 = .ok (.iadd, 1) := by decide +kernel
theorem dL_237 : decode cL_law 237 = .ok (.iaload, 1) := by decide +kernel
theorem dL_238 : decode cL_law 238 = .ok (.invokevirtual 21, 3) := by decide +kernel
theorem dL_241 : decode cL_law 241 = .ok (.if_icmp .eq 905, 3) := by decide +kernel
theorem dL_244 : decode cL_law 244 = .ok (.iconst 0, 1) := by decide +kernel
theorem dL_245 : decode cL_law 245 = .ok (.ireturn, 1) := by decide +kernel
theorem dL_246 : decode cL_law 246 = .ok (.aload_n 1, 1) := by decide +kernel
theorem dL_247 : decode cL_law 247 = .ok (.aload_n 0, 1) := by decide +kernel
theorem dL_248 : decode cL_law 248 = .ok (.iload_n 3, 1) := by decide +kernel
theorem dL_249 : decode cL_law 249 = .ok (.iconst 1, 1) := by decide +kernel
theorem dL_250 : decode cL_law 250 = .ok (.iadd, 1) := by decide +kernel
theorem dL_251 : decode cL_law 251 = .ok (.iaload, 1) := by decide +kernel
theorem dL_252 : decode cL_law 252 = .ok (.aload_n 0, 1) := by decide +kernel
theorem dL_253 : decode cL_law 253 = .ok (.iload_n 3, 1) := by decide +kernel
theorem dL_254 : decode cL_law 254 = .ok (.iconst 2, 1) := by decide +kernel
theorem dL_255 : decode cL_law 255 = .ok (.iadd, 1) := by decide +kernel
theorem dL_256 : decode cL_law 256 = .ok (.iaload, 1) := by decide +kernel
theorem dL_257 : decode cL_law 257 = .ok (.aload_n 0, 1) := by decide +kernel
theorem dL_258 : decode cL_law 258 = .ok (.iload_n 3, 1) := by decide +kernel
theorem dL_259 : decode cL_law 259 = .ok (.iconst 3, 1) := by decide +kernel
theorem dL_260 : decode cL_law 260 = .ok (.iadd, 1) := by decide +kernel
theorem dL_261 : decode cL_law 261 = .ok (.iaload, 1) := by decide +kernel
theorem dL_262 : decode cL_law 262 = .ok (.aload_n 0, 1) := by decide +kernel
theorem dL_263 : decode cL_law 263 = .ok (.iload_n 3, 1) := by decide +kernel
theorem dL_264 : decode cL_law 264 = .ok (.iconst 4, 1) := by decide +kernel
theorem dL_265 : decode cL_law 265 = .ok (.iadd, 1) := by decide +kernel
theorem dL_266 : decode cL_law 266 = .ok (.iaload, 1) := by decide +kernel
theorem dL_267 : decode cL_law 267 = .ok (.aload_n 0, 1) := by decide +kernel
theorem dL_268 : decode cL_law 268 = .ok (.iload_n 3, 1) := by decide +kernel
theorem dL_269 : decode cL_law 269 = .ok (.iconst 5, 1) := by decide +kernel
theorem dL_270 : decode cL_law 270 = .ok (.iadd, 1) := by decide +kernel
theorem dL_271 : decode cL_law 271 = .ok (.iaload, 1) := by decide +kernel
theorem dL_272 : decode cL_law 272 = .ok (.invokevirtual 22, 3) := by decide +kernel
theorem dL_275 : decode cL_law 275 = .ok (.aload_n 2, 1) := by decide +kernel
theorem dL_276 : decode cL_law 276 = .ok (.aload_n 0, 1) := by decide +kernel
theorem dL_277 : decode cL_law 277 = .ok (.iload_n 3, 1) := by decide +kernel
theorem dL_278 : decode cL_law 278 = .ok (.iconst 1, 1) := by decide +kernel
theorem dL_279 : decode cL_law 279 = .ok (.iadd, 1) := by decide +kernel
theorem dL_280 : decode cL_law 280 = .ok (.iaload, 1) := by decide +kernel
theorem dL_281 : decode cL_law 281 = .ok (.aload_n 0, 1) := by decide +kernel
theorem dL_282 : decode cL_law 282 = .ok (.iload_n 3, 1) := by decide +kernel
theorem dL_283 : decode cL_law 283 = .ok (.iconst 2, 1) := by decide +kernel
theorem dL_284 : decode cL_law 284 = .ok (.iadd, 1) := by decide +kernel
theorem dL_285 : decode cL_law 285 = .ok (.iaload, 1) := by decide +kernel
theorem dL_286 : decode cL_law 286 = .ok (.aload_n 0, 1) := by decide +kernel
theorem dL_287 : decode cL_law 287 = .ok (.iload_n 3, 1) := by decide +kernel
theorem dL_288 : decode cL_law 288 = .ok (.iconst 3, 1) := by decide +kernel
theorem dL_289 : decode cL_law 289 = .ok (.iadd, 1) := by decide +kernel
theorem dL_290 : decode cL_law 290 = .ok (.iaload, 1) := by decide +kernel
theorem dL_291 : decode cL_law 291 = .ok (.aload_n 0, 1) := by decide +kernel
theorem dL_292 : decode cL_law 292 = .ok (.iload_n 3, 1) := by decide +kernel
theorem dL_293 : decode cL_law 293 = .ok (.iconst 4, 1) := by decide +kernel
theorem dL_294 : decode cL_law 294 = .ok (.iadd, 1) := by decide +kernel
theorem dL_295 : decode cL_law 295 = .ok (.iaload, 1) := by decide +kernel
theorem dL_296 : decode cL_law 296 = .ok (.aload_n 0, 1) := by decide +kernel
theorem dL_297 : decode cL_law 297 = .ok (.iload_n 3, 1) := by decide +kernel
theorem dL_298 : decode cL_law 298 = .ok (.iconst 5, 1) := by decide +kernel
theorem dL_299 : decode cL_law 299 = .ok (.iadd, 1) := by decide +kernel
theorem dL_300 : decode cL_law 300 = .ok (.iaload, 1) := by decide +kernel
theorem dL_301 : decode cL_law 301 = .ok (.invokevirtual 26, 3) := by decide +kernel
theorem dL_304 : decode cL_law 304 = .ok (.if_icmp .eq 842, 3) := by decide +kernel
theorem dL_307 : decode cL_law 307 = .ok (.iconst 0, 1) := by decide +kernel
theorem dL_308 : decode cL_law 308 = .ok (.ireturn, 1) := by decide +kernel
theorem dL_309 : decode cL_law 309 = .ok (.aload_n 1, 1) := by decide +kernel
theorem dL_310 : decode cL_law 310 = .ok (.aload_n 0, 1) := by decide +kernel
theorem dL_311 : decode cL_law 311 = .ok (.iload_n 3, 1) := by decide +kernel
theorem dL_312 : decode cL_law 312 = .ok (.iconst 1, 1) := by decide +kernel
theorem dL_313 : decode cL_law 313 = .ok (.iadd, 1) := by decide +kernel
theorem dL_314 : decode cL_law 314 = .ok (.iaload, 1) := by decide +kernel
theorem dL_315 : decode cL_law 315 = .ok (.invokevirtual 27, 3) := by decide +kernel
theorem dL_318 : decode cL_law 318 = .ok (.aload_n 2, 1) := by decide +kernel
theorem dL_319 : decode cL_law 319 = .ok (.aload_n 0, 1) := by decide +kernel
theorem dL_320 : decode cL_law 320 = .ok (.iload_n 3, 1) := by decide +kernel
theorem dL_321 : decode cL_law 321 = .ok (.iconst 1, 1) := by decide +kernel
theorem dL_322 : decode cL_law 322 = .ok (.iadd, 1) := by decide +kernel
theorem dL_323 : decode cL_law 323 = .ok (.iaload, 1) := by decide +kernel
theorem dL_324 : decode cL_law 324 = .ok (.invokevirtual 31, 3) := by decide +kernel
theorem dL_327 : decode cL_law 327 = .ok (.if_icmp .eq 819, 3) := by decide +kernel
theorem dL_330 : decode cL_law 330 = .ok (.iconst 0, 1) := by decide +kernel
theorem dL_331 : decode cL_law 331 = .ok (.ireturn, 1) := by decide +kernel
theorem dL_332 : decode cL_law 332 = .ok (.aload_n 1, 1) := by decide +kernel
theorem dL_333 : decode cL_law 333 = .ok (.aload_n 0, 1) := by decide +kernel
theorem dL_334 : decode cL_law 334 = .ok (.iload_n 3, 1) := by decide +kernel
theorem dL_335 : decode cL_law 335 = .ok (.iconst 1, 1) := by decide +kernel
theorem dL_336 : decode cL_law 336 = .ok (.iadd, 1) := by decide +kernel
theorem dL_337 : decode cL_law 337 = .ok (.iaload, 1) := by decide +kernel
theorem dL_338 : decode cL_law 338 = .ok (.i2l, 1) := by decide +kernel
theorem dL_339 : decode cL_law 339 = .ok (.bipush 32, 2) := by decide +kernel
theorem dL_341 : decode cL_law 341 = .ok (.lshl, 1) := by decide +kernel
theorem dL_342 : decode cL_law 342 = .ok (.aload_n 0, 1) := by decide +kernel
theorem dL_343 : decode cL_law 343 = .ok (.iload_n 3, 1) := by decide +kernel
theorem dL_344 : decode cL_law 344 = .ok (.iconst 2, 1) := by decide +kernel
theorem dL_345 : decode cL_law 345 = .ok (.iadd, 1) := by decide +kernel
theorem dL_346 : decode cL_law 346 = .ok (.iaload, 1) := by decide +kernel
theorem dL_347 : decode cL_law 347 = .ok (.i2l, 1) := by decide +kernel
theorem dL_348 : decode cL_law 348 = .ok (.ldc2_w 32, 3) := by decide +kernel
theorem dL_351 : decode cL_law 351 = .ok (.land, 1) := by decide +kernel
theorem dL_352 : decode cL_law 352 = .ok (.lor, 1) := by decide +kernel
theorem dL_353 : decode cL_law 353 = .ok (.aload_n 0, 1) := by decide +kernel
theorem dL_354 : decode cL_law 354 = .ok (.iload_n 3, 1) := by decide +kernel
theorem dL_355 : decode cL_law 355 = .ok (.iconst 3, 1) := by decide +kernel
theorem dL_356 : decode cL_law 356 = .ok (.iadd, 1) := by decide +kernel
theorem dL_357 : decode cL_law 357 = .ok (.iaload, 1) := by decide +kernel
theorem dL_358 : decode cL_law 358 = .ok (.invokevirtual 34, 3) := by decide +kernel
theorem dL_361 : decode cL_law 361 = .ok (.aload_n 2, 1) := by decide +kernel
theorem dL_362 : decode cL_law 362 = .ok (.aload_n 0, 1) := by decide +kernel
theorem dL_363 : decode cL_law 363 = .ok (.iload_n 3, 1) := by decide +kernel
theorem dL_364 : decode cL_law 364 = .ok (.iconst 1, 1) := by decide +kernel
theorem dL_365 : decode cL_law 365 = .ok (.iadd, 1) := by decide +kernel
theorem dL_366 : decode cL_law 366 = .ok (.iaload, 1) := by decide +kernel
theorem dL_367 : decode cL_law 367 = .ok (.i2l, 1) := by decide +kernel
theorem dL_368 : decode cL_law 368 = .ok (.bipush 32, 2) := by decide +kernel
theorem dL_370 : decode cL_law 370 = .ok (.lshl, 1) := by decide +kernel
theorem dL_371 : decode cL_law 371 = .ok (.aload_n 0, 1) := by decide +kernel
theorem dL_372 : decode cL_law 372 = .ok (.iload_n 3, 1) := by decide +kernel
theorem dL_373 : decode cL_law 373 = .ok (.iconst 2, 1) := by decide +kernel
theorem dL_374 : decode cL_law 374 = .ok (.iadd, 1) := by decide +kernel
theorem dL_375 : decode cL_law 375 = .ok (.iaload, 1) := by decide +kernel
theorem dL_376 : decode cL_law 376 = .ok (.i2l, 1) := by decide +kernel
theorem dL_377 : decode cL_law 377 = .ok (.ldc2_w 32, 3) := by decide +kernel
theorem dL_380 : decode cL_law 380 = .ok (.land, 1) := by decide +kernel
theorem dL_381 : decode cL_law 381 = .ok (.lor, 1) := by decide +kernel
theorem dL_382 : decode cL_law 382 = .ok (.aload_n 0, 1) := by decide +kernel
theorem dL_383 : decode cL_law 383 = .ok (.iload_n 3, 1) := by decide +kernel
theorem dL_384 : decode cL_law 384 = .ok (.iconst 3, 1) := by decide +kernel
theorem dL_385 : decode cL_law 385 = .ok (.iadd, 1) := by decide +kernel
theorem dL_386 : decode cL_law 386 = .ok (.iaload, 1) := by decide +kernel
theorem dL_387 : decode cL_law 387 = .ok (.invokevirtual 38, 3) := by decide +kernel
theorem dL_390 : decode cL_law 390 = .ok (.if_icmp .eq 756, 3) := by decide +kernel
theorem dL_393 : decode cL_law 393 = .ok (.iconst 0, 1) := by decide +kernel
theorem dL_394 : decode cL_law 394 = .ok (.ireturn, 1) := by decide +kernel
theorem dL_395 : decode cL_law 395 = .ok (.aload_n 1, 1) := by decide +kernel
theorem dL_396 : decode cL_law 396 = .ok (.invokevirtual 39, 3) := by decide +kernel
theorem dL_399 : decode cL_law 399 = .ok (.aload_n 2, 1) := by decide +kernel
theorem dL_400 : decode cL_law 400 = .ok (.invokevirtual 43, 3) := by decide +kernel
theorem dL_403 : decode cL_law 403 = .ok (.if_icmp .eq 743, 3) := by decide +kernel
theorem dL_406 : decode cL_law 406 = .ok (.iconst 0, 1) := by decide +kernel
theorem dL_407 : decode cL_law 407 = .ok (.ireturn, 1) := by decide +kernel
theorem dL_408 : decode cL_law 408 = .ok (.aload_n 1, 1) := by decide +kernel
theorem dL_409 : decode cL_law 409 = .ok (.invokevirtual 44, 3) := by decide +kernel
theorem dL_412 : decode cL_law 412 = .ok (.aload_n 2, 1) := by decide +kernel
theorem dL_413 : decode cL_law 413 = .ok (.invokevirtual 47, 3) := by decide +kernel
theorem dL_416 : decode cL_law 416 = .ok (.if_icmp .eq 730, 3) := by decide +kernel
theorem dL_419 : decode cL_law 419 = .ok (.iconst 0, 1) := by decide +kernel
theorem dL_420 : decode cL_law 420 = .ok (.ireturn, 1) := by decide +kernel
theorem dL_421 : decode cL_law 421 = .ok (.aload_n 1, 1) := by decide +kernel
theorem dL_422 : decode cL_law 422 = .ok (.invokevirtual 48, 3) := by decide +kernel
theorem dL_425 : decode cL_law 425 = .ok (.aload_n 2, 1) := by decide +kernel
theorem dL_426 : decode cL_law 426 = .ok (.invokevirtual 51, 3) := by decide +kernel
theorem dL_429 : decode cL_law 429 = .ok (.if_icmp .eq 717, 3) := by decide +kernel
theorem dL_432 : decode cL_law 432 = .ok (.iconst 0, 1) := by decide +kernel
theorem dL_433 : decode cL_law 433 = .ok (.ireturn, 1) := by decide +kernel
theorem dL_434 : decode cL_law 434 = .ok (.aload_n 1, 1) := by decide +kernel
theorem dL_435 : decode cL_law 435 = .ok (.invokevirtual 52, 3) := by decide +kernel
theorem dL_438 : decode cL_law 438 = .ok (.aload_n 2, 1) := by decide +kernel
theorem dL_439 : decode cL_law 439 = .ok (.invokevirtual 55, 3) := by decide +kernel
theorem dL_442 : decode cL_law 442 = .ok (.if_icmp .eq 704, 3) := by decide +kernel
theorem dL_445 : decode cL_law 445 = .ok (.iconst 0, 1) := by decide +kernel
theorem dL_446 : decode cL_law 446 = .ok (.ireturn, 1) := by decide +kernel
theorem dL_447 : decode cL_law 447 = .ok (.aload_n 1, 1) := by decide +kernel
theorem dL_448 : decode cL_law 448 = .ok (.aload_n 0, 1) := by decide +kernel
theorem dL_449 : decode cL_law 449 = .ok (.iload_n 3, 1) := by decide +kernel
theorem dL_450 : decode cL_law 450 = .ok (.iconst 1, 1) := by decide +kernel
theorem dL_451 : decode cL_law 451 = .ok (.iadd, 1) := by decide +kernel
theorem dL_452 : decode cL_law 452 = .ok (.iaload, 1) := by decide +kernel
theorem dL_453 : decode cL_law 453 = .ok (.invokevirtual 56, 3) := by decide +kernel
theorem dL_456 : decode cL_law 456 = .ok (.aload_n 2, 1) := by decide +kernel
theorem dL_457 : decode cL_law 457 = .ok (.aload_n 0, 1) := by decide +kernel
theorem dL_458 : decode cL_law 458 = .ok (.iload_n 3, 1) := by decide +kernel
theorem dL_459 : decode cL_law 459 = .ok (.iconst 1, 1) := by decide +kernel
theorem dL_460 : decode cL_law 460 = .ok (.iadd, 1) := by decide +kernel
theorem dL_461 : decode cL_law 461 = .ok (.iaload, 1) := by decide +kernel
theorem dL_462 : decode cL_law 462 = .ok (.invokevirtual 59, 3) := by decide +kernel
theorem dL_465 : decode cL_law 465 = .ok (.if_icmp .eq 681, 3) := by decide +kernel
theorem dL_468 : decode cL_law 468 = .ok (.iconst 0, 1) := by decide +kernel
theorem dL_469 : decode cL_law 469 = .ok (.ireturn, 1) := by decide +kernel
theorem dL_470 : decode cL_law 470 = .ok (.aload_n 1, 1) := by decide +kernel
theorem dL_471 : decode cL_law 471 = .ok (.aload_n 0, 1) := by decide +kernel
theorem dL_472 : decode cL_law 472 = .ok (.iload_n 3, 1) := by decide +kernel
theorem dL_473 : decode cL_law 473 = .ok (.iconst 1, 1) := by decide +kernel
theorem dL_474 : decode cL_law 474 = .ok (.iadd, 1) := by decide +kernel
theorem dL_475 : decode cL_law 475 = .ok (.iaload, 1) := by decide +kernel
theorem dL_476 : decode cL_law 476 = .ok (.aload_n 0, 1) := by decide +kernel
theorem dL_477 : decode cL_law 477 = .ok (.iload_n 3, 1) := by decide +kernel
theorem dL_478 : decode cL_law 478 = .ok (.iconst 2, 1) := by decide +kernel
theorem dL_479 : decode cL_law 479 = .ok (.iadd, 1) := by decide +kernel
theorem dL_480 : decode cL_law 480 = .ok (.iaload, 1) := by decide +kernel
theorem dL_481 : decode cL_law 481 = .ok (.invokevirtual 60, 3) := by decide +kernel
theorem dL_484 : decode cL_law 484 = .ok (.aload_n 2, 1) := by decide +kernel
theorem dL_485 : decode cL_law 485 = .ok (.aload_n 0, 1) := by decide +kernel
theorem dL_486 : decode cL_law 486 = .ok (.iload_n 3, 1) := by decide +kernel
theorem dL_487 : decode cL_law 487 = .ok (.iconst 1, 1) := by decide +kernel
theorem dL_488 : decode cL_law 488 = .ok (.iadd, 1) := by decide +kernel
theorem dL_489 : decode cL_law 489 = .ok (.iaload, 1) := by decide +kernel
theorem dL_490 : decode cL_law 490 = .ok (.aload_n 0, 1) := by decide +kernel
theorem dL_491 : decode cL_law 491 = .ok (.iload_n 3, 1) := by decide +kernel
theorem dL_492 : decode cL_law 492 = .ok (.iconst 2, 1) := by decide +kernel
theorem dL_493 : decode cL_law 493 = .ok (.iadd, 1) := by decide +kernel
theorem dL_494 : decode cL_law 494 = .ok (.iaload, 1) := by decide +kernel
theorem dL_495 : decode cL_law 495 = .ok (.invokevirtual 64, 3) := by decide +kernel
theorem dL_498 : decode cL_law 498 = .ok (.if_icmp .eq 648, 3) := by decide +kernel
theorem dL_501 : decode cL_law 501 = .ok (.iconst 0, 1) := by decide +kernel
theorem dL_502 : decode cL_law 502 = .ok (.ireturn, 1) := by decide +kernel
theorem dL_503 : decode cL_law 503 = .ok (.aload_n 1, 1) := by decide +kernel
theorem dL_504 : decode cL_law 504 = .ok (.aload_n 0, 1) := by decide +kernel
theorem dL_505 : decode cL_law 505 = .ok (.iload_n 3, 1) := by decide +kernel
theorem dL_506 : decode cL_law 506 = .ok (.iconst 1, 1) := by decide +kernel
theorem dL_507 : decode cL_law 507 = .ok (.iadd, 1) := by decide +kernel
theorem dL_508 : decode cL_law 508 = .ok (.iaload, 1) := by decide +kernel
theorem dL_509 : decode cL_law 509 = .ok (.aload_n 0, 1) := by decide +kernel
theorem dL_510 : decode cL_law 510 = .ok (.iload_n 3, 1) := by decide +kernel
theorem dL_511 : decode cL_law 511 = .ok (.iconst 2, 1) := by decide +kernel
theorem dL_512 : decode cL_law 512 = .ok (.iadd, 1) := by decide +kernel
theorem dL_513 : decode cL_law 513 = .ok (.iaload, 1) := by decide +kernel
theorem dL_514 : decode cL_law 514 = .ok (.invokevirtual 65, 3) := by decide +kernel
theorem dL_517 : decode cL_law 517 = .ok (.aload_n 2, 1) := by decide +kernel
theorem dL_518 : decode cL_law 518 = .ok (.aload_n 0, 1) := by decide +kernel
theorem dL_519 : decode cL_law 519 = .ok (.iload_n 3, 1) := by decide +kernel
theorem dL_520 : decode cL_law 520 = .ok (.iconst 1, 1) := by decide +kernel
theorem dL_521 : decode cL_law 521 = .ok (.iadd, 1) := by decide +kernel
theorem dL_522 : decode cL_law 522 = .ok (.iaload, 1) := by decide +kernel
theorem dL_523 : decode cL_law 523 = .ok (.aload_n 0, 1) := by decide +kernel
theorem dL_524 : decode cL_law 524 = .ok (.iload_n 3, 1) := by decide +kernel
theorem dL_525 : decode cL_law 525 = .ok (.iconst 2, 1) := by decide +kernel
theorem dL_526 : decode cL_law 526 = .ok (.iadd, 1) := by decide +kernel
theorem dL_527 : decode cL_law 527 = .ok (.iaload, 1) := by decide +kernel
theorem dL_528 : decode cL_law 528 = .ok (.invokevirtual 68, 3) := by decide +kernel
theorem dL_531 : decode cL_law 531 = .ok (.if_icmp .eq 615, 3) := by decide +kernel
theorem dL_534 : decode cL_law 534 = .ok (.iconst 0, 1) := by decide +kernel
theorem dL_535 : decode cL_law 535 = .ok (.ireturn, 1) := by decide +kernel
theorem dL_536 : decode cL_law 536 = .ok (.aload_n 1, 1) := by decide +kernel
theorem dL_537 : decode cL_law 537 = .ok (.aload_n 0, 1) := by decide +kernel
theorem dL_538 : decode cL_law 538 = .ok (.iload_n 3, 1) := by decide +kernel
theorem dL_539 : decode cL_law 539 = .ok (.iconst 1, 1) := by decide +kernel
theorem dL_540 : decode cL_law 540 = .ok (.iadd, 1) := by decide +kernel
theorem dL_541 : decode cL_law 541 = .ok (.iaload, 1) := by decide +kernel
theorem dL_542 : decode cL_law 542 = .ok (.aload_n 0, 1) := by decide +kernel
theorem dL_543 : decode cL_law 543 = .ok (.iload_n 3, 1) := by decide +kernel
theorem dL_544 : decode cL_law 544 = .ok (.iconst 2, 1) := by decide +kernel
theorem dL_545 : decode cL_law 545 = .ok (.iadd, 1) := by decide +kernel
theorem dL_546 : decode cL_law 546 = .ok (.iaload, 1) := by decide +kernel
theorem dL_547 : decode cL_law 547 = .ok (.invokevirtual 69, 3) := by decide +kernel
theorem dL_550 : decode cL_law 550 = .ok (.aload_n 2, 1) := by decide +kernel
theorem dL_551 : decode cL_law 551 = .ok (.aload_n 0, 1) := by decide +kernel
theorem dL_552 : decode cL_law 552 = .ok (.iload_n 3, 1) := by decide +kernel
theorem dL_553 : decode cL_law 553 = .ok (.iconst 1, 1) := by decide +kernel
theorem dL_554 : decode cL_law 554 = .ok (.iadd, 1) := by decide +kernel
theorem dL_555 : decode cL_law 555 = .ok (.iaload, 1) := by decide +kernel
theorem dL_556 : decode cL_law 556 = .ok (.aload_n 0, 1) := by decide +kernel
theorem dL_557 : decode cL_law 557 = .ok (.iload_n 3, 1) := by decide +kernel
theorem dL_558 : decode cL_law 558 = .ok (.iconst 2, 1) := by decide +kernel
theorem dL_559 : decode cL_law 559 = .ok (.iadd, 1) := by decide +kernel
theorem dL_560 : decode cL_law 560 = .ok (.iaload, 1) := by decide +kernel
theorem dL_561 : decode cL_law 561 = .ok (.invokevirtual 72, 3) := by decide +kernel
theorem dL_564 : decode cL_law 564 = .ok (.if_icmp .eq 582, 3) := by decide +kernel
theorem dL_567 : decode cL_law 567 = .ok (.iconst 0, 1) := by decide +kernel
theorem dL_568 : decode cL_law 568 = .ok (.ireturn, 1) := by decide +kernel
theorem dL_569 : decode cL_law 569 = .ok (.aload_n 1, 1) := by decide +kernel
theorem dL_570 : decode cL_law 570 = .ok (.aload_n 0, 1) := by decide +kernel
theorem dL_571 : decode cL_law 571 = .ok (.iload_n 3, 1) := by decide +kernel
theorem dL_572 : decode cL_law 572 = .ok (.iconst 1, 1) := by decide +kernel
theorem dL_573 : decode cL_law 573 = .ok (.iadd, 1) := by decide +kernel
theorem dL_574 : decode cL_law 574 = .ok (.iaload, 1) := by decide +kernel
theorem dL_575 : decode cL_law 575 = .ok (.aload_n 0, 1) := by decide +kernel
theorem dL_576 : decode cL_law 576 = .ok (.iload_n 3, 1) := by decide +kernel
theorem dL_577 : decode cL_law 577 = .ok (.iconst 2, 1) := by decide +kernel
theorem dL_578 : decode cL_law 578 = .ok (.iadd, 1) := by decide +kernel
theorem dL_579 : decode cL_law 579 = .ok (.iaload, 1) := by decide +kernel
theorem dL_580 : decode cL_law 580 = .ok (.aload_n 0, 1) := by decide +kernel
theorem dL_581 : decode cL_law 581 = .ok (.iload_n 3, 1) := by decide +kernel
theorem dL_582 : decode cL_law 582 = .ok (.iconst 3, 1) := by decide +kernel
theorem dL_583 : decode cL_law 583 = .ok (.iadd, 1) := by decide +kernel
theorem dL_584 : decode cL_law 584 = .ok (.iaload, 1) := by decide +kernel
theorem dL_585 : decode cL_law 585 = .ok (.aload_n 0, 1) := by decide +kernel
theorem dL_586 : decode cL_law 586 = .ok (.iload_n 3, 1) := by decide +kernel
theorem dL_587 : decode cL_law 587 = .ok (.iconst 4, 1) := by decide +kernel
theorem dL_588 : decode cL_law 588 = .ok (.iadd, 1) := by decide +kernel
theorem dL_589 : decode cL_law 589 = .ok (.iaload, 1) := by decide +kernel
theorem dL_590 : decode cL_law 590 = .ok (.aload_n 0, 1) := by decide +kernel
theorem dL_591 : decode cL_law 591 = .ok (.iload_n 3, 1) := by decide +kernel
theorem dL_592 : decode cL_law 592 = .ok (.iconst 5, 1) := by decide +kernel
theorem dL_593 : decode cL_law 593 = .ok (.iadd, 1) := by decide +kernel
theorem dL_594 : decode cL_law 594 = .ok (.iaload, 1) := by decide +kernel
theorem dL_595 : decode cL_law 595 = .ok (.aload_n 0, 1) := by decide +kernel
theorem dL_596 : decode cL_law 596 = .ok (.iload_n 3, 1) := by decide +kernel
theorem dL_597 : decode cL_law 597 = .ok (.bipush 6, 2) := by decide +kernel
theorem dL_599 : decode cL_law 599 = .ok (.iadd, 1) := by decide +kernel
theorem dL_600 : decode cL_law 600 = .ok (.iaload, 1) := by decide +kernel
theorem dL_601 : decode cL_law 601 = .ok (.invokevirtual 73, 3) := by decide +kernel
theorem dL_604 : decode cL_law 604 = .ok (.aload_n 2, 1) := by decide +kernel
theorem dL_605 : decode cL_law 605 = .ok (.aload_n 0, 1) := by decide +kernel
theorem dL_606 : decode cL_law 606 = .ok (.iload_n 3, 1) := by decide +kernel
theorem dL_607 : decode cL_law 607 = .ok (.iconst 1, 1) := by decide +kernel
theorem dL_608 : decode cL_law 608 = .ok (.iadd, 1) := by decide +kernel
theorem dL_609 : decode cL_law 609 = .ok (.iaload, 1) := by decide +kernel
theorem dL_610 : decode cL_law 610 = .ok (.aload_n 0, 1) := by decide +kernel
theorem dL_611 : decode cL_law 611 = .ok (.iload_n 3, 1) := by decide +kernel
theorem dL_612 : decode cL_law 612 = .ok (.iconst 2, 1) := by decide +kernel
theorem dL_613 : decode cL_law 613 = .ok (.iadd, 1) := by decide +kernel
theorem dL_614 : decode cL_law 614 = .ok (.iaload, 1) := by decide +kernel
theorem dL_615 : decode cL_law 615 = .ok (.aload_n 0, 1) := by decide +kernel
theorem dL_616 : decode cL_law 616 = .ok (.iload_n 3, 1) := by decide +kernel
theorem dL_617 : decode cL_law 617 = .ok (.iconst 3, 1) := by decide +kernel
theorem dL_618 : decode cL_law 618 = .ok (.iadd, 1) := by decide +kernel
theorem dL_619 : decode cL_law 619 = .ok (.iaload, 1) := by decide +kernel
theorem dL_620 : decode cL_law 620 = .ok (.aload_n 0, 1) := by decide +kernel
theorem dL_621 : decode cL_law 621 = .ok (.iload_n 3, 1) := by decide +kernel
theorem dL_622 : decode cL_law 622 = .ok (.iconst 4, 1) := by decide +kernel
theorem dL_623 : decode cL_law 623 = .ok (.iadd, 1) := by decide +kernel
theorem dL_624 : decode cL_law 624 = .ok (.iaload, 1) := by decide +kernel
theorem dL_625 : decode cL_law 625 = .ok (.aload_n 0, 1) := by decide +kernel
theorem dL_626 : decode cL_law 626 = .ok (.iload_n 3, 1) := by decide +kernel
theorem dL_627 : decode cL_law 627 = .ok (.iconst 5, 1) := by decide +kernel
theorem dL_628 : decode cL_law 628 = .ok (.iadd, 1) := by decide +kernel
theorem dL_629 : decode cL_law 629 = .ok (.iaload, 1) := by decide +kernel
theorem dL_630 : decode cL_law 630 = .ok (.aload_n 0, 1) := by decide +kernel
theorem dL_631 : decode cL_law 631 = .ok (.iload_n 3, 1) := by decide +kernel
theorem dL_632 : decode cL_law 632 = .ok (.bipush 6, 2) := by decide +kernel
theorem dL_634 : decode cL_law 634 = .ok (.iadd, 1) := by decide +kernel
theorem dL_635 : decode cL_law 635 = .ok (.iaload, 1) := by decide +kernel
theorem dL_636 : decode cL_law 636 = .ok (.invokevirtual 77, 3) := by decide +kernel
theorem dL_639 : decode cL_law 639 = .ok (.if_icmp .eq 507, 3) := by decide +kernel
theorem dL_642 : decode cL_law 642 = .ok (.iconst 0, 1) := by decide +kernel
theorem dL_643 : decode cL_law 643 = .ok (.ireturn, 1) := by decide +kernel
theorem dL_644 : decode cL_law 644 = .ok (.aload_n 1, 1) := by decide +kernel
theorem dL_645 : decode cL_law 645 = .ok (.aload_n 0, 1) := by decide +kernel
theorem dL_646 : decode cL_law 646 = .ok (.iload_n 3, 1) := by decide +kernel
theorem dL_647 : decode cL_law 647 = .ok (.iconst 1, 1) := by decide +kernel
theorem dL_648 : decode cL_law 648 = .ok (.iadd, 1) := by decide +kernel
theorem dL_649 : decode cL_law 649 = .ok (.iaload, 1) := by decide +kernel
theorem dL_650 : decode cL_law 650 = .ok (.aload_n 0, 1) := by decide +kernel
theorem dL_651 : decode cL_law 651 = .ok (.iload_n 3, 1) := by decide +kernel
theorem dL_652 : decode cL_law 652 = .ok (.iconst 2, 1) := by decide +kernel
theorem dL_653 : decode cL_law 653 = .ok (.iadd, 1) := by decide +kernel
theorem dL_654 : decode cL_law 654 = .ok (.iaload, 1) := by decide +kernel
theorem dL_655 : decode cL_law 655 = .ok (.aload_n 0, 1) := by decide +kernel
theorem dL_656 : decode cL_law 656 = .ok (.iload_n 3, 1) := by decide +kernel
theorem dL_657 : decode cL_law 657 = .ok (.iconst 3, 1) := by decide +kernel
theorem dL_658 : decode cL_law 658 = .ok (.iadd, 1) := by decide +kernel
theorem dL_659 : decode cL_law 659 = .ok (.iaload, 1) := by decide +kernel
theorem dL_660 : decode cL_law 660 = .ok (.invokevirtual 78, 3) := by decide +kernel
theorem dL_663 : decode cL_law 663 = .ok (.aload_n 2, 1) := by decide +kernel
theorem dL_664 : decode cL_law 664 = .ok (.aload_n 0, 1) := by decide +kernel
theorem dL_665 : decode cL_law 665 = .ok (.iload_n 3, 1) := by decide +kernel
theorem dL_666 : decode cL_law 666 = .ok (.iconst 1, 1) := by decide +kernel
theorem dL_667 : decode cL_law 667 = .ok (.iadd, 1) := by decide +kernel
theorem dL_668 : decode cL_law 668 = .ok (.iaload, 1) := by decide +kernel
theorem dL_669 : decode cL_law 669 = .ok (.aload_n 0, 1) := by decide +kernel
theorem dL_670 : decode cL_law 670 = .ok (.iload_n 3, 1) := by decide +kernel
theorem dL_671 : decode cL_law 671 = .ok (.iconst 2, 1) := by decide +kernel
theorem dL_672 : decode cL_law 672 = .ok (.iadd, 1) := by decide +kernel
theorem dL_673 : decode cL_law 673 = .ok (.iaload, 1) := by decide +kernel
theorem dL_674 : decode cL_law 674 = .ok (.aload_n 0, 1) := by decide +kernel
theorem dL_675 : decode cL_law 675 = .ok (.iload_n 3, 1) := by decide +kernel
theorem dL_676 : decode cL_law 676 = .ok (.iconst 3, 1) := by decide +kernel
theorem dL_677 : decode cL_law 677 = .ok (.iadd, 1) := by decide +kernel
theorem dL_678 : decode cL_law 678 = .ok (.iaload, 1) := by decide +kernel
theorem dL_679 : decode cL_law 679 = .ok (.invokevirtual 81, 3) := by decide +kernel
theorem dL_682 : decode cL_law 682 = .ok (.if_icmp .eq 464, 3) := by decide +kernel
theorem dL_685 : decode cL_law 685 = .ok (.iconst 0, 1) := by decide +kernel
theorem dL_686 : decode cL_law 686 = .ok (.ireturn, 1) := by decide +kernel
theorem dL_687 : decode cL_law 687 = .ok (.aload_n 1, 1) := by decide +kernel
theorem dL_688 : decode cL_law 688 = .ok (.aload_n 0, 1) := by decide +kernel
theorem dL_689 : decode cL_law 689 = .ok (.iload_n 3, 1) := by decide +kernel
theorem dL_690 : decode cL_law 690 = .ok (.iconst 1, 1) := by decide +kernel
theorem dL_691 : decode cL_law 691 = .ok (.iadd, 1) := by decide +kernel
theorem dL_692 : decode cL_law 692 = .ok (.iaload, 1) := by decide +kernel
theorem dL_693 : decode cL_law 693 = .ok (.aload_n 0, 1) := by decide +kernel
theorem dL_694 : decode cL_law 694 = .ok (.iload_n 3, 1) := by decide +kernel
theorem dL_695 : decode cL_law 695 = .ok (.iconst 2, 1) := by decide +kernel
theorem dL_696 : decode cL_law 696 = .ok (.iadd, 1) := by decide +kernel
theorem dL_697 : decode cL_law 697 = .ok (.iaload, 1) := by decide +kernel
theorem dL_698 : decode cL_law 698 = .ok (.aload_n 0, 1) := by decide +kernel
theorem dL_699 : decode cL_law 699 = .ok (.iload_n 3, 1) := by decide +kernel
theorem dL_700 : decode cL_law 700 = .ok (.iconst 3, 1) := by decide +kernel
theorem dL_701 : decode cL_law 701 = .ok (.iadd, 1) := by decide +kernel
theorem dL_702 : decode cL_law 702 = .ok (.iaload, 1) := by decide +kernel
theorem dL_703 : decode cL_law 703 = .ok (.invokevirtual 82, 3) := by decide +kernel
theorem dL_706 : decode cL_law 706 = .ok (.aload_n 2, 1) := by decide +kernel
theorem dL_707 : decode cL_law 707 = .ok (.aload_n 0, 1) := by decide +kernel
theorem dL_708 : decode cL_law 708 = .ok (.iload_n 3, 1) := by decide +kernel
theorem dL_709 : decode cL_law 709 = .ok (.iconst 1, 1) := by decide +kernel
theorem dL_710 : decode cL_law 710 = .ok (.iadd, 1) := by decide +kernel
theorem dL_711 : decode cL_law 711 = .ok (.iaload, 1) := by decide +kernel
theorem dL_712 : decode cL_law 712 = .ok (.aload_n 0, 1) := by decide +kernel
theorem dL_713 : decode cL_law 713 = .ok (.iload_n 3, 1) := by decide +kernel
theorem dL_714 : decode cL_law 714 = .ok (.iconst 2, 1) := by decide +kernel
theorem dL_715 : decode cL_law 715 = .ok (.iadd, 1) := by decide +kernel
theorem dL_716 : decode cL_law 716 = .ok (.iaload, 1) := by decide +kernel
theorem dL_717 : decode cL_law 717 = .ok (.aload_n 0, 1) := by decide +kernel
theorem dL_718 : decode cL_law 718 = .ok (.iload_n 3, 1) := by decide +kernel
theorem dL_719 : decode cL_law 719 = .ok (.iconst 3, 1) := by decide +kernel
theorem dL_720 : decode cL_law 720 = .ok (.iadd, 1) := by decide +kernel
theorem dL_721 : decode cL_law 721 = .ok (.iaload, 1) := by decide +kernel
theorem dL_722 : decode cL_law 722 = .ok (.invokevirtual 85, 3) := by decide +kernel
theorem dL_725 : decode cL_law 725 = .ok (.if_icmp .eq 421, 3) := by decide +kernel
theorem dL_728 : decode cL_law 728 = .ok (.iconst 0, 1) := by decide +kernel
theorem dL_729 : decode cL_law 729 = .ok (.ireturn, 1) := by decide +kernel
theorem dL_730 : decode cL_law 730 = .ok (.aload_n 1, 1) := by decide +kernel
theorem dL_731 : decode cL_law 731 = .ok (.aload_n 0, 1) := by decide +kernel
theorem dL_732 : decode cL_law 732 = .ok (.iload_n 3, 1) := by decide +kernel
theorem dL_733 : decode cL_law 733 = .ok (.iconst 1, 1) := by decide +kernel
theorem dL_734 : decode cL_law 734 = .ok (.iadd, 1) := by decide +kernel
theorem dL_735 : decode cL_law 735 = .ok (.iaload, 1) := by decide +kernel
theorem dL_736 : decode cL_law 736 = .ok (.invokevirtual 86, 3) := by decide +kernel
theorem dL_739 : decode cL_law 739 = .ok (.aload_n 2, 1) := by decide +kernel
theorem dL_740 : decode cL_law 740 = .ok (.aload_n 0, 1) := by decide +kernel
theorem dL_741 : decode cL_law 741 = .ok (.iload_n 3, 1) := by decide +kernel
theorem dL_742 : decode cL_law 742 = .ok (.iconst 1, 1) := by decide +kernel
theorem dL_743 : decode cL_law 743 = .ok (.iadd, 1) := by decide +kernel
theorem dL_744 : decode cL_law 744 = .ok (.iaload, 1) := by decide +kernel
theorem dL_745 : decode cL_law 745 = .ok (.invokevirtual 89, 3) := by decide +kernel
theorem dL_748 : decode cL_law 748 = .ok (.if_icmp .eq 398, 3) := by decide +kernel
theorem dL_751 : decode cL_law 751 = .ok (.iconst 0, 1) := by decide +kernel
theorem dL_752 : decode cL_law 752 = .ok (.ireturn, 1) := by decide +kernel
theorem dL_753 : decode cL_law 753 = .ok (.aload_n 1, 1) := by decide +kernel
theorem dL_754 : decode cL_law 754 = .ok (.aload_n 0, 1) := by decide +kernel
theorem dL_755 : decode cL_law 755 = .ok (.iload_n 3, 1) := by decide +kernel
theorem dL_756 : decode cL_law 756 = .ok (.iconst 1, 1) := by decide +kernel
theorem dL_757 : decode cL_law 757 = .ok (.iadd, 1) := by decide +kernel
theorem dL_758 : decode cL_law 758 = .ok (.iaload, 1) := by decide +kernel
theorem dL_759 : decode cL_law 759 = .ok (.aload_n 0, 1) := by decide +kernel
theorem dL_760 : decode cL_law 760 = .ok (.iload_n 3, 1) := by decide +kernel
theorem dL_761 : decode cL_law 761 = .ok (.iconst 2, 1) := by decide +kernel
theorem dL_762 : decode cL_law 762 = .ok (.iadd, 1) := by decide +kernel
theorem dL_763 : decode cL_law 763 = .ok (.iaload, 1) := by decide +kernel
theorem dL_764 : decode cL_law 764 = .ok (.aload_n 0, 1) := by decide +kernel
theorem dL_765 : decode cL_law 765 = .ok (.iload_n 3, 1) := by decide +kernel
theorem dL_766 : decode cL_law 766 = .ok (.iconst 3, 1) := by decide +kernel
theorem dL_767 : decode cL_law 767 = .ok (.iadd, 1) := by decide +kernel
theorem dL_768 : decode cL_law 768 = .ok (.iaload, 1) := by decide +kernel
theorem dL_769 : decode cL_law 769 = .ok (.aload_n 0, 1) := by decide +kernel
theorem dL_770 : decode cL_law 770 = .ok (.iload_n 3, 1) := by decide +kernel
theorem dL_771 : decode cL_law 771 = .ok (.iconst 4, 1) := by decide +kernel
theorem dL_772 : decode cL_law 772 = .ok (.iadd, 1) := by decide +kernel
theorem dL_773 : decode cL_law 773 = .ok (.iaload, 1) := by decide +kernel
theorem dL_774 : decode cL_law 774 = .ok (.aload_n 0, 1) := by decide +kernel
theorem dL_775 : decode cL_law 775 = .ok (.iload_n 3, 1) := by decide +kernel
theorem dL_776 : decode cL_law 776 = .ok (.iconst 5, 1) := by decide +kernel
theorem dL_777 : decode cL_law 777 = .ok (.iadd, 1) := by decide +kernel
theorem dL_778 : decode cL_law 778 = .ok (.iaload, 1) := by decide +kernel
theorem dL_779 : decode cL_law 779 = .ok (.invokevirtual 90, 3) := by decide +kernel
theorem dL_782 : decode cL_law 782 = .ok (.aload_n 2, 1) := by decide +kernel
theorem dL_783 : decode cL_law 783 = .ok (.aload_n 0, 1) := by decide +kernel
theorem dL_784 : decode cL_law 784 = .ok (.iload_n 3, 1) := by decide +kernel
theorem dL_785 : decode cL_law 785 = .ok (.iconst 1, 1) := by decide +kernel
theorem dL_786 : decode cL_law 786 = .ok (.iadd, 1) := by decide +kernel
theorem dL_787 : decode cL_law 787 = .ok (.iaload, 1) := by decide +kernel
theorem dL_788 : decode cL_law 788 = .ok (.aload_n 0, 1) := by decide +kernel
theorem dL_789 : decode cL_law 789 = .ok (.iload_n 3, 1) := by decide +kernel
theorem dL_790 : decode cL_law 790 = .ok (.iconst 2, 1) := by decide +kernel
theorem dL_791 : decode cL_law 791 = .ok (.iadd, 1) := by decide +kernel
theorem dL_792 : decode cL_law 792 = .ok (.iaload, 1) := by decide +kernel
theorem dL_793 : decode cL_law 793 = .ok (.aload_n 0, 1) := by decide +kernel
theorem dL_794 : decode cL_law 794 = .ok (.iload_n 3, 1) := by decide +kernel
theorem dL_795 : decode cL_law 795 = .ok (.iconst 3, 1) := by decide +kernel
theorem dL_796 : decode cL_law 796 = .ok (.iadd, 1) := by decide +kernel
theorem dL_797 : decode cL_law 797 = .ok (.iaload, 1) := by decide +kernel
theorem dL_798 : decode cL_law 798 = .ok (.aload_n 0, 1) := by decide +kernel
theorem dL_799 : decode cL_law 799 = .ok (.iload_n 3, 1) := by decide +kernel
theorem dL_800 : decode cL_law 800 = .ok (.iconst 4, 1) := by decide +kernel
theorem dL_801 : decode cL_law 801 = .ok (.iadd, 1) := by decide +kernel
theorem dL_802 : decode cL_law 802 = .ok (.iaload, 1) := by decide +kernel
theorem dL_803 : decode cL_law 803 = .ok (.aload_n 0, 1) := by decide +kernel
theorem dL_804 : decode cL_law 804 = .ok (.iload_n 3, 1) := by decide +kernel
theorem dL_805 : decode cL_law 805 = .ok (.iconst 5, 1) := by decide +kernel
theorem dL_806 : decode cL_law 806 = .ok (.iadd, 1) := by decide +kernel
theorem dL_807 : decode cL_law 807 = .ok (.iaload, 1) := by decide +kernel
theorem dL_808 : decode cL_law 808 = .ok (.invokevirtual 93, 3) := by decide +kernel
theorem dL_811 : decode cL_law 811 = .ok (.if_icmp .eq 335, 3) := by decide +kernel
theorem dL_814 : decode cL_law 814 = .ok (.iconst 0, 1) := by decide +kernel
theorem dL_815 : decode cL_law 815 = .ok (.ireturn, 1) := by decide +kernel
theorem dL_816 : decode cL_law 816 = .ok (.aload_n 1, 1) := by decide +kernel
theorem dL_817 : decode cL_law 817 = .ok (.aload_n 0, 1) := by decide +kernel
theorem dL_818 : decode cL_law 818 = .ok (.iload_n 3, 1) := by decide +kernel
theorem dL_819 : decode cL_law 819 = .ok (.iconst 1, 1) := by decide +kernel
theorem dL_820 : decode cL_law 820 = .ok (.iadd, 1) := by decide +kernel
theorem dL_821 : decode cL_law 821 = .ok (.iaload, 1) := by decide +kernel
theorem dL_822 : decode cL_law 822 = .ok (.aload_n 0, 1) := by decide +kernel
theorem dL_823 : decode cL_law 823 = .ok (.iload_n 3, 1) := by decide +kernel
theorem dL_824 : decode cL_law 824 = .ok (.iconst 2, 1) := by decide +kernel
theorem dL_825 : decode cL_law 825 = .ok (.iadd, 1) := by decide +kernel
theorem dL_826 : decode cL_law 826 = .ok (.iaload, 1) := by decide +kernel
theorem dL_827 : decode cL_law 827 = .ok (.aload_n 0, 1) := by decide +kernel
theorem dL_828 : decode cL_law 828 = .ok (.iload_n 3, 1) := by decide +kernel
theorem dL_829 : decode cL_law 829 = .ok (.iconst 3, 1) := by decide +kernel
theorem dL_830 : decode cL_law 830 = .ok (.iadd, 1) := by decide +kernel
theorem dL_831 : decode cL_law 831 = .ok (.iaload, 1) := by decide +kernel
theorem dL_832 : decode cL_law 832 = .ok (.aload_n 0, 1) := by decide +kernel
theorem dL_833 : decode cL_law 833 = .ok (.iload_n 3, 1) := by decide +kernel
theorem dL_834 : decode cL_law 834 = .ok (.iconst 4, 1) := by decide +kernel
theorem dL_835 : decode cL_law 835 = .ok (.iadd, 1) := by decide +kernel
theorem dL_836 : decode cL_law 836 = .ok (.iaload, 1) := by decide +kernel
theorem dL_837 : decode cL_law 837 = .ok (.invokevirtual 94, 3) := by decide +kernel
theorem dL_840 : decode cL_law 840 = .ok (.aload_n 2, 1) := by decide +kernel
theorem dL_841 : decode cL_law 841 = .ok (.aload_n 0, 1) := by decide +kernel
theorem dL_842 : decode cL_law 842 = .ok (.iload_n 3, 1) := by decide +kernel
theorem dL_843 : decode cL_law 843 = .ok (.iconst 1, 1) := by decide +kernel
theorem dL_844 : decode cL_law 844 = .ok (.iadd, 1) := by decide +kernel
theorem dL_845 : decode cL_law 845 = .ok (.iaload, 1) := by decide +kernel
theorem dL_846 : decode cL_law 846 = .ok (.aload_n 0, 1) := by decide +kernel
theorem dL_847 : decode cL_law 847 = .ok (.iload_n 3, 1) := by decide +kernel
theorem dL_848 : decode cL_law 848 = .ok (.iconst 2, 1) := by decide +kernel
theorem dL_849 : decode cL_law 849 = .ok (.iadd, 1) := by decide +kernel
theorem dL_850 : decode cL_law 850 = .ok (.iaload, 1) := by decide +kernel
theorem dL_851 : decode cL_law 851 = .ok (.aload_n 0, 1) := by decide +kernel
theorem dL_852 : decode cL_law 852 = .ok (.iload_n 3, 1) := by decide +kernel
theorem dL_853 : decode cL_law 853 = .ok (.iconst 3, 1) := by decide +kernel
theorem dL_854 : decode cL_law 854 = .ok (.iadd, 1) := by decide +kernel
theorem dL_855 : decode cL_law 855 = .ok (.iaload, 1) := by decide +kernel
theorem dL_856 : decode cL_law 856 = .ok (.aload_n 0, 1) := by decide +kernel
theorem dL_857 : decode cL_law 857 = .ok (.iload_n 3, 1) := by decide +kernel
theorem dL_858 : decode cL_law 858 = .ok (.iconst 4, 1) := by decide +kernel
theorem dL_859 : decode cL_law 859 = .ok (.iadd, 1) := by decide +kernel
theorem dL_860 : decode cL_law 860 = .ok (.iaload, 1) := by decide +kernel
theorem dL_861 : decode cL_law 861 = .ok (.invokevirtual 98, 3) := by decide +kernel
theorem dL_864 : decode cL_law 864 = .ok (.if_icmp .eq 282, 3) := by decide +kernel
theorem dL_867 : decode cL_law 867 = .ok (.iconst 0, 1) := by decide +kernel
theorem dL_868 : decode cL_law 868 = .ok (.ireturn, 1) := by decide +kernel
theorem dL_869 : decode cL_law 869 = .ok (.aload_n 1, 1) := by decide +kernel
theorem dL_870 : decode cL_law 870 = .ok (.aload_n 0, 1) := by decide +kernel
theorem dL_871 : decode cL_law 871 = .ok (.iload_n 3, 1) := by decide +kernel
theorem dL_872 : decode cL_law 872 = .ok (.iconst 1, 1) := by decide +kernel
theorem dL_873 : decode cL_law 873 = .ok (.iadd, 1) := by decide +kernel
theorem dL_874 : decode cL_law 874 = .ok (.iaload, 1) := by decide +kernel
theorem dL_875 : decode cL_law 875 = .ok (.aload_n 0, 1) := by decide +kernel
theorem dL_876 : decode cL_law 876 = .ok (.iload_n 3, 1) := by decide +kernel
theorem dL_877 : decode cL_law 877 = .ok (.iconst 2, 1) := by decide +kernel
theorem dL_878 : decode cL_law 878 = .ok (.iadd, 1) := by decide +kernel
theorem dL_879 : decode cL_law 879 = .ok (.iaload, 1) := by decide +kernel
theorem dL_880 : decode cL_law 880 = .ok (.aload_n 0, 1) := by decide +kernel
theorem dL_881 : decode cL_law 881 = .ok (.iload_n 3, 1) := by decide +kernel
theorem dL_882 : decode cL_law 882 = .ok (.iconst 3, 1) := by decide +kernel
theorem dL_883 : decode cL_law 883 = .ok (.iadd, 1) := by decide +kernel
theorem dL_884 : decode cL_law 884 = .ok (.iaload, 1) := by decide +kernel
theorem dL_885 : decode cL_law 885 = .ok (.aload_n 0, 1) := by decide +kernel
theorem dL_886 : decode cL_law 886 = .ok (.iload_n 3, 1) := by decide +kernel
theorem dL_887 : decode cL_law 887 = .ok (.iconst 4, 1) := by decide +kernel
theorem dL_888 : decode cL_law 888 = .ok (.iadd, 1) := by decide +kernel
theorem dL_889 : decode cL_law 889 = .ok (.iaload, 1) := by decide +kernel
theorem dL_890 : decode cL_law 890 = .ok (.invokevirtual 99, 3) := by decide +kernel
theorem dL_893 : decode cL_law 893 = .ok (.aload_n 2, 1) := by decide +kernel
theorem dL_894 : decode cL_law 894 = .ok (.aload_n 0, 1) := by decide +kernel
theorem dL_895 : decode cL_law 895 = .ok (.iload_n 3, 1) := by decide +kernel
theorem dL_896 : decode cL_law 896 = .ok (.iconst 1, 1) := by decide +kernel
theorem dL_897 : decode cL_law 897 = .ok (.iadd, 1) := by decide +kernel
theorem dL_898 : decode cL_law 898 = .ok (.iaload, 1) := by decide +kernel
theorem dL_899 : decode cL_law 899 = .ok (.aload_n 0, 1) := by decide +kernel
theorem dL_900 : decode cL_law 900 = .ok (.iload_n 3, 1) := by decide +kernel
theorem dL_901 : decode cL_law 901 = .ok (.iconst 2, 1) := by decide +kernel
theorem dL_902 : decode cL_law 902 = .ok (.iadd, 1) := by decide +kernel
theorem dL_903 : decode cL_law 903 = .ok (.iaload, 1) := by decide +kernel
theorem dL_904 : decode cL_law 904 = .ok (.aload_n 0, 1) := by decide +kernel
theorem dL_905 : decode cL_law 905 = .ok (.iload_n 3, 1) := by decide +kernel
theorem dL_906 : decode cL_law 906 = .ok (.iconst 3, 1) := by decide +kernel
theorem dL_907 : decode cL_law 907 = .ok (.iadd, 1) := by decide +kernel
theorem dL_908 : decode cL_law 908 = .ok (.iaload, 1) := by decide +kernel
theorem dL_909 : decode cL_law 909 = .ok (.aload_n 0, 1) := by decide +kernel
theorem dL_910 : decode cL_law 910 = .ok (.iload_n 3, 1) := by decide +kernel
theorem dL_911 : decode cL_law 911 = .ok (.iconst 4, 1) := by decide +kernel
theorem dL_912 : decode cL_law 912 = .ok (.iadd, 1) := by decide +kernel
theorem dL_913 : decode cL_law 913 = .ok (.iaload, 1) := by decide +kernel
theorem dL_914 : decode cL_law 914 = .ok (.invokevirtual 102, 3) := by decide +kernel
theorem dL_917 : decode cL_law 917 = .ok (.if_icmp .eq 229, 3) := by decide +kernel
theorem dL_920 : decode cL_law 920 = .ok (.iconst 0, 1) := by decide +kernel
theorem dL_921 : decode cL_law 921 = .ok (.ireturn, 1) := by decide +kernel
theorem dL_922 : decode cL_law 922 = .ok (.aload_n 1, 1) := by decide +kernel
theorem dL_923 : decode cL_law 923 = .ok (.aload_n 0, 1) := by decide +kernel
theorem dL_924 : decode cL_law 924 = .ok (.iload_n 3, 1) := by decide +kernel
theorem dL_925 : decode cL_law 925 = .ok (.iconst 1, 1) := by decide +kernel
theorem dL_926 : decode cL_law 926 = .ok (.iadd, 1) := by decide +kernel
theorem dL_927 : decode cL_law 927 = .ok (.iaload, 1) := by decide +kernel
theorem dL_928 : decode cL_law 928 = .ok (.invokevirtual 103, 3) := by decide +kernel
theorem dL_931 : decode cL_law 931 = .ok (.aload_n 2, 1) := by decide +kernel
theorem dL_932 : decode cL_law 932 = .ok (.aload_n 0, 1) := by decide +kernel
theorem dL_933 : decode cL_law 933 = .ok (.iload_n 3, 1) := by decide +kernel
theorem dL_934 : decode cL_law 934 = .ok (.iconst 1, 1) := by decide +kernel
theorem dL_935 : decode cL_law 935 = .ok (.iadd, 1) := by decide +kernel
theorem dL_936 : decode cL_law 936 = .ok (.iaload, 1) := by decide +kernel
theorem dL_937 : decode cL_law 937 = .ok (.invokevirtual 106, 3) := by decide +kernel
theorem dL_940 : decode cL_law 940 = .ok (.if_icmp .eq 206, 3) := by decide +kernel
theorem dL_943 : decode cL_law 943 = .ok (.iconst 0, 1) := by decide +kernel
theorem dL_944 : decode cL_law 944 = .ok (.ireturn, 1) := by decide +kernel
theorem dL_945 : decode cL_law 945 = .ok (.aload_n 1, 1) := by decide +kernel
theorem dL_946 : decode cL_law 946 = .ok (.aload_n 0, 1) := by decide +kernel
theorem dL_947 : decode cL_law 947 = .ok (.iload_n 3, 1) := by decide +kernel
theorem dL_948 : decode cL_law 948 = .ok (.iconst 1, 1) := by decide +kernel
theorem dL_949 : decode cL_law 949 = .ok (.iadd, 1) := by decide +kernel
theorem dL_950 : decode cL_law 950 = .ok (.iaload, 1) := by decide +kernel
theorem dL_951 : decode cL_law 951 = .ok (.invokevirtual 107, 3) := by decide +kernel
theorem dL_954 : decode cL_law 954 = .ok (.aload_n 2, 1) := by decide +kernel
theorem dL_955 : decode cL_law 955 = .ok (.aload_n 0, 1) := by decide +kernel
theorem dL_956 : decode cL_law 956 = .ok (.iload_n 3, 1) := by decide +kernel
theorem dL_957 : decode cL_law 957 = .ok (.iconst 1, 1) := by decide +kernel
theorem dL_958 : decode cL_law 958 = .ok (.iadd, 1) := by decide +kernel
theorem dL_959 : decode cL_law 959 = .ok (.iaload, 1) := by decide +kernel
theorem dL_960 : decode cL_law 960 = .ok (.invokevirtual 110, 3) := by decide +kernel
theorem dL_963 : decode cL_law 963 = .ok (.if_icmp .eq 183, 3) := by decide +kernel
theorem dL_966 : decode cL_law 966 = .ok (.iconst 0, 1) := by decide +kernel
theorem dL_967 : decode cL_law 967 = .ok (.ireturn, 1) := by decide +kernel
theorem dL_968 : decode cL_law 968 = .ok (.aload_n 1, 1) := by decide +kernel
theorem dL_969 : decode cL_law 969 = .ok (.aload_n 0, 1) := by decide +kernel
theorem dL_970 : decode cL_law 970 = .ok (.iload_n 3, 1) := by decide +kernel
theorem dL_971 : decode cL_law 971 = .ok (.iconst 1, 1) := by decide +kernel
theorem dL_972 : decode cL_law 972 = .ok (.iadd, 1) := by decide +kernel
theorem dL_973 : decode cL_law 973 = .ok (.iaload, 1) := by decide +kernel
theorem dL_974 : decode cL_law 974 = .ok (.aload_n 0, 1) := by decide +kernel
theorem dL_975 : decode cL_law 975 = .ok (.iload_n 3, 1) := by decide +kernel
theorem dL_976 : decode cL_law 976 = .ok (.iconst 2, 1) := by decide +kernel
theorem dL_977 : decode cL_law 977 = .ok (.iadd, 1) := by decide +kernel
theorem dL_978 : decode cL_law 978 = .ok (.iaload, 1) := by decide +kernel
theorem dL_979 : decode cL_law 979 = .ok (.invokevirtual 111, 3) := by decide +kernel
theorem dL_982 : decode cL_law 982 = .ok (.aload_n 2, 1) := by decide +kernel
theorem dL_983 : decode cL_law 983 = .ok (.aload_n 0, 1) := by decide +kernel
theorem dL_984 : decode cL_law 984 = .ok (.iload_n 3, 1) := by decide +kernel
theorem dL_985 : decode cL_law 985 = .ok (.iconst 1, 1) := by decide +kernel
theorem dL_986 : decode cL_law 986 = .ok (.iadd, 1) := by decide +kernel
theorem dL_987 : decode cL_law 987 = .ok (.iaload, 1) := by decide +kernel
theorem dL_988 : decode cL_law 988 = .ok (.aload_n 0, 1) := by decide +kernel
theorem dL_989 : decode cL_law 989 = .ok (.iload_n 3, 1) := by decide +kernel
theorem dL_990 : decode cL_law 990 = .ok (.iconst 2, 1) := by decide +kernel
theorem dL_991 : decode cL_law 991 = .ok (.iadd, 1) := by decide +kernel
theorem dL_992 : decode cL_law 992 = .ok (.iaload, 1) := by decide +kernel
theorem dL_993 : decode cL_law 993 = .ok (.invokevirtual 114, 3) := by decide +kernel
theorem dL_996 : decode cL_law 996 = .ok (.if_icmp .eq 150, 3) := by decide +kernel
theorem dL_999 : decode cL_law 999 = .ok (.iconst 0, 1) := by decide +kernel
theorem dL_1000 : decode cL_law 1000 = .ok (.ireturn, 1) := by decide +kernel
theorem dL_1001 : decode cL_law 1001 = .ok (.aload_n 1, 1) := by decide +kernel
theorem dL_1002 : decode cL_law 1002 = .ok (.aload_n 0, 1) := by decide +kernel
theorem dL_1003 : decode cL_law 1003 = .ok (.iload_n 3, 1) := by decide +kernel
theorem dL_1004 : decode cL_law 1004 = .ok (.iconst 1, 1) := by decide +kernel
theorem dL_1005 : decode cL_law 1005 = .ok (.iadd, 1) := by decide +kernel
theorem dL_1006 : decode cL_law 1006 = .ok (.iaload, 1) := by decide +kernel
theorem dL_1007 : decode cL_law 1007 = .ok (.aload_n 0, 1) := by decide +kernel
theorem dL_1008 : decode cL_law 1008 = .ok (.iload_n 3, 1) := by decide +kernel
theorem dL_1009 : decode cL_law 1009 = .ok (.iconst 2, 1) := by decide +kernel
theorem dL_1010 : decode cL_law 1010 = .ok (.iadd, 1) := by decide +kernel
theorem dL_1011 : decode cL_law 1011 = .ok (.iaload, 1) := by decide +kernel
theorem dL_1012 : decode cL_law 1012 = .ok (.aload_n 0, 1) := by decide +kernel
theorem dL_1013 : decode cL_law 1013 = .ok (.iload_n 3, 1) := by decide +kernel
theorem dL_1014 : decode cL_law 1014 = .ok (.iconst 3, 1) := by decide +kernel
theorem dL_1015 : decode cL_law 1015 = .ok (.iadd, 1) := by decide +kernel
theorem dL_1016 : decode cL_law 1016 = .ok (.iaload, 1) := by decide +kernel
theorem dL_1017 : decode cL_law 1017 = .ok (.invokevirtual 115, 3) := by decide +kernel
theorem dL_1020 : decode cL_law 1020 = .ok (.aload_n 2, 1) := by decide +kernel
theorem dL_1021 : decode cL_law 1021 = .ok (.aload_n 0, 1) := by decide +kernel
theorem dL_1022 : decode cL_law 1022 = .ok (.iload_n 3, 1) := by decide +kernel
theorem dL_1023 : decode cL_law 1023 = .ok (.iconst 1, 1) := by decide +kernel
theorem dL_1024 : decode cL_law 1024 = .ok (.iadd, 1) := by decide +kernel
theorem dL_1025 : decode cL_law 1025 = .ok (.iaload, 1) := by decide +kernel
theorem dL_1026 : decode cL_law 1026 = .ok (.aload_n 0, 1) := by decide +kernel
theorem dL_1027 : decode cL_law 1027 = .ok (.iload_n 3, 1) := by decide +kernel
theorem dL_1028 : decode cL_law 1028 = .ok (.iconst 2, 1) := by decide +kernel
theorem dL_1029 : decode cL_law 1029 = .ok (.iadd, 1) := by decide +kernel
theorem dL_1030 : decode cL_law 1030 = .ok (.iaload, 1) := by decide +kernel
theorem dL_1031 : decode cL_law 1031 = .ok (.aload_n 0, 1) := by decide +kernel
theorem dL_1032 : decode cL_law 1032 = .ok (.iload_n 3, 1) := by decide +kernel
theorem dL_1033 : decode cL_law 1033 = .ok (.iconst 3, 1) := by decide +kernel
theorem dL_1034 : decode cL_law 1034 = .ok (.iadd, 1) := by decide +kernel
theorem dL_1035 : decode cL_law 1035 = .ok (.iaload, 1) := by decide +kernel
theorem dL_1036 : decode cL_law 1036 = .ok (.invokevirtual 118, 3) := by decide +kernel
theorem dL_1039 : decode cL_law 1039 = .ok (.if_icmp .eq 107, 3) := by decide +kernel
theorem dL_1042 : decode cL_law 1042 = .ok (.iconst 0, 1) := by decide +kernel
theorem dL_1043 : decode cL_law 1043 = .ok (.ireturn, 1) := by decide +kernel
theorem dL_1044 : decode cL_law 1044 = .ok (.aload_n 1, 1) := by decide +kernel
theorem dL_1045 : decode cL_law 1045 = .ok (.aload_n 0, 1) := by decide +kernel
theorem dL_1046 : decode cL_law 1046 = .ok (.iload_n 3, 1) := by decide +kernel
theorem dL_1047 : decode cL_law 1047 = .ok (.iconst 1, 1) := by decide +kernel
theorem dL_1048 : decode cL_law 1048 = .ok (.iadd, 1) := by decide +kernel
theorem dL_1049 : decode cL_law 1049 = .ok (.iaload, 1) := by decide +kernel
theorem dL_1050 : decode cL_law 1050 = .ok (.aload_n 0, 1) := by decide +kernel
theorem dL_1051 : decode cL_law 1051 = .ok (.iload_n 3, 1) := by decide +kernel
theorem dL_1052 : decode cL_law 1052 = .ok (.iconst 2, 1) := by decide +kernel
theorem dL_1053 : decode cL_law 1053 = .ok (.iadd, 1) := by decide +kernel
theorem dL_1054 : decode cL_law 1054 = .ok (.iaload, 1) := by decide +kernel
theorem dL_1055 : decode cL_law 1055 = .ok (.aload_n 0, 1) := by decide +kernel
theorem dL_1056 : decode cL_law 1056 = .ok (.iload_n 3, 1) := by decide +kernel
theorem dL_1057 : decode cL_law 1057 = .ok (.iconst 3, 1) := by decide +kernel
theorem dL_1058 : decode cL_law 1058 = .ok (.iadd, 1) := by decide +kernel
theorem dL_1059 : decode cL_law 1059 = .ok (.iaload, 1) := by decide +kernel
theorem dL_1060 : decode cL_law 1060 = .ok (.invokevirtual 119, 3) := by decide +kernel
theorem dL_1063 : decode cL_law 1063 = .ok (.aload_n 2, 1) := by decide +kernel
theorem dL_1064 : decode cL_law 1064 = .ok (.aload_n 0, 1) := by decide +kernel
theorem dL_1065 : decode cL_law 1065 = .ok (.iload_n 3, 1) := by decide +kernel
theorem dL_1066 : decode cL_law 1066 = .ok (.iconst 1, 1) := by decide +kernel
theorem dL_1067 : decode cL_law 1067 = .ok (.iadd, 1) := by decide +kernel
theorem dL_1068 : decode cL_law 1068 = .ok (.iaload, 1) := by decide +kernel
theorem dL_1069 : decode cL_law 1069 = .ok (.aload_n 0, 1) := by decide +kernel
theorem dL_1070 : decode cL_law 1070 = .ok (.iload_n 3, 1) := by decide +kernel
theorem dL_1071 : decode cL_law 1071 = .ok (.iconst 2, 1) := by decide +kernel
theorem dL_1072 : decode cL_law 1072 = .ok (.iadd, 1) := by decide +kernel
theorem dL_1073 : decode cL_law 1073 = .ok (.iaload, 1) := by decide +kernel
theorem dL_1074 : decode cL_law 1074 = .ok (.aload_n 0, 1) := by decide +kernel
theorem dL_1075 : decode cL_law 1075 = .ok (.iload_n 3, 1) := by decide +kernel
theorem dL_1076 : decode cL_law 1076 = .ok (.iconst 3, 1) := by decide +kernel
theorem dL_1077 : decode cL_law 1077 = .ok (.iadd, 1) := by decide +kernel
theorem dL_1078 : decode cL_law 1078 = .ok (.iaload, 1) := by decide +kernel
theorem dL_1079 : decode cL_law 1079 = .ok (.invokevirtual 122, 3) := by decide +kernel
theorem dL_1082 : decode cL_law 1082 = .ok (.if_icmp .eq 64, 3) := by decide +kernel
theorem dL_1085 : decode cL_law 1085 = .ok (.iconst 0, 1) := by decide +kernel
theorem dL_1086 : decode cL_law 1086 = .ok (.ireturn, 1) := by decide +kernel
theorem dL_1087 : decode cL_law 1087 = .ok (.aload_n 1, 1) := by decide +kernel
theorem dL_1088 : decode cL_law 1088 = .ok (.aload_n 0, 1) := by decide +kernel
theorem dL_1089 : decode cL_law 1089 = .ok (.iload_n 3, 1) := by decide +kernel
theorem dL_1090 : decode cL_law 1090 = .ok (.iconst 1, 1) := by decide +kernel
theorem dL_1091 : decode cL_law 1091 = .ok (.iadd, 1) := by decide +kernel
theorem dL_1092 : decode cL_law 1092 = .ok (.iaload, 1) := by decide +kernel
theorem dL_1093 : decode cL_law 1093 = .ok (.invokevirtual 123, 3) := by decide +kernel
theorem dL_1096 : decode cL_law 1096 = .ok (.aload_n 2, 1) := by decide +kernel
theorem dL_1097 : decode cL_law 1097 = .ok (.aload_n 0, 1) := by decide +kernel
theorem dL_1098 : decode cL_law 1098 = .ok (.iload_n 3, 1) := by decide +kernel
theorem dL_1099 : decode cL_law 1099 = .ok (.iconst 1, 1) := by decide +kernel
theorem dL_1100 : decode cL_law 1100 = .ok (.iadd, 1) := by decide +kernel
theorem dL_1101 : decode cL_law 1101 = .ok (.iaload, 1) := by decide +kernel
theorem dL_1102 : decode cL_law 1102 = .ok (.invokevirtual 126, 3) := by decide +kernel
theorem dL_1105 : decode cL_law 1105 = .ok (.if_icmp .eq 41, 3) := by decide +kernel
theorem dL_1108 : decode cL_law 1108 = .ok (.iconst 0, 1) := by decide +kernel
theorem dL_1109 : decode cL_law 1109 = .ok (.ireturn, 1) := by decide +kernel
theorem dL_1110 : decode cL_law 1110 = .ok (.aload_n 1, 1) := by decide +kernel
theorem dL_1111 : decode cL_law 1111 = .ok (.aload_n 0, 1) := by decide +kernel
theorem dL_1112 : decode cL_law 1112 = .ok (.iload_n 3, 1) := by decide +kernel
theorem dL_1113 : decode cL_law 1113 = .ok (.iconst 1, 1) := by decide +kernel
theorem dL_1114 : decode cL_law 1114 = .ok (.iadd, 1) := by decide +kernel
theorem dL_1115 : decode cL_law 1115 = .ok (.iaload, 1) := by decide +kernel
theorem dL_1116 : decode cL_law 1116 = .ok (.invokevirtual 127, 3) := by decide +kernel
theorem dL_1119 : decode cL_law 1119 = .ok (.aload_n 2, 1) := by decide +kernel
theorem dL_1120 : decode cL_law 1120 = .ok (.aload_n 0, 1) := by decide +kernel
theorem dL_1121 : decode cL_law 1121 = .ok (.iload_n 3, 1) := by decide +kernel
theorem dL_1122 : decode cL_law 1122 = .ok (.iconst 1, 1) := by decide +kernel
theorem dL_1123 : decode cL_law 1123 = .ok (.iadd, 1) := by decide +kernel
theorem dL_1124 : decode cL_law 1124 = .ok (.iaload, 1) := by decide +kernel
theorem dL_1125 : decode cL_law 1125 = .ok (.invokevirtual 130, 3) := by decide +kernel
theorem dL_1128 : decode cL_law 1128 = .ok (.if_icmp .eq 18, 3) := by decide +kernel
theorem dL_1131 : decode cL_law 1131 = .ok (.iconst 0, 1) := by decide +kernel
theorem dL_1132 : decode cL_law 1132 = .ok (.ireturn, 1) := by decide +kernel
theorem dL_1133 : decode cL_law 1133 = .ok (.aload_n 1, 1) := by decide +kernel
theorem dL_1134 : decode cL_law 1134 = .ok (.invokevirtual 131, 3) := by decide +kernel
theorem dL_1137 : decode cL_law 1137 = .ok (.aload_n 2, 1) := by decide +kernel
theorem dL_1138 : decode cL_law 1138 = .ok (.invokevirtual 134, 3) := by decide +kernel
theorem dL_1141 : decode cL_law 1141 = .ok (.if_icmp .eq 5, 3) := by decide +kernel
theorem dL_1144 : decode cL_law 1144 = .ok (.iconst 0, 1) := by decide +kernel
theorem dL_1145 : decode cL_law 1145 = .ok (.ireturn, 1) := by decide +kernel
theorem dL_1146 : decode cL_law 1146 = .ok (.iinc 3 7, 3) := by decide +kernel
theorem dL_1149 : decode cL_law 1149 = .ok (.goto (-1131), 3) := by decide +kernel
theorem dL_1152 : decode cL_law 1152 = .ok (.iconst 1, 1) := by decide +kernel
theorem dL_1153 : decode cL_law 1153 = .ok (.ireturn, 1) := by decide +kernel
set_option maxRecDepth 100000 in
theorem yl_75 : Cond.initialized yX9_status.cls ∈ z_tbl := z_mem 75 _ (by decide +kernel)
set_option maxRecDepth 100000 in
theorem yl_85 : Cond.initialized yX10_status.cls ∈ z_tbl := z_mem 85 _ (by decide +kernel)
set_option maxRecDepth 100000 in
theorem yl_397 : Cond.methodLink RL 13 yX9_row ∈ z_tbl := z_mem 397 _ (by decide +kernel)
set_option maxRecDepth 100000 in
theorem yl_398 : Cond.instanceMethod yX9_row ∈ z_tbl := z_mem 398 _ (by decide +kernel)
set_option maxRecDepth 100000 in
theorem yl_399 : Cond.selects yX9_row.cls yX9_row yX9_row ∈ z_tbl := z_mem 399 _ (by decide +kernel)
set_option maxRecDepth 100000 in
theorem yl_400 : Cond.code yX9_row cX9_row 4 (some .int) ∈ z_tbl := z_mem 400 _ (by decide +kernel)
set_option maxRecDepth 100000 in
theorem yl_419 : Cond.methodLink RL 18 yX9_set ∈ z_tbl := z_mem 419 _ (by decide +kernel)
set_option maxRecDepth 100000 in
theorem yl_420 : Cond.instanceMethod yX9_set ∈ z_tbl := z_mem 420 _ (by decide +kernel)
set_option maxRecDepth 100000 in
theorem yl_421 : Cond.selects yX9_set.cls yX9_set yX9_set ∈ z_tbl := z_mem 421 _ (by decide +kernel)
set_option maxRecDepth 100000 in
theorem yl_422 : Cond.code yX9_set cX9_set 4 (some .int) ∈ z_tbl := z_mem 422 _ (by decide +kernel)
set_option maxRecDepth 100000 in
theorem yl_437 : Cond.methodLink RL 22 yX9_copy ∈ z_tbl := z_mem 437 _ (by decide +kernel)
set_option maxRecDepth 100000 in
theorem yl_438 : Cond.instanceMethod yX9_copy ∈ z_tbl := z_mem 438 _ (by decide +kernel)
set_option maxRecDepth 100000 in
theorem yl_439 : Cond.selects yX9_copy.cls yX9_copy yX9_copy ∈ z_tbl := z_mem 439 _ (by decide +kernel)
set_option maxRecDepth 100000 in
theorem yl_440 : Cond.code yX9_copy cX9_copy 6 (some .int) ∈ z_tbl := z_mem 440 _ (by decide +kernel)
set_option maxRecDepth 100000 in
theorem yl_452 : Cond.methodLink RL 27 yX9_drop ∈ z_tbl := z_mem 452 _ (by decide +kernel)
set_option maxRecDepth 100000 in
theorem yl_453 : Cond.instanceMethod yX9_drop ∈ z_tbl := z_mem 453 _ (by decide +kernel)
set_option maxRecDepth 100000 in
theorem yl_454 : Cond.selects yX9_drop.cls yX9_drop yX9_drop ∈ z_tbl := z_mem 454 _ (by decide +kernel)
set_option maxRecDepth 100000 in
theorem yl_455 : Cond.code yX9_drop cX9_drop 2 (some .int) ∈ z_tbl := z_mem 455 _ (by decide +kernel)
set_option maxRecDepth 100000 in
theorem yl_460 : Cond.methodLink RL 34 yX9_feed ∈ z_tbl := z_mem 460 _ (by decide +kernel)
set_option maxRecDepth 100000 in
theorem yl_461 : Cond.instanceMethod yX9_feed ∈ z_tbl := z_mem 461 _ (by decide +kernel)
set_option maxRecDepth 100000 in
theorem yl_462 : Cond.selects yX9_feed.cls yX9_feed yX9_feed ∈ z_tbl := z_mem 462 _ (by decide +kernel)
set_option maxRecDepth 100000 in
theorem yl_463 : Cond.code yX9_feed cX9_feed 4 (some .int) ∈ z_tbl := z_mem 463 _ (by decide +kernel)
set_option maxRecDepth 100000 in
theorem yl_469 : Cond.methodLink RL 39 yX9_wood ∈ z_tbl := z_mem 469 _ (by decide +kernel)
set_option maxRecDepth 100000 in
theorem yl_470 : Cond.instanceMethod yX9_wood ∈ z_tbl := z_mem 470 _ (by decide +kernel)
set_option maxRecDepth 100000 in
theorem yl_471 : Cond.selects yX9_wood.cls yX9_wood yX9_wood ∈ z_tbl := z_mem 471 _ (by decide +kernel)
set_option maxRecDepth 100000 in
theorem yl_472 : Cond.code yX9_wood cX9_wood 1 (some .int) ∈ z_tbl := z_mem 472 _ (by decide +kernel)
set_option maxRecDepth 100000 in
theorem yl_626 : Cond.methodLink RL 44 yX9_orders ∈ z_tbl := z_mem 626 _ (by decide +kernel)
set_option maxRecDepth 100000 in
theorem yl_627 : Cond.instanceMethod yX9_orders ∈ z_tbl := z_mem 627 _ (by decide +kernel)
set_option maxRecDepth 100000 in
theorem yl_628 : Cond.selects yX9_orders.cls yX9_orders yX9_orders ∈ z_tbl := z_mem 628 _ (by decide +kernel)
set_option maxRecDepth 100000 in
theorem yl_629 : Cond.code yX9_orders cX9_orders 1 (some .int) ∈ z_tbl := z_mem 629 _ (by decide +kernel)
set_option maxRecDepth 100000 in
theorem yl_685 : Cond.methodLink RL 48 yX9_fault ∈ z_tbl := z_mem 685 _ (by decide +kernel)
set_option maxRecDepth 100000 in
theorem yl_686 : Cond.instanceMethod yX9_fault ∈ z_tbl := z_mem 686 _ (by decide +kernel)
set_option maxRecDepth 100000 in
theorem yl_687 : Cond.selects yX9_fault.cls yX9_fault yX9_fault ∈ z_tbl := z_mem 687 _ (by decide +kernel)
set_option maxRecDepth 100000 in
theorem yl_688 : Cond.code yX9_fault cX9_fault 1 (some .int) ∈ z_tbl := z_mem 688 _ (by decide +kernel)
set_option maxRecDepth 100000 in
theorem yl_689 : Cond.methodLink RL 52 yX9_undo ∈ z_tbl := z_mem 689 _ (by decide +kernel)
set_option maxRecDepth 100000 in
theorem yl_690 : Cond.instanceMethod yX9_undo ∈ z_tbl := z_mem 690 _ (by decide +kernel)
set_option maxRecDepth 100000 in
theorem yl_691 : Cond.selects yX9_undo.cls yX9_undo yX9_undo ∈ z_tbl := z_mem 691 _ (by decide +kernel)
set_option maxRecDepth 100000 in
theorem yl_692 : Cond.code yX9_undo cX9_undo 1 (some .int) ∈ z_tbl := z_mem 692 _ (by decide +kernel)
set_option maxRecDepth 100000 in
theorem yl_697 : Cond.methodLink RL 56 yX9_go ∈ z_tbl := z_mem 697 _ (by decide +kernel)
set_option maxRecDepth 100000 in
theorem yl_698 : Cond.instanceMethod yX9_go ∈ z_tbl := z_mem 698 _ (by decide +kernel)
set_option maxRecDepth 100000 in
theorem yl_699 : Cond.selects yX9_go.cls yX9_go yX9_go ∈ z_tbl := z_mem 699 _ (by decide +kernel)
set_option maxRecDepth 100000 in
theorem yl_700 : Cond.code yX9_go cX9_go 2 (some .int) ∈ z_tbl := z_mem 700 _ (by decide +kernel)
set_option maxRecDepth 100000 in
theorem yl_710 : Cond.methodLink RL 60 yX9_tree ∈ z_tbl := z_mem 710 _ (by decide +kernel)
set_option maxRecDepth 100000 in
theorem yl_711 : Cond.instanceMethod yX9_tree ∈ z_tbl := z_mem 711 _ (by decide +kernel)
set_option maxRecDepth 100000 in
theorem yl_712 : Cond.selects yX9_tree.cls yX9_tree yX9_tree ∈ z_tbl := z_mem 712 _ (by decide +kernel)
set_option maxRecDepth 100000 in
theorem yl_713 : Cond.code yX9_tree cX9_tree 3 (some .int) ∈ z_tbl := z_mem 713 _ (by decide +kernel)
set_option maxRecDepth 100000 in
theorem yl_722 : Cond.methodLink RL 65 yX9_sound ∈ z_tbl := z_mem 722 _ (by decide +kernel)
set_option maxRecDepth 100000 in
theorem yl_723 : Cond.instanceMethod yX9_sound ∈ z_tbl := z_mem 723 _ (by decide +kernel)
set_option maxRecDepth 100000 in
theorem yl_724 : Cond.selects yX9_sound.cls yX9_sound yX9_sound ∈ z_tbl := z_mem 724 _ (by decide +kernel)
set_option maxRecDepth 100000 in
theorem yl_725 : Cond.code yX9_sound cX9_sound 3 (some .int) ∈ z_tbl := z_mem 725 _ (by decide +kernel)
set_option maxRecDepth 100000 in
theorem yl_744 : Cond.methodLink RL 69 yX9_slips ∈ z_tbl := z_mem 744 _ (by decide +kernel)
set_option maxRecDepth 100000 in
theorem yl_745 : Cond.instanceMethod yX9_slips ∈ z_tbl := z_mem 745 _ (by decide +kernel)
set_option maxRecDepth 100000 in
theorem yl_746 : Cond.selects yX9_slips.cls yX9_slips yX9_slips ∈ z_tbl := z_mem 746 _ (by decide +kernel)
set_option maxRecDepth 100000 in
theorem yl_747 : Cond.code yX9_slips cX9_slips 3 (some .int) ∈ z_tbl := z_mem 747 _ (by decide +kernel)
set_option maxRecDepth 100000 in
theorem yl_766 : Cond.methodLink RL 73 yX9_cheapest ∈ z_tbl := z_mem 766 _ (by decide +kernel)
set_option maxRecDepth 100000 in
theorem yl_767 : Cond.instanceMethod yX9_cheapest ∈ z_tbl := z_mem 767 _ (by decide +kernel)
set_option maxRecDepth 100000 in
theorem yl_768 : Cond.selects yX9_cheapest.cls yX9_cheapest yX9_cheapest ∈ z_tbl := z_mem 768 _ (by decide +kernel)
set_option maxRecDepth 100000 in
theorem yl_769 : Cond.code yX9_cheapest cX9_cheapest 8 (some .int) ∈ z_tbl := z_mem 769 _ (by decide +kernel)
set_option maxRecDepth 100000 in
theorem yl_797 : Cond.methodLink RL 78 yX9_tuned ∈ z_tbl := z_mem 797 _ (by decide +kernel)
set_option maxRecDepth 100000 in
theorem yl_798 : Cond.instanceMethod yX9_tuned ∈ z_tbl := z_mem 798 _ (by decide +kernel)
set_option maxRecDepth 100000 in
theorem yl_799 : Cond.selects yX9_tuned.cls yX9_tuned yX9_tuned ∈ z_tbl := z_mem 799 _ (by decide +kernel)
set_option maxRecDepth 100000 in
theorem yl_800 : Cond.code yX9_tuned cX9_tuned 5 (some .int) ∈ z_tbl := z_mem 800 _ (by decide +kernel)
set_option maxRecDepth 100000 in
theorem yl_801 : Cond.methodLink RL 82 yX9_plays ∈ z_tbl := z_mem 801 _ (by decide +kernel)
set_option maxRecDepth 100000 in
theorem yl_802 : Cond.instanceMethod yX9_plays ∈ z_tbl := z_mem 802 _ (by decide +kernel)
set_option maxRecDepth 100000 in
theorem yl_803 : Cond.selects yX9_plays.cls yX9_plays yX9_plays ∈ z_tbl := z_mem 803 _ (by decide +kernel)
set_option maxRecDepth 100000 in
theorem yl_804 : Cond.code yX9_plays cX9_plays 7 (some .int) ∈ z_tbl := z_mem 804 _ (by decide +kernel)
set_option maxRecDepth 100000 in
theorem yl_808 : Cond.methodLink RL 86 yX9_buzz ∈ z_tbl := z_mem 808 _ (by decide +kernel)
set_option maxRecDepth 100000 in
theorem yl_809 : Cond.instanceMethod yX9_buzz ∈ z_tbl := z_mem 809 _ (by decide +kernel)
set_option maxRecDepth 100000 in
theorem yl_810 : Cond.selects yX9_buzz.cls yX9_buzz yX9_buzz ∈ z_tbl := z_mem 810 _ (by decide +kernel)
set_option maxRecDepth 100000 in
theorem yl_811 : Cond.code yX9_buzz cX9_buzz 2 (some .int) ∈ z_tbl := z_mem 811 _ (by decide +kernel)
set_option maxRecDepth 100000 in
theorem yl_816 : Cond.methodLink RL 90 yX9_birds ∈ z_tbl := z_mem 816 _ (by decide +kernel)
set_option maxRecDepth 100000 in
theorem yl_817 : Cond.instanceMethod yX9_birds ∈ z_tbl := z_mem 817 _ (by decide +kernel)
set_option maxRecDepth 100000 in
theorem yl_818 : Cond.selects yX9_birds.cls yX9_birds yX9_birds ∈ z_tbl := z_mem 818 _ (by decide +kernel)
set_option maxRecDepth 100000 in
theorem yl_819 : Cond.code yX9_birds cX9_birds 6 (some .int) ∈ z_tbl := z_mem 819 _ (by decide +kernel)
set_option maxRecDepth 100000 in
theorem yl_829 : Cond.methodLink RL 94 yX9_hung ∈ z_tbl := z_mem 829 _ (by decide +kernel)
set_option maxRecDepth 100000 in
theorem yl_830 : Cond.instanceMethod yX9_hung ∈ z_tbl := z_mem 830 _ (by decide +kernel)
set_option maxRecDepth 100000 in
theorem yl_831 : Cond.selects yX9_hung.cls yX9_hung yX9_hung ∈ z_tbl := z_mem 831 _ (by decide +kernel)
set_option maxRecDepth 100000 in
theorem yl_832 : Cond.code yX9_hung cX9_hung 6 (some .int) ∈ z_tbl := z_mem 832 _ (by decide +kernel)
set_option maxRecDepth 100000 in
theorem yl_835 : Cond.methodLink RL 99 yX9_missing ∈ z_tbl := z_mem 835 _ (by decide +kernel)
set_option maxRecDepth 100000 in
theorem yl_836 : Cond.instanceMethod yX9_missing ∈ z_tbl := z_mem 836 _ (by decide +kernel)
set_option maxRecDepth 100000 in
theorem yl_837 : Cond.selects yX9_missing.cls yX9_missing yX9_missing ∈ z_tbl := z_mem 837 _ (by decide +kernel)
set_option maxRecDepth 100000 in
theorem yl_838 : Cond.code yX9_missing cX9_missing 5 (some .int) ∈ z_tbl := z_mem 838 _ (by decide +kernel)
set_option maxRecDepth 100000 in
theorem yl_858 : Cond.methodLink RL 103 yX9_image ∈ z_tbl := z_mem 858 _ (by decide +kernel)
set_option maxRecDepth 100000 in
theorem yl_859 : Cond.instanceMethod yX9_image ∈ z_tbl := z_mem 859 _ (by decide +kernel)
set_option maxRecDepth 100000 in
theorem yl_860 : Cond.selects yX9_image.cls yX9_image yX9_image ∈ z_tbl := z_mem 860 _ (by decide +kernel)
set_option maxRecDepth 100000 in
theorem yl_861 : Cond.code yX9_image cX9_image 2 (some .int) ∈ z_tbl := z_mem 861 _ (by decide +kernel)
set_option maxRecDepth 100000 in
theorem yl_866 : Cond.methodLink RL 107 yX9_restore ∈ z_tbl := z_mem 866 _ (by decide +kernel)
set_option maxRecDepth 100000 in
theorem yl_867 : Cond.instanceMethod yX9_restore ∈ z_tbl := z_mem 867 _ (by decide +kernel)
set_option maxRecDepth 100000 in
theorem yl_868 : Cond.selects yX9_restore.cls yX9_restore yX9_restore ∈ z_tbl := z_mem 868 _ (by decide +kernel)
set_option maxRecDepth 100000 in
theorem yl_869 : Cond.code yX9_restore cX9_restore 2 (some .int) ∈ z_tbl := z_mem 869 _ (by decide +kernel)
set_option maxRecDepth 100000 in
theorem yl_870 : Cond.methodLink RL 111 yX9_kind ∈ z_tbl := z_mem 870 _ (by decide +kernel)
set_option maxRecDepth 100000 in
theorem yl_871 : Cond.instanceMethod yX9_kind ∈ z_tbl := z_mem 871 _ (by decide +kernel)
set_option maxRecDepth 100000 in
theorem yl_872 : Cond.selects yX9_kind.cls yX9_kind yX9_kind ∈ z_tbl := z_mem 872 _ (by decide +kernel)
set_option maxRecDepth 100000 in
theorem yl_873 : Cond.code yX9_kind cX9_kind 3 (some .int) ∈ z_tbl := z_mem 873 _ (by decide +kernel)
set_option maxRecDepth 100000 in
theorem yl_879 : Cond.methodLink RL 115 yX9_as ∈ z_tbl := z_mem 879 _ (by decide +kernel)
set_option maxRecDepth 100000 in
theorem yl_880 : Cond.instanceMethod yX9_as ∈ z_tbl := z_mem 880 _ (by decide +kernel)
set_option maxRecDepth 100000 in
theorem yl_881 : Cond.selects yX9_as.cls yX9_as yX9_as ∈ z_tbl := z_mem 881 _ (by decide +kernel)
set_option maxRecDepth 100000 in
theorem yl_882 : Cond.code yX9_as cX9_as 4 (some .int) ∈ z_tbl := z_mem 882 _ (by decide +kernel)
set_option maxRecDepth 100000 in
theorem yl_886 : Cond.methodLink RL 119 yX9_ask ∈ z_tbl := z_mem 886 _ (by decide +kernel)
set_option maxRecDepth 100000 in
theorem yl_887 : Cond.instanceMethod yX9_ask ∈ z_tbl := z_mem 887 _ (by decide +kernel)
set_option maxRecDepth 100000 in
theorem yl_888 : Cond.selects yX9_ask.cls yX9_ask yX9_ask ∈ z_tbl := z_mem 888 _ (by decide +kernel)
set_option maxRecDepth 100000 in
theorem yl_889 : Cond.code yX9_ask cX9_ask 4 (some .int) ∈ z_tbl := z_mem 889 _ (by decide +kernel)
set_option maxRecDepth 100000 in
theorem yl_946 : Cond.methodLink RL 123 yX9_trace ∈ z_tbl := z_mem 946 _ (by decide +kernel)
set_option maxRecDepth 100000 in
theorem yl_947 : Cond.instanceMethod yX9_trace ∈ z_tbl := z_mem 947 _ (by decide +kernel)
set_option maxRecDepth 100000 in
theorem yl_948 : Cond.selects yX9_trace.cls yX9_trace yX9_trace ∈ z_tbl := z_mem 948 _ (by decide +kernel)
set_option maxRecDepth 100000 in
theorem yl_949 : Cond.code yX9_trace cX9_trace 2 (some .int) ∈ z_tbl := z_mem 949 _ (by decide +kernel)
set_option maxRecDepth 100000 in
theorem yl_950 : Cond.methodLink RL 127 yX9_count ∈ z_tbl := z_mem 950 _ (by decide +kernel)
set_option maxRecDepth 100000 in
theorem yl_951 : Cond.instanceMethod yX9_count ∈ z_tbl := z_mem 951 _ (by decide +kernel)
set_option maxRecDepth 100000 in
theorem yl_952 : Cond.selects yX9_count.cls yX9_count yX9_count ∈ z_tbl := z_mem 952 _ (by decide +kernel)
set_option maxRecDepth 100000 in
theorem yl_953 : Cond.code yX9_count cX9_count 2 (some .int) ∈ z_tbl := z_mem 953 _ (by decide +kernel)
set_option maxRecDepth 100000 in
theorem yl_958 : Cond.methodLink RL 131 yX9_status ∈ z_tbl := z_mem 958 _ (by decide +kernel)
set_option maxRecDepth 100000 in
theorem yl_959 : Cond.instanceMethod yX9_status ∈ z_tbl := z_mem 959 _ (by decide +kernel)
set_option maxRecDepth 100000 in
theorem yl_960 : Cond.selects yX9_status.cls yX9_status yX9_status ∈ z_tbl := z_mem 960 _ (by decide +kernel)
set_option maxRecDepth 100000 in
theorem yl_961 : Cond.code yX9_status cX9_status 1 (some .int) ∈ z_tbl := z_mem 961 _ (by decide +kernel)
set_option maxRecDepth 100000 in
theorem yl_1074 : Cond.methodLink RL 17 yX10_row ∈ z_tbl := z_mem 1074 _ (by decide +kernel)
set_option maxRecDepth 100000 in
theorem yl_1075 : Cond.instanceMethod yX10_row ∈ z_tbl := z_mem 1075 _ (by decide +kernel)
set_option maxRecDepth 100000 in
theorem yl_1076 : Cond.selects yX10_row.cls yX10_row yX10_row ∈ z_tbl := z_mem 1076 _ (by decide +kernel)
set_option maxRecDepth 100000 in
theorem yl_1077 : Cond.code yX10_row cX10_row 5 (some .int) ∈ z_tbl := z_mem 1077 _ (by decide +kernel)
set_option maxRecDepth 100000 in
theorem yl_1092 : Cond.methodLink RL 21 yX10_set ∈ z_tbl := z_mem 1092 _ (by decide +kernel)
set_option maxRecDepth 100000 in
theorem yl_1093 : Cond.instanceMethod yX10_set ∈ z_tbl := z_mem 1093 _ (by decide +kernel)
set_option maxRecDepth 100000 in
theorem yl_1094 : Cond.selects yX10_set.cls yX10_set yX10_set ∈ z_tbl := z_mem 1094 _ (by decide +kernel)
set_option maxRecDepth 100000 in
theorem yl_1095 : Cond.code yX10_set cX10_set 4 (some .int) ∈ z_tbl := z_mem 1095 _ (by decide +kernel)
set_option maxRecDepth 100000 in
theorem yl_1096 : Cond.methodLink RL 26 yX10_copy ∈ z_tbl := z_mem 1096 _ (by decide +kernel)
set_option maxRecDepth 100000 in
theorem yl_1097 : Cond.instanceMethod yX10_copy ∈ z_tbl := z_mem 1097 _ (by decide +kernel)
set_option maxRecDepth 100000 in
theorem yl_1098 : Cond.selects yX10_copy.cls yX10_copy yX10_copy ∈ z_tbl := z_mem 1098 _ (by decide +kernel)
set_option maxRecDepth 100000 in
theorem yl_1099 : Cond.code yX10_copy cX10_copy 9 (some .int) ∈ z_tbl := z_mem 1099 _ (by decide +kernel)
set_option maxRecDepth 100000 in
theorem yl_1100 : Cond.methodLink RL 31 yX10_drop ∈ z_tbl := z_mem 1100 _ (by decide +kernel)
set_option maxRecDepth 100000 in
theorem yl_1101 : Cond.instanceMethod yX10_drop ∈ z_tbl := z_mem 1101 _ (by decide +kernel)
set_option maxRecDepth 100000 in
theorem yl_1102 : Cond.selects yX10_drop.cls yX10_drop yX10_drop ∈ z_tbl := z_mem 1102 _ (by decide +kernel)
set_option maxRecDepth 100000 in
theorem yl_1103 : Cond.code yX10_drop cX10_drop 2 (some .int) ∈ z_tbl := z_mem 1103 _ (by decide +kernel)
set_option maxRecDepth 100000 in
theorem yl_1104 : Cond.methodLink RL 38 yX10_feed ∈ z_tbl := z_mem 1104 _ (by decide +kernel)
set_option maxRecDepth 100000 in
theorem yl_1105 : Cond.instanceMethod yX10_feed ∈ z_tbl := z_mem 1105 _ (by decide +kernel)
set_option maxRecDepth 100000 in
theorem yl_1106 : Cond.selects yX10_feed.cls yX10_feed yX10_feed ∈ z_tbl := z_mem 1106 _ (by decide +kernel)
set_option maxRecDepth 100000 in
theorem yl_1107 : Cond.code yX10_feed cX10_feed 5 (some .int) ∈ z_tbl := z_mem 1107 _ (by decide +kernel)
set_option maxRecDepth 100000 in
theorem yl_1111 : Cond.methodLink RL 43 yX10_wood ∈ z_tbl := z_mem 1111 _ (by decide +kernel)
set_option maxRecDepth 100000 in
theorem yl_1112 : Cond.instanceMethod yX10_wood ∈ z_tbl := z_mem 1112 _ (by decide +kernel)
set_option maxRecDepth 100000 in
theorem yl_1113 : Cond.selects yX10_wood.cls yX10_wood yX10_wood ∈ z_tbl := z_mem 1113 _ (by decide +kernel)
set_option maxRecDepth 100000 in
theorem yl_1114 : Cond.code yX10_wood cX10_wood 3 (some .int) ∈ z_tbl := z_mem 1114 _ (by decide +kernel)
set_option maxRecDepth 100000 in
theorem yl_1187 : Cond.methodLink RL 47 yX10_orders ∈ z_tbl := z_mem 1187 _ (by decide +kernel)
set_option maxRecDepth 100000 in
theorem yl_1188 : Cond.instanceMethod yX10_orders ∈ z_tbl := z_mem 1188 _ (by decide +kernel)
set_option maxRecDepth 100000 in
theorem yl_1189 : Cond.selects yX10_orders.cls yX10_orders yX10_orders ∈ z_tbl := z_mem 1189 _ (by decide +kernel)
set_option maxRecDepth 100000 in
theorem yl_1190 : Cond.code yX10_orders cX10_orders 3 (some .int) ∈ z_tbl := z_mem 1190 _ (by decide +kernel)
set_option maxRecDepth 100000 in
theorem yl_1215 : Cond.methodLink RL 51 yX10_fault ∈ z_tbl := z_mem 1215 _ (by decide +kernel)
set_option maxRecDepth 100000 in
theorem yl_1216 : Cond.instanceMethod yX10_fault ∈ z_tbl := z_mem 1216 _ (by decide +kernel)
set_option maxRecDepth 100000 in
theorem yl_1217 : Cond.selects yX10_fault.cls yX10_fault yX10_fault ∈ z_tbl := z_mem 1217 _ (by decide +kernel)
set_option maxRecDepth 100000 in
theorem yl_1218 : Cond.code yX10_fault cX10_fault 1 (some .int) ∈ z_tbl := z_mem 1218 _ (by decide +kernel)
set_option maxRecDepth 100000 in
theorem yl_1219 : Cond.methodLink RL 55 yX10_undo ∈ z_tbl := z_mem 1219 _ (by decide +kernel)
set_option maxRecDepth 100000 in
theorem yl_1220 : Cond.instanceMethod yX10_undo ∈ z_tbl := z_mem 1220 _ (by decide +kernel)
set_option maxRecDepth 100000 in
theorem yl_1221 : Cond.selects yX10_undo.cls yX10_undo yX10_undo ∈ z_tbl := z_mem 1221 _ (by decide +kernel)
set_option maxRecDepth 100000 in
theorem yl_1222 : Cond.code yX10_undo cX10_undo 2 (some .int) ∈ z_tbl := z_mem 1222 _ (by decide +kernel)
set_option maxRecDepth 100000 in
theorem yl_1223 : Cond.methodLink RL 59 yX10_go ∈ z_tbl := z_mem 1223 _ (by decide +kernel)
set_option maxRecDepth 100000 in
theorem yl_1224 : Cond.instanceMethod yX10_go ∈ z_tbl := z_mem 1224 _ (by decide +kernel)
set_option maxRecDepth 100000 in
theorem yl_1225 : Cond.selects yX10_go.cls yX10_go yX10_go ∈ z_tbl := z_mem 1225 _ (by decide +kernel)
set_option maxRecDepth 100000 in
theorem yl_1226 : Cond.code yX10_go cX10_go 3 (some .int) ∈ z_tbl := z_mem 1226 _ (by decide +kernel)
set_option maxRecDepth 100000 in
theorem yl_1240 : Cond.methodLink RL 64 yX10_tree ∈ z_tbl := z_mem 1240 _ (by decide +kernel)
set_option maxRecDepth 100000 in
theorem yl_1241 : Cond.instanceMethod yX10_tree ∈ z_tbl := z_mem 1241 _ (by decide +kernel)
set_option maxRecDepth 100000 in
theorem yl_1242 : Cond.selects yX10_tree.cls yX10_tree yX10_tree ∈ z_tbl := z_mem 1242 _ (by decide +kernel)
set_option maxRecDepth 100000 in
theorem yl_1243 : Cond.code yX10_tree cX10_tree 3 (some .int) ∈ z_tbl := z_mem 1243 _ (by decide +kernel)
set_option maxRecDepth 100000 in
theorem yl_1253 : Cond.methodLink RL 68 yX10_sound ∈ z_tbl := z_mem 1253 _ (by decide +kernel)
set_option maxRecDepth 100000 in
theorem yl_1254 : Cond.instanceMethod yX10_sound ∈ z_tbl := z_mem 1254 _ (by decide +kernel)
set_option maxRecDepth 100000 in
theorem yl_1255 : Cond.selects yX10_sound.cls yX10_sound yX10_sound ∈ z_tbl := z_mem 1255 _ (by decide +kernel)
set_option maxRecDepth 100000 in
theorem yl_1256 : Cond.code yX10_sound cX10_sound 3 (some .int) ∈ z_tbl := z_mem 1256 _ (by decide +kernel)
set_option maxRecDepth 100000 in
theorem yl_1269 : Cond.methodLink RL 72 yX10_slips ∈ z_tbl := z_mem 1269 _ (by decide +kernel)
set_option maxRecDepth 100000 in
theorem yl_1270 : Cond.instanceMethod yX10_slips ∈ z_tbl := z_mem 1270 _ (by decide +kernel)
set_option maxRecDepth 100000 in
theorem yl_1271 : Cond.selects yX10_slips.cls yX10_slips yX10_slips ∈ z_tbl := z_mem 1271 _ (by decide +kernel)
set_option maxRecDepth 100000 in
theorem yl_1272 : Cond.code yX10_slips cX10_slips 3 (some .int) ∈ z_tbl := z_mem 1272 _ (by decide +kernel)
set_option maxRecDepth 100000 in
theorem yl_1291 : Cond.methodLink RL 77 yX10_cheapest ∈ z_tbl := z_mem 1291 _ (by decide +kernel)
set_option maxRecDepth 100000 in
theorem yl_1292 : Cond.instanceMethod yX10_cheapest ∈ z_tbl := z_mem 1292 _ (by decide +kernel)
set_option maxRecDepth 100000 in
theorem yl_1293 : Cond.selects yX10_cheapest.cls yX10_cheapest yX10_cheapest ∈ z_tbl := z_mem 1293 _ (by decide +kernel)
set_option maxRecDepth 100000 in
theorem yl_1294 : Cond.code yX10_cheapest cX10_cheapest 14 (some .int) ∈ z_tbl := z_mem 1294 _ (by decide +kernel)
set_option maxRecDepth 100000 in
theorem yl_1303 : Cond.methodLink RL 81 yX10_tuned ∈ z_tbl := z_mem 1303 _ (by decide +kernel)
set_option maxRecDepth 100000 in
theorem yl_1304 : Cond.instanceMethod yX10_tuned ∈ z_tbl := z_mem 1304 _ (by decide +kernel)
set_option maxRecDepth 100000 in
theorem yl_1305 : Cond.selects yX10_tuned.cls yX10_tuned yX10_tuned ∈ z_tbl := z_mem 1305 _ (by decide +kernel)
set_option maxRecDepth 100000 in
theorem yl_1306 : Cond.code yX10_tuned cX10_tuned 5 (some .int) ∈ z_tbl := z_mem 1306 _ (by decide +kernel)
set_option maxRecDepth 100000 in
theorem yl_1307 : Cond.methodLink RL 85 yX10_plays ∈ z_tbl := z_mem 1307 _ (by decide +kernel)
set_option maxRecDepth 100000 in
theorem yl_1308 : Cond.instanceMethod yX10_plays ∈ z_tbl := z_mem 1308 _ (by decide +kernel)
set_option maxRecDepth 100000 in
theorem yl_1309 : Cond.selects yX10_plays.cls yX10_plays yX10_plays ∈ z_tbl := z_mem 1309 _ (by decide +kernel)
set_option maxRecDepth 100000 in
theorem yl_1310 : Cond.code yX10_plays cX10_plays 9 (some .int) ∈ z_tbl := z_mem 1310 _ (by decide +kernel)
set_option maxRecDepth 100000 in
theorem yl_1311 : Cond.methodLink RL 89 yX10_buzz ∈ z_tbl := z_mem 1311 _ (by decide +kernel)
set_option maxRecDepth 100000 in
theorem yl_1312 : Cond.instanceMethod yX10_buzz ∈ z_tbl := z_mem 1312 _ (by decide +kernel)
set_option maxRecDepth 100000 in
theorem yl_1313 : Cond.selects yX10_buzz.cls yX10_buzz yX10_buzz ∈ z_tbl := z_mem 1313 _ (by decide +kernel)
set_option maxRecDepth 100000 in
theorem yl_1314 : Cond.code yX10_buzz cX10_buzz 2 (some .int) ∈ z_tbl := z_mem 1314 _ (by decide +kernel)
set_option maxRecDepth 100000 in
theorem yl_1319 : Cond.methodLink RL 93 yX10_birds ∈ z_tbl := z_mem 1319 _ (by decide +kernel)
set_option maxRecDepth 100000 in
theorem yl_1320 : Cond.instanceMethod yX10_birds ∈ z_tbl := z_mem 1320 _ (by decide +kernel)
set_option maxRecDepth 100000 in
theorem yl_1321 : Cond.selects yX10_birds.cls yX10_birds yX10_birds ∈ z_tbl := z_mem 1321 _ (by decide +kernel)
set_option maxRecDepth 100000 in
theorem yl_1322 : Cond.code yX10_birds cX10_birds 10 (some .int) ∈ z_tbl := z_mem 1322 _ (by decide +kernel)
set_option maxRecDepth 100000 in
theorem yl_1326 : Cond.methodLink RL 98 yX10_hung ∈ z_tbl := z_mem 1326 _ (by decide +kernel)
set_option maxRecDepth 100000 in
theorem yl_1327 : Cond.instanceMethod yX10_hung ∈ z_tbl := z_mem 1327 _ (by decide +kernel)
set_option maxRecDepth 100000 in
theorem yl_1328 : Cond.selects yX10_hung.cls yX10_hung yX10_hung ∈ z_tbl := z_mem 1328 _ (by decide +kernel)
set_option maxRecDepth 100000 in
theorem yl_1329 : Cond.code yX10_hung cX10_hung 6 (some .int) ∈ z_tbl := z_mem 1329 _ (by decide +kernel)
set_option maxRecDepth 100000 in
theorem yl_1332 : Cond.methodLink RL 102 yX10_missing ∈ z_tbl := z_mem 1332 _ (by decide +kernel)
set_option maxRecDepth 100000 in
theorem yl_1333 : Cond.instanceMethod yX10_missing ∈ z_tbl := z_mem 1333 _ (by decide +kernel)
set_option maxRecDepth 100000 in
theorem yl_1334 : Cond.selects yX10_missing.cls yX10_missing yX10_missing ∈ z_tbl := z_mem 1334 _ (by decide +kernel)
set_option maxRecDepth 100000 in
theorem yl_1335 : Cond.code yX10_missing cX10_missing 8 (some .int) ∈ z_tbl := z_mem 1335 _ (by decide +kernel)
set_option maxRecDepth 100000 in
theorem yl_1345 : Cond.methodLink RL 106 yX10_image ∈ z_tbl := z_mem 1345 _ (by decide +kernel)
set_option maxRecDepth 100000 in
theorem yl_1346 : Cond.instanceMethod yX10_image ∈ z_tbl := z_mem 1346 _ (by decide +kernel)
set_option maxRecDepth 100000 in
theorem yl_1347 : Cond.selects yX10_image.cls yX10_image yX10_image ∈ z_tbl := z_mem 1347 _ (by decide +kernel)
set_option maxRecDepth 100000 in
theorem yl_1348 : Cond.code yX10_image cX10_image 3 (some .int) ∈ z_tbl := z_mem 1348 _ (by decide +kernel)
set_option maxRecDepth 100000 in
theorem yl_1349 : Cond.methodLink RL 110 yX10_restore ∈ z_tbl := z_mem 1349 _ (by decide +kernel)
set_option maxRecDepth 100000 in
theorem yl_1350 : Cond.instanceMethod yX10_restore ∈ z_tbl := z_mem 1350 _ (by decide +kernel)
set_option maxRecDepth 100000 in
theorem yl_1351 : Cond.selects yX10_restore.cls yX10_restore yX10_restore ∈ z_tbl := z_mem 1351 _ (by decide +kernel)
set_option maxRecDepth 100000 in
theorem yl_1352 : Cond.code yX10_restore cX10_restore 3 (some .int) ∈ z_tbl := z_mem 1352 _ (by decide +kernel)
set_option maxRecDepth 100000 in
theorem yl_1353 : Cond.methodLink RL 114 yX10_kind ∈ z_tbl := z_mem 1353 _ (by decide +kernel)
set_option maxRecDepth 100000 in
theorem yl_1354 : Cond.instanceMethod yX10_kind ∈ z_tbl := z_mem 1354 _ (by decide +kernel)
set_option maxRecDepth 100000 in
theorem yl_1355 : Cond.selects yX10_kind.cls yX10_kind yX10_kind ∈ z_tbl := z_mem 1355 _ (by decide +kernel)
set_option maxRecDepth 100000 in
theorem yl_1356 : Cond.code yX10_kind cX10_kind 3 (some .int) ∈ z_tbl := z_mem 1356 _ (by decide +kernel)
set_option maxRecDepth 100000 in
theorem yl_1361 : Cond.methodLink RL 118 yX10_as ∈ z_tbl := z_mem 1361 _ (by decide +kernel)
set_option maxRecDepth 100000 in
theorem yl_1362 : Cond.instanceMethod yX10_as ∈ z_tbl := z_mem 1362 _ (by decide +kernel)
set_option maxRecDepth 100000 in
theorem yl_1363 : Cond.selects yX10_as.cls yX10_as yX10_as ∈ z_tbl := z_mem 1363 _ (by decide +kernel)
set_option maxRecDepth 100000 in
theorem yl_1364 : Cond.code yX10_as cX10_as 4 (some .int) ∈ z_tbl := z_mem 1364 _ (by decide +kernel)
set_option maxRecDepth 100000 in
theorem yl_1368 : Cond.methodLink RL 122 yX10_ask ∈ z_tbl := z_mem 1368 _ (by decide +kernel)
set_option maxRecDepth 100000 in
theorem yl_1369 : Cond.instanceMethod yX10_ask ∈ z_tbl := z_mem 1369 _ (by decide +kernel)
set_option maxRecDepth 100000 in
theorem yl_1370 : Cond.selects yX10_ask.cls yX10_ask yX10_ask ∈ z_tbl := z_mem 1370 _ (by decide +kernel)
set_option maxRecDepth 100000 in
theorem yl_1371 : Cond.code yX10_ask cX10_ask 5 (some .int) ∈ z_tbl := z_mem 1371 _ (by decide +kernel)
set_option maxRecDepth 100000 in
theorem yl_1392 : Cond.methodLink RL 126 yX10_trace ∈ z_tbl := z_mem 1392 _ (by decide +kernel)
set_option maxRecDepth 100000 in
theorem yl_1393 : Cond.instanceMethod yX10_trace ∈ z_tbl := z_mem 1393 _ (by decide +kernel)
set_option maxRecDepth 100000 in
theorem yl_1394 : Cond.selects yX10_trace.cls yX10_trace yX10_trace ∈ z_tbl := z_mem 1394 _ (by decide +kernel)
set_option maxRecDepth 100000 in
theorem yl_1395 : Cond.code yX10_trace cX10_trace 2 (some .int) ∈ z_tbl := z_mem 1395 _ (by decide +kernel)
set_option maxRecDepth 100000 in
theorem yl_1396 : Cond.methodLink RL 130 yX10_count ∈ z_tbl := z_mem 1396 _ (by decide +kernel)
set_option maxRecDepth 100000 in
theorem yl_1397 : Cond.instanceMethod yX10_count ∈ z_tbl := z_mem 1397 _ (by decide +kernel)
set_option maxRecDepth 100000 in
theorem yl_1398 : Cond.selects yX10_count.cls yX10_count yX10_count ∈ z_tbl := z_mem 1398 _ (by decide +kernel)
set_option maxRecDepth 100000 in
theorem yl_1399 : Cond.code yX10_count cX10_count 4 (some .int) ∈ z_tbl := z_mem 1399 _ (by decide +kernel)
set_option maxRecDepth 100000 in
theorem yl_1400 : Cond.methodLink RL 134 yX10_status ∈ z_tbl := z_mem 1400 _ (by decide +kernel)
set_option maxRecDepth 100000 in
theorem yl_1401 : Cond.instanceMethod yX10_status ∈ z_tbl := z_mem 1401 _ (by decide +kernel)
set_option maxRecDepth 100000 in
theorem yl_1402 : Cond.selects yX10_status.cls yX10_status yX10_status ∈ z_tbl := z_mem 1402 _ (by decide +kernel)
set_option maxRecDepth 100000 in
theorem yl_1403 : Cond.code yX10_status cX10_status 1 (some .int) ∈ z_tbl := z_mem 1403 _ (by decide +kernel)
set_option maxRecDepth 100000 in
theorem yl_1404 : Cond.constantLong RL 32 4294967295 ∈ z_tbl := z_mem 1404 _ (by decide +kernel)
