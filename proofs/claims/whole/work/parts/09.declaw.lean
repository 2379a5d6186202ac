theorem dL_law_0 : decode code 0 = .ok (.new 7, 3) := by decide +kernel
theorem dL_law_3 : decode code 3 = .ok (.dup, 1) := by decide +kernel
theorem dL_law_4 : decode code 4 = .ok (.invokespecial 9, 3) := by decide +kernel
theorem dL_law_7 : decode code 7 = .ok (.astore_n 1, 1) := by decide +kernel
theorem dL_law_8 : decode code 8 = .ok (.new 10, 3) := by decide +kernel
theorem dL_law_11 : decode code 11 = .ok (.dup, 1) := by decide +kernel
theorem dL_law_12 : decode code 12 = .ok (.invokespecial 12, 3) := by decide +kernel
theorem dL_law_15 : decode code 15 = .ok (.astore_n 2, 1) := by decide +kernel
theorem dL_law_16 : decode code 16 = .ok (.iconst 0, 1) := by decide +kernel
theorem dL_law_17 : decode code 17 = .ok (.istore_n 3, 1) := by decide +kernel
theorem dL_law_18 : decode code 18 = .ok (.iload_n 3, 1) := by decide +kernel
theorem dL_law_19 : decode code 19 = .ok (.aload_n 0, 1) := by decide +kernel
theorem dL_law_20 : decode code 20 = .ok (.arraylength, 1) := by decide +kernel
theorem dL_law_21 : decode code 21 = .ok (.bipush 6, 2) := by decide +kernel
theorem dL_law_23 : decode code 23 = .ok (.isub, 1) := by decide +kernel
theorem dL_law_24 : decode code 24 = .ok (.if_icmp .gt 1184, 3) := by decide +kernel
theorem dL_law_27 : decode code 27 = .ok (.aload_n 0, 1) := by decide +kernel
theorem dL_law_28 : decode code 28 = .ok (.iload_n 3, 1) := by decide +kernel
theorem dL_law_29 : decode code 29 = .ok (.iaload, 1) := by decide +kernel
theorem dL_law_30 : decode code 30 = .ok (.bipush 31, 2) := by decide +kernel
theorem dL_law_32 : decode code 32 = .ok (.iand, 1) := by decide +kernel
theorem dL_law_33 : decode code 33 = .ok (.tableswitch 1169 0 23 #[111, 144, 213, 246, 315, 378, 391, 434, 477, 556, 625, 704, 753, 776, 809, 842, 865, 888, 911, 964, 1007, 1050, 1113, 1146], 111) := by decide +kernel
theorem dL_law_144 : decode code 144 = .ok (.aload_n 1, 1) := by decide +kernel
theorem dL_law_145 : decode code 145 = .ok (.aload_n 0, 1) := by decide +kernel
theorem dL_law_146 : decode code 146 = .ok (.iload_n 3, 1) := by decide +kernel
theorem dL_law_147 : decode code 147 = .ok (.iconst 1, 1) := by decide +kernel
theorem dL_law_148 : decode code 148 = .ok (.iadd, 1) := by decide +kernel
theorem dL_law_149 : decode code 149 = .ok (.iaload, 1) := by decide +kernel
theorem dL_law_150 : decode code 150 = .ok (.aload_n 0, 1) := by decide +kernel
theorem dL_law_151 : decode code 151 = .ok (.iload_n 3, 1) := by decide +kernel
theorem dL_law_152 : decode code 152 = .ok (.iconst 2, 1) := by decide +kernel
theorem dL_law_153 : decode code 153 = .ok (.iadd, 1) := by decide +kernel
theorem dL_law_154 : decode code 154 = .ok (.iaload, 1) := by decide +kernel
theorem dL_law_155 : decode code 155 = .ok (.invokevirtual 13, 3) := by decide +kernel
theorem dL_law_158 : decode code 158 = .ok (.aload_n 2, 1) := by decide +kernel
theorem dL_law_159 : decode code 159 = .ok (.aload_n 0, 1) := by decide +kernel
theorem dL_law_160 : decode code 160 = .ok (.iload_n 3, 1) := by decide +kernel
theorem dL_law_161 : decode code 161 = .ok (.iconst 1, 1) := by decide +kernel
theorem dL_law_162 : decode code 162 = .ok (.iadd, 1) := by decide +kernel
theorem dL_law_163 : decode code 163 = .ok (.iaload, 1) := by decide +kernel
theorem dL_law_164 : decode code 164 = .ok (.aload_n 0, 1) := by decide +kernel
theorem dL_law_165 : decode code 165 = .ok (.iload_n 3, 1) := by decide +kernel
theorem dL_law_166 : decode code 166 = .ok (.iconst 2, 1) := by decide +kernel
theorem dL_law_167 : decode code 167 = .ok (.iadd, 1) := by decide +kernel
theorem dL_law_168 : decode code 168 = .ok (.iaload, 1) := by decide +kernel
theorem dL_law_169 : decode code 169 = .ok (.invokevirtual 17, 3) := by decide +kernel
theorem dL_law_172 : decode code 172 = .ok (.if_icmp .eq 1030, 3) := by decide +kernel
theorem dL_law_175 : decode code 175 = .ok (.iconst 0, 1) := by decide +kernel
theorem dL_law_176 : decode code 176 = .ok (.ireturn, 1) := by decide +kernel
theorem dL_law_177 : decode code 177 = .ok (.aload_n 1, 1) := by decide +kernel
theorem dL_law_178 : decode code 178 = .ok (.aload_n 0, 1) := by decide +kernel
theorem dL_law_179 : decode code 179 = .ok (.iload_n 3, 1) := by decide +kernel
theorem dL_law_180 : decode code 180 = .ok (.iconst 1, 1) := by decide +kernel
theorem dL_law_181 : decode code 181 = .ok (.iadd, 1) := by decide +kernel
theorem dL_law_182 : decode code 182 = .ok (.iaload, 1) := by decide +kernel
theorem dL_law_183 : decode code 183 = .ok (.aload_n 0, 1) := by decide +kernel
theorem dL_law_184 : decode code 184 = .ok (.iload_n 3, 1) := by decide +kernel
theorem dL_law_185 : decode code 185 = .ok (.iconst 2, 1) := by decide +kernel
theorem dL_law_186 : decode code 186 = .ok (.iadd, 1) := by decide +kernel
theorem dL_law_187 : decode code 187 = .ok (.iaload, 1) := by decide +kernel
theorem dL_law_188 : decode code 188 = .ok (.aload_n 0, 1) := by decide +kernel
theorem dL_law_189 : decode code 189 = .ok (.iload_n 3, 1) := by decide +kernel
theorem dL_law_190 : decode code 190 = .ok (.iconst 3, 1) := by decide +kernel
theorem dL_law_191 : decode code 191 = .ok (.iadd, 1) := by decide +kernel
theorem dL_law_192 : decode code 192 = .ok (.iaload, 1) := by decide +kernel
theorem dL_law_193 : decode code 193 = .ok (.aload_n 0, 1) := by decide +kernel
theorem dL_law_194 : decode code 194 = .ok (.iload_n 3, 1) := by decide +kernel
theorem dL_law_195 : decode code 195 = .ok (.iconst 4, 1) := by decide +kernel
theorem dL_law_196 : decode code 196 = .ok (.iadd, 1) := by decide +kernel
theorem dL_law_197 : decode code 197 = .ok (.iaload, 1) := by decide +kernel
theorem dL_law_198 : decode code 198 = .ok (.ifCond .eq 7, 3) := by decide +kernel
theorem dL_law_201 : decode code 201 = .ok (.iconst 1, 1) := by decide +kernel
theorem dL_law_202 : decode code 202 = .ok (.goto 4, 3) := by decide +kernel
theorem dL_law_205 : decode code 205 = .ok (.iconst 0, 1) := by decide +kernel
theorem dL_law_206 : decode code 206 = .ok (.invokevirtual 18, 3) := by decide +kernel
theorem dL_law_209 : decode code 209 = .ok (.aload_n 2, 1) := by decide +kernel
theorem dL_law_210 : decode code 210 = .ok (.aload_n 0, 1) := by decide +kernel
theorem dL_law_211 : decode code 211 = .ok (.iload_n 3, 1) := by decide +kernel
theorem dL_law_212 : decode code 212 = .ok (.iconst 1, 1) := by decide +kernel
theorem dL_law_213 : decode code 213 = .ok (.iadd, 1) := by decide +kernel
theorem dL_law_214 : decode code 214 = .ok (.iaload, 1) := by decide +kernel
theorem dL_law_215 : decode code 215 = .ok (.aload_n 0, 1) := by decide +kernel
theorem dL_law_216 : decode code 216 = .ok (.iload_n 3, 1) := by decide +kernel
theorem dL_law_217 : decode code 217 = .ok (.iconst 2, 1) := by decide +kernel
theorem dL_law_218 : decode code 218 = .ok (.iadd, 1) := by decide +kernel
theorem dL_law_219 : decode code 219 = .ok (.iaload, 1) := by decide +kernel
theorem dL_law_220 : decode code 220 = .ok (.aload_n 0, 1) := by decide +kernel
theorem dL_law_221 : decode code 221 = .ok (.iload_n 3, 1) := by decide +kernel
theorem dL_law_222 : decode code 222 = .ok (.iconst 3, 1) := by decide +kernel
theorem dL_law_223 : decode code 223 = .ok (.iadd, 1) := by decide +kernel
theorem dL_law_224 : decode code 224 = .ok (.iaload, 1) := by decide +kernel
theorem dL_law_225 : decode code 225 = .ok (.aload_n 0, 1) := by decide +kernel
theorem dL_law_226 : decode code 226 = .ok (.iload_n 3, 1) := by decide +kernel
theorem dL_law_227 : decode code 227 = .ok (.iconst 4, 1) := by decide +kernel
theorem dL_law_228 : decode code 228 = .ok (.iadd, 1) := by decide +kernel
theorem dL_law_229 : decode code 229 = .ok (.iaload, 1) := by decide +kernel
theorem dL_law_230 : decode code 230 = .ok (.ifCond .eq 7, 3) := by decide +kernel
theorem dL_law_233 : decode code 233 = .ok (.iconst 1, 1) := by decide +kernel
theorem dL_law_234 : decode code 234 = .ok (.goto 4, 3) := by decide +kernel
theorem dL_law_237 : decode code 237 = .ok (.iconst 0, 1) := by decide +kernel
theorem dL_law_238 : decode code 238 = .ok (.invokevirtual 22, 3) := by decide +kernel
theorem dL_law_241 : decode code 241 = .ok (.if_icmp .eq 961, 3) := by decide +kernel
theorem dL_law_244 : decode code 244 = .ok (.iconst 0, 1) := by decide +kernel
theorem dL_law_245 : decode code 245 = .ok (.ireturn, 1) := by decide +kernel
theorem dL_law_246 : decode code 246 = .ok (.aload_n 1, 1) := by decide +kernel
theorem dL_law_247 : decode code 247 = .ok (.aload_n 0, 1) := by decide +kernel
theorem dL_law_248 : decode code 248 = .ok (.iload_n 3, 1) := by decide +kernel
theorem dL_law_249 : decode code 249 = .ok (.iconst 1, 1) := by decide +kernel
theorem dL_law_250 : decode code 250 = .ok (.iadd, 1) := by decide +kernel
theorem dL_law_251 : decode code 251 = .ok (.iaload, 1) := by decide +kernel
theorem dL_law_252 : decode code 252 = .ok (.aload_n 0, 1) := by decide +kernel
theorem dL_law_253 : decode code 253 = .ok (.iload_n 3, 1) := by decide +kernel
theorem dL_law_254 : decode code 254 = .ok (.iconst 2, 1) := by decide +kernel
theorem dL_law_255 : decode code 255 = .ok (.iadd, 1) := by decide +kernel
theorem dL_law_256 : decode code 256 = .ok (.iaload, 1) := by decide +kernel
theorem dL_law_257 : decode code 257 = .ok (.invokevirtual 23, 3) := by decide +kernel
theorem dL_law_260 : decode code 260 = .ok (.aload_n 2, 1) := by decide +kernel
theorem dL_law_261 : decode code 261 = .ok (.aload_n 0, 1) := by decide +kernel
theorem dL_law_262 : decode code 262 = .ok (.iload_n 3, 1) := by decide +kernel
theorem dL_law_263 : decode code 263 = .ok (.iconst 1, 1) := by decide +kernel
theorem dL_law_264 : decode code 264 = .ok (.iadd, 1) := by decide +kernel
theorem dL_law_265 : decode code 265 = .ok (.iaload, 1) := by decide +kernel
theorem dL_law_266 : decode code 266 = .ok (.aload_n 0, 1) := by decide +kernel
theorem dL_law_267 : decode code 267 = .ok (.iload_n 3, 1) := by decide +kernel
theorem dL_law_268 : decode code 268 = .ok (.iconst 2, 1) := by decide +kernel
theorem dL_law_269 : decode code 269 = .ok (.iadd, 1) := by decide +kernel
theorem dL_law_270 : decode code 270 = .ok (.iaload, 1) := by decide +kernel
theorem dL_law_271 : decode code 271 = .ok (.invokevirtual 26, 3) := by decide +kernel
theorem dL_law_274 : decode code 274 = .ok (.if_icmp .eq 928, 3) := by decide +kernel
theorem dL_law_277 : decode code 277 = .ok (.iconst 0, 1) := by decide +kernel
theorem dL_law_278 : decode code 278 = .ok (.ireturn, 1) := by decide +kernel
theorem dL_law_279 : decode code 279 = .ok (.aload_n 1, 1) := by decide +kernel
theorem dL_law_280 : decode code 280 = .ok (.aload_n 0, 1) := by decide +kernel
theorem dL_law_281 : decode code 281 = .ok (.iload_n 3, 1) := by decide +kernel
theorem dL_law_282 : decode code 282 = .ok (.iconst 1, 1) := by decide +kernel
theorem dL_law_283 : decode code 283 = .ok (.iadd, 1) := by decide +kernel
theorem dL_law_284 : decode code 284 = .ok (.iaload, 1) := by decide +kernel
theorem dL_law_285 : decode code 285 = .ok (.aload_n 0, 1) := by decide +kernel
theorem dL_law_286 : decode code 286 = .ok (.iload_n 3, 1) := by decide +kernel
theorem dL_law_287 : decode code 287 = .ok (.iconst 2, 1) := by decide +kernel
theorem dL_law_288 : decode code 288 = .ok (.iadd, 1) := by decide +kernel
theorem dL_law_289 : decode code 289 = .ok (.iaload, 1) := by decide +kernel
theorem dL_law_290 : decode code 290 = .ok (.aload_n 0, 1) := by decide +kernel
theorem dL_law_291 : decode code 291 = .ok (.iload_n 3, 1) := by decide +kernel
theorem dL_law_292 : decode code 292 = .ok (.iconst 3, 1) := by decide +kernel
theorem dL_law_293 : decode code 293 = .ok (.iadd, 1) := by decide +kernel
theorem dL_law_294 : decode code 294 = .ok (.iaload, 1) := by decide +kernel
theorem dL_law_295 : decode code 295 = .ok (.aload_n 0, 1) := by decide +kernel
theorem dL_law_296 : decode code 296 = .ok (.iload_n 3, 1) := by decide +kernel
theorem dL_law_297 : decode code 297 = .ok (.iconst 4, 1) := by decide +kernel
theorem dL_law_298 : decode code 298 = .ok (.iadd, 1) := by decide +kernel
theorem dL_law_299 : decode code 299 = .ok (.iaload, 1) := by decide +kernel
theorem dL_law_300 : decode code 300 = .ok (.ifCond .eq 7, 3) := by decide +kernel
theorem dL_law_303 : decode code 303 = .ok (.iconst 1, 1) := by decide +kernel
theorem dL_law_304 : decode code 304 = .ok (.goto 4, 3) := by decide +kernel
theorem dL_law_307 : decode code 307 = .ok (.iconst 0, 1) := by decide +kernel
theorem dL_law_308 : decode code 308 = .ok (.invokevirtual 27, 3) := by decide +kernel
theorem dL_law_311 : decode code 311 = .ok (.aload_n 2, 1) := by decide +kernel
theorem dL_law_312 : decode code 312 = .ok (.aload_n 0, 1) := by decide +kernel
theorem dL_law_313 : decode code 313 = .ok (.iload_n 3, 1) := by decide +kernel
theorem dL_law_314 : decode code 314 = .ok (.iconst 1, 1) := by decide +kernel
theorem dL_law_315 : decode code 315 = .ok (.iadd, 1) := by decide +kernel
theorem dL_law_316 : decode code 316 = .ok (.iaload, 1) := by decide +kernel
theorem dL_law_317 : decode code 317 = .ok (.aload_n 0, 1) := by decide +kernel
theorem dL_law_318 : decode code 318 = .ok (.iload_n 3, 1) := by decide +kernel
theorem dL_law_319 : decode code 319 = .ok (.iconst 2, 1) := by decide +kernel
theorem dL_law_320 : decode code 320 = .ok (.iadd, 1) := by decide +kernel
theorem dL_law_321 : decode code 321 = .ok (.iaload, 1) := by decide +kernel
theorem dL_law_322 : decode code 322 = .ok (.aload_n 0, 1) := by decide +kernel
theorem dL_law_323 : decode code 323 = .ok (.iload_n 3, 1) := by decide +kernel
theorem dL_law_324 : decode code 324 = .ok (.iconst 3, 1) := by decide +kernel
theorem dL_law_325 : decode code 325 = .ok (.iadd, 1) := by decide +kernel
theorem dL_law_326 : decode code 326 = .ok (.iaload, 1) := by decide +kernel
theorem dL_law_327 : decode code 327 = .ok (.aload_n 0, 1) := by decide +kernel
theorem dL_law_328 : decode code 328 = .ok (.iload_n 3, 1) := by decide +kernel
theorem dL_law_329 : decode code 329 = .ok (.iconst 4, 1) := by decide +kernel
theorem dL_law_330 : decode code 330 = .ok (.iadd, 1) := by decide +kernel
theorem dL_law_331 : decode code 331 = .ok (.iaload, 1) := by decide +kernel
theorem dL_law_332 : decode code 332 = .ok (.ifCond .eq 7, 3) := by decide +kernel
theorem dL_law_335 : decode code 335 = .ok (.iconst 1, 1) := by decide +kernel
theorem dL_law_336 : decode code 336 = .ok (.goto 4, 3) := by decide +kernel
theorem dL_law_339 : decode code 339 = .ok (.iconst 0, 1) := by decide +kernel
theorem dL_law_340 : decode code 340 = .ok (.invokevirtual 30, 3) := by decide +kernel
theorem dL_law_343 : decode code 343 = .ok (.if_icmp .eq 859, 3) := by decide +kernel
theorem dL_law_346 : decode code 346 = .ok (.iconst 0, 1) := by decide +kernel
theorem dL_law_347 : decode code 347 = .ok (.ireturn, 1) := by decide +kernel
theorem dL_law_348 : decode code 348 = .ok (.aload_n 1, 1) := by decide +kernel
theorem dL_law_349 : decode code 349 = .ok (.aload_n 0, 1) := by decide +kernel
theorem dL_law_350 : decode code 350 = .ok (.iload_n 3, 1) := by decide +kernel
theorem dL_law_351 : decode code 351 = .ok (.iconst 1, 1) := by decide +kernel
theorem dL_law_352 : decode code 352 = .ok (.iadd, 1) := by decide +kernel
theorem dL_law_353 : decode code 353 = .ok (.iaload, 1) := by decide +kernel
theorem dL_law_354 : decode code 354 = .ok (.i2l, 1) := by decide +kernel
theorem dL_law_355 : decode code 355 = .ok (.bipush 32, 2) := by decide +kernel
theorem dL_law_357 : decode code 357 = .ok (.lshl, 1) := by decide +kernel
theorem dL_law_358 : decode code 358 = .ok (.aload_n 0, 1) := by decide +kernel
theorem dL_law_359 : decode code 359 = .ok (.iload_n 3, 1) := by decide +kernel
theorem dL_law_360 : decode code 360 = .ok (.iconst 2, 1) := by decide +kernel
theorem dL_law_361 : decode code 361 = .ok (.iadd, 1) := by decide +kernel
theorem dL_law_362 : decode code 362 = .ok (.iaload, 1) := by decide +kernel
theorem dL_law_363 : decode code 363 = .ok (.i2l, 1) := by decide +kernel
theorem dL_law_364 : decode code 364 = .ok (.ldc2_w 31, 3) := by decide +kernel
theorem dL_law_367 : decode code 367 = .ok (.land, 1) := by decide +kernel
theorem dL_law_368 : decode code 368 = .ok (.lor, 1) := by decide +kernel
theorem dL_law_369 : decode code 369 = .ok (.aload_n 0, 1) := by decide +kernel
theorem dL_law_370 : decode code 370 = .ok (.iload_n 3, 1) := by decide +kernel
theorem dL_law_371 : decode code 371 = .ok (.iconst 3, 1) := by decide +kernel
theorem dL_law_372 : decode code 372 = .ok (.iadd, 1) := by decide +kernel
theorem dL_law_373 : decode code 373 = .ok (.iaload, 1) := by decide +kernel
theorem dL_law_374 : decode code 374 = .ok (.invokevirtual 33, 3) := by decide +kernel
theorem dL_law_377 : decode code 377 = .ok (.aload_n 2, 1) := by decide +kernel
theorem dL_law_378 : decode code 378 = .ok (.aload_n 0, 1) := by decide +kernel
theorem dL_law_379 : decode code 379 = .ok (.iload_n 3, 1) := by decide +kernel
theorem dL_law_380 : decode code 380 = .ok (.iconst 1, 1) := by decide +kernel
theorem dL_law_381 : decode code 381 = .ok (.iadd, 1) := by decide +kernel
theorem dL_law_382 : decode code 382 = .ok (.iaload, 1) := by decide +kernel
theorem dL_law_383 : decode code 383 = .ok (.i2l, 1) := by decide +kernel
theorem dL_law_384 : decode code 384 = .ok (.bipush 32, 2) := by decide +kernel
theorem dL_law_386 : decode code 386 = .ok (.lshl, 1) := by decide +kernel
theorem dL_law_387 : decode code 387 = .ok (.aload_n 0, 1) := by decide +kernel
theorem dL_law_388 : decode code 388 = .ok (.iload_n 3, 1) := by decide +kernel
theorem dL_law_389 : decode code 389 = .ok (.iconst 2, 1) := by decide +kernel
theorem dL_law_390 : decode code 390 = .ok (.iadd, 1) := by decide +kernel
theorem dL_law_391 : decode code 391 = .ok (.iaload, 1) := by decide +kernel
theorem dL_law_392 : decode code 392 = .ok (.i2l, 1) := by decide +kernel
theorem dL_law_393 : decode code 393 = .ok (.ldc2_w 31, 3) := by decide +kernel
theorem dL_law_396 : decode code 396 = .ok (.land, 1) := by decide +kernel
theorem dL_law_397 : decode code 397 = .ok (.lor, 1) := by decide +kernel
theorem dL_law_398 : decode code 398 = .ok (.aload_n 0, 1) := by decide +kernel
theorem dL_law_399 : decode code 399 = .ok (.iload_n 3, 1) := by decide +kernel
theorem dL_law_400 : decode code 400 = .ok (.iconst 3, 1) := by decide +kernel
theorem dL_law_401 : decode code 401 = .ok (.iadd, 1) := by decide +kernel
theorem dL_law_402 : decode code 402 = .ok (.iaload, 1) := by decide +kernel
theorem dL_law_403 : decode code 403 = .ok (.invokevirtual 37, 3) := by decide +kernel
theorem dL_law_406 : decode code 406 = .ok (.if_icmp .eq 796, 3) := by decide +kernel
theorem dL_law_409 : decode code 409 = .ok (.iconst 0, 1) := by decide +kernel
theorem dL_law_410 : decode code 410 = .ok (.ireturn, 1) := by decide +kernel
theorem dL_law_411 : decode code 411 = .ok (.aload_n 1, 1) := by decide +kernel
theorem dL_law_412 : decode code 412 = .ok (.invokevirtual 38, 3) := by decide +kernel
theorem dL_law_415 : decode code 415 = .ok (.aload_n 2, 1) := by decide +kernel
theorem dL_law_416 : decode code 416 = .ok (.invokevirtual 42, 3) := by decide +kernel
theorem dL_law_419 : decode code 419 = .ok (.if_icmp .eq 783, 3) := by decide +kernel
theorem dL_law_422 : decode code 422 = .ok (.iconst 0, 1) := by decide +kernel
theorem dL_law_423 : decode code 423 = .ok (.ireturn, 1) := by decide +kernel
theorem dL_law_424 : decode code 424 = .ok (.aload_n 1, 1) := by decide +kernel
theorem dL_law_425 : decode code 425 = .ok (.aload_n 0, 1) := by decide +kernel
theorem dL_law_426 : decode code 426 = .ok (.iload_n 3, 1) := by decide +kernel
theorem dL_law_427 : decode code 427 = .ok (.iconst 1, 1) := by decide +kernel
theorem dL_law_428 : decode code 428 = .ok (.iadd, 1) := by decide +kernel
theorem dL_law_429 : decode code 429 = .ok (.iaload, 1) := by decide +kernel
theorem dL_law_430 : decode code 430 = .ok (.aload_n 0, 1) := by decide +kernel
theorem dL_law_431 : decode code 431 = .ok (.iload_n 3, 1) := by decide +kernel
theorem dL_law_432 : decode code 432 = .ok (.iconst 2, 1) := by decide +kernel
theorem dL_law_433 : decode code 433 = .ok (.iadd, 1) := by decide +kernel
theorem dL_law_434 : decode code 434 = .ok (.iaload, 1) := by decide +kernel
theorem dL_law_435 : decode code 435 = .ok (.aload_n 0, 1) := by decide +kernel
theorem dL_law_436 : decode code 436 = .ok (.iload_n 3, 1) := by decide +kernel
theorem dL_law_437 : decode code 437 = .ok (.iconst 3, 1) := by decide +kernel
theorem dL_law_438 : decode code 438 = .ok (.iadd, 1) := by decide +kernel
theorem dL_law_439 : decode code 439 = .ok (.iaload, 1) := by decide +kernel
theorem dL_law_440 : decode code 440 = .ok (.invokevirtual 43, 3) := by decide +kernel
theorem dL_law_443 : decode code 443 = .ok (.aload_n 2, 1) := by decide +kernel
theorem dL_law_444 : decode code 444 = .ok (.aload_n 0, 1) := by decide +kernel
theorem dL_law_445 : decode code 445 = .ok (.iload_n 3, 1) := by decide +kernel
theorem dL_law_446 : decode code 446 = .ok (.iconst 1, 1) := by decide +kernel
theorem dL_law_447 : decode code 447 = .ok (.iadd, 1) := by decide +kernel
theorem dL_law_448 : decode code 448 = .ok (.iaload, 1) := by decide +kernel
theorem dL_law_449 : decode code 449 = .ok (.aload_n 0, 1) := by decide +kernel
theorem dL_law_450 : decode code 450 = .ok (.iload_n 3, 1) := by decide +kernel
theorem dL_law_451 : decode code 451 = .ok (.iconst 2, 1) := by decide +kernel
theorem dL_law_452 : decode code 452 = .ok (.iadd, 1) := by decide +kernel
theorem dL_law_453 : decode code 453 = .ok (.iaload, 1) := by decide +kernel
theorem dL_law_454 : decode code 454 = .ok (.aload_n 0, 1) := by decide +kernel
theorem dL_law_455 : decode code 455 = .ok (.iload_n 3, 1) := by decide +kernel
theorem dL_law_456 : decode code 456 = .ok (.iconst 3, 1) := by decide +kernel
theorem dL_law_457 : decode code 457 = .ok (.iadd, 1) := by decide +kernel
theorem dL_law_458 : decode code 458 = .ok (.iaload, 1) := by decide +kernel
theorem dL_law_459 : decode code 459 = .ok (.invokevirtual 47, 3) := by decide +kernel
theorem dL_law_462 : decode code 462 = .ok (.if_icmp .eq 740, 3) := by decide +kernel
theorem dL_law_465 : decode code 465 = .ok (.iconst 0, 1) := by decide +kernel
theorem dL_law_466 : decode code 466 = .ok (.ireturn, 1) := by decide +kernel
theorem dL_law_467 : decode code 467 = .ok (.aload_n 1, 1) := by decide +kernel
theorem dL_law_468 : decode code 468 = .ok (.aload_n 0, 1) := by decide +kernel
theorem dL_law_469 : decode code 469 = .ok (.iload_n 3, 1) := by decide +kernel
theorem dL_law_470 : decode code 470 = .ok (.iconst 1, 1) := by decide +kernel
theorem dL_law_471 : decode code 471 = .ok (.iadd, 1) := by decide +kernel
theorem dL_law_472 : decode code 472 = .ok (.iaload, 1) := by decide +kernel
theorem dL_law_473 : decode code 473 = .ok (.aload_n 0, 1) := by decide +kernel
theorem dL_law_474 : decode code 474 = .ok (.iload_n 3, 1) := by decide +kernel
theorem dL_law_475 : decode code 475 = .ok (.iconst 2, 1) := by decide +kernel
theorem dL_law_476 : decode code 476 = .ok (.iadd, 1) := by decide +kernel
theorem dL_law_477 : decode code 477 = .ok (.iaload, 1) := by decide +kernel
theorem dL_law_478 : decode code 478 = .ok (.aload_n 0, 1) := by decide +kernel
theorem dL_law_479 : decode code 479 = .ok (.iload_n 3, 1) := by decide +kernel
theorem dL_law_480 : decode code 480 = .ok (.iconst 3, 1) := by decide +kernel
theorem dL_law_481 : decode code 481 = .ok (.iadd, 1) := by decide +kernel
theorem dL_law_482 : decode code 482 = .ok (.iaload, 1) := by decide +kernel
theorem dL_law_483 : decode code 483 = .ok (.invokevirtual 48, 3) := by decide +kernel
theorem dL_law_486 : decode code 486 = .ok (.aload_n 2, 1) := by decide +kernel
theorem dL_law_487 : decode code 487 = .ok (.aload_n 0, 1) := by decide +kernel
theorem dL_law_488 : decode code 488 = .ok (.iload_n 3, 1) := by decide +kernel
theorem dL_law_489 : decode code 489 = .ok (.iconst 1, 1) := by decide +kernel
theorem dL_law_490 : decode code 490 = .ok (.iadd, 1) := by decide +kernel
theorem dL_law_491 : decode code 491 = .ok (.iaload, 1) := by decide +kernel
theorem dL_law_492 : decode code 492 = .ok (.aload_n 0, 1) := by decide +kernel
theorem dL_law_493 : decode code 493 = .ok (.iload_n 3, 1) := by decide +kernel
theorem dL_law_494 : decode code 494 = .ok (.iconst 2, 1) := by decide +kernel
theorem dL_law_495 : decode code 495 = .ok (.iadd, 1) := by decide +kernel
theorem dL_law_496 : decode code 496 = .ok (.iaload, 1) := by decide +kernel
theorem dL_law_497 : decode code 497 = .ok (.aload_n 0, 1) := by decide +kernel
theorem dL_law_498 : decode code 498 = .ok (.iload_n 3, 1) := by decide +kernel
theorem dL_law_499 : decode code 499 = .ok (.iconst 3, 1) := by decide +kernel
theorem dL_law_500 : decode code 500 = .ok (.iadd, 1) := by decide +kernel
theorem dL_law_501 : decode code 501 = .ok (.iaload, 1) := by decide +kernel
theorem dL_law_502 : decode code 502 = .ok (.invokevirtual 51, 3) := by decide +kernel
theorem dL_law_505 : decode code 505 = .ok (.if_icmp .eq 697, 3) := by decide +kernel
theorem dL_law_508 : decode code 508 = .ok (.iconst 0, 1) := by decide +kernel
theorem dL_law_509 : decode code 509 = .ok (.ireturn, 1) := by decide +kernel
theorem dL_law_510 : decode code 510 = .ok (.aload_n 1, 1) := by decide +kernel
theorem dL_law_511 : decode code 511 = .ok (.aload_n 0, 1) := by decide +kernel
theorem dL_law_512 : decode code 512 = .ok (.iload_n 3, 1) := by decide +kernel
theorem dL_law_513 : decode code 513 = .ok (.iconst 1, 1) := by decide +kernel
theorem dL_law_514 : decode code 514 = .ok (.iadd, 1) := by decide +kernel
theorem dL_law_515 : decode code 515 = .ok (.iaload, 1) := by decide +kernel
theorem dL_law_516 : decode code 516 = .ok (.aload_n 0, 1) := by decide +kernel
theorem dL_law_517 : decode code 517 = .ok (.iload_n 3, 1) := by decide +kernel
theorem dL_law_518 : decode code 518 = .ok (.iconst 2, 1) := by decide +kernel
theorem dL_law_519 : decode code 519 = .ok (.iadd, 1) := by decide +kernel
theorem dL_law_520 : decode code 520 = .ok (.iaload, 1) := by decide +kernel
theorem dL_law_521 : decode code 521 = .ok (.aload_n 0, 1) := by decide +kernel
theorem dL_law_522 : decode code 522 = .ok (.iload_n 3, 1) := by decide +kernel
theorem dL_law_523 : decode code 523 = .ok (.iconst 3, 1) := by decide +kernel
theorem dL_law_524 : decode code 524 = .ok (.iadd, 1) := by decide +kernel
theorem dL_law_525 : decode code 525 = .ok (.iaload, 1) := by decide +kernel
theorem dL_law_526 : decode code 526 = .ok (.aload_n 0, 1) := by decide +kernel
theorem dL_law_527 : decode code 527 = .ok (.iload_n 3, 1) := by decide +kernel
theorem dL_law_528 : decode code 528 = .ok (.iconst 4, 1) := by decide +kernel
theorem dL_law_529 : decode code 529 = .ok (.iadd, 1) := by decide +kernel
theorem dL_law_530 : decode code 530 = .ok (.iaload, 1) := by decide +kernel
theorem dL_law_531 : decode code 531 = .ok (.ifCond .eq 7, 3) := by decide +kernel
theorem dL_law_534 : decode code 534 = .ok (.iconst 1, 1) := by decide +kernel
theorem dL_law_535 : decode code 535 = .ok (.goto 4, 3) := by decide +kernel
theorem dL_law_538 : decode code 538 = .ok (.iconst 0, 1) := by decide +kernel
theorem dL_law_539 : decode code 539 = .ok (.aload_n 0, 1) := by decide +kernel
theorem dL_law_540 : decode code 540 = .ok (.iload_n 3, 1) := by decide +kernel
theorem dL_law_541 : decode code 541 = .ok (.iconst 5, 1) := by decide +kernel
theorem dL_law_542 : decode code 542 = .ok (.iadd, 1) := by decide +kernel
theorem dL_law_543 : decode code 543 = .ok (.iaload, 1) := by decide +kernel
theorem dL_law_544 : decode code 544 = .ok (.invokevirtual 52, 3) := by decide +kernel
theorem dL_law_547 : decode code 547 = .ok (.aload_n 2, 1) := by decide +kernel
theorem dL_law_548 : decode code 548 = .ok (.aload_n 0, 1) := by decide +kernel
theorem dL_law_549 : decode code 549 = .ok (.iload_n 3, 1) := by decide +kernel
theorem dL_law_550 : decode code 550 = .ok (.iconst 1, 1) := by decide +kernel
theorem dL_law_551 : decode code 551 = .ok (.iadd, 1) := by decide +kernel
theorem dL_law_552 : decode code 552 = .ok (.iaload, 1) := by decide +kernel
theorem dL_law_553 : decode code 553 = .ok (.aload_n 0, 1) := by decide +kernel
theorem dL_law_554 : decode code 554 = .ok (.iload_n 3, 1) := by decide +kernel
theorem dL_law_555 : decode code 555 = .ok (.iconst 2, 1) := by decide +kernel
theorem dL_law_556 : decode code 556 = .ok (.iadd, 1) := by decide +kernel
theorem dL_law_557 : decode code 557 = .ok (.iaload, 1) := by decide +kernel
theorem dL_law_558 : decode code 558 = .ok (.aload_n 0, 1) := by decide +kernel
theorem dL_law_559 : decode code 559 = .ok (.iload_n 3, 1) := by decide +kernel
theorem dL_law_560 : decode code 560 = .ok (.iconst 3, 1) := by decide +kernel
theorem dL_law_561 : decode code 561 = .ok (.iadd, 1) := by decide +kernel
theorem dL_law_562 : decode code 562 = .ok (.iaload, 1) := by decide +kernel
theorem dL_law_563 : decode code 563 = .ok (.aload_n 0, 1) := by decide +kernel
theorem dL_law_564 : decode code 564 = .ok (.iload_n 3, 1) := by decide +kernel
theorem dL_law_565 : decode code 565 = .ok (.iconst 4, 1) := by decide +kernel
theorem dL_law_566 : decode code 566 = .ok (.iadd, 1) := by decide +kernel
theorem dL_law_567 : decode code 567 = .ok (.iaload, 1) := by decide +kernel
theorem dL_law_568 : decode code 568 = .ok (.ifCond .eq 7, 3) := by decide +kernel
theorem dL_law_571 : decode code 571 = .ok (.iconst 1, 1) := by decide +kernel
theorem dL_law_572 : decode code 572 = .ok (.goto 4, 3) := by decide +kernel
theorem dL_law_575 : decode code 575 = .ok (.iconst 0, 1) := by decide +kernel
theorem dL_law_576 : decode code 576 = .ok (.aload_n 0, 1) := by decide +kernel
theorem dL_law_577 : decode code 577 = .ok (.iload_n 3, 1) := by decide +kernel
theorem dL_law_578 : decode code 578 = .ok (.iconst 5, 1) := by decide +kernel
theorem dL_law_579 : decode code 579 = .ok (.iadd, 1) := by decide +kernel
theorem dL_law_580 : decode code 580 = .ok (.iaload, 1) := by decide +kernel
theorem dL_law_581 : decode code 581 = .ok (.invokevirtual 56, 3) := by decide +kernel
theorem dL_law_584 : decode code 584 = .ok (.if_icmp .eq 618, 3) := by decide +kernel
theorem dL_law_587 : decode code 587 = .ok (.iconst 0, 1) := by decide +kernel
theorem dL_law_588 : decode code 588 = .ok (.ireturn, 1) := by decide +kernel
theorem dL_law_589 : decode code 589 = .ok (.aload_n 1, 1) := by decide +kernel
theorem dL_law_590 : decode code 590 = .ok (.aload_n 0, 1) := by decide +kernel
theorem dL_law_591 : decode code 591 = .ok (.iload_n 3, 1) := by decide +kernel
theorem dL_law_592 : decode code 592 = .ok (.iconst 1, 1) := by decide +kernel
theorem dL_law_593 : decode code 593 = .ok (.iadd, 1) := by decide +kernel
theorem dL_law_594 : decode code 594 = .ok (.iaload, 1) := by decide +kernel
theorem dL_law_595 : decode code 595 = .ok (.aload_n 0, 1) := by decide +kernel
theorem dL_law_596 : decode code 596 = .ok (.iload_n 3, 1) := by decide +kernel
theorem dL_law_597 : decode code 597 = .ok (.iconst 2, 1) := by decide +kernel
theorem dL_law_598 : decode code 598 = .ok (.iadd, 1) := by decide +kernel
theorem dL_law_599 : decode code 599 = .ok (.iaload, 1) := by decide +kernel
theorem dL_law_600 : decode code 600 = .ok (.aload_n 0, 1) := by decide +kernel
theorem dL_law_601 : decode code 601 = .ok (.iload_n 3, 1) := by decide +kernel
theorem dL_law_602 : decode code 602 = .ok (.iconst 3, 1) := by decide +kernel
theorem dL_law_603 : decode code 603 = .ok (.iadd, 1) := by decide +kernel
theorem dL_law_604 : decode code 604 = .ok (.iaload, 1) := by decide +kernel
theorem dL_law_605 : decode code 605 = .ok (.aload_n 0, 1) := by decide +kernel
theorem dL_law_606 : decode code 606 = .ok (.iload_n 3, 1) := by decide +kernel
theorem dL_law_607 : decode code 607 = .ok (.iconst 4, 1) := by decide +kernel
theorem dL_law_608 : decode code 608 = .ok (.iadd, 1) := by decide +kernel
theorem dL_law_609 : decode code 609 = .ok (.iaload, 1) := by decide +kernel
theorem dL_law_610 : decode code 610 = .ok (.ifCond .eq 7, 3) := by decide +kernel
theorem dL_law_613 : decode code 613 = .ok (.iconst 1, 1) := by decide +kernel
theorem dL_law_614 : decode code 614 = .ok (.goto 4, 3) := by decide +kernel
theorem dL_law_617 : decode code 617 = .ok (.iconst 0, 1) := by decide +kernel
theorem dL_law_618 : decode code 618 = .ok (.invokevirtual 57, 3) := by decide +kernel
theorem dL_law_621 : decode code 621 = .ok (.aload_n 2, 1) := by decide +kernel
theorem dL_law_622 : decode code 622 = .ok (.aload_n 0, 1) := by decide +kernel
theorem dL_law_623 : decode code 623 = .ok (.iload_n 3, 1) := by decide +kernel
theorem dL_law_624 : decode code 624 = .ok (.iconst 1, 1) := by decide +kernel
theorem dL_law_625 : decode code 625 = .ok (.iadd, 1) := by decide +kernel
theorem dL_law_626 : decode code 626 = .ok (.iaload, 1) := by decide +kernel
theorem dL_law_627 : decode code 627 = .ok (.aload_n 0, 1) := by decide +kernel
theorem dL_law_628 : decode code 628 = .ok (.iload_n 3, 1) := by decide +kernel
theorem dL_law_629 : decode code 629 = .ok (.iconst 2, 1) := by decide +kernel
theorem dL_law_630 : decode code 630 = .ok (.iadd, 1) := by decide +kernel
theorem dL_law_631 : decode code 631 = .ok (.iaload, 1) := by decide +kernel
theorem dL_law_632 : decode code 632 = .ok (.aload_n 0, 1) := by decide +kernel
theorem dL_law_633 : decode code 633 = .ok (.iload_n 3, 1) := by decide +kernel
theorem dL_law_634 : decode code 634 = .ok (.iconst 3, 1) := by decide +kernel
theorem dL_law_635 : decode code 635 = .ok (.iadd, 1) := by decide +kernel
theorem dL_law_636 : decode code 636 = .ok (.iaload, 1) := by decide +kernel
theorem dL_law_637 : decode code 637 = .ok (.aload_n 0, 1) := by decide +kernel
theorem dL_law_638 : decode code 638 = .ok (.iload_n 3, 1) := by decide +kernel
theorem dL_law_639 : decode code 639 = .ok (.iconst 4, 1) := by decide +kernel
theorem dL_law_640 : decode code 640 = .ok (.iadd, 1) := by decide +kernel
theorem dL_law_641 : decode code 641 = .ok (.iaload, 1) := by decide +kernel
theorem dL_law_642 : decode code 642 = .ok (.ifCond .eq 7, 3) := by decide +kernel
theorem dL_law_645 : decode code 645 = .ok (.iconst 1, 1) := by decide +kernel
theorem dL_law_646 : decode code 646 = .ok (.goto 4, 3) := by decide +kernel
theorem dL_law_649 : decode code 649 = .ok (.iconst 0, 1) := by decide +kernel
theorem dL_law_650 : decode code 650 = .ok (.invokevirtual 60, 3) := by decide +kernel
theorem dL_law_653 : decode code 653 = .ok (.if_icmp .eq 549, 3) := by decide +kernel
theorem dL_law_656 : decode code 656 = .ok (.iconst 0, 1) := by decide +kernel
theorem dL_law_657 : decode code 657 = .ok (.ireturn, 1) := by decide +kernel
theorem dL_law_658 : decode code 658 = .ok (.aload_n 1, 1) := by decide +kernel
theorem dL_law_659 : decode code 659 = .ok (.aload_n 0, 1) := by decide +kernel
theorem dL_law_660 : decode code 660 = .ok (.iload_n 3, 1) := by decide +kernel
theorem dL_law_661 : decode code 661 = .ok (.iconst 1, 1) := by decide +kernel
theorem dL_law_662 : decode code 662 = .ok (.iadd, 1) := by decide +kernel
theorem dL_law_663 : decode code 663 = .ok (.iaload, 1) := by decide +kernel
theorem dL_law_664 : decode code 664 = .ok (.aload_n 0, 1) := by decide +kernel
theorem dL_law_665 : decode code 665 = .ok (.iload_n 3, 1) := by decide +kernel
theorem dL_law_666 : decode code 666 = .ok (.iconst 2, 1) := by decide +kernel
theorem dL_law_667 : decode code 667 = .ok (.iadd, 1) := by decide +kernel
theorem dL_law_668 : decode code 668 = .ok (.iaload, 1) := by decide +kernel
theorem dL_law_669 : decode code 669 = .ok (.aload_n 0, 1) := by decide +kernel
theorem dL_law_670 : decode code 670 = .ok (.iload_n 3, 1) := by decide +kernel
theorem dL_law_671 : decode code 671 = .ok (.iconst 3, 1) := by decide +kernel
theorem dL_law_672 : decode code 672 = .ok (.iadd, 1) := by decide +kernel
theorem dL_law_673 : decode code 673 = .ok (.iaload, 1) := by decide +kernel
theorem dL_law_674 : decode code 674 = .ok (.aload_n 0, 1) := by decide +kernel
theorem dL_law_675 : decode code 675 = .ok (.iload_n 3, 1) := by decide +kernel
theorem dL_law_676 : decode code 676 = .ok (.iconst 4, 1) := by decide +kernel
theorem dL_law_677 : decode code 677 = .ok (.iadd, 1) := by decide +kernel
theorem dL_law_678 : decode code 678 = .ok (.iaload, 1) := by decide +kernel
theorem dL_law_679 : decode code 679 = .ok (.ifCond .eq 7, 3) := by decide +kernel
theorem dL_law_682 : decode code 682 = .ok (.iconst 1, 1) := by decide +kernel
theorem dL_law_683 : decode code 683 = .ok (.goto 4, 3) := by decide +kernel
theorem dL_law_686 : decode code 686 = .ok (.iconst 0, 1) := by decide +kernel
theorem dL_law_687 : decode code 687 = .ok (.aload_n 0, 1) := by decide +kernel
theorem dL_law_688 : decode code 688 = .ok (.iload_n 3, 1) := by decide +kernel
theorem dL_law_689 : decode code 689 = .ok (.iconst 5, 1) := by decide +kernel
theorem dL_law_690 : decode code 690 = .ok (.iadd, 1) := by decide +kernel
theorem dL_law_691 : decode code 691 = .ok (.iaload, 1) := by decide +kernel
theorem dL_law_692 : decode code 692 = .ok (.invokevirtual 61, 3) := by decide +kernel
theorem dL_law_695 : decode code 695 = .ok (.aload_n 2, 1) := by decide +kernel
theorem dL_law_696 : decode code 696 = .ok (.aload_n 0, 1) := by decide +kernel
theorem dL_law_697 : decode code 697 = .ok (.iload_n 3, 1) := by decide +kernel
theorem dL_law_698 : decode code 698 = .ok (.iconst 1, 1) := by decide +kernel
theorem dL_law_699 : decode code 699 = .ok (.iadd, 1) := by decide +kernel
theorem dL_law_700 : decode code 700 = .ok (.iaload, 1) := by decide +kernel
theorem dL_law_701 : decode code 701 = .ok (.aload_n 0, 1) := by decide +kernel
theorem dL_law_702 : decode code 702 = .ok (.iload_n 3, 1) := by decide +kernel
theorem dL_law_703 : decode code 703 = .ok (.iconst 2, 1) := by decide +kernel
theorem dL_law_704 : decode code 704 = .ok (.iadd, 1) := by decide +kernel
theorem dL_law_705 : decode code 705 = .ok (.iaload, 1) := by decide +kernel
theorem dL_law_706 : decode code 706 = .ok (.aload_n 0, 1) := by decide +kernel
theorem dL_law_707 : decode code 707 = .ok (.iload_n 3, 1) := by decide +kernel
theorem dL_law_708 : decode code 708 = .ok (.iconst 3, 1) := by decide +kernel
theorem dL_law_709 : decode code 709 = .ok (.iadd, 1) := by decide +kernel
theorem dL_law_710 : decode code 710 = .ok (.iaload, 1) := by decide +kernel
theorem dL_law_711 : decode code 711 = .ok (.aload_n 0, 1) := by decide +kernel
theorem dL_law_712 : decode code 712 = .ok (.iload_n 3, 1) := by decide +kernel
theorem dL_law_713 : decode code 713 = .ok (.iconst 4, 1) := by decide +kernel
theorem dL_law_714 : decode code 714 = .ok (.iadd, 1) := by decide +kernel
theorem dL_law_715 : decode code 715 = .ok (.iaload, 1) := by decide +kernel
theorem dL_law_716 : decode code 716 = .ok (.ifCond .eq 7, 3) := by decide +kernel
theorem dL_law_719 : decode code 719 = .ok (.iconst 1, 1) := by decide +kernel
theorem dL_law_720 : decode code 720 = .ok (.goto 4, 3) := by decide +kernel
theorem dL_law_723 : decode code 723 = .ok (.iconst 0, 1) := by decide +kernel
theorem dL_law_724 : decode code 724 = .ok (.aload_n 0, 1) := by decide +kernel
theorem dL_law_725 : decode code 725 = .ok (.iload_n 3, 1) := by decide +kernel
theorem dL_law_726 : decode code 726 = .ok (.iconst 5, 1) := by decide +kernel
theorem dL_law_727 : decode code 727 = .ok (.iadd, 1) := by decide +kernel
theorem dL_law_728 : decode code 728 = .ok (.iaload, 1) := by decide +kernel
theorem dL_law_729 : decode code 729 = .ok (.invokevirtual 64, 3) := by decide +kernel
theorem dL_law_732 : decode code 732 = .ok (.if_icmp .eq 470, 3) := by decide +kernel
theorem dL_law_735 : decode code 735 = .ok (.iconst 0, 1) := by decide +kernel
theorem dL_law_736 : decode code 736 = .ok (.ireturn, 1) := by decide +kernel
theorem dL_law_737 : decode code 737 = .ok (.aload_n 1, 1) := by decide +kernel
theorem dL_law_738 : decode code 738 = .ok (.aload_n 0, 1) := by decide +kernel
theorem dL_law_739 : decode code 739 = .ok (.iload_n 3, 1) := by decide +kernel
theorem dL_law_740 : decode code 740 = .ok (.iconst 1, 1) := by decide +kernel
theorem dL_law_741 : decode code 741 = .ok (.iadd, 1) := by decide +kernel
theorem dL_law_742 : decode code 742 = .ok (.iaload, 1) := by decide +kernel
theorem dL_law_743 : decode code 743 = .ok (.aload_n 0, 1) := by decide +kernel
theorem dL_law_744 : decode code 744 = .ok (.iload_n 3, 1) := by decide +kernel
theorem dL_law_745 : decode code 745 = .ok (.iconst 2, 1) := by decide +kernel
theorem dL_law_746 : decode code 746 = .ok (.iadd, 1) := by decide +kernel
theorem dL_law_747 : decode code 747 = .ok (.iaload, 1) := by decide +kernel
theorem dL_law_748 : decode code 748 = .ok (.ifCond .eq 7, 3) := by decide +kernel
theorem dL_law_751 : decode code 751 = .ok (.iconst 1, 1) := by decide +kernel
theorem dL_law_752 : decode code 752 = .ok (.goto 4, 3) := by decide +kernel
theorem dL_law_755 : decode code 755 = .ok (.iconst 0, 1) := by decide +kernel
theorem dL_law_756 : decode code 756 = .ok (.invokevirtual 65, 3) := by decide +kernel
theorem dL_law_759 : decode code 759 = .ok (.aload_n 2, 1) := by decide +kernel
theorem dL_law_760 : decode code 760 = .ok (.aload_n 0, 1) := by decide +kernel
theorem dL_law_761 : decode code 761 = .ok (.iload_n 3, 1) := by decide +kernel
theorem dL_law_762 : decode code 762 = .ok (.iconst 1, 1) := by decide +kernel
theorem dL_law_763 : decode code 763 = .ok (.iadd, 1) := by decide +kernel
theorem dL_law_764 : decode code 764 = .ok (.iaload, 1) := by decide +kernel
theorem dL_law_765 : decode code 765 = .ok (.aload_n 0, 1) := by decide +kernel
theorem dL_law_766 : decode code 766 = .ok (.iload_n 3, 1) := by decide +kernel
theorem dL_law_767 : decode code 767 = .ok (.iconst 2, 1) := by decide +kernel
theorem dL_law_768 : decode code 768 = .ok (.iadd, 1) := by decide +kernel
theorem dL_law_769 : decode code 769 = .ok (.iaload, 1) := by decide +kernel
theorem dL_law_770 : decode code 770 = .ok (.ifCond .eq 7, 3) := by decide +kernel
theorem dL_law_773 : decode code 773 = .ok (.iconst 1, 1) := by decide +kernel
theorem dL_law_774 : decode code 774 = .ok (.goto 4, 3) := by decide +kernel
theorem dL_law_777 : decode code 777 = .ok (.iconst 0, 1) := by decide +kernel
theorem dL_law_778 : decode code 778 = .ok (.invokevirtual 69, 3) := by decide +kernel
theorem dL_law_781 : decode code 781 = .ok (.if_icmp .eq 421, 3) := by decide +kernel
theorem dL_law_784 : decode code 784 = .ok (.iconst 0, 1) := by decide +kernel
theorem dL_law_785 : decode code 785 = .ok (.ireturn, 1) := by decide +kernel
theorem dL_law_786 : decode code 786 = .ok (.aload_n 1, 1) := by decide +kernel
theorem dL_law_787 : decode code 787 = .ok (.aload_n 0, 1) := by decide +kernel
theorem dL_law_788 : decode code 788 = .ok (.iload_n 3, 1) := by decide +kernel
theorem dL_law_789 : decode code 789 = .ok (.iconst 1, 1) := by decide +kernel
theorem dL_law_790 : decode code 790 = .ok (.iadd, 1) := by decide +kernel
theorem dL_law_791 : decode code 791 = .ok (.iaload, 1) := by decide +kernel
theorem dL_law_792 : decode code 792 = .ok (.invokevirtual 70, 3) := by decide +kernel
theorem dL_law_795 : decode code 795 = .ok (.aload_n 2, 1) := by decide +kernel
theorem dL_law_796 : decode code 796 = .ok (.aload_n 0, 1) := by decide +kernel
theorem dL_law_797 : decode code 797 = .ok (.iload_n 3, 1) := by decide +kernel
theorem dL_law_798 : decode code 798 = .ok (.iconst 1, 1) := by decide +kernel
theorem dL_law_799 : decode code 799 = .ok (.iadd, 1) := by decide +kernel
theorem dL_law_800 : decode code 800 = .ok (.iaload, 1) := by decide +kernel
theorem dL_law_801 : decode code 801 = .ok (.invokevirtual 74, 3) := by decide +kernel
theorem dL_law_804 : decode code 804 = .ok (.if_icmp .eq 398, 3) := by decide +kernel
theorem dL_law_807 : decode code 807 = .ok (.iconst 0, 1) := by decide +kernel
theorem dL_law_808 : decode code 808 = .ok (.ireturn, 1) := by decide +kernel
theorem dL_law_809 : decode code 809 = .ok (.aload_n 1, 1) := by decide +kernel
theorem dL_law_810 : decode code 810 = .ok (.aload_n 0, 1) := by decide +kernel
theorem dL_law_811 : decode code 811 = .ok (.iload_n 3, 1) := by decide +kernel
theorem dL_law_812 : decode code 812 = .ok (.iconst 1, 1) := by decide +kernel
theorem dL_law_813 : decode code 813 = .ok (.iadd, 1) := by decide +kernel
theorem dL_law_814 : decode code 814 = .ok (.iaload, 1) := by decide +kernel
theorem dL_law_815 : decode code 815 = .ok (.aload_n 0, 1) := by decide +kernel
theorem dL_law_816 : decode code 816 = .ok (.iload_n 3, 1) := by decide +kernel
theorem dL_law_817 : decode code 817 = .ok (.iconst 2, 1) := by decide +kernel
theorem dL_law_818 : decode code 818 = .ok (.iadd, 1) := by decide +kernel
theorem dL_law_819 : decode code 819 = .ok (.iaload, 1) := by decide +kernel
theorem dL_law_820 : decode code 820 = .ok (.invokevirtual 75, 3) := by decide +kernel
theorem dL_law_823 : decode code 823 = .ok (.aload_n 2, 1) := by decide +kernel
theorem dL_law_824 : decode code 824 = .ok (.aload_n 0, 1) := by decide +kernel
theorem dL_law_825 : decode code 825 = .ok (.iload_n 3, 1) := by decide +kernel
theorem dL_law_826 : decode code 826 = .ok (.iconst 1, 1) := by decide +kernel
theorem dL_law_827 : decode code 827 = .ok (.iadd, 1) := by decide +kernel
theorem dL_law_828 : decode code 828 = .ok (.iaload, 1) := by decide +kernel
theorem dL_law_829 : decode code 829 = .ok (.aload_n 0, 1) := by decide +kernel
theorem dL_law_830 : decode code 830 = .ok (.iload_n 3, 1) := by decide +kernel
theorem dL_law_831 : decode code 831 = .ok (.iconst 2, 1) := by decide +kernel
theorem dL_law_832 : decode code 832 = .ok (.iadd, 1) := by decide +kernel
theorem dL_law_833 : decode code 833 = .ok (.iaload, 1) := by decide +kernel
theorem dL_law_834 : decode code 834 = .ok (.invokevirtual 78, 3) := by decide +kernel
theorem dL_law_837 : decode code 837 = .ok (.if_icmp .eq 365, 3) := by decide +kernel
theorem dL_law_840 : decode code 840 = .ok (.iconst 0, 1) := by decide +kernel
theorem dL_law_841 : decode code 841 = .ok (.ireturn, 1) := by decide +kernel
theorem dL_law_842 : decode code 842 = .ok (.aload_n 1, 1) := by decide +kernel
theorem dL_law_843 : decode code 843 = .ok (.aload_n 0, 1) := by decide +kernel
theorem dL_law_844 : decode code 844 = .ok (.iload_n 3, 1) := by decide +kernel
theorem dL_law_845 : decode code 845 = .ok (.iconst 1, 1) := by decide +kernel
theorem dL_law_846 : decode code 846 = .ok (.iadd, 1) := by decide +kernel
theorem dL_law_847 : decode code 847 = .ok (.iaload, 1) := by decide +kernel
theorem dL_law_848 : decode code 848 = .ok (.aload_n 0, 1) := by decide +kernel
theorem dL_law_849 : decode code 849 = .ok (.iload_n 3, 1) := by decide +kernel
theorem dL_law_850 : decode code 850 = .ok (.iconst 2, 1) := by decide +kernel
theorem dL_law_851 : decode code 851 = .ok (.iadd, 1) := by decide +kernel
theorem dL_law_852 : decode code 852 = .ok (.iaload, 1) := by decide +kernel
theorem dL_law_853 : decode code 853 = .ok (.invokevirtual 79, 3) := by decide +kernel
theorem dL_law_856 : decode code 856 = .ok (.aload_n 2, 1) := by decide +kernel
theorem dL_law_857 : decode code 857 = .ok (.aload_n 0, 1) := by decide +kernel
theorem dL_law_858 : decode code 858 = .ok (.iload_n 3, 1) := by decide +kernel
theorem dL_law_859 : decode code 859 = .ok (.iconst 1, 1) := by decide +kernel
theorem dL_law_860 : decode code 860 = .ok (.iadd, 1) := by decide +kernel
theorem dL_law_861 : decode code 861 = .ok (.iaload, 1) := by decide +kernel
theorem dL_law_862 : decode code 862 = .ok (.aload_n 0, 1) := by decide +kernel
theorem dL_law_863 : decode code 863 = .ok (.iload_n 3, 1) := by decide +kernel
theorem dL_law_864 : decode code 864 = .ok (.iconst 2, 1) := by decide +kernel
theorem dL_law_865 : decode code 865 = .ok (.iadd, 1) := by decide +kernel
theorem dL_law_866 : decode code 866 = .ok (.iaload, 1) := by decide +kernel
theorem dL_law_867 : decode code 867 = .ok (.invokevirtual 82, 3) := by decide +kernel
theorem dL_law_870 : decode code 870 = .ok (.if_icmp .eq 332, 3) := by decide +kernel
theorem dL_law_873 : decode code 873 = .ok (.iconst 0, 1) := by decide +kernel
theorem dL_law_874 : decode code 874 = .ok (.ireturn, 1) := by decide +kernel
theorem dL_law_875 : decode code 875 = .ok (.aload_n 1, 1) := by decide +kernel
theorem dL_law_876 : decode code 876 = .ok (.aload_n 0, 1) := by decide +kernel
theorem dL_law_877 : decode code 877 = .ok (.iload_n 3, 1) := by decide +kernel
theorem dL_law_878 : decode code 878 = .ok (.iconst 1, 1) := by decide +kernel
theorem dL_law_879 : decode code 879 = .ok (.iadd, 1) := by decide +kernel
theorem dL_law_880 : decode code 880 = .ok (.iaload, 1) := by decide +kernel
theorem dL_law_881 : decode code 881 = .ok (.invokevirtual 83, 3) := by decide +kernel
theorem dL_law_884 : decode code 884 = .ok (.aload_n 2, 1) := by decide +kernel
theorem dL_law_885 : decode code 885 = .ok (.aload_n 0, 1) := by decide +kernel
theorem dL_law_886 : decode code 886 = .ok (.iload_n 3, 1) := by decide +kernel
theorem dL_law_887 : decode code 887 = .ok (.iconst 1, 1) := by decide +kernel
theorem dL_law_888 : decode code 888 = .ok (.iadd, 1) := by decide +kernel
theorem dL_law_889 : decode code 889 = .ok (.iaload, 1) := by decide +kernel
theorem dL_law_890 : decode code 890 = .ok (.invokevirtual 86, 3) := by decide +kernel
theorem dL_law_893 : decode code 893 = .ok (.if_icmp .eq 309, 3) := by decide +kernel
theorem dL_law_896 : decode code 896 = .ok (.iconst 0, 1) := by decide +kernel
theorem dL_law_897 : decode code 897 = .ok (.ireturn, 1) := by decide +kernel
theorem dL_law_898 : decode code 898 = .ok (.aload_n 1, 1) := by decide +kernel
theorem dL_law_899 : decode code 899 = .ok (.aload_n 0, 1) := by decide +kernel
theorem dL_law_900 : decode code 900 = .ok (.iload_n 3, 1) := by decide +kernel
theorem dL_law_901 : decode code 901 = .ok (.iconst 1, 1) := by decide +kernel
theorem dL_law_902 : decode code 902 = .ok (.iadd, 1) := by decide +kernel
theorem dL_law_903 : decode code 903 = .ok (.iaload, 1) := by decide +kernel
theorem dL_law_904 : decode code 904 = .ok (.invokevirtual 87, 3) := by decide +kernel
theorem dL_law_907 : decode code 907 = .ok (.aload_n 2, 1) := by decide +kernel
theorem dL_law_908 : decode code 908 = .ok (.aload_n 0, 1) := by decide +kernel
theorem dL_law_909 : decode code 909 = .ok (.iload_n 3, 1) := by decide +kernel
theorem dL_law_910 : decode code 910 = .ok (.iconst 1, 1) := by decide +kernel
theorem dL_law_911 : decode code 911 = .ok (.iadd, 1) := by decide +kernel
theorem dL_law_912 : decode code 912 = .ok (.iaload, 1) := by decide +kernel
theorem dL_law_913 : decode code 913 = .ok (.invokevirtual 90, 3) := by decide +kernel
theorem dL_law_916 : decode code 916 = .ok (.if_icmp .eq 286, 3) := by decide +kernel
theorem dL_law_919 : decode code 919 = .ok (.iconst 0, 1) := by decide +kernel
theorem dL_law_920 : decode code 920 = .ok (.ireturn, 1) := by decide +kernel
theorem dL_law_921 : decode code 921 = .ok (.aload_n 1, 1) := by decide +kernel
theorem dL_law_922 : decode code 922 = .ok (.aload_n 0, 1) := by decide +kernel
theorem dL_law_923 : decode code 923 = .ok (.iload_n 3, 1) := by decide +kernel
theorem dL_law_924 : decode code 924 = .ok (.iconst 1, 1) := by decide +kernel
theorem dL_law_925 : decode code 925 = .ok (.iadd, 1) := by decide +kernel
theorem dL_law_926 : decode code 926 = .ok (.iaload, 1) := by decide +kernel
theorem dL_law_927 : decode code 927 = .ok (.invokevirtual 91, 3) := by decide +kernel
theorem dL_law_930 : decode code 930 = .ok (.aload_n 2, 1) := by decide +kernel
theorem dL_law_931 : decode code 931 = .ok (.aload_n 0, 1) := by decide +kernel
theorem dL_law_932 : decode code 932 = .ok (.iload_n 3, 1) := by decide +kernel
theorem dL_law_933 : decode code 933 = .ok (.iconst 1, 1) := by decide +kernel
theorem dL_law_934 : decode code 934 = .ok (.iadd, 1) := by decide +kernel
theorem dL_law_935 : decode code 935 = .ok (.iaload, 1) := by decide +kernel
theorem dL_law_936 : decode code 936 = .ok (.invokevirtual 94, 3) := by decide +kernel
theorem dL_law_939 : decode code 939 = .ok (.if_icmp .eq 263, 3) := by decide +kernel
theorem dL_law_942 : decode code 942 = .ok (.iconst 0, 1) := by decide +kernel
theorem dL_law_943 : decode code 943 = .ok (.ireturn, 1) := by decide +kernel
theorem dL_law_944 : decode code 944 = .ok (.aload_n 1, 1) := by decide +kernel
theorem dL_law_945 : decode code 945 = .ok (.aload_n 0, 1) := by decide +kernel
theorem dL_law_946 : decode code 946 = .ok (.iload_n 3, 1) := by decide +kernel
theorem dL_law_947 : decode code 947 = .ok (.iconst 1, 1) := by decide +kernel
theorem dL_law_948 : decode code 948 = .ok (.iadd, 1) := by decide +kernel
theorem dL_law_949 : decode code 949 = .ok (.iaload, 1) := by decide +kernel
theorem dL_law_950 : decode code 950 = .ok (.aload_n 0, 1) := by decide +kernel
theorem dL_law_951 : decode code 951 = .ok (.iload_n 3, 1) := by decide +kernel
theorem dL_law_952 : decode code 952 = .ok (.iconst 2, 1) := by decide +kernel
theorem dL_law_953 : decode code 953 = .ok (.iadd, 1) := by decide +kernel
theorem dL_law_954 : decode code 954 = .ok (.iaload, 1) := by decide +kernel
theorem dL_law_955 : decode code 955 = .ok (.aload_n 0, 1) := by decide +kernel
theorem dL_law_956 : decode code 956 = .ok (.iload_n 3, 1) := by decide +kernel
theorem dL_law_957 : decode code 957 = .ok (.iconst 3, 1) := by decide +kernel
theorem dL_law_958 : decode code 958 = .ok (.iadd, 1) := by decide +kernel
theorem dL_law_959 : decode code 959 = .ok (.iaload, 1) := by decide +kernel
theorem dL_law_960 : decode code 960 = .ok (.aload_n 0, 1) := by decide +kernel
theorem dL_law_961 : decode code 961 = .ok (.iload_n 3, 1) := by decide +kernel
theorem dL_law_962 : decode code 962 = .ok (.iconst 4, 1) := by decide +kernel
theorem dL_law_963 : decode code 963 = .ok (.iadd, 1) := by decide +kernel
theorem dL_law_964 : decode code 964 = .ok (.iaload, 1) := by decide +kernel
theorem dL_law_965 : decode code 965 = .ok (.invokevirtual 95, 3) := by decide +kernel
theorem dL_law_968 : decode code 968 = .ok (.aload_n 2, 1) := by decide +kernel
theorem dL_law_969 : decode code 969 = .ok (.aload_n 0, 1) := by decide +kernel
theorem dL_law_970 : decode code 970 = .ok (.iload_n 3, 1) := by decide +kernel
theorem dL_law_971 : decode code 971 = .ok (.iconst 1, 1) := by decide +kernel
theorem dL_law_972 : decode code 972 = .ok (.iadd, 1) := by decide +kernel
theorem dL_law_973 : decode code 973 = .ok (.iaload, 1) := by decide +kernel
theorem dL_law_974 : decode code 974 = .ok (.aload_n 0, 1) := by decide +kernel
theorem dL_law_975 : decode code 975 = .ok (.iload_n 3, 1) := by decide +kernel
theorem dL_law_976 : decode code 976 = .ok (.iconst 2, 1) := by decide +kernel
theorem dL_law_977 : decode code 977 = .ok (.iadd, 1) := by decide +kernel
theorem dL_law_978 : decode code 978 = .ok (.iaload, 1) := by decide +kernel
theorem dL_law_979 : decode code 979 = .ok (.aload_n 0, 1) := by decide +kernel
theorem dL_law_980 : decode code 980 = .ok (.iload_n 3, 1) := by decide +kernel
theorem dL_law_981 : decode code 981 = .ok (.iconst 3, 1) := by decide +kernel
theorem dL_law_982 : decode code 982 = .ok (.iadd, 1) := by decide +kernel
theorem dL_law_983 : decode code 983 = .ok (.iaload, 1) := by decide +kernel
theorem dL_law_984 : decode code 984 = .ok (.aload_n 0, 1) := by decide +kernel
theorem dL_law_985 : decode code 985 = .ok (.iload_n 3, 1) := by decide +kernel
theorem dL_law_986 : decode code 986 = .ok (.iconst 4, 1) := by decide +kernel
theorem dL_law_987 : decode code 987 = .ok (.iadd, 1) := by decide +kernel
theorem dL_law_988 : decode code 988 = .ok (.iaload, 1) := by decide +kernel
theorem dL_law_989 : decode code 989 = .ok (.invokevirtual 99, 3) := by decide +kernel
theorem dL_law_992 : decode code 992 = .ok (.if_icmp .eq 210, 3) := by decide +kernel
theorem dL_law_995 : decode code 995 = .ok (.iconst 0, 1) := by decide +kernel
theorem dL_law_996 : decode code 996 = .ok (.ireturn, 1) := by decide +kernel
theorem dL_law_997 : decode code 997 = .ok (.aload_n 1, 1) := by decide +kernel
theorem dL_law_998 : decode code 998 = .ok (.aload_n 0, 1) := by decide +kernel
theorem dL_law_999 : decode code 999 = .ok (.iload_n 3, 1) := by decide +kernel
theorem dL_law_1000 : decode code 1000 = .ok (.iconst 1, 1) := by decide +kernel
theorem dL_law_1001 : decode code 1001 = .ok (.iadd, 1) := by decide +kernel
theorem dL_law_1002 : decode code 1002 = .ok (.iaload, 1) := by decide +kernel
theorem dL_law_1003 : decode code 1003 = .ok (.aload_n 0, 1) := by decide +kernel
theorem dL_law_1004 : decode code 1004 = .ok (.iload_n 3, 1) := by decide +kernel
theorem dL_law_1005 : decode code 1005 = .ok (.iconst 2, 1) := by decide +kernel
theorem dL_law_1006 : decode code 1006 = .ok (.iadd, 1) := by decide +kernel
theorem dL_law_1007 : decode code 1007 = .ok (.iaload, 1) := by decide +kernel
theorem dL_law_1008 : decode code 1008 = .ok (.aload_n 0, 1) := by decide +kernel
theorem dL_law_1009 : decode code 1009 = .ok (.iload_n 3, 1) := by decide +kernel
theorem dL_law_1010 : decode code 1010 = .ok (.iconst 3, 1) := by decide +kernel
theorem dL_law_1011 : decode code 1011 = .ok (.iadd, 1) := by decide +kernel
theorem dL_law_1012 : decode code 1012 = .ok (.iaload, 1) := by decide +kernel
theorem dL_law_1013 : decode code 1013 = .ok (.invokevirtual 100, 3) := by decide +kernel
theorem dL_law_1016 : decode code 1016 = .ok (.aload_n 2, 1) := by decide +kernel
theorem dL_law_1017 : decode code 1017 = .ok (.aload_n 0, 1) := by decide +kernel
theorem dL_law_1018 : decode code 1018 = .ok (.iload_n 3, 1) := by decide +kernel
theorem dL_law_1019 : decode code 1019 = .ok (.iconst 1, 1) := by decide +kernel
theorem dL_law_1020 : decode code 1020 = .ok (.iadd, 1) := by decide +kernel
theorem dL_law_1021 : decode code 1021 = .ok (.iaload, 1) := by decide +kernel
theorem dL_law_1022 : decode code 1022 = .ok (.aload_n 0, 1) := by decide +kernel
theorem dL_law_1023 : decode code 1023 = .ok (.iload_n 3, 1) := by decide +kernel
theorem dL_law_1024 : decode code 1024 = .ok (.iconst 2, 1) := by decide +kernel
theorem dL_law_1025 : decode code 1025 = .ok (.iadd, 1) := by decide +kernel
theorem dL_law_1026 : decode code 1026 = .ok (.iaload, 1) := by decide +kernel
theorem dL_law_1027 : decode code 1027 = .ok (.aload_n 0, 1) := by decide +kernel
theorem dL_law_1028 : decode code 1028 = .ok (.iload_n 3, 1) := by decide +kernel
theorem dL_law_1029 : decode code 1029 = .ok (.iconst 3, 1) := by decide +kernel
theorem dL_law_1030 : decode code 1030 = .ok (.iadd, 1) := by decide +kernel
theorem dL_law_1031 : decode code 1031 = .ok (.iaload, 1) := by decide +kernel
theorem dL_law_1032 : decode code 1032 = .ok (.invokevirtual 103, 3) := by decide +kernel
theorem dL_law_1035 : decode code 1035 = .ok (.if_icmp .eq 167, 3) := by decide +kernel
theorem dL_law_1038 : decode code 1038 = .ok (.iconst 0, 1) := by decide +kernel
theorem dL_law_1039 : decode code 1039 = .ok (.ireturn, 1) := by decide +kernel
theorem dL_law_1040 : decode code 1040 = .ok (.aload_n 1, 1) := by decide +kernel
theorem dL_law_1041 : decode code 1041 = .ok (.aload_n 0, 1) := by decide +kernel
theorem dL_law_1042 : decode code 1042 = .ok (.iload_n 3, 1) := by decide +kernel
theorem dL_law_1043 : decode code 1043 = .ok (.iconst 1, 1) := by decide +kernel
theorem dL_law_1044 : decode code 1044 = .ok (.iadd, 1) := by decide +kernel
theorem dL_law_1045 : decode code 1045 = .ok (.iaload, 1) := by decide +kernel
theorem dL_law_1046 : decode code 1046 = .ok (.aload_n 0, 1) := by decide +kernel
theorem dL_law_1047 : decode code 1047 = .ok (.iload_n 3, 1) := by decide +kernel
theorem dL_law_1048 : decode code 1048 = .ok (.iconst 2, 1) := by decide +kernel
theorem dL_law_1049 : decode code 1049 = .ok (.iadd, 1) := by decide +kernel
theorem dL_law_1050 : decode code 1050 = .ok (.iaload, 1) := by decide +kernel
theorem dL_law_1051 : decode code 1051 = .ok (.aload_n 0, 1) := by decide +kernel
theorem dL_law_1052 : decode code 1052 = .ok (.iload_n 3, 1) := by decide +kernel
theorem dL_law_1053 : decode code 1053 = .ok (.iconst 3, 1) := by decide +kernel
theorem dL_law_1054 : decode code 1054 = .ok (.iadd, 1) := by decide +kernel
theorem dL_law_1055 : decode code 1055 = .ok (.iaload, 1) := by decide +kernel
theorem dL_law_1056 : decode code 1056 = .ok (.invokevirtual 104, 3) := by decide +kernel
theorem dL_law_1059 : decode code 1059 = .ok (.aload_n 2, 1) := by decide +kernel
theorem dL_law_1060 : decode code 1060 = .ok (.aload_n 0, 1) := by decide +kernel
theorem dL_law_1061 : decode code 1061 = .ok (.iload_n 3, 1) := by decide +kernel
theorem dL_law_1062 : decode code 1062 = .ok (.iconst 1, 1) := by decide +kernel
theorem dL_law_1063 : decode code 1063 = .ok (.iadd, 1) := by decide +kernel
theorem dL_law_1064 : decode code 1064 = .ok (.iaload, 1) := by decide +kernel
theorem dL_law_1065 : decode code 1065 = .ok (.aload_n 0, 1) := by decide +kernel
theorem dL_law_1066 : decode code 1066 = .ok (.iload_n 3, 1) := by decide +kernel
theorem dL_law_1067 : decode code 1067 = .ok (.iconst 2, 1) := by decide +kernel
theorem dL_law_1068 : decode code 1068 = .ok (.iadd, 1) := by decide +kernel
theorem dL_law_1069 : decode code 1069 = .ok (.iaload, 1) := by decide +kernel
theorem dL_law_1070 : decode code 1070 = .ok (.aload_n 0, 1) := by decide +kernel
theorem dL_law_1071 : decode code 1071 = .ok (.iload_n 3, 1) := by decide +kernel
theorem dL_law_1072 : decode code 1072 = .ok (.iconst 3, 1) := by decide +kernel
theorem dL_law_1073 : decode code 1073 = .ok (.iadd, 1) := by decide +kernel
theorem dL_law_1074 : decode code 1074 = .ok (.iaload, 1) := by decide +kernel
theorem dL_law_1075 : decode code 1075 = .ok (.invokevirtual 107, 3) := by decide +kernel
theorem dL_law_1078 : decode code 1078 = .ok (.if_icmp .eq 124, 3) := by decide +kernel
theorem dL_law_1081 : decode code 1081 = .ok (.iconst 0, 1) := by decide +kernel
theorem dL_law_1082 : decode code 1082 = .ok (.ireturn, 1) := by decide +kernel
theorem dL_law_1083 : decode code 1083 = .ok (.aload_n 1, 1) := by decide +kernel
theorem dL_law_1084 : decode code 1084 = .ok (.aload_n 0, 1) := by decide +kernel
theorem dL_law_1085 : decode code 1085 = .ok (.iload_n 3, 1) := by decide +kernel
theorem dL_law_1086 : decode code 1086 = .ok (.iconst 1, 1) := by decide +kernel
theorem dL_law_1087 : decode code 1087 = .ok (.iadd, 1) := by decide +kernel
theorem dL_law_1088 : decode code 1088 = .ok (.iaload, 1) := by decide +kernel
theorem dL_law_1089 : decode code 1089 = .ok (.aload_n 0, 1) := by decide +kernel
theorem dL_law_1090 : decode code 1090 = .ok (.iload_n 3, 1) := by decide +kernel
theorem dL_law_1091 : decode code 1091 = .ok (.iconst 2, 1) := by decide +kernel
theorem dL_law_1092 : decode code 1092 = .ok (.iadd, 1) := by decide +kernel
theorem dL_law_1093 : decode code 1093 = .ok (.iaload, 1) := by decide +kernel
theorem dL_law_1094 : decode code 1094 = .ok (.aload_n 0, 1) := by decide +kernel
theorem dL_law_1095 : decode code 1095 = .ok (.iload_n 3, 1) := by decide +kernel
theorem dL_law_1096 : decode code 1096 = .ok (.iconst 3, 1) := by decide +kernel
theorem dL_law_1097 : decode code 1097 = .ok (.iadd, 1) := by decide +kernel
theorem dL_law_1098 : decode code 1098 = .ok (.iaload, 1) := by decide +kernel
theorem dL_law_1099 : decode code 1099 = .ok (.aload_n 0, 1) := by decide +kernel
theorem dL_law_1100 : decode code 1100 = .ok (.iload_n 3, 1) := by decide +kernel
theorem dL_law_1101 : decode code 1101 = .ok (.iconst 4, 1) := by decide +kernel
theorem dL_law_1102 : decode code 1102 = .ok (.iadd, 1) := by decide +kernel
theorem dL_law_1103 : decode code 1103 = .ok (.iaload, 1) := by decide +kernel
theorem dL_law_1104 : decode code 1104 = .ok (.aload_n 0, 1) := by decide +kernel
theorem dL_law_1105 : decode code 1105 = .ok (.iload_n 3, 1) := by decide +kernel
theorem dL_law_1106 : decode code 1106 = .ok (.iconst 5, 1) := by decide +kernel
theorem dL_law_1107 : decode code 1107 = .ok (.iadd, 1) := by decide +kernel
theorem dL_law_1108 : decode code 1108 = .ok (.iaload, 1) := by decide +kernel
theorem dL_law_1109 : decode code 1109 = .ok (.invokevirtual 108, 3) := by decide +kernel
theorem dL_law_1112 : decode code 1112 = .ok (.aload_n 2, 1) := by decide +kernel
theorem dL_law_1113 : decode code 1113 = .ok (.aload_n 0, 1) := by decide +kernel
theorem dL_law_1114 : decode code 1114 = .ok (.iload_n 3, 1) := by decide +kernel
theorem dL_law_1115 : decode code 1115 = .ok (.iconst 1, 1) := by decide +kernel
theorem dL_law_1116 : decode code 1116 = .ok (.iadd, 1) := by decide +kernel
theorem dL_law_1117 : decode code 1117 = .ok (.iaload, 1) := by decide +kernel
theorem dL_law_1118 : decode code 1118 = .ok (.aload_n 0, 1) := by decide +kernel
theorem dL_law_1119 : decode code 1119 = .ok (.iload_n 3, 1) := by decide +kernel
theorem dL_law_1120 : decode code 1120 = .ok (.iconst 2, 1) := by decide +kernel
theorem dL_law_1121 : decode code 1121 = .ok (.iadd, 1) := by decide +kernel
theorem dL_law_1122 : decode code 1122 = .ok (.iaload, 1) := by decide +kernel
theorem dL_law_1123 : decode code 1123 = .ok (.aload_n 0, 1) := by decide +kernel
theorem dL_law_1124 : decode code 1124 = .ok (.iload_n 3, 1) := by decide +kernel
theorem dL_law_1125 : decode code 1125 = .ok (.iconst 3, 1) := by decide +kernel
theorem dL_law_1126 : decode code 1126 = .ok (.iadd, 1) := by decide +kernel
theorem dL_law_1127 : decode code 1127 = .ok (.iaload, 1) := by decide +kernel
theorem dL_law_1128 : decode code 1128 = .ok (.aload_n 0, 1) := by decide +kernel
theorem dL_law_1129 : decode code 1129 = .ok (.iload_n 3, 1) := by decide +kernel
theorem dL_law_1130 : decode code 1130 = .ok (.iconst 4, 1) := by decide +kernel
theorem dL_law_1131 : decode code 1131 = .ok (.iadd, 1) := by decide +kernel
theorem dL_law_1132 : decode code 1132 = .ok (.iaload, 1) := by decide +kernel
theorem dL_law_1133 : decode code 1133 = .ok (.aload_n 0, 1) := by decide +kernel
theorem dL_law_1134 : decode code 1134 = .ok (.iload_n 3, 1) := by decide +kernel
theorem dL_law_1135 : decode code 1135 = .ok (.iconst 5, 1) := by decide +kernel
theorem dL_law_1136 : decode code 1136 = .ok (.iadd, 1) := by decide +kernel
theorem dL_law_1137 : decode code 1137 = .ok (.iaload, 1) := by decide +kernel
theorem dL_law_1138 : decode code 1138 = .ok (.invokevirtual 112, 3) := by decide +kernel
theorem dL_law_1141 : decode code 1141 = .ok (.if_icmp .eq 61, 3) := by decide +kernel
theorem dL_law_1144 : decode code 1144 = .ok (.iconst 0, 1) := by decide +kernel
theorem dL_law_1145 : decode code 1145 = .ok (.ireturn, 1) := by decide +kernel
theorem dL_law_1146 : decode code 1146 = .ok (.aload_n 1, 1) := by decide +kernel
theorem dL_law_1147 : decode code 1147 = .ok (.aload_n 0, 1) := by decide +kernel
theorem dL_law_1148 : decode code 1148 = .ok (.iload_n 3, 1) := by decide +kernel
theorem dL_law_1149 : decode code 1149 = .ok (.iconst 1, 1) := by decide +kernel
theorem dL_law_1150 : decode code 1150 = .ok (.iadd, 1) := by decide +kernel
theorem dL_law_1151 : decode code 1151 = .ok (.iaload, 1) := by decide +kernel
theorem dL_law_1152 : decode code 1152 = .ok (.aload_n 0, 1) := by decide +kernel
theorem dL_law_1153 : decode code 1153 = .ok (.iload_n 3, 1) := by decide +kernel
theorem dL_law_1154 : decode code 1154 = .ok (.iconst 2, 1) := by decide +kernel
theorem dL_law_1155 : decode code 1155 = .ok (.iadd, 1) := by decide +kernel
theorem dL_law_1156 : decode code 1156 = .ok (.iaload, 1) := by decide +kernel
theorem dL_law_1157 : decode code 1157 = .ok (.invokevirtual 113, 3) := by decide +kernel
theorem dL_law_1160 : decode code 1160 = .ok (.aload_n 2, 1) := by decide +kernel
theorem dL_law_1161 : decode code 1161 = .ok (.aload_n 0, 1) := by decide +kernel
theorem dL_law_1162 : decode code 1162 = .ok (.iload_n 3, 1) := by decide +kernel
theorem dL_law_1163 : decode code 1163 = .ok (.iconst 1, 1) := by decide +kernel
theorem dL_law_1164 : decode code 1164 = .ok (.iadd, 1) := by decide +kernel
theorem dL_law_1165 : decode code 1165 = .ok (.iaload, 1) := by decide +kernel
theorem dL_law_1166 : decode code 1166 = .ok (.aload_n 0, 1) := by decide +kernel
theorem dL_law_1167 : decode code 1167 = .ok (.iload_n 3, 1) := by decide +kernel
theorem dL_law_1168 : decode code 1168 = .ok (.iconst 2, 1) := by decide +kernel
theorem dL_law_1169 : decode code 1169 = .ok (.iadd, 1) := by decide +kernel
theorem dL_law_1170 : decode code 1170 = .ok (.iaload, 1) := by decide +kernel
theorem dL_law_1171 : decode code 1171 = .ok (.invokevirtual 116, 3) := by decide +kernel
theorem dL_law_1174 : decode code 1174 = .ok (.if_icmp .eq 28, 3) := by decide +kernel
theorem dL_law_1177 : decode code 1177 = .ok (.iconst 0, 1) := by decide +kernel
theorem dL_law_1178 : decode code 1178 = .ok (.ireturn, 1) := by decide +kernel
theorem dL_law_1179 : decode code 1179 = .ok (.aload_n 1, 1) := by decide +kernel
theorem dL_law_1180 : decode code 1180 = .ok (.aload_n 0, 1) := by decide +kernel
theorem dL_law_1181 : decode code 1181 = .ok (.iload_n 3, 1) := by decide +kernel
theorem dL_law_1182 : decode code 1182 = .ok (.iconst 1, 1) := by decide +kernel
theorem dL_law_1183 : decode code 1183 = .ok (.iadd, 1) := by decide +kernel
theorem dL_law_1184 : decode code 1184 = .ok (.iaload, 1) := by decide +kernel
theorem dL_law_1185 : decode code 1185 = .ok (.invokevirtual 117, 3) := by decide +kernel
theorem dL_law_1188 : decode code 1188 = .ok (.aload_n 2, 1) := by decide +kernel
theorem dL_law_1189 : decode code 1189 = .ok (.aload_n 0, 1) := by decide +kernel
theorem dL_law_1190 : decode code 1190 = .ok (.iload_n 3, 1) := by decide +kernel
theorem dL_law_1191 : decode code 1191 = .ok (.iconst 1, 1) := by decide +kernel
theorem dL_law_1192 : decode code 1192 = .ok (.iadd, 1) := by decide +kernel
theorem dL_law_1193 : decode code 1193 = .ok (.iaload, 1) := by decide +kernel
theorem dL_law_1194 : decode code 1194 = .ok (.invokevirtual 120, 3) := by decide +kernel
theorem dL_law_1197 : decode code 1197 = .ok (.if_icmp .eq 5, 3) := by decide +kernel
theorem dL_law_1200 : decode code 1200 = .ok (.iconst 0, 1) := by decide +kernel
theorem dL_law_1201 : decode code 1201 = .ok (.ireturn, 1) := by decide +kernel
theorem dL_law_1202 : decode code 1202 = .ok (.iinc 3 6, 3) := by decide +kernel
theorem dL_law_1205 : decode code 1205 = .ok (.goto (-1187), 3) := by decide +kernel
theorem dL_law_1208 : decode code 1208 = .ok (.iconst 1, 1) := by decide +kernel
theorem dL_law_1209 : decode code 1209 = .ok (.ireturn, 1) := by decide +kernel
