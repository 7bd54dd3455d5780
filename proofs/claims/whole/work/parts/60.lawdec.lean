theorem d_Law_0 : decode code 0 = .ok (.new 7, 3) := by decide +kernel
theorem d_Law_3 : decode code 3 = .ok (.dup, 1) := by decide +kernel
theorem d_Law_4 : decode code 4 = .ok (.invokespecial 9, 3) := by decide +kernel
theorem d_Law_7 : decode code 7 = .ok (.astore_n 1, 1) := by decide +kernel
theorem d_Law_8 : decode code 8 = .ok (.new 10, 3) := by decide +kernel
theorem d_Law_11 : decode code 11 = .ok (.dup, 1) := by decide +kernel
theorem d_Law_12 : decode code 12 = .ok (.invokespecial 12, 3) := by decide +kernel
theorem d_Law_15 : decode code 15 = .ok (.astore_n 2, 1) := by decide +kernel
theorem d_Law_16 : decode code 16 = .ok (.iconst 0, 1) := by decide +kernel
theorem d_Law_17 : decode code 17 = .ok (.istore_n 3, 1) := by decide +kernel
theorem d_Law_18 : decode code 18 = .ok (.iload_n 3, 1) := by decide +kernel
theorem d_Law_19 : decode code 19 = .ok (.aload_n 0, 1) := by decide +kernel
theorem d_Law_20 : decode code 20 = .ok (.arraylength, 1) := by decide +kernel
theorem d_Law_21 : decode code 21 = .ok (.iconst 4, 1) := by decide +kernel
theorem d_Law_22 : decode code 22 = .ok (.isub, 1) := by decide +kernel
theorem d_Law_23 : decode code 23 = .ok (.if_icmp .gt 697, 3) := by decide +kernel
theorem d_Law_26 : decode code 26 = .ok (.aload_n 0, 1) := by decide +kernel
theorem d_Law_27 : decode code 27 = .ok (.iload_n 3, 1) := by decide +kernel
theorem d_Law_28 : decode code 28 = .ok (.iaload, 1) := by decide +kernel
theorem d_Law_29 : decode code 29 = .ok (.bipush 31, 2) := by decide +kernel
theorem d_Law_31 : decode code 31 = .ok (.iand, 1) := by decide +kernel
theorem d_Law_32 : decode code 32 = .ok (.tableswitch 682 0 21 #[104, 127, 150, 184, 228, 271, 294, 317, 340, 353, 376, 399, 422, 455, 488, 521, 544, 567, 590, 613, 636, 659], 104) := by decide +kernel
theorem d_Law_136 : decode code 136 = .ok (.aload_n 1, 1) := by decide +kernel
theorem d_Law_137 : decode code 137 = .ok (.aload_n 0, 1) := by decide +kernel
theorem d_Law_138 : decode code 138 = .ok (.iload_n 3, 1) := by decide +kernel
theorem d_Law_139 : decode code 139 = .ok (.iconst 1, 1) := by decide +kernel
theorem d_Law_140 : decode code 140 = .ok (.iadd, 1) := by decide +kernel
theorem d_Law_141 : decode code 141 = .ok (.iaload, 1) := by decide +kernel
theorem d_Law_142 : decode code 142 = .ok (.invokevirtual 13, 3) := by decide +kernel
theorem d_Law_145 : decode code 145 = .ok (.aload_n 2, 1) := by decide +kernel
theorem d_Law_146 : decode code 146 = .ok (.aload_n 0, 1) := by decide +kernel
theorem d_Law_147 : decode code 147 = .ok (.iload_n 3, 1) := by decide +kernel
theorem d_Law_148 : decode code 148 = .ok (.iconst 1, 1) := by decide +kernel
theorem d_Law_149 : decode code 149 = .ok (.iadd, 1) := by decide +kernel
theorem d_Law_150 : decode code 150 = .ok (.iaload, 1) := by decide +kernel
theorem d_Law_151 : decode code 151 = .ok (.invokevirtual 17, 3) := by decide +kernel
theorem d_Law_154 : decode code 154 = .ok (.if_icmp .eq 560, 3) := by decide +kernel
theorem d_Law_157 : decode code 157 = .ok (.iconst 0, 1) := by decide +kernel
theorem d_Law_158 : decode code 158 = .ok (.ireturn, 1) := by decide +kernel
theorem d_Law_159 : decode code 159 = .ok (.aload_n 1, 1) := by decide +kernel
theorem d_Law_160 : decode code 160 = .ok (.aload_n 0, 1) := by decide +kernel
theorem d_Law_161 : decode code 161 = .ok (.iload_n 3, 1) := by decide +kernel
theorem d_Law_162 : decode code 162 = .ok (.iconst 1, 1) := by decide +kernel
theorem d_Law_163 : decode code 163 = .ok (.iadd, 1) := by decide +kernel
theorem d_Law_164 : decode code 164 = .ok (.iaload, 1) := by decide +kernel
theorem d_Law_165 : decode code 165 = .ok (.invokevirtual 18, 3) := by decide +kernel
theorem d_Law_168 : decode code 168 = .ok (.aload_n 2, 1) := by decide +kernel
theorem d_Law_169 : decode code 169 = .ok (.aload_n 0, 1) := by decide +kernel
theorem d_Law_170 : decode code 170 = .ok (.iload_n 3, 1) := by decide +kernel
theorem d_Law_171 : decode code 171 = .ok (.iconst 1, 1) := by decide +kernel
theorem d_Law_172 : decode code 172 = .ok (.iadd, 1) := by decide +kernel
theorem d_Law_173 : decode code 173 = .ok (.iaload, 1) := by decide +kernel
theorem d_Law_174 : decode code 174 = .ok (.invokevirtual 22, 3) := by decide +kernel
theorem d_Law_177 : decode code 177 = .ok (.if_icmp .eq 537, 3) := by decide +kernel
theorem d_Law_180 : decode code 180 = .ok (.iconst 0, 1) := by decide +kernel
theorem d_Law_181 : decode code 181 = .ok (.ireturn, 1) := by decide +kernel
theorem d_Law_182 : decode code 182 = .ok (.aload_n 1, 1) := by decide +kernel
theorem d_Law_183 : decode code 183 = .ok (.aload_n 0, 1) := by decide +kernel
theorem d_Law_184 : decode code 184 = .ok (.iload_n 3, 1) := by decide +kernel
theorem d_Law_185 : decode code 185 = .ok (.iconst 1, 1) := by decide +kernel
theorem d_Law_186 : decode code 186 = .ok (.iadd, 1) := by decide +kernel
theorem d_Law_187 : decode code 187 = .ok (.iaload, 1) := by decide +kernel
theorem d_Law_188 : decode code 188 = .ok (.aload_n 0, 1) := by decide +kernel
theorem d_Law_189 : decode code 189 = .ok (.iload_n 3, 1) := by decide +kernel
theorem d_Law_190 : decode code 190 = .ok (.iconst 2, 1) := by decide +kernel
theorem d_Law_191 : decode code 191 = .ok (.iadd, 1) := by decide +kernel
theorem d_Law_192 : decode code 192 = .ok (.iaload, 1) := by decide +kernel
theorem d_Law_193 : decode code 193 = .ok (.invokevirtual 23, 3) := by decide +kernel
theorem d_Law_196 : decode code 196 = .ok (.aload_n 2, 1) := by decide +kernel
theorem d_Law_197 : decode code 197 = .ok (.aload_n 0, 1) := by decide +kernel
theorem d_Law_198 : decode code 198 = .ok (.iload_n 3, 1) := by decide +kernel
theorem d_Law_199 : decode code 199 = .ok (.iconst 1, 1) := by decide +kernel
theorem d_Law_200 : decode code 200 = .ok (.iadd, 1) := by decide +kernel
theorem d_Law_201 : decode code 201 = .ok (.iaload, 1) := by decide +kernel
theorem d_Law_202 : decode code 202 = .ok (.aload_n 0, 1) := by decide +kernel
theorem d_Law_203 : decode code 203 = .ok (.iload_n 3, 1) := by decide +kernel
theorem d_Law_204 : decode code 204 = .ok (.iconst 2, 1) := by decide +kernel
theorem d_Law_205 : decode code 205 = .ok (.iadd, 1) := by decide +kernel
theorem d_Law_206 : decode code 206 = .ok (.iaload, 1) := by decide +kernel
theorem d_Law_207 : decode code 207 = .ok (.invokevirtual 27, 3) := by decide +kernel
theorem d_Law_210 : decode code 210 = .ok (.lcmp, 1) := by decide +kernel
theorem d_Law_211 : decode code 211 = .ok (.ifCond .eq 503, 3) := by decide +kernel
theorem d_Law_214 : decode code 214 = .ok (.iconst 0, 1) := by decide +kernel
theorem d_Law_215 : decode code 215 = .ok (.ireturn, 1) := by decide +kernel
theorem d_Law_216 : decode code 216 = .ok (.aload_n 1, 1) := by decide +kernel
theorem d_Law_217 : decode code 217 = .ok (.aload_n 0, 1) := by decide +kernel
theorem d_Law_218 : decode code 218 = .ok (.iload_n 3, 1) := by decide +kernel
theorem d_Law_219 : decode code 219 = .ok (.iconst 1, 1) := by decide +kernel
theorem d_Law_220 : decode code 220 = .ok (.iadd, 1) := by decide +kernel
theorem d_Law_221 : decode code 221 = .ok (.iaload, 1) := by decide +kernel
theorem d_Law_222 : decode code 222 = .ok (.aload_n 0, 1) := by decide +kernel
theorem d_Law_223 : decode code 223 = .ok (.iload_n 3, 1) := by decide +kernel
theorem d_Law_224 : decode code 224 = .ok (.iconst 2, 1) := by decide +kernel
theorem d_Law_225 : decode code 225 = .ok (.iadd, 1) := by decide +kernel
theorem d_Law_226 : decode code 226 = .ok (.iaload, 1) := by decide +kernel
theorem d_Law_227 : decode code 227 = .ok (.aload_n 0, 1) := by decide +kernel
theorem d_Law_228 : decode code 228 = .ok (.iload_n 3, 1) := by decide +kernel
theorem d_Law_229 : decode code 229 = .ok (.iconst 3, 1) := by decide +kernel
theorem d_Law_230 : decode code 230 = .ok (.iadd, 1) := by decide +kernel
theorem d_Law_231 : decode code 231 = .ok (.iaload, 1) := by decide +kernel
theorem d_Law_232 : decode code 232 = .ok (.invokevirtual 28, 3) := by decide +kernel
theorem d_Law_235 : decode code 235 = .ok (.aload_n 2, 1) := by decide +kernel
theorem d_Law_236 : decode code 236 = .ok (.aload_n 0, 1) := by decide +kernel
theorem d_Law_237 : decode code 237 = .ok (.iload_n 3, 1) := by decide +kernel
theorem d_Law_238 : decode code 238 = .ok (.iconst 1, 1) := by decide +kernel
theorem d_Law_239 : decode code 239 = .ok (.iadd, 1) := by decide +kernel
theorem d_Law_240 : decode code 240 = .ok (.iaload, 1) := by decide +kernel
theorem d_Law_241 : decode code 241 = .ok (.aload_n 0, 1) := by decide +kernel
theorem d_Law_242 : decode code 242 = .ok (.iload_n 3, 1) := by decide +kernel
theorem d_Law_243 : decode code 243 = .ok (.iconst 2, 1) := by decide +kernel
theorem d_Law_244 : decode code 244 = .ok (.iadd, 1) := by decide +kernel
theorem d_Law_245 : decode code 245 = .ok (.iaload, 1) := by decide +kernel
theorem d_Law_246 : decode code 246 = .ok (.aload_n 0, 1) := by decide +kernel
theorem d_Law_247 : decode code 247 = .ok (.iload_n 3, 1) := by decide +kernel
theorem d_Law_248 : decode code 248 = .ok (.iconst 3, 1) := by decide +kernel
theorem d_Law_249 : decode code 249 = .ok (.iadd, 1) := by decide +kernel
theorem d_Law_250 : decode code 250 = .ok (.iaload, 1) := by decide +kernel
theorem d_Law_251 : decode code 251 = .ok (.invokevirtual 32, 3) := by decide +kernel
theorem d_Law_254 : decode code 254 = .ok (.lcmp, 1) := by decide +kernel
theorem d_Law_255 : decode code 255 = .ok (.ifCond .eq 459, 3) := by decide +kernel
theorem d_Law_258 : decode code 258 = .ok (.iconst 0, 1) := by decide +kernel
theorem d_Law_259 : decode code 259 = .ok (.ireturn, 1) := by decide +kernel
theorem d_Law_260 : decode code 260 = .ok (.aload_n 1, 1) := by decide +kernel
theorem d_Law_261 : decode code 261 = .ok (.aload_n 0, 1) := by decide +kernel
theorem d_Law_262 : decode code 262 = .ok (.iload_n 3, 1) := by decide +kernel
theorem d_Law_263 : decode code 263 = .ok (.iconst 1, 1) := by decide +kernel
theorem d_Law_264 : decode code 264 = .ok (.iadd, 1) := by decide +kernel
theorem d_Law_265 : decode code 265 = .ok (.iaload, 1) := by decide +kernel
theorem d_Law_266 : decode code 266 = .ok (.aload_n 0, 1) := by decide +kernel
theorem d_Law_267 : decode code 267 = .ok (.iload_n 3, 1) := by decide +kernel
theorem d_Law_268 : decode code 268 = .ok (.iconst 2, 1) := by decide +kernel
theorem d_Law_269 : decode code 269 = .ok (.iadd, 1) := by decide +kernel
theorem d_Law_270 : decode code 270 = .ok (.iaload, 1) := by decide +kernel
theorem d_Law_271 : decode code 271 = .ok (.aload_n 0, 1) := by decide +kernel
theorem d_Law_272 : decode code 272 = .ok (.iload_n 3, 1) := by decide +kernel
theorem d_Law_273 : decode code 273 = .ok (.iconst 3, 1) := by decide +kernel
theorem d_Law_274 : decode code 274 = .ok (.iadd, 1) := by decide +kernel
theorem d_Law_275 : decode code 275 = .ok (.iaload, 1) := by decide +kernel
theorem d_Law_276 : decode code 276 = .ok (.invokevirtual 33, 3) := by decide +kernel
theorem d_Law_279 : decode code 279 = .ok (.aload_n 2, 1) := by decide +kernel
theorem d_Law_280 : decode code 280 = .ok (.aload_n 0, 1) := by decide +kernel
theorem d_Law_281 : decode code 281 = .ok (.iload_n 3, 1) := by decide +kernel
theorem d_Law_282 : decode code 282 = .ok (.iconst 1, 1) := by decide +kernel
theorem d_Law_283 : decode code 283 = .ok (.iadd, 1) := by decide +kernel
theorem d_Law_284 : decode code 284 = .ok (.iaload, 1) := by decide +kernel
theorem d_Law_285 : decode code 285 = .ok (.aload_n 0, 1) := by decide +kernel
theorem d_Law_286 : decode code 286 = .ok (.iload_n 3, 1) := by decide +kernel
theorem d_Law_287 : decode code 287 = .ok (.iconst 2, 1) := by decide +kernel
theorem d_Law_288 : decode code 288 = .ok (.iadd, 1) := by decide +kernel
theorem d_Law_289 : decode code 289 = .ok (.iaload, 1) := by decide +kernel
theorem d_Law_290 : decode code 290 = .ok (.aload_n 0, 1) := by decide +kernel
theorem d_Law_291 : decode code 291 = .ok (.iload_n 3, 1) := by decide +kernel
theorem d_Law_292 : decode code 292 = .ok (.iconst 3, 1) := by decide +kernel
theorem d_Law_293 : decode code 293 = .ok (.iadd, 1) := by decide +kernel
theorem d_Law_294 : decode code 294 = .ok (.iaload, 1) := by decide +kernel
theorem d_Law_295 : decode code 295 = .ok (.invokevirtual 37, 3) := by decide +kernel
theorem d_Law_298 : decode code 298 = .ok (.if_icmp .eq 416, 3) := by decide +kernel
theorem d_Law_301 : decode code 301 = .ok (.iconst 0, 1) := by decide +kernel
theorem d_Law_302 : decode code 302 = .ok (.ireturn, 1) := by decide +kernel
theorem d_Law_303 : decode code 303 = .ok (.aload_n 1, 1) := by decide +kernel
theorem d_Law_304 : decode code 304 = .ok (.aload_n 0, 1) := by decide +kernel
theorem d_Law_305 : decode code 305 = .ok (.iload_n 3, 1) := by decide +kernel
theorem d_Law_306 : decode code 306 = .ok (.iconst 1, 1) := by decide +kernel
theorem d_Law_307 : decode code 307 = .ok (.iadd, 1) := by decide +kernel
theorem d_Law_308 : decode code 308 = .ok (.iaload, 1) := by decide +kernel
theorem d_Law_309 : decode code 309 = .ok (.invokevirtual 38, 3) := by decide +kernel
theorem d_Law_312 : decode code 312 = .ok (.aload_n 2, 1) := by decide +kernel
theorem d_Law_313 : decode code 313 = .ok (.aload_n 0, 1) := by decide +kernel
theorem d_Law_314 : decode code 314 = .ok (.iload_n 3, 1) := by decide +kernel
theorem d_Law_315 : decode code 315 = .ok (.iconst 1, 1) := by decide +kernel
theorem d_Law_316 : decode code 316 = .ok (.iadd, 1) := by decide +kernel
theorem d_Law_317 : decode code 317 = .ok (.iaload, 1) := by decide +kernel
theorem d_Law_318 : decode code 318 = .ok (.invokevirtual 41, 3) := by decide +kernel
theorem d_Law_321 : decode code 321 = .ok (.if_icmp .eq 393, 3) := by decide +kernel
theorem d_Law_324 : decode code 324 = .ok (.iconst 0, 1) := by decide +kernel
theorem d_Law_325 : decode code 325 = .ok (.ireturn, 1) := by decide +kernel
theorem d_Law_326 : decode code 326 = .ok (.aload_n 1, 1) := by decide +kernel
theorem d_Law_327 : decode code 327 = .ok (.aload_n 0, 1) := by decide +kernel
theorem d_Law_328 : decode code 328 = .ok (.iload_n 3, 1) := by decide +kernel
theorem d_Law_329 : decode code 329 = .ok (.iconst 1, 1) := by decide +kernel
theorem d_Law_330 : decode code 330 = .ok (.iadd, 1) := by decide +kernel
theorem d_Law_331 : decode code 331 = .ok (.iaload, 1) := by decide +kernel
theorem d_Law_332 : decode code 332 = .ok (.invokevirtual 42, 3) := by decide +kernel
theorem d_Law_335 : decode code 335 = .ok (.aload_n 2, 1) := by decide +kernel
theorem d_Law_336 : decode code 336 = .ok (.aload_n 0, 1) := by decide +kernel
theorem d_Law_337 : decode code 337 = .ok (.iload_n 3, 1) := by decide +kernel
theorem d_Law_338 : decode code 338 = .ok (.iconst 1, 1) := by decide +kernel
theorem d_Law_339 : decode code 339 = .ok (.iadd, 1) := by decide +kernel
theorem d_Law_340 : decode code 340 = .ok (.iaload, 1) := by decide +kernel
theorem d_Law_341 : decode code 341 = .ok (.invokevirtual 45, 3) := by decide +kernel
theorem d_Law_344 : decode code 344 = .ok (.if_icmp .eq 370, 3) := by decide +kernel
theorem d_Law_347 : decode code 347 = .ok (.iconst 0, 1) := by decide +kernel
theorem d_Law_348 : decode code 348 = .ok (.ireturn, 1) := by decide +kernel
theorem d_Law_349 : decode code 349 = .ok (.aload_n 1, 1) := by decide +kernel
theorem d_Law_350 : decode code 350 = .ok (.aload_n 0, 1) := by decide +kernel
theorem d_Law_351 : decode code 351 = .ok (.iload_n 3, 1) := by decide +kernel
theorem d_Law_352 : decode code 352 = .ok (.iconst 1, 1) := by decide +kernel
theorem d_Law_353 : decode code 353 = .ok (.iadd, 1) := by decide +kernel
theorem d_Law_354 : decode code 354 = .ok (.iaload, 1) := by decide +kernel
theorem d_Law_355 : decode code 355 = .ok (.invokevirtual 46, 3) := by decide +kernel
theorem d_Law_358 : decode code 358 = .ok (.aload_n 2, 1) := by decide +kernel
theorem d_Law_359 : decode code 359 = .ok (.aload_n 0, 1) := by decide +kernel
theorem d_Law_360 : decode code 360 = .ok (.iload_n 3, 1) := by decide +kernel
theorem d_Law_361 : decode code 361 = .ok (.iconst 1, 1) := by decide +kernel
theorem d_Law_362 : decode code 362 = .ok (.iadd, 1) := by decide +kernel
theorem d_Law_363 : decode code 363 = .ok (.iaload, 1) := by decide +kernel
theorem d_Law_364 : decode code 364 = .ok (.invokevirtual 49, 3) := by decide +kernel
theorem d_Law_367 : decode code 367 = .ok (.if_icmp .eq 347, 3) := by decide +kernel
theorem d_Law_370 : decode code 370 = .ok (.iconst 0, 1) := by decide +kernel
theorem d_Law_371 : decode code 371 = .ok (.ireturn, 1) := by decide +kernel
theorem d_Law_372 : decode code 372 = .ok (.aload_n 1, 1) := by decide +kernel
theorem d_Law_373 : decode code 373 = .ok (.invokevirtual 50, 3) := by decide +kernel
theorem d_Law_376 : decode code 376 = .ok (.aload_n 2, 1) := by decide +kernel
theorem d_Law_377 : decode code 377 = .ok (.invokevirtual 54, 3) := by decide +kernel
theorem d_Law_380 : decode code 380 = .ok (.if_icmp .eq 334, 3) := by decide +kernel
theorem d_Law_383 : decode code 383 = .ok (.iconst 0, 1) := by decide +kernel
theorem d_Law_384 : decode code 384 = .ok (.ireturn, 1) := by decide +kernel
theorem d_Law_385 : decode code 385 = .ok (.aload_n 1, 1) := by decide +kernel
theorem d_Law_386 : decode code 386 = .ok (.aload_n 0, 1) := by decide +kernel
theorem d_Law_387 : decode code 387 = .ok (.iload_n 3, 1) := by decide +kernel
theorem d_Law_388 : decode code 388 = .ok (.iconst 1, 1) := by decide +kernel
theorem d_Law_389 : decode code 389 = .ok (.iadd, 1) := by decide +kernel
theorem d_Law_390 : decode code 390 = .ok (.iaload, 1) := by decide +kernel
theorem d_Law_391 : decode code 391 = .ok (.invokevirtual 55, 3) := by decide +kernel
theorem d_Law_394 : decode code 394 = .ok (.aload_n 2, 1) := by decide +kernel
theorem d_Law_395 : decode code 395 = .ok (.aload_n 0, 1) := by decide +kernel
theorem d_Law_396 : decode code 396 = .ok (.iload_n 3, 1) := by decide +kernel
theorem d_Law_397 : decode code 397 = .ok (.iconst 1, 1) := by decide +kernel
theorem d_Law_398 : decode code 398 = .ok (.iadd, 1) := by decide +kernel
theorem d_Law_399 : decode code 399 = .ok (.iaload, 1) := by decide +kernel
theorem d_Law_400 : decode code 400 = .ok (.invokevirtual 58, 3) := by decide +kernel
theorem d_Law_403 : decode code 403 = .ok (.if_icmp .eq 311, 3) := by decide +kernel
theorem d_Law_406 : decode code 406 = .ok (.iconst 0, 1) := by decide +kernel
theorem d_Law_407 : decode code 407 = .ok (.ireturn, 1) := by decide +kernel
theorem d_Law_408 : decode code 408 = .ok (.aload_n 1, 1) := by decide +kernel
theorem d_Law_409 : decode code 409 = .ok (.aload_n 0, 1) := by decide +kernel
theorem d_Law_410 : decode code 410 = .ok (.iload_n 3, 1) := by decide +kernel
theorem d_Law_411 : decode code 411 = .ok (.iconst 1, 1) := by decide +kernel
theorem d_Law_412 : decode code 412 = .ok (.iadd, 1) := by decide +kernel
theorem d_Law_413 : decode code 413 = .ok (.iaload, 1) := by decide +kernel
theorem d_Law_414 : decode code 414 = .ok (.invokevirtual 59, 3) := by decide +kernel
theorem d_Law_417 : decode code 417 = .ok (.aload_n 2, 1) := by decide +kernel
theorem d_Law_418 : decode code 418 = .ok (.aload_n 0, 1) := by decide +kernel
theorem d_Law_419 : decode code 419 = .ok (.iload_n 3, 1) := by decide +kernel
theorem d_Law_420 : decode code 420 = .ok (.iconst 1, 1) := by decide +kernel
theorem d_Law_421 : decode code 421 = .ok (.iadd, 1) := by decide +kernel
theorem d_Law_422 : decode code 422 = .ok (.iaload, 1) := by decide +kernel
theorem d_Law_423 : decode code 423 = .ok (.invokevirtual 62, 3) := by decide +kernel
theorem d_Law_426 : decode code 426 = .ok (.if_icmp .eq 288, 3) := by decide +kernel
theorem d_Law_429 : decode code 429 = .ok (.iconst 0, 1) := by decide +kernel
theorem d_Law_430 : decode code 430 = .ok (.ireturn, 1) := by decide +kernel
theorem d_Law_431 : decode code 431 = .ok (.aload_n 1, 1) := by decide +kernel
theorem d_Law_432 : decode code 432 = .ok (.aload_n 0, 1) := by decide +kernel
theorem d_Law_433 : decode code 433 = .ok (.iload_n 3, 1) := by decide +kernel
theorem d_Law_434 : decode code 434 = .ok (.iconst 1, 1) := by decide +kernel
theorem d_Law_435 : decode code 435 = .ok (.iadd, 1) := by decide +kernel
theorem d_Law_436 : decode code 436 = .ok (.iaload, 1) := by decide +kernel
theorem d_Law_437 : decode code 437 = .ok (.invokevirtual 63, 3) := by decide +kernel
theorem d_Law_440 : decode code 440 = .ok (.aload_n 2, 1) := by decide +kernel
theorem d_Law_441 : decode code 441 = .ok (.aload_n 0, 1) := by decide +kernel
theorem d_Law_442 : decode code 442 = .ok (.iload_n 3, 1) := by decide +kernel
theorem d_Law_443 : decode code 443 = .ok (.iconst 1, 1) := by decide +kernel
theorem d_Law_444 : decode code 444 = .ok (.iadd, 1) := by decide +kernel
theorem d_Law_445 : decode code 445 = .ok (.iaload, 1) := by decide +kernel
theorem d_Law_446 : decode code 446 = .ok (.invokevirtual 66, 3) := by decide +kernel
theorem d_Law_449 : decode code 449 = .ok (.if_icmp .eq 265, 3) := by decide +kernel
theorem d_Law_452 : decode code 452 = .ok (.iconst 0, 1) := by decide +kernel
theorem d_Law_453 : decode code 453 = .ok (.ireturn, 1) := by decide +kernel
theorem d_Law_454 : decode code 454 = .ok (.aload_n 1, 1) := by decide +kernel
theorem d_Law_455 : decode code 455 = .ok (.aload_n 0, 1) := by decide +kernel
theorem d_Law_456 : decode code 456 = .ok (.iload_n 3, 1) := by decide +kernel
theorem d_Law_457 : decode code 457 = .ok (.iconst 1, 1) := by decide +kernel
theorem d_Law_458 : decode code 458 = .ok (.iadd, 1) := by decide +kernel
theorem d_Law_459 : decode code 459 = .ok (.iaload, 1) := by decide +kernel
theorem d_Law_460 : decode code 460 = .ok (.aload_n 0, 1) := by decide +kernel
theorem d_Law_461 : decode code 461 = .ok (.iload_n 3, 1) := by decide +kernel
theorem d_Law_462 : decode code 462 = .ok (.iconst 2, 1) := by decide +kernel
theorem d_Law_463 : decode code 463 = .ok (.iadd, 1) := by decide +kernel
theorem d_Law_464 : decode code 464 = .ok (.iaload, 1) := by decide +kernel
theorem d_Law_465 : decode code 465 = .ok (.invokevirtual 67, 3) := by decide +kernel
theorem d_Law_468 : decode code 468 = .ok (.aload_n 2, 1) := by decide +kernel
theorem d_Law_469 : decode code 469 = .ok (.aload_n 0, 1) := by decide +kernel
theorem d_Law_470 : decode code 470 = .ok (.iload_n 3, 1) := by decide +kernel
theorem d_Law_471 : decode code 471 = .ok (.iconst 1, 1) := by decide +kernel
theorem d_Law_472 : decode code 472 = .ok (.iadd, 1) := by decide +kernel
theorem d_Law_473 : decode code 473 = .ok (.iaload, 1) := by decide +kernel
theorem d_Law_474 : decode code 474 = .ok (.aload_n 0, 1) := by decide +kernel
theorem d_Law_475 : decode code 475 = .ok (.iload_n 3, 1) := by decide +kernel
theorem d_Law_476 : decode code 476 = .ok (.iconst 2, 1) := by decide +kernel
theorem d_Law_477 : decode code 477 = .ok (.iadd, 1) := by decide +kernel
theorem d_Law_478 : decode code 478 = .ok (.iaload, 1) := by decide +kernel
theorem d_Law_479 : decode code 479 = .ok (.invokevirtual 71, 3) := by decide +kernel
theorem d_Law_482 : decode code 482 = .ok (.if_icmp .eq 232, 3) := by decide +kernel
theorem d_Law_485 : decode code 485 = .ok (.iconst 0, 1) := by decide +kernel
theorem d_Law_486 : decode code 486 = .ok (.ireturn, 1) := by decide +kernel
theorem d_Law_487 : decode code 487 = .ok (.aload_n 1, 1) := by decide +kernel
theorem d_Law_488 : decode code 488 = .ok (.aload_n 0, 1) := by decide +kernel
theorem d_Law_489 : decode code 489 = .ok (.iload_n 3, 1) := by decide +kernel
theorem d_Law_490 : decode code 490 = .ok (.iconst 1, 1) := by decide +kernel
theorem d_Law_491 : decode code 491 = .ok (.iadd, 1) := by decide +kernel
theorem d_Law_492 : decode code 492 = .ok (.iaload, 1) := by decide +kernel
theorem d_Law_493 : decode code 493 = .ok (.aload_n 0, 1) := by decide +kernel
theorem d_Law_494 : decode code 494 = .ok (.iload_n 3, 1) := by decide +kernel
theorem d_Law_495 : decode code 495 = .ok (.iconst 2, 1) := by decide +kernel
theorem d_Law_496 : decode code 496 = .ok (.iadd, 1) := by decide +kernel
theorem d_Law_497 : decode code 497 = .ok (.iaload, 1) := by decide +kernel
theorem d_Law_498 : decode code 498 = .ok (.invokevirtual 72, 3) := by decide +kernel
theorem d_Law_501 : decode code 501 = .ok (.aload_n 2, 1) := by decide +kernel
theorem d_Law_502 : decode code 502 = .ok (.aload_n 0, 1) := by decide +kernel
theorem d_Law_503 : decode code 503 = .ok (.iload_n 3, 1) := by decide +kernel
theorem d_Law_504 : decode code 504 = .ok (.iconst 1, 1) := by decide +kernel
theorem d_Law_505 : decode code 505 = .ok (.iadd, 1) := by decide +kernel
theorem d_Law_506 : decode code 506 = .ok (.iaload, 1) := by decide +kernel
theorem d_Law_507 : decode code 507 = .ok (.aload_n 0, 1) := by decide +kernel
theorem d_Law_508 : decode code 508 = .ok (.iload_n 3, 1) := by decide +kernel
theorem d_Law_509 : decode code 509 = .ok (.iconst 2, 1) := by decide +kernel
theorem d_Law_510 : decode code 510 = .ok (.iadd, 1) := by decide +kernel
theorem d_Law_511 : decode code 511 = .ok (.iaload, 1) := by decide +kernel
theorem d_Law_512 : decode code 512 = .ok (.invokevirtual 75, 3) := by decide +kernel
theorem d_Law_515 : decode code 515 = .ok (.if_icmp .eq 199, 3) := by decide +kernel
theorem d_Law_518 : decode code 518 = .ok (.iconst 0, 1) := by decide +kernel
theorem d_Law_519 : decode code 519 = .ok (.ireturn, 1) := by decide +kernel
theorem d_Law_520 : decode code 520 = .ok (.aload_n 1, 1) := by decide +kernel
theorem d_Law_521 : decode code 521 = .ok (.aload_n 0, 1) := by decide +kernel
theorem d_Law_522 : decode code 522 = .ok (.iload_n 3, 1) := by decide +kernel
theorem d_Law_523 : decode code 523 = .ok (.iconst 1, 1) := by decide +kernel
theorem d_Law_524 : decode code 524 = .ok (.iadd, 1) := by decide +kernel
theorem d_Law_525 : decode code 525 = .ok (.iaload, 1) := by decide +kernel
theorem d_Law_526 : decode code 526 = .ok (.aload_n 0, 1) := by decide +kernel
theorem d_Law_527 : decode code 527 = .ok (.iload_n 3, 1) := by decide +kernel
theorem d_Law_528 : decode code 528 = .ok (.iconst 2, 1) := by decide +kernel
theorem d_Law_529 : decode code 529 = .ok (.iadd, 1) := by decide +kernel
theorem d_Law_530 : decode code 530 = .ok (.iaload, 1) := by decide +kernel
theorem d_Law_531 : decode code 531 = .ok (.invokevirtual 76, 3) := by decide +kernel
theorem d_Law_534 : decode code 534 = .ok (.aload_n 2, 1) := by decide +kernel
theorem d_Law_535 : decode code 535 = .ok (.aload_n 0, 1) := by decide +kernel
theorem d_Law_536 : decode code 536 = .ok (.iload_n 3, 1) := by decide +kernel
theorem d_Law_537 : decode code 537 = .ok (.iconst 1, 1) := by decide +kernel
theorem d_Law_538 : decode code 538 = .ok (.iadd, 1) := by decide +kernel
theorem d_Law_539 : decode code 539 = .ok (.iaload, 1) := by decide +kernel
theorem d_Law_540 : decode code 540 = .ok (.aload_n 0, 1) := by decide +kernel
theorem d_Law_541 : decode code 541 = .ok (.iload_n 3, 1) := by decide +kernel
theorem d_Law_542 : decode code 542 = .ok (.iconst 2, 1) := by decide +kernel
theorem d_Law_543 : decode code 543 = .ok (.iadd, 1) := by decide +kernel
theorem d_Law_544 : decode code 544 = .ok (.iaload, 1) := by decide +kernel
theorem d_Law_545 : decode code 545 = .ok (.invokevirtual 80, 3) := by decide +kernel
theorem d_Law_548 : decode code 548 = .ok (.if_icmp .eq 166, 3) := by decide +kernel
theorem d_Law_551 : decode code 551 = .ok (.iconst 0, 1) := by decide +kernel
theorem d_Law_552 : decode code 552 = .ok (.ireturn, 1) := by decide +kernel
theorem d_Law_553 : decode code 553 = .ok (.aload_n 1, 1) := by decide +kernel
theorem d_Law_554 : decode code 554 = .ok (.aload_n 0, 1) := by decide +kernel
theorem d_Law_555 : decode code 555 = .ok (.iload_n 3, 1) := by decide +kernel
theorem d_Law_556 : decode code 556 = .ok (.iconst 1, 1) := by decide +kernel
theorem d_Law_557 : decode code 557 = .ok (.iadd, 1) := by decide +kernel
theorem d_Law_558 : decode code 558 = .ok (.iaload, 1) := by decide +kernel
theorem d_Law_559 : decode code 559 = .ok (.invokevirtual 81, 3) := by decide +kernel
theorem d_Law_562 : decode code 562 = .ok (.aload_n 2, 1) := by decide +kernel
theorem d_Law_563 : decode code 563 = .ok (.aload_n 0, 1) := by decide +kernel
theorem d_Law_564 : decode code 564 = .ok (.iload_n 3, 1) := by decide +kernel
theorem d_Law_565 : decode code 565 = .ok (.iconst 1, 1) := by decide +kernel
theorem d_Law_566 : decode code 566 = .ok (.iadd, 1) := by decide +kernel
theorem d_Law_567 : decode code 567 = .ok (.iaload, 1) := by decide +kernel
theorem d_Law_568 : decode code 568 = .ok (.invokevirtual 84, 3) := by decide +kernel
theorem d_Law_571 : decode code 571 = .ok (.if_icmp .eq 143, 3) := by decide +kernel
theorem d_Law_574 : decode code 574 = .ok (.iconst 0, 1) := by decide +kernel
theorem d_Law_575 : decode code 575 = .ok (.ireturn, 1) := by decide +kernel
theorem d_Law_576 : decode code 576 = .ok (.aload_n 1, 1) := by decide +kernel
theorem d_Law_577 : decode code 577 = .ok (.aload_n 0, 1) := by decide +kernel
theorem d_Law_578 : decode code 578 = .ok (.iload_n 3, 1) := by decide +kernel
theorem d_Law_579 : decode code 579 = .ok (.iconst 1, 1) := by decide +kernel
theorem d_Law_580 : decode code 580 = .ok (.iadd, 1) := by decide +kernel
theorem d_Law_581 : decode code 581 = .ok (.iaload, 1) := by decide +kernel
theorem d_Law_582 : decode code 582 = .ok (.invokevirtual 85, 3) := by decide +kernel
theorem d_Law_585 : decode code 585 = .ok (.aload_n 2, 1) := by decide +kernel
theorem d_Law_586 : decode code 586 = .ok (.aload_n 0, 1) := by decide +kernel
theorem d_Law_587 : decode code 587 = .ok (.iload_n 3, 1) := by decide +kernel
theorem d_Law_588 : decode code 588 = .ok (.iconst 1, 1) := by decide +kernel
theorem d_Law_589 : decode code 589 = .ok (.iadd, 1) := by decide +kernel
theorem d_Law_590 : decode code 590 = .ok (.iaload, 1) := by decide +kernel
theorem d_Law_591 : decode code 591 = .ok (.invokevirtual 88, 3) := by decide +kernel
theorem d_Law_594 : decode code 594 = .ok (.if_icmp .eq 120, 3) := by decide +kernel
theorem d_Law_597 : decode code 597 = .ok (.iconst 0, 1) := by decide +kernel
theorem d_Law_598 : decode code 598 = .ok (.ireturn, 1) := by decide +kernel
theorem d_Law_599 : decode code 599 = .ok (.aload_n 1, 1) := by decide +kernel
theorem d_Law_600 : decode code 600 = .ok (.aload_n 0, 1) := by decide +kernel
theorem d_Law_601 : decode code 601 = .ok (.iload_n 3, 1) := by decide +kernel
theorem d_Law_602 : decode code 602 = .ok (.iconst 1, 1) := by decide +kernel
theorem d_Law_603 : decode code 603 = .ok (.iadd, 1) := by decide +kernel
theorem d_Law_604 : decode code 604 = .ok (.iaload, 1) := by decide +kernel
theorem d_Law_605 : decode code 605 = .ok (.invokevirtual 89, 3) := by decide +kernel
theorem d_Law_608 : decode code 608 = .ok (.aload_n 2, 1) := by decide +kernel
theorem d_Law_609 : decode code 609 = .ok (.aload_n 0, 1) := by decide +kernel
theorem d_Law_610 : decode code 610 = .ok (.iload_n 3, 1) := by decide +kernel
theorem d_Law_611 : decode code 611 = .ok (.iconst 1, 1) := by decide +kernel
theorem d_Law_612 : decode code 612 = .ok (.iadd, 1) := by decide +kernel
theorem d_Law_613 : decode code 613 = .ok (.iaload, 1) := by decide +kernel
theorem d_Law_614 : decode code 614 = .ok (.invokevirtual 92, 3) := by decide +kernel
theorem d_Law_617 : decode code 617 = .ok (.if_icmp .eq 97, 3) := by decide +kernel
theorem d_Law_620 : decode code 620 = .ok (.iconst 0, 1) := by decide +kernel
theorem d_Law_621 : decode code 621 = .ok (.ireturn, 1) := by decide +kernel
theorem d_Law_622 : decode code 622 = .ok (.aload_n 1, 1) := by decide +kernel
theorem d_Law_623 : decode code 623 = .ok (.aload_n 0, 1) := by decide +kernel
theorem d_Law_624 : decode code 624 = .ok (.iload_n 3, 1) := by decide +kernel
theorem d_Law_625 : decode code 625 = .ok (.iconst 1, 1) := by decide +kernel
theorem d_Law_626 : decode code 626 = .ok (.iadd, 1) := by decide +kernel
theorem d_Law_627 : decode code 627 = .ok (.iaload, 1) := by decide +kernel
theorem d_Law_628 : decode code 628 = .ok (.invokevirtual 93, 3) := by decide +kernel
theorem d_Law_631 : decode code 631 = .ok (.aload_n 2, 1) := by decide +kernel
theorem d_Law_632 : decode code 632 = .ok (.aload_n 0, 1) := by decide +kernel
theorem d_Law_633 : decode code 633 = .ok (.iload_n 3, 1) := by decide +kernel
theorem d_Law_634 : decode code 634 = .ok (.iconst 1, 1) := by decide +kernel
theorem d_Law_635 : decode code 635 = .ok (.iadd, 1) := by decide +kernel
theorem d_Law_636 : decode code 636 = .ok (.iaload, 1) := by decide +kernel
theorem d_Law_637 : decode code 637 = .ok (.invokevirtual 96, 3) := by decide +kernel
theorem d_Law_640 : decode code 640 = .ok (.if_icmp .eq 74, 3) := by decide +kernel
theorem d_Law_643 : decode code 643 = .ok (.iconst 0, 1) := by decide +kernel
theorem d_Law_644 : decode code 644 = .ok (.ireturn, 1) := by decide +kernel
theorem d_Law_645 : decode code 645 = .ok (.aload_n 1, 1) := by decide +kernel
theorem d_Law_646 : decode code 646 = .ok (.aload_n 0, 1) := by decide +kernel
theorem d_Law_647 : decode code 647 = .ok (.iload_n 3, 1) := by decide +kernel
theorem d_Law_648 : decode code 648 = .ok (.iconst 1, 1) := by decide +kernel
theorem d_Law_649 : decode code 649 = .ok (.iadd, 1) := by decide +kernel
theorem d_Law_650 : decode code 650 = .ok (.iaload, 1) := by decide +kernel
theorem d_Law_651 : decode code 651 = .ok (.invokevirtual 97, 3) := by decide +kernel
theorem d_Law_654 : decode code 654 = .ok (.aload_n 2, 1) := by decide +kernel
theorem d_Law_655 : decode code 655 = .ok (.aload_n 0, 1) := by decide +kernel
theorem d_Law_656 : decode code 656 = .ok (.iload_n 3, 1) := by decide +kernel
theorem d_Law_657 : decode code 657 = .ok (.iconst 1, 1) := by decide +kernel
theorem d_Law_658 : decode code 658 = .ok (.iadd, 1) := by decide +kernel
theorem d_Law_659 : decode code 659 = .ok (.iaload, 1) := by decide +kernel
theorem d_Law_660 : decode code 660 = .ok (.invokevirtual 100, 3) := by decide +kernel
theorem d_Law_663 : decode code 663 = .ok (.if_icmp .eq 51, 3) := by decide +kernel
theorem d_Law_666 : decode code 666 = .ok (.iconst 0, 1) := by decide +kernel
theorem d_Law_667 : decode code 667 = .ok (.ireturn, 1) := by decide +kernel
theorem d_Law_668 : decode code 668 = .ok (.aload_n 1, 1) := by decide +kernel
theorem d_Law_669 : decode code 669 = .ok (.aload_n 0, 1) := by decide +kernel
theorem d_Law_670 : decode code 670 = .ok (.iload_n 3, 1) := by decide +kernel
theorem d_Law_671 : decode code 671 = .ok (.iconst 1, 1) := by decide +kernel
theorem d_Law_672 : decode code 672 = .ok (.iadd, 1) := by decide +kernel
theorem d_Law_673 : decode code 673 = .ok (.iaload, 1) := by decide +kernel
theorem d_Law_674 : decode code 674 = .ok (.invokevirtual 101, 3) := by decide +kernel
theorem d_Law_677 : decode code 677 = .ok (.aload_n 2, 1) := by decide +kernel
theorem d_Law_678 : decode code 678 = .ok (.aload_n 0, 1) := by decide +kernel
theorem d_Law_679 : decode code 679 = .ok (.iload_n 3, 1) := by decide +kernel
theorem d_Law_680 : decode code 680 = .ok (.iconst 1, 1) := by decide +kernel
theorem d_Law_681 : decode code 681 = .ok (.iadd, 1) := by decide +kernel
theorem d_Law_682 : decode code 682 = .ok (.iaload, 1) := by decide +kernel
theorem d_Law_683 : decode code 683 = .ok (.invokevirtual 104, 3) := by decide +kernel
theorem d_Law_686 : decode code 686 = .ok (.if_icmp .eq 28, 3) := by decide +kernel
theorem d_Law_689 : decode code 689 = .ok (.iconst 0, 1) := by decide +kernel
theorem d_Law_690 : decode code 690 = .ok (.ireturn, 1) := by decide +kernel
theorem d_Law_691 : decode code 691 = .ok (.aload_n 1, 1) := by decide +kernel
theorem d_Law_692 : decode code 692 = .ok (.aload_n 0, 1) := by decide +kernel
theorem d_Law_693 : decode code 693 = .ok (.iload_n 3, 1) := by decide +kernel
theorem d_Law_694 : decode code 694 = .ok (.iconst 1, 1) := by decide +kernel
theorem d_Law_695 : decode code 695 = .ok (.iadd, 1) := by decide +kernel
theorem d_Law_696 : decode code 696 = .ok (.iaload, 1) := by decide +kernel
theorem d_Law_697 : decode code 697 = .ok (.invokevirtual 105, 3) := by decide +kernel
theorem d_Law_700 : decode code 700 = .ok (.aload_n 2, 1) := by decide +kernel
theorem d_Law_701 : decode code 701 = .ok (.aload_n 0, 1) := by decide +kernel
theorem d_Law_702 : decode code 702 = .ok (.iload_n 3, 1) := by decide +kernel
theorem d_Law_703 : decode code 703 = .ok (.iconst 1, 1) := by decide +kernel
theorem d_Law_704 : decode code 704 = .ok (.iadd, 1) := by decide +kernel
theorem d_Law_705 : decode code 705 = .ok (.iaload, 1) := by decide +kernel
theorem d_Law_706 : decode code 706 = .ok (.invokevirtual 108, 3) := by decide +kernel
theorem d_Law_709 : decode code 709 = .ok (.if_icmp .eq 5, 3) := by decide +kernel
theorem d_Law_712 : decode code 712 = .ok (.iconst 0, 1) := by decide +kernel
theorem d_Law_713 : decode code 713 = .ok (.ireturn, 1) := by decide +kernel
theorem d_Law_714 : decode code 714 = .ok (.iinc 3 4, 3) := by decide +kernel
theorem d_Law_717 : decode code 717 = .ok (.goto (-699), 3) := by decide +kernel
theorem d_Law_720 : decode code 720 = .ok (.iconst 1, 1) := by decide +kernel
theorem d_Law_721 : decode code 721 = .ok (.ireturn, 1) := by decide +kernel
theorem kn_b_31 : (Int8.ofInt (31)).toInt32 = (31 : Int32) := by decide +kernel
