theorem dLaw_law_0 : decode code 0 = .ok (.new 7, 3) := by decide +kernel
theorem dLaw_law_3 : decode code 3 = .ok (.dup, 1) := by decide +kernel
theorem dLaw_law_4 : decode code 4 = .ok (.aload_n 0, 1) := by decide +kernel
theorem dLaw_law_5 : decode code 5 = .ok (.iconst 0, 1) := by decide +kernel
theorem dLaw_law_6 : decode code 6 = .ok (.invokestatic 9, 3) := by decide +kernel
theorem dLaw_law_9 : decode code 9 = .ok (.invokespecial 15, 3) := by decide +kernel
theorem dLaw_law_12 : decode code 12 = .ok (.astore_n 1, 1) := by decide +kernel
theorem dLaw_law_13 : decode code 13 = .ok (.new 18, 3) := by decide +kernel
theorem dLaw_law_16 : decode code 16 = .ok (.dup, 1) := by decide +kernel
theorem dLaw_law_17 : decode code 17 = .ok (.aload_n 0, 1) := by decide +kernel
theorem dLaw_law_18 : decode code 18 = .ok (.iconst 0, 1) := by decide +kernel
theorem dLaw_law_19 : decode code 19 = .ok (.invokestatic 9, 3) := by decide +kernel
theorem dLaw_law_22 : decode code 22 = .ok (.invokespecial 20, 3) := by decide +kernel
theorem dLaw_law_25 : decode code 25 = .ok (.astore_n 2, 1) := by decide +kernel
theorem dLaw_law_26 : decode code 26 = .ok (.iconst 1, 1) := by decide +kernel
theorem dLaw_law_27 : decode code 27 = .ok (.istore_n 3, 1) := by decide +kernel
theorem dLaw_law_28 : decode code 28 = .ok (.iload_n 3, 1) := by decide +kernel
theorem dLaw_law_29 : decode code 29 = .ok (.aload_n 0, 1) := by decide +kernel
theorem dLaw_law_30 : decode code 30 = .ok (.arraylength, 1) := by decide +kernel
theorem dLaw_law_31 : decode code 31 = .ok (.iconst 3, 1) := by decide +kernel
theorem dLaw_law_32 : decode code 32 = .ok (.isub, 1) := by decide +kernel
theorem dLaw_law_33 : decode code 33 = .ok (.if_icmp .gt 470, 3) := by decide +kernel
theorem dLaw_law_36 : decode code 36 = .ok (.aload_n 0, 1) := by decide +kernel
theorem dLaw_law_37 : decode code 37 = .ok (.iload_n 3, 1) := by decide +kernel
theorem dLaw_law_38 : decode code 38 = .ok (.iaload, 1) := by decide +kernel
theorem dLaw_law_39 : decode code 39 = .ok (.bipush 31, 2) := by decide +kernel
theorem dLaw_law_41 : decode code 41 = .ok (.iand, 1) := by decide +kernel
theorem dLaw_law_42 : decode code 42 = .ok (.tableswitch 455 0 16 #[82, 107, 120, 133, 166, 199, 222, 235, 258, 271, 294, 317, 350, 363, 386, 399, 422], 82) := by decide +kernel
theorem dLaw_law_124 : decode code 124 = .ok (.aload_n 1, 1) := by decide +kernel
theorem dLaw_law_125 : decode code 125 = .ok (.aload_n 0, 1) := by decide +kernel
theorem dLaw_law_126 : decode code 126 = .ok (.iload_n 3, 1) := by decide +kernel
theorem dLaw_law_127 : decode code 127 = .ok (.iconst 1, 1) := by decide +kernel
theorem dLaw_law_128 : decode code 128 = .ok (.iadd, 1) := by decide +kernel
theorem dLaw_law_129 : decode code 129 = .ok (.iaload, 1) := by decide +kernel
theorem dLaw_law_130 : decode code 130 = .ok (.i2c, 1) := by decide +kernel
theorem dLaw_law_131 : decode code 131 = .ok (.invokevirtual 21, 3) := by decide +kernel
theorem dLaw_law_134 : decode code 134 = .ok (.aload_n 2, 1) := by decide +kernel
theorem dLaw_law_135 : decode code 135 = .ok (.aload_n 0, 1) := by decide +kernel
theorem dLaw_law_136 : decode code 136 = .ok (.iload_n 3, 1) := by decide +kernel
theorem dLaw_law_137 : decode code 137 = .ok (.iconst 1, 1) := by decide +kernel
theorem dLaw_law_138 : decode code 138 = .ok (.iadd, 1) := by decide +kernel
theorem dLaw_law_139 : decode code 139 = .ok (.iaload, 1) := by decide +kernel
theorem dLaw_law_140 : decode code 140 = .ok (.i2c, 1) := by decide +kernel
theorem dLaw_law_141 : decode code 141 = .ok (.invokevirtual 25, 3) := by decide +kernel
theorem dLaw_law_144 : decode code 144 = .ok (.if_icmp .eq 353, 3) := by decide +kernel
theorem dLaw_law_147 : decode code 147 = .ok (.iconst 0, 1) := by decide +kernel
theorem dLaw_law_148 : decode code 148 = .ok (.ireturn, 1) := by decide +kernel
theorem dLaw_law_149 : decode code 149 = .ok (.aload_n 1, 1) := by decide +kernel
theorem dLaw_law_150 : decode code 150 = .ok (.invokevirtual 26, 3) := by decide +kernel
theorem dLaw_law_153 : decode code 153 = .ok (.aload_n 2, 1) := by decide +kernel
theorem dLaw_law_154 : decode code 154 = .ok (.invokevirtual 30, 3) := by decide +kernel
theorem dLaw_law_157 : decode code 157 = .ok (.if_icmp .eq 340, 3) := by decide +kernel
theorem dLaw_law_160 : decode code 160 = .ok (.iconst 0, 1) := by decide +kernel
theorem dLaw_law_161 : decode code 161 = .ok (.ireturn, 1) := by decide +kernel
theorem dLaw_law_162 : decode code 162 = .ok (.aload_n 1, 1) := by decide +kernel
theorem dLaw_law_163 : decode code 163 = .ok (.invokevirtual 31, 3) := by decide +kernel
theorem dLaw_law_166 : decode code 166 = .ok (.aload_n 2, 1) := by decide +kernel
theorem dLaw_law_167 : decode code 167 = .ok (.invokevirtual 34, 3) := by decide +kernel
theorem dLaw_law_170 : decode code 170 = .ok (.if_icmp .eq 327, 3) := by decide +kernel
theorem dLaw_law_173 : decode code 173 = .ok (.iconst 0, 1) := by decide +kernel
theorem dLaw_law_174 : decode code 174 = .ok (.ireturn, 1) := by decide +kernel
theorem dLaw_law_175 : decode code 175 = .ok (.aload_n 1, 1) := by decide +kernel
theorem dLaw_law_176 : decode code 176 = .ok (.aload_n 0, 1) := by decide +kernel
theorem dLaw_law_177 : decode code 177 = .ok (.iload_n 3, 1) := by decide +kernel
theorem dLaw_law_178 : decode code 178 = .ok (.iconst 1, 1) := by decide +kernel
theorem dLaw_law_179 : decode code 179 = .ok (.iadd, 1) := by decide +kernel
theorem dLaw_law_180 : decode code 180 = .ok (.iaload, 1) := by decide +kernel
theorem dLaw_law_181 : decode code 181 = .ok (.aload_n 0, 1) := by decide +kernel
theorem dLaw_law_182 : decode code 182 = .ok (.iload_n 3, 1) := by decide +kernel
theorem dLaw_law_183 : decode code 183 = .ok (.iconst 2, 1) := by decide +kernel
theorem dLaw_law_184 : decode code 184 = .ok (.iadd, 1) := by decide +kernel
theorem dLaw_law_185 : decode code 185 = .ok (.iaload, 1) := by decide +kernel
theorem dLaw_law_186 : decode code 186 = .ok (.invokevirtual 35, 3) := by decide +kernel
theorem dLaw_law_189 : decode code 189 = .ok (.aload_n 2, 1) := by decide +kernel
theorem dLaw_law_190 : decode code 190 = .ok (.aload_n 0, 1) := by decide +kernel
theorem dLaw_law_191 : decode code 191 = .ok (.iload_n 3, 1) := by decide +kernel
theorem dLaw_law_192 : decode code 192 = .ok (.iconst 1, 1) := by decide +kernel
theorem dLaw_law_193 : decode code 193 = .ok (.iadd, 1) := by decide +kernel
theorem dLaw_law_194 : decode code 194 = .ok (.iaload, 1) := by decide +kernel
theorem dLaw_law_195 : decode code 195 = .ok (.aload_n 0, 1) := by decide +kernel
theorem dLaw_law_196 : decode code 196 = .ok (.iload_n 3, 1) := by decide +kernel
theorem dLaw_law_197 : decode code 197 = .ok (.iconst 2, 1) := by decide +kernel
theorem dLaw_law_198 : decode code 198 = .ok (.iadd, 1) := by decide +kernel
theorem dLaw_law_199 : decode code 199 = .ok (.iaload, 1) := by decide +kernel
theorem dLaw_law_200 : decode code 200 = .ok (.invokevirtual 39, 3) := by decide +kernel
theorem dLaw_law_203 : decode code 203 = .ok (.if_icmp .eq 294, 3) := by decide +kernel
theorem dLaw_law_206 : decode code 206 = .ok (.iconst 0, 1) := by decide +kernel
theorem dLaw_law_207 : decode code 207 = .ok (.ireturn, 1) := by decide +kernel
theorem dLaw_law_208 : decode code 208 = .ok (.aload_n 1, 1) := by decide +kernel
theorem dLaw_law_209 : decode code 209 = .ok (.aload_n 0, 1) := by decide +kernel
theorem dLaw_law_210 : decode code 210 = .ok (.iload_n 3, 1) := by decide +kernel
theorem dLaw_law_211 : decode code 211 = .ok (.iconst 1, 1) := by decide +kernel
theorem dLaw_law_212 : decode code 212 = .ok (.iadd, 1) := by decide +kernel
theorem dLaw_law_213 : decode code 213 = .ok (.iaload, 1) := by decide +kernel
theorem dLaw_law_214 : decode code 214 = .ok (.aload_n 0, 1) := by decide +kernel
theorem dLaw_law_215 : decode code 215 = .ok (.iload_n 3, 1) := by decide +kernel
theorem dLaw_law_216 : decode code 216 = .ok (.iconst 2, 1) := by decide +kernel
theorem dLaw_law_217 : decode code 217 = .ok (.iadd, 1) := by decide +kernel
theorem dLaw_law_218 : decode code 218 = .ok (.iaload, 1) := by decide +kernel
theorem dLaw_law_219 : decode code 219 = .ok (.invokevirtual 40, 3) := by decide +kernel
theorem dLaw_law_222 : decode code 222 = .ok (.aload_n 2, 1) := by decide +kernel
theorem dLaw_law_223 : decode code 223 = .ok (.aload_n 0, 1) := by decide +kernel
theorem dLaw_law_224 : decode code 224 = .ok (.iload_n 3, 1) := by decide +kernel
theorem dLaw_law_225 : decode code 225 = .ok (.iconst 1, 1) := by decide +kernel
theorem dLaw_law_226 : decode code 226 = .ok (.iadd, 1) := by decide +kernel
theorem dLaw_law_227 : decode code 227 = .ok (.iaload, 1) := by decide +kernel
theorem dLaw_law_228 : decode code 228 = .ok (.aload_n 0, 1) := by decide +kernel
theorem dLaw_law_229 : decode code 229 = .ok (.iload_n 3, 1) := by decide +kernel
theorem dLaw_law_230 : decode code 230 = .ok (.iconst 2, 1) := by decide +kernel
theorem dLaw_law_231 : decode code 231 = .ok (.iadd, 1) := by decide +kernel
theorem dLaw_law_232 : decode code 232 = .ok (.iaload, 1) := by decide +kernel
theorem dLaw_law_233 : decode code 233 = .ok (.invokevirtual 43, 3) := by decide +kernel
theorem dLaw_law_236 : decode code 236 = .ok (.if_icmp .eq 261, 3) := by decide +kernel
theorem dLaw_law_239 : decode code 239 = .ok (.iconst 0, 1) := by decide +kernel
theorem dLaw_law_240 : decode code 240 = .ok (.ireturn, 1) := by decide +kernel
theorem dLaw_law_241 : decode code 241 = .ok (.aload_n 1, 1) := by decide +kernel
theorem dLaw_law_242 : decode code 242 = .ok (.aload_n 0, 1) := by decide +kernel
theorem dLaw_law_243 : decode code 243 = .ok (.iload_n 3, 1) := by decide +kernel
theorem dLaw_law_244 : decode code 244 = .ok (.iconst 1, 1) := by decide +kernel
theorem dLaw_law_245 : decode code 245 = .ok (.iadd, 1) := by decide +kernel
theorem dLaw_law_246 : decode code 246 = .ok (.iaload, 1) := by decide +kernel
theorem dLaw_law_247 : decode code 247 = .ok (.invokevirtual 44, 3) := by decide +kernel
theorem dLaw_law_250 : decode code 250 = .ok (.aload_n 2, 1) := by decide +kernel
theorem dLaw_law_251 : decode code 251 = .ok (.aload_n 0, 1) := by decide +kernel
theorem dLaw_law_252 : decode code 252 = .ok (.iload_n 3, 1) := by decide +kernel
theorem dLaw_law_253 : decode code 253 = .ok (.iconst 1, 1) := by decide +kernel
theorem dLaw_law_254 : decode code 254 = .ok (.iadd, 1) := by decide +kernel
theorem dLaw_law_255 : decode code 255 = .ok (.iaload, 1) := by decide +kernel
theorem dLaw_law_256 : decode code 256 = .ok (.invokevirtual 48, 3) := by decide +kernel
theorem dLaw_law_259 : decode code 259 = .ok (.if_icmp .eq 238, 3) := by decide +kernel
theorem dLaw_law_262 : decode code 262 = .ok (.iconst 0, 1) := by decide +kernel
theorem dLaw_law_263 : decode code 263 = .ok (.ireturn, 1) := by decide +kernel
theorem dLaw_law_264 : decode code 264 = .ok (.aload_n 1, 1) := by decide +kernel
theorem dLaw_law_265 : decode code 265 = .ok (.invokevirtual 49, 3) := by decide +kernel
theorem dLaw_law_268 : decode code 268 = .ok (.aload_n 2, 1) := by decide +kernel
theorem dLaw_law_269 : decode code 269 = .ok (.invokevirtual 52, 3) := by decide +kernel
theorem dLaw_law_272 : decode code 272 = .ok (.if_icmp .eq 225, 3) := by decide +kernel
theorem dLaw_law_275 : decode code 275 = .ok (.iconst 0, 1) := by decide +kernel
theorem dLaw_law_276 : decode code 276 = .ok (.ireturn, 1) := by decide +kernel
theorem dLaw_law_277 : decode code 277 = .ok (.aload_n 1, 1) := by decide +kernel
theorem dLaw_law_278 : decode code 278 = .ok (.aload_n 0, 1) := by decide +kernel
theorem dLaw_law_279 : decode code 279 = .ok (.iload_n 3, 1) := by decide +kernel
theorem dLaw_law_280 : decode code 280 = .ok (.iconst 1, 1) := by decide +kernel
theorem dLaw_law_281 : decode code 281 = .ok (.iadd, 1) := by decide +kernel
theorem dLaw_law_282 : decode code 282 = .ok (.iaload, 1) := by decide +kernel
theorem dLaw_law_283 : decode code 283 = .ok (.invokevirtual 53, 3) := by decide +kernel
theorem dLaw_law_286 : decode code 286 = .ok (.aload_n 2, 1) := by decide +kernel
theorem dLaw_law_287 : decode code 287 = .ok (.aload_n 0, 1) := by decide +kernel
theorem dLaw_law_288 : decode code 288 = .ok (.iload_n 3, 1) := by decide +kernel
theorem dLaw_law_289 : decode code 289 = .ok (.iconst 1, 1) := by decide +kernel
theorem dLaw_law_290 : decode code 290 = .ok (.iadd, 1) := by decide +kernel
theorem dLaw_law_291 : decode code 291 = .ok (.iaload, 1) := by decide +kernel
theorem dLaw_law_292 : decode code 292 = .ok (.invokevirtual 56, 3) := by decide +kernel
theorem dLaw_law_295 : decode code 295 = .ok (.if_icmp .eq 202, 3) := by decide +kernel
theorem dLaw_law_298 : decode code 298 = .ok (.iconst 0, 1) := by decide +kernel
theorem dLaw_law_299 : decode code 299 = .ok (.ireturn, 1) := by decide +kernel
theorem dLaw_law_300 : decode code 300 = .ok (.aload_n 1, 1) := by decide +kernel
theorem dLaw_law_301 : decode code 301 = .ok (.invokevirtual 57, 3) := by decide +kernel
theorem dLaw_law_304 : decode code 304 = .ok (.aload_n 2, 1) := by decide +kernel
theorem dLaw_law_305 : decode code 305 = .ok (.invokevirtual 60, 3) := by decide +kernel
theorem dLaw_law_308 : decode code 308 = .ok (.if_icmp .eq 189, 3) := by decide +kernel
theorem dLaw_law_311 : decode code 311 = .ok (.iconst 0, 1) := by decide +kernel
theorem dLaw_law_312 : decode code 312 = .ok (.ireturn, 1) := by decide +kernel
theorem dLaw_law_313 : decode code 313 = .ok (.aload_n 1, 1) := by decide +kernel
theorem dLaw_law_314 : decode code 314 = .ok (.aload_n 0, 1) := by decide +kernel
theorem dLaw_law_315 : decode code 315 = .ok (.iload_n 3, 1) := by decide +kernel
theorem dLaw_law_316 : decode code 316 = .ok (.iconst 1, 1) := by decide +kernel
theorem dLaw_law_317 : decode code 317 = .ok (.iadd, 1) := by decide +kernel
theorem dLaw_law_318 : decode code 318 = .ok (.iaload, 1) := by decide +kernel
theorem dLaw_law_319 : decode code 319 = .ok (.invokevirtual 61, 3) := by decide +kernel
theorem dLaw_law_322 : decode code 322 = .ok (.aload_n 2, 1) := by decide +kernel
theorem dLaw_law_323 : decode code 323 = .ok (.aload_n 0, 1) := by decide +kernel
theorem dLaw_law_324 : decode code 324 = .ok (.iload_n 3, 1) := by decide +kernel
theorem dLaw_law_325 : decode code 325 = .ok (.iconst 1, 1) := by decide +kernel
theorem dLaw_law_326 : decode code 326 = .ok (.iadd, 1) := by decide +kernel
theorem dLaw_law_327 : decode code 327 = .ok (.iaload, 1) := by decide +kernel
theorem dLaw_law_328 : decode code 328 = .ok (.invokevirtual 64, 3) := by decide +kernel
theorem dLaw_law_331 : decode code 331 = .ok (.if_icmp .eq 166, 3) := by decide +kernel
theorem dLaw_law_334 : decode code 334 = .ok (.iconst 0, 1) := by decide +kernel
theorem dLaw_law_335 : decode code 335 = .ok (.ireturn, 1) := by decide +kernel
theorem dLaw_law_336 : decode code 336 = .ok (.aload_n 1, 1) := by decide +kernel
theorem dLaw_law_337 : decode code 337 = .ok (.aload_n 0, 1) := by decide +kernel
theorem dLaw_law_338 : decode code 338 = .ok (.iload_n 3, 1) := by decide +kernel
theorem dLaw_law_339 : decode code 339 = .ok (.iconst 1, 1) := by decide +kernel
theorem dLaw_law_340 : decode code 340 = .ok (.iadd, 1) := by decide +kernel
theorem dLaw_law_341 : decode code 341 = .ok (.iaload, 1) := by decide +kernel
theorem dLaw_law_342 : decode code 342 = .ok (.invokevirtual 65, 3) := by decide +kernel
theorem dLaw_law_345 : decode code 345 = .ok (.aload_n 2, 1) := by decide +kernel
theorem dLaw_law_346 : decode code 346 = .ok (.aload_n 0, 1) := by decide +kernel
theorem dLaw_law_347 : decode code 347 = .ok (.iload_n 3, 1) := by decide +kernel
theorem dLaw_law_348 : decode code 348 = .ok (.iconst 1, 1) := by decide +kernel
theorem dLaw_law_349 : decode code 349 = .ok (.iadd, 1) := by decide +kernel
theorem dLaw_law_350 : decode code 350 = .ok (.iaload, 1) := by decide +kernel
theorem dLaw_law_351 : decode code 351 = .ok (.invokevirtual 68, 3) := by decide +kernel
theorem dLaw_law_354 : decode code 354 = .ok (.if_icmp .eq 143, 3) := by decide +kernel
theorem dLaw_law_357 : decode code 357 = .ok (.iconst 0, 1) := by decide +kernel
theorem dLaw_law_358 : decode code 358 = .ok (.ireturn, 1) := by decide +kernel
theorem dLaw_law_359 : decode code 359 = .ok (.aload_n 1, 1) := by decide +kernel
theorem dLaw_law_360 : decode code 360 = .ok (.aload_n 0, 1) := by decide +kernel
theorem dLaw_law_361 : decode code 361 = .ok (.iload_n 3, 1) := by decide +kernel
theorem dLaw_law_362 : decode code 362 = .ok (.iconst 1, 1) := by decide +kernel
theorem dLaw_law_363 : decode code 363 = .ok (.iadd, 1) := by decide +kernel
theorem dLaw_law_364 : decode code 364 = .ok (.iaload, 1) := by decide +kernel
theorem dLaw_law_365 : decode code 365 = .ok (.aload_n 0, 1) := by decide +kernel
theorem dLaw_law_366 : decode code 366 = .ok (.iload_n 3, 1) := by decide +kernel
theorem dLaw_law_367 : decode code 367 = .ok (.iconst 2, 1) := by decide +kernel
theorem dLaw_law_368 : decode code 368 = .ok (.iadd, 1) := by decide +kernel
theorem dLaw_law_369 : decode code 369 = .ok (.iaload, 1) := by decide +kernel
theorem dLaw_law_370 : decode code 370 = .ok (.invokevirtual 69, 3) := by decide +kernel
theorem dLaw_law_373 : decode code 373 = .ok (.aload_n 2, 1) := by decide +kernel
theorem dLaw_law_374 : decode code 374 = .ok (.aload_n 0, 1) := by decide +kernel
theorem dLaw_law_375 : decode code 375 = .ok (.iload_n 3, 1) := by decide +kernel
theorem dLaw_law_376 : decode code 376 = .ok (.iconst 1, 1) := by decide +kernel
theorem dLaw_law_377 : decode code 377 = .ok (.iadd, 1) := by decide +kernel
theorem dLaw_law_378 : decode code 378 = .ok (.iaload, 1) := by decide +kernel
theorem dLaw_law_379 : decode code 379 = .ok (.aload_n 0, 1) := by decide +kernel
theorem dLaw_law_380 : decode code 380 = .ok (.iload_n 3, 1) := by decide +kernel
theorem dLaw_law_381 : decode code 381 = .ok (.iconst 2, 1) := by decide +kernel
theorem dLaw_law_382 : decode code 382 = .ok (.iadd, 1) := by decide +kernel
theorem dLaw_law_383 : decode code 383 = .ok (.iaload, 1) := by decide +kernel
theorem dLaw_law_384 : decode code 384 = .ok (.invokevirtual 72, 3) := by decide +kernel
theorem dLaw_law_387 : decode code 387 = .ok (.if_icmp .eq 110, 3) := by decide +kernel
theorem dLaw_law_390 : decode code 390 = .ok (.iconst 0, 1) := by decide +kernel
theorem dLaw_law_391 : decode code 391 = .ok (.ireturn, 1) := by decide +kernel
theorem dLaw_law_392 : decode code 392 = .ok (.aload_n 1, 1) := by decide +kernel
theorem dLaw_law_393 : decode code 393 = .ok (.invokevirtual 73, 3) := by decide +kernel
theorem dLaw_law_396 : decode code 396 = .ok (.aload_n 2, 1) := by decide +kernel
theorem dLaw_law_397 : decode code 397 = .ok (.invokevirtual 76, 3) := by decide +kernel
theorem dLaw_law_400 : decode code 400 = .ok (.if_icmp .eq 97, 3) := by decide +kernel
theorem dLaw_law_403 : decode code 403 = .ok (.iconst 0, 1) := by decide +kernel
theorem dLaw_law_404 : decode code 404 = .ok (.ireturn, 1) := by decide +kernel
theorem dLaw_law_405 : decode code 405 = .ok (.aload_n 1, 1) := by decide +kernel
theorem dLaw_law_406 : decode code 406 = .ok (.aload_n 0, 1) := by decide +kernel
theorem dLaw_law_407 : decode code 407 = .ok (.iload_n 3, 1) := by decide +kernel
theorem dLaw_law_408 : decode code 408 = .ok (.iconst 1, 1) := by decide +kernel
theorem dLaw_law_409 : decode code 409 = .ok (.iadd, 1) := by decide +kernel
theorem dLaw_law_410 : decode code 410 = .ok (.iaload, 1) := by decide +kernel
theorem dLaw_law_411 : decode code 411 = .ok (.invokevirtual 77, 3) := by decide +kernel
theorem dLaw_law_414 : decode code 414 = .ok (.aload_n 2, 1) := by decide +kernel
theorem dLaw_law_415 : decode code 415 = .ok (.aload_n 0, 1) := by decide +kernel
theorem dLaw_law_416 : decode code 416 = .ok (.iload_n 3, 1) := by decide +kernel
theorem dLaw_law_417 : decode code 417 = .ok (.iconst 1, 1) := by decide +kernel
theorem dLaw_law_418 : decode code 418 = .ok (.iadd, 1) := by decide +kernel
theorem dLaw_law_419 : decode code 419 = .ok (.iaload, 1) := by decide +kernel
theorem dLaw_law_420 : decode code 420 = .ok (.invokevirtual 80, 3) := by decide +kernel
theorem dLaw_law_423 : decode code 423 = .ok (.if_icmp .eq 74, 3) := by decide +kernel
theorem dLaw_law_426 : decode code 426 = .ok (.iconst 0, 1) := by decide +kernel
theorem dLaw_law_427 : decode code 427 = .ok (.ireturn, 1) := by decide +kernel
theorem dLaw_law_428 : decode code 428 = .ok (.aload_n 1, 1) := by decide +kernel
theorem dLaw_law_429 : decode code 429 = .ok (.invokevirtual 81, 3) := by decide +kernel
theorem dLaw_law_432 : decode code 432 = .ok (.aload_n 2, 1) := by decide +kernel
theorem dLaw_law_433 : decode code 433 = .ok (.invokevirtual 84, 3) := by decide +kernel
theorem dLaw_law_436 : decode code 436 = .ok (.if_icmp .eq 61, 3) := by decide +kernel
theorem dLaw_law_439 : decode code 439 = .ok (.iconst 0, 1) := by decide +kernel
theorem dLaw_law_440 : decode code 440 = .ok (.ireturn, 1) := by decide +kernel
theorem dLaw_law_441 : decode code 441 = .ok (.aload_n 1, 1) := by decide +kernel
theorem dLaw_law_442 : decode code 442 = .ok (.aload_n 0, 1) := by decide +kernel
theorem dLaw_law_443 : decode code 443 = .ok (.iload_n 3, 1) := by decide +kernel
theorem dLaw_law_444 : decode code 444 = .ok (.iconst 1, 1) := by decide +kernel
theorem dLaw_law_445 : decode code 445 = .ok (.iadd, 1) := by decide +kernel
theorem dLaw_law_446 : decode code 446 = .ok (.iaload, 1) := by decide +kernel
theorem dLaw_law_447 : decode code 447 = .ok (.invokevirtual 85, 3) := by decide +kernel
theorem dLaw_law_450 : decode code 450 = .ok (.aload_n 2, 1) := by decide +kernel
theorem dLaw_law_451 : decode code 451 = .ok (.aload_n 0, 1) := by decide +kernel
theorem dLaw_law_452 : decode code 452 = .ok (.iload_n 3, 1) := by decide +kernel
theorem dLaw_law_453 : decode code 453 = .ok (.iconst 1, 1) := by decide +kernel
theorem dLaw_law_454 : decode code 454 = .ok (.iadd, 1) := by decide +kernel
theorem dLaw_law_455 : decode code 455 = .ok (.iaload, 1) := by decide +kernel
theorem dLaw_law_456 : decode code 456 = .ok (.invokevirtual 88, 3) := by decide +kernel
theorem dLaw_law_459 : decode code 459 = .ok (.if_icmp .eq 38, 3) := by decide +kernel
theorem dLaw_law_462 : decode code 462 = .ok (.iconst 0, 1) := by decide +kernel
theorem dLaw_law_463 : decode code 463 = .ok (.ireturn, 1) := by decide +kernel
theorem dLaw_law_464 : decode code 464 = .ok (.aload_n 1, 1) := by decide +kernel
theorem dLaw_law_465 : decode code 465 = .ok (.aload_n 0, 1) := by decide +kernel
theorem dLaw_law_466 : decode code 466 = .ok (.iload_n 3, 1) := by decide +kernel
theorem dLaw_law_467 : decode code 467 = .ok (.iconst 1, 1) := by decide +kernel
theorem dLaw_law_468 : decode code 468 = .ok (.iadd, 1) := by decide +kernel
theorem dLaw_law_469 : decode code 469 = .ok (.iaload, 1) := by decide +kernel
theorem dLaw_law_470 : decode code 470 = .ok (.aload_n 0, 1) := by decide +kernel
theorem dLaw_law_471 : decode code 471 = .ok (.iload_n 3, 1) := by decide +kernel
theorem dLaw_law_472 : decode code 472 = .ok (.iconst 2, 1) := by decide +kernel
theorem dLaw_law_473 : decode code 473 = .ok (.iadd, 1) := by decide +kernel
theorem dLaw_law_474 : decode code 474 = .ok (.iaload, 1) := by decide +kernel
theorem dLaw_law_475 : decode code 475 = .ok (.invokevirtual 89, 3) := by decide +kernel
theorem dLaw_law_478 : decode code 478 = .ok (.aload_n 2, 1) := by decide +kernel
theorem dLaw_law_479 : decode code 479 = .ok (.aload_n 0, 1) := by decide +kernel
theorem dLaw_law_480 : decode code 480 = .ok (.iload_n 3, 1) := by decide +kernel
theorem dLaw_law_481 : decode code 481 = .ok (.iconst 1, 1) := by decide +kernel
theorem dLaw_law_482 : decode code 482 = .ok (.iadd, 1) := by decide +kernel
theorem dLaw_law_483 : decode code 483 = .ok (.iaload, 1) := by decide +kernel
theorem dLaw_law_484 : decode code 484 = .ok (.aload_n 0, 1) := by decide +kernel
theorem dLaw_law_485 : decode code 485 = .ok (.iload_n 3, 1) := by decide +kernel
theorem dLaw_law_486 : decode code 486 = .ok (.iconst 2, 1) := by decide +kernel
theorem dLaw_law_487 : decode code 487 = .ok (.iadd, 1) := by decide +kernel
theorem dLaw_law_488 : decode code 488 = .ok (.iaload, 1) := by decide +kernel
theorem dLaw_law_489 : decode code 489 = .ok (.invokevirtual 92, 3) := by decide +kernel
theorem dLaw_law_492 : decode code 492 = .ok (.if_icmp .eq 5, 3) := by decide +kernel
theorem dLaw_law_495 : decode code 495 = .ok (.iconst 0, 1) := by decide +kernel
theorem dLaw_law_496 : decode code 496 = .ok (.ireturn, 1) := by decide +kernel
theorem dLaw_law_497 : decode code 497 = .ok (.iinc 3 3, 3) := by decide +kernel
theorem dLaw_law_500 : decode code 500 = .ok (.goto (-472), 3) := by decide +kernel
theorem dLaw_law_503 : decode code 503 = .ok (.iconst 1, 1) := by decide +kernel
theorem dLaw_law_504 : decode code 504 = .ok (.ireturn, 1) := by decide +kernel
