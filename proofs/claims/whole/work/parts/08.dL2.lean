theorem dL_law_8 : decode zc_L_law 8 = .ok (.new 83, 3) := by decide +kernel
theorem dL_law_11 : decode zc_L_law 11 = .ok (.dup, 1) := by decide +kernel
theorem dL_law_12 : decode zc_L_law 12 = .ok (.invokespecial 85, 3) := by decide +kernel
theorem dL_law_15 : decode zc_L_law 15 = .ok (.astore_n 2, 1) := by decide +kernel
theorem dL_law_16 : decode zc_L_law 16 = .ok (.iconst 1, 1) := by decide +kernel
theorem dL_law_17 : decode zc_L_law 17 = .ok (.newarray .long, 2) := by decide +kernel
theorem dL_law_19 : decode zc_L_law 19 = .ok (.astore_n 3, 1) := by decide +kernel
theorem dL_law_20 : decode zc_L_law 20 = .ok (.iconst 0, 1) := by decide +kernel
theorem dL_law_21 : decode zc_L_law 21 = .ok (.istore 4, 2) := by decide +kernel
theorem dL_law_23 : decode zc_L_law 23 = .ok (.iload 4, 2) := by decide +kernel
theorem dL_law_25 : decode zc_L_law 25 = .ok (.aload_n 0, 1) := by decide +kernel
theorem dL_law_26 : decode zc_L_law 26 = .ok (.arraylength, 1) := by decide +kernel
theorem dL_law_27 : decode zc_L_law 27 = .ok (.bipush 6, 2) := by decide +kernel
theorem dL_law_29 : decode zc_L_law 29 = .ok (.isub, 1) := by decide +kernel
theorem dL_law_30 : decode zc_L_law 30 = .ok (.if_icmp .gt 1454, 3) := by decide +kernel
theorem dL_law_33 : decode zc_L_law 33 = .ok (.aload_n 0, 1) := by decide +kernel
theorem dL_law_34 : decode zc_L_law 34 = .ok (.iload 4, 2) := by decide +kernel
theorem dL_law_36 : decode zc_L_law 36 = .ok (.iaload, 1) := by decide +kernel
theorem dL_law_37 : decode zc_L_law 37 = .ok (.bipush 31, 2) := by decide +kernel
theorem dL_law_39 : decode zc_L_law 39 = .ok (.iand, 1) := by decide +kernel
theorem dL_law_40 : decode zc_L_law 40 = .ok (.tableswitch 1438 0 19 #[96, 144, 204, 284, 352, 420, 476, 544, 599, 703, 783, 851, 919, 987, 1055, 1111, 1191, 1259, 1327, 1383], 96) := by decide +kernel
theorem dL_law_136 : decode zc_L_law 136 = .ok (.aload_n 1, 1) := by decide +kernel
theorem dL_law_137 : decode zc_L_law 137 = .ok (.aload_n 0, 1) := by decide +kernel
theorem dL_law_138 : decode zc_L_law 138 = .ok (.iload 4, 2) := by decide +kernel
theorem dL_law_140 : decode zc_L_law 140 = .ok (.iconst 1, 1) := by decide +kernel
theorem dL_law_141 : decode zc_L_law 141 = .ok (.iadd, 1) := by decide +kernel
theorem dL_law_142 : decode zc_L_law 142 = .ok (.iaload, 1) := by decide +kernel
theorem dL_law_143 : decode zc_L_law 143 = .ok (.aload_n 0, 1) := by decide +kernel
theorem dL_law_144 : decode zc_L_law 144 = .ok (.iload 4, 2) := by decide +kernel
theorem dL_law_146 : decode zc_L_law 146 = .ok (.iconst 2, 1) := by decide +kernel
theorem dL_law_147 : decode zc_L_law 147 = .ok (.iadd, 1) := by decide +kernel
theorem dL_law_148 : decode zc_L_law 148 = .ok (.iaload, 1) := by decide +kernel
theorem dL_law_149 : decode zc_L_law 149 = .ok (.invokestatic 86, 3) := by decide +kernel
theorem dL_law_152 : decode zc_L_law 152 = .ok (.istore 5, 2) := by decide +kernel
theorem dL_law_154 : decode zc_L_law 154 = .ok (.aload_n 2, 1) := by decide +kernel
theorem dL_law_155 : decode zc_L_law 155 = .ok (.aload_n 0, 1) := by decide +kernel
theorem dL_law_156 : decode zc_L_law 156 = .ok (.iload 4, 2) := by decide +kernel
theorem dL_law_158 : decode zc_L_law 158 = .ok (.iconst 1, 1) := by decide +kernel
theorem dL_law_159 : decode zc_L_law 159 = .ok (.iadd, 1) := by decide +kernel
theorem dL_law_160 : decode zc_L_law 160 = .ok (.iaload, 1) := by decide +kernel
theorem dL_law_161 : decode zc_L_law 161 = .ok (.aload_n 0, 1) := by decide +kernel
theorem dL_law_162 : decode zc_L_law 162 = .ok (.iload 4, 2) := by decide +kernel
theorem dL_law_164 : decode zc_L_law 164 = .ok (.iconst 2, 1) := by decide +kernel
theorem dL_law_165 : decode zc_L_law 165 = .ok (.iadd, 1) := by decide +kernel
theorem dL_law_166 : decode zc_L_law 166 = .ok (.iaload, 1) := by decide +kernel
theorem dL_law_167 : decode zc_L_law 167 = .ok (.invokevirtual 91, 3) := by decide +kernel
theorem dL_law_170 : decode zc_L_law 170 = .ok (.aload_n 2, 1) := by decide +kernel
theorem dL_law_171 : decode zc_L_law 171 = .ok (.invokevirtual 92, 3) := by decide +kernel
theorem dL_law_174 : decode zc_L_law 174 = .ok (.iload 5, 2) := by decide +kernel
theorem dL_law_176 : decode zc_L_law 176 = .ok (.if_icmp .eq 5, 3) := by decide +kernel
theorem dL_law_179 : decode zc_L_law 179 = .ok (.iconst 0, 1) := by decide +kernel
theorem dL_law_180 : decode zc_L_law 180 = .ok (.ireturn, 1) := by decide +kernel
theorem dL_law_181 : decode zc_L_law 181 = .ok (.goto 1297, 3) := by decide +kernel
theorem dL_law_184 : decode zc_L_law 184 = .ok (.aload_n 1, 1) := by decide +kernel
theorem dL_law_185 : decode zc_L_law 185 = .ok (.aload_n 0, 1) := by decide +kernel
theorem dL_law_186 : decode zc_L_law 186 = .ok (.iload 4, 2) := by decide +kernel
theorem dL_law_188 : decode zc_L_law 188 = .ok (.iconst 1, 1) := by decide +kernel
theorem dL_law_189 : decode zc_L_law 189 = .ok (.iadd, 1) := by decide +kernel
theorem dL_law_190 : decode zc_L_law 190 = .ok (.iaload, 1) := by decide +kernel
theorem dL_law_191 : decode zc_L_law 191 = .ok (.aload_n 0, 1) := by decide +kernel
theorem dL_law_192 : decode zc_L_law 192 = .ok (.iload 4, 2) := by decide +kernel
theorem dL_law_194 : decode zc_L_law 194 = .ok (.iconst 2, 1) := by decide +kernel
theorem dL_law_195 : decode zc_L_law 195 = .ok (.iadd, 1) := by decide +kernel
theorem dL_law_196 : decode zc_L_law 196 = .ok (.iaload, 1) := by decide +kernel
theorem dL_law_197 : decode zc_L_law 197 = .ok (.aload_n 0, 1) := by decide +kernel
theorem dL_law_198 : decode zc_L_law 198 = .ok (.iload 4, 2) := by decide +kernel
theorem dL_law_200 : decode zc_L_law 200 = .ok (.iconst 3, 1) := by decide +kernel
theorem dL_law_201 : decode zc_L_law 201 = .ok (.iadd, 1) := by decide +kernel
theorem dL_law_202 : decode zc_L_law 202 = .ok (.iaload, 1) := by decide +kernel
theorem dL_law_203 : decode zc_L_law 203 = .ok (.invokestatic 96, 3) := by decide +kernel
theorem dL_law_206 : decode zc_L_law 206 = .ok (.istore 5, 2) := by decide +kernel
theorem dL_law_208 : decode zc_L_law 208 = .ok (.aload_n 2, 1) := by decide +kernel
theorem dL_law_209 : decode zc_L_law 209 = .ok (.aload_n 0, 1) := by decide +kernel
theorem dL_law_210 : decode zc_L_law 210 = .ok (.iload 4, 2) := by decide +kernel
theorem dL_law_212 : decode zc_L_law 212 = .ok (.iconst 1, 1) := by decide +kernel
theorem dL_law_213 : decode zc_L_law 213 = .ok (.iadd, 1) := by decide +kernel
theorem dL_law_214 : decode zc_L_law 214 = .ok (.iaload, 1) := by decide +kernel
theorem dL_law_215 : decode zc_L_law 215 = .ok (.aload_n 0, 1) := by decide +kernel
theorem dL_law_216 : decode zc_L_law 216 = .ok (.iload 4, 2) := by decide +kernel
theorem dL_law_218 : decode zc_L_law 218 = .ok (.iconst 2, 1) := by decide +kernel
theorem dL_law_219 : decode zc_L_law 219 = .ok (.iadd, 1) := by decide +kernel
theorem dL_law_220 : decode zc_L_law 220 = .ok (.iaload, 1) := by decide +kernel
theorem dL_law_221 : decode zc_L_law 221 = .ok (.aload_n 0, 1) := by decide +kernel
theorem dL_law_222 : decode zc_L_law 222 = .ok (.iload 4, 2) := by decide +kernel
theorem dL_law_224 : decode zc_L_law 224 = .ok (.iconst 3, 1) := by decide +kernel
theorem dL_law_225 : decode zc_L_law 225 = .ok (.iadd, 1) := by decide +kernel
theorem dL_law_226 : decode zc_L_law 226 = .ok (.iaload, 1) := by decide +kernel
theorem dL_law_227 : decode zc_L_law 227 = .ok (.invokevirtual 99, 3) := by decide +kernel
theorem dL_law_230 : decode zc_L_law 230 = .ok (.aload_n 2, 1) := by decide +kernel
theorem dL_law_231 : decode zc_L_law 231 = .ok (.invokevirtual 92, 3) := by decide +kernel
theorem dL_law_234 : decode zc_L_law 234 = .ok (.iload 5, 2) := by decide +kernel
theorem dL_law_236 : decode zc_L_law 236 = .ok (.if_icmp .eq 5, 3) := by decide +kernel
theorem dL_law_239 : decode zc_L_law 239 = .ok (.iconst 0, 1) := by decide +kernel
theorem dL_law_240 : decode zc_L_law 240 = .ok (.ireturn, 1) := by decide +kernel
theorem dL_law_241 : decode zc_L_law 241 = .ok (.goto 1237, 3) := by decide +kernel
theorem dL_law_244 : decode zc_L_law 244 = .ok (.aload_n 1, 1) := by decide +kernel
theorem dL_law_245 : decode zc_L_law 245 = .ok (.aload_n 0, 1) := by decide +kernel
theorem dL_law_246 : decode zc_L_law 246 = .ok (.iload 4, 2) := by decide +kernel
theorem dL_law_248 : decode zc_L_law 248 = .ok (.iconst 1, 1) := by decide +kernel
theorem dL_law_249 : decode zc_L_law 249 = .ok (.iadd, 1) := by decide +kernel
theorem dL_law_250 : decode zc_L_law 250 = .ok (.iaload, 1) := by decide +kernel
theorem dL_law_251 : decode zc_L_law 251 = .ok (.aload_n 0, 1) := by decide +kernel
theorem dL_law_252 : decode zc_L_law 252 = .ok (.iload 4, 2) := by decide +kernel
theorem dL_law_254 : decode zc_L_law 254 = .ok (.iconst 2, 1) := by decide +kernel
theorem dL_law_255 : decode zc_L_law 255 = .ok (.iadd, 1) := by decide +kernel
theorem dL_law_256 : decode zc_L_law 256 = .ok (.iaload, 1) := by decide +kernel
theorem dL_law_257 : decode zc_L_law 257 = .ok (.aload_n 0, 1) := by decide +kernel
theorem dL_law_258 : decode zc_L_law 258 = .ok (.iload 4, 2) := by decide +kernel
theorem dL_law_260 : decode zc_L_law 260 = .ok (.iconst 3, 1) := by decide +kernel
theorem dL_law_261 : decode zc_L_law 261 = .ok (.iadd, 1) := by decide +kernel
theorem dL_law_262 : decode zc_L_law 262 = .ok (.iaload, 1) := by decide +kernel
theorem dL_law_263 : decode zc_L_law 263 = .ok (.aload_n 3, 1) := by decide +kernel
theorem dL_law_264 : decode zc_L_law 264 = .ok (.invokestatic 100, 3) := by decide +kernel
theorem dL_law_267 : decode zc_L_law 267 = .ok (.istore 5, 2) := by decide +kernel
theorem dL_law_269 : decode zc_L_law 269 = .ok (.aload_n 2, 1) := by decide +kernel
theorem dL_law_270 : decode zc_L_law 270 = .ok (.aload_n 0, 1) := by decide +kernel
theorem dL_law_271 : decode zc_L_law 271 = .ok (.iload 4, 2) := by decide +kernel
theorem dL_law_273 : decode zc_L_law 273 = .ok (.iconst 1, 1) := by decide +kernel
theorem dL_law_274 : decode zc_L_law 274 = .ok (.iadd, 1) := by decide +kernel
theorem dL_law_275 : decode zc_L_law 275 = .ok (.iaload, 1) := by decide +kernel
theorem dL_law_276 : decode zc_L_law 276 = .ok (.aload_n 0, 1) := by decide +kernel
theorem dL_law_277 : decode zc_L_law 277 = .ok (.iload 4, 2) := by decide +kernel
theorem dL_law_279 : decode zc_L_law 279 = .ok (.iconst 2, 1) := by decide +kernel
theorem dL_law_280 : decode zc_L_law 280 = .ok (.iadd, 1) := by decide +kernel
theorem dL_law_281 : decode zc_L_law 281 = .ok (.iaload, 1) := by decide +kernel
theorem dL_law_282 : decode zc_L_law 282 = .ok (.aload_n 0, 1) := by decide +kernel
theorem dL_law_283 : decode zc_L_law 283 = .ok (.iload 4, 2) := by decide +kernel
theorem dL_law_285 : decode zc_L_law 285 = .ok (.iconst 3, 1) := by decide +kernel
theorem dL_law_286 : decode zc_L_law 286 = .ok (.iadd, 1) := by decide +kernel
theorem dL_law_287 : decode zc_L_law 287 = .ok (.iaload, 1) := by decide +kernel
theorem dL_law_288 : decode zc_L_law 288 = .ok (.invokevirtual 103, 3) := by decide +kernel
theorem dL_law_291 : decode zc_L_law 291 = .ok (.istore 6, 2) := by decide +kernel
theorem dL_law_293 : decode zc_L_law 293 = .ok (.aload_n 2, 1) := by decide +kernel
theorem dL_law_294 : decode zc_L_law 294 = .ok (.invokevirtual 92, 3) := by decide +kernel
theorem dL_law_297 : decode zc_L_law 297 = .ok (.iload 5, 2) := by decide +kernel
theorem dL_law_299 : decode zc_L_law 299 = .ok (.if_icmp .eq 5, 3) := by decide +kernel
theorem dL_law_302 : decode zc_L_law 302 = .ok (.iconst 0, 1) := by decide +kernel
theorem dL_law_303 : decode zc_L_law 303 = .ok (.ireturn, 1) := by decide +kernel
theorem dL_law_304 : decode zc_L_law 304 = .ok (.iload 5, 2) := by decide +kernel
theorem dL_law_306 : decode zc_L_law 306 = .ok (.ifCond .ne 15, 3) := by decide +kernel
theorem dL_law_309 : decode zc_L_law 309 = .ok (.aload_n 3, 1) := by decide +kernel
theorem dL_law_310 : decode zc_L_law 310 = .ok (.iconst 0, 1) := by decide +kernel
theorem dL_law_311 : decode zc_L_law 311 = .ok (.laload, 1) := by decide +kernel
theorem dL_law_312 : decode zc_L_law 312 = .ok (.iload 6, 2) := by decide +kernel
theorem dL_law_314 : decode zc_L_law 314 = .ok (.i2l, 1) := by decide +kernel
theorem dL_law_315 : decode zc_L_law 315 = .ok (.lcmp, 1) := by decide +kernel
theorem dL_law_316 : decode zc_L_law 316 = .ok (.ifCond .eq 5, 3) := by decide +kernel
theorem dL_law_319 : decode zc_L_law 319 = .ok (.iconst 0, 1) := by decide +kernel
theorem dL_law_320 : decode zc_L_law 320 = .ok (.ireturn, 1) := by decide +kernel
theorem dL_law_321 : decode zc_L_law 321 = .ok (.goto 1157, 3) := by decide +kernel
theorem dL_law_324 : decode zc_L_law 324 = .ok (.aload_n 1, 1) := by decide +kernel
theorem dL_law_325 : decode zc_L_law 325 = .ok (.aload_n 0, 1) := by decide +kernel
theorem dL_law_326 : decode zc_L_law 326 = .ok (.iload 4, 2) := by decide +kernel
theorem dL_law_328 : decode zc_L_law 328 = .ok (.iconst 1, 1) := by decide +kernel
theorem dL_law_329 : decode zc_L_law 329 = .ok (.iadd, 1) := by decide +kernel
theorem dL_law_330 : decode zc_L_law 330 = .ok (.iaload, 1) := by decide +kernel
theorem dL_law_331 : decode zc_L_law 331 = .ok (.aload_n 0, 1) := by decide +kernel
theorem dL_law_332 : decode zc_L_law 332 = .ok (.iload 4, 2) := by decide +kernel
theorem dL_law_334 : decode zc_L_law 334 = .ok (.iconst 2, 1) := by decide +kernel
theorem dL_law_335 : decode zc_L_law 335 = .ok (.iadd, 1) := by decide +kernel
theorem dL_law_336 : decode zc_L_law 336 = .ok (.iaload, 1) := by decide +kernel
theorem dL_law_337 : decode zc_L_law 337 = .ok (.aload_n 3, 1) := by decide +kernel
theorem dL_law_338 : decode zc_L_law 338 = .ok (.invokestatic 104, 3) := by decide +kernel
theorem dL_law_341 : decode zc_L_law 341 = .ok (.istore 5, 2) := by decide +kernel
theorem dL_law_343 : decode zc_L_law 343 = .ok (.aload_n 2, 1) := by decide +kernel
theorem dL_law_344 : decode zc_L_law 344 = .ok (.aload_n 0, 1) := by decide +kernel
theorem dL_law_345 : decode zc_L_law 345 = .ok (.iload 4, 2) := by decide +kernel
theorem dL_law_347 : decode zc_L_law 347 = .ok (.iconst 1, 1) := by decide +kernel
theorem dL_law_348 : decode zc_L_law 348 = .ok (.iadd, 1) := by decide +kernel
theorem dL_law_349 : decode zc_L_law 349 = .ok (.iaload, 1) := by decide +kernel
theorem dL_law_350 : decode zc_L_law 350 = .ok (.aload_n 0, 1) := by decide +kernel
theorem dL_law_351 : decode zc_L_law 351 = .ok (.iload 4, 2) := by decide +kernel
theorem dL_law_353 : decode zc_L_law 353 = .ok (.iconst 2, 1) := by decide +kernel
theorem dL_law_354 : decode zc_L_law 354 = .ok (.iadd, 1) := by decide +kernel
theorem dL_law_355 : decode zc_L_law 355 = .ok (.iaload, 1) := by decide +kernel
theorem dL_law_356 : decode zc_L_law 356 = .ok (.invokevirtual 107, 3) := by decide +kernel
theorem dL_law_359 : decode zc_L_law 359 = .ok (.istore 6, 2) := by decide +kernel
theorem dL_law_361 : decode zc_L_law 361 = .ok (.aload_n 2, 1) := by decide +kernel
theorem dL_law_362 : decode zc_L_law 362 = .ok (.invokevirtual 92, 3) := by decide +kernel
theorem dL_law_365 : decode zc_L_law 365 = .ok (.iload 5, 2) := by decide +kernel
theorem dL_law_367 : decode zc_L_law 367 = .ok (.if_icmp .eq 5, 3) := by decide +kernel
theorem dL_law_370 : decode zc_L_law 370 = .ok (.iconst 0, 1) := by decide +kernel
theorem dL_law_371 : decode zc_L_law 371 = .ok (.ireturn, 1) := by decide +kernel
theorem dL_law_372 : decode zc_L_law 372 = .ok (.iload 5, 2) := by decide +kernel
theorem dL_law_374 : decode zc_L_law 374 = .ok (.ifCond .ne 15, 3) := by decide +kernel
theorem dL_law_377 : decode zc_L_law 377 = .ok (.aload_n 3, 1) := by decide +kernel
theorem dL_law_378 : decode zc_L_law 378 = .ok (.iconst 0, 1) := by decide +kernel
theorem dL_law_379 : decode zc_L_law 379 = .ok (.laload, 1) := by decide +kernel
theorem dL_law_380 : decode zc_L_law 380 = .ok (.iload 6, 2) := by decide +kernel
theorem dL_law_382 : decode zc_L_law 382 = .ok (.i2l, 1) := by decide +kernel
theorem dL_law_383 : decode zc_L_law 383 = .ok (.lcmp, 1) := by decide +kernel
theorem dL_law_384 : decode zc_L_law 384 = .ok (.ifCond .eq 5, 3) := by decide +kernel
theorem dL_law_387 : decode zc_L_law 387 = .ok (.iconst 0, 1) := by decide +kernel
theorem dL_law_388 : decode zc_L_law 388 = .ok (.ireturn, 1) := by decide +kernel
theorem dL_law_389 : decode zc_L_law 389 = .ok (.goto 1089, 3) := by decide +kernel
theorem dL_law_392 : decode zc_L_law 392 = .ok (.aload_n 1, 1) := by decide +kernel
theorem dL_law_393 : decode zc_L_law 393 = .ok (.aload_n 0, 1) := by decide +kernel
theorem dL_law_394 : decode zc_L_law 394 = .ok (.iload 4, 2) := by decide +kernel
theorem dL_law_396 : decode zc_L_law 396 = .ok (.iconst 1, 1) := by decide +kernel
theorem dL_law_397 : decode zc_L_law 397 = .ok (.iadd, 1) := by decide +kernel
theorem dL_law_398 : decode zc_L_law 398 = .ok (.iaload, 1) := by decide +kernel
theorem dL_law_399 : decode zc_L_law 399 = .ok (.aload_n 0, 1) := by decide +kernel
theorem dL_law_400 : decode zc_L_law 400 = .ok (.iload 4, 2) := by decide +kernel
theorem dL_law_402 : decode zc_L_law 402 = .ok (.iconst 2, 1) := by decide +kernel
theorem dL_law_403 : decode zc_L_law 403 = .ok (.iadd, 1) := by decide +kernel
theorem dL_law_404 : decode zc_L_law 404 = .ok (.iaload, 1) := by decide +kernel
theorem dL_law_405 : decode zc_L_law 405 = .ok (.aload_n 3, 1) := by decide +kernel
theorem dL_law_406 : decode zc_L_law 406 = .ok (.invokestatic 108, 3) := by decide +kernel
theorem dL_law_409 : decode zc_L_law 409 = .ok (.istore 5, 2) := by decide +kernel
theorem dL_law_411 : decode zc_L_law 411 = .ok (.aload_n 2, 1) := by decide +kernel
theorem dL_law_412 : decode zc_L_law 412 = .ok (.aload_n 0, 1) := by decide +kernel
theorem dL_law_413 : decode zc_L_law 413 = .ok (.iload 4, 2) := by decide +kernel
theorem dL_law_415 : decode zc_L_law 415 = .ok (.iconst 1, 1) := by decide +kernel
theorem dL_law_416 : decode zc_L_law 416 = .ok (.iadd, 1) := by decide +kernel
theorem dL_law_417 : decode zc_L_law 417 = .ok (.iaload, 1) := by decide +kernel
theorem dL_law_418 : decode zc_L_law 418 = .ok (.aload_n 0, 1) := by decide +kernel
theorem dL_law_419 : decode zc_L_law 419 = .ok (.iload 4, 2) := by decide +kernel
theorem dL_law_421 : decode zc_L_law 421 = .ok (.iconst 2, 1) := by decide +kernel
theorem dL_law_422 : decode zc_L_law 422 = .ok (.iadd, 1) := by decide +kernel
theorem dL_law_423 : decode zc_L_law 423 = .ok (.iaload, 1) := by decide +kernel
theorem dL_law_424 : decode zc_L_law 424 = .ok (.invokevirtual 110, 3) := by decide +kernel
theorem dL_law_427 : decode zc_L_law 427 = .ok (.istore 6, 2) := by decide +kernel
theorem dL_law_429 : decode zc_L_law 429 = .ok (.aload_n 2, 1) := by decide +kernel
theorem dL_law_430 : decode zc_L_law 430 = .ok (.invokevirtual 92, 3) := by decide +kernel
theorem dL_law_433 : decode zc_L_law 433 = .ok (.iload 5, 2) := by decide +kernel
theorem dL_law_435 : decode zc_L_law 435 = .ok (.if_icmp .eq 5, 3) := by decide +kernel
theorem dL_law_438 : decode zc_L_law 438 = .ok (.iconst 0, 1) := by decide +kernel
theorem dL_law_439 : decode zc_L_law 439 = .ok (.ireturn, 1) := by decide +kernel
theorem dL_law_440 : decode zc_L_law 440 = .ok (.iload 5, 2) := by decide +kernel
theorem dL_law_442 : decode zc_L_law 442 = .ok (.ifCond .ne 15, 3) := by decide +kernel
theorem dL_law_445 : decode zc_L_law 445 = .ok (.aload_n 3, 1) := by decide +kernel
theorem dL_law_446 : decode zc_L_law 446 = .ok (.iconst 0, 1) := by decide +kernel
theorem dL_law_447 : decode zc_L_law 447 = .ok (.laload, 1) := by decide +kernel
theorem dL_law_448 : decode zc_L_law 448 = .ok (.iload 6, 2) := by decide +kernel
theorem dL_law_450 : decode zc_L_law 450 = .ok (.i2l, 1) := by decide +kernel
theorem dL_law_451 : decode zc_L_law 451 = .ok (.lcmp, 1) := by decide +kernel
theorem dL_law_452 : decode zc_L_law 452 = .ok (.ifCond .eq 5, 3) := by decide +kernel
theorem dL_law_455 : decode zc_L_law 455 = .ok (.iconst 0, 1) := by decide +kernel
theorem dL_law_456 : decode zc_L_law 456 = .ok (.ireturn, 1) := by decide +kernel
theorem dL_law_457 : decode zc_L_law 457 = .ok (.goto 1021, 3) := by decide +kernel
theorem dL_law_460 : decode zc_L_law 460 = .ok (.aload_n 1, 1) := by decide +kernel
theorem dL_law_461 : decode zc_L_law 461 = .ok (.aload_n 0, 1) := by decide +kernel
theorem dL_law_462 : decode zc_L_law 462 = .ok (.iload 4, 2) := by decide +kernel
theorem dL_law_464 : decode zc_L_law 464 = .ok (.iconst 1, 1) := by decide +kernel
theorem dL_law_465 : decode zc_L_law 465 = .ok (.iadd, 1) := by decide +kernel
theorem dL_law_466 : decode zc_L_law 466 = .ok (.iaload, 1) := by decide +kernel
theorem dL_law_467 : decode zc_L_law 467 = .ok (.aload_n 3, 1) := by decide +kernel
theorem dL_law_468 : decode zc_L_law 468 = .ok (.invokestatic 111, 3) := by decide +kernel
theorem dL_law_471 : decode zc_L_law 471 = .ok (.istore 5, 2) := by decide +kernel
theorem dL_law_473 : decode zc_L_law 473 = .ok (.aload_n 2, 1) := by decide +kernel
theorem dL_law_474 : decode zc_L_law 474 = .ok (.aload_n 0, 1) := by decide +kernel
theorem dL_law_475 : decode zc_L_law 475 = .ok (.iload 4, 2) := by decide +kernel
theorem dL_law_477 : decode zc_L_law 477 = .ok (.iconst 1, 1) := by decide +kernel
theorem dL_law_478 : decode zc_L_law 478 = .ok (.iadd, 1) := by decide +kernel
theorem dL_law_479 : decode zc_L_law 479 = .ok (.iaload, 1) := by decide +kernel
theorem dL_law_480 : decode zc_L_law 480 = .ok (.invokevirtual 114, 3) := by decide +kernel
theorem dL_law_483 : decode zc_L_law 483 = .ok (.istore 6, 2) := by decide +kernel
theorem dL_law_485 : decode zc_L_law 485 = .ok (.aload_n 2, 1) := by decide +kernel
theorem dL_law_486 : decode zc_L_law 486 = .ok (.invokevirtual 92, 3) := by decide +kernel
theorem dL_law_489 : decode zc_L_law 489 = .ok (.iload 5, 2) := by decide +kernel
theorem dL_law_491 : decode zc_L_law 491 = .ok (.if_icmp .eq 5, 3) := by decide +kernel
theorem dL_law_494 : decode zc_L_law 494 = .ok (.iconst 0, 1) := by decide +kernel
theorem dL_law_495 : decode zc_L_law 495 = .ok (.ireturn, 1) := by decide +kernel
theorem dL_law_496 : decode zc_L_law 496 = .ok (.iload 5, 2) := by decide +kernel
theorem dL_law_498 : decode zc_L_law 498 = .ok (.ifCond .ne 15, 3) := by decide +kernel
theorem dL_law_501 : decode zc_L_law 501 = .ok (.aload_n 3, 1) := by decide +kernel
theorem dL_law_502 : decode zc_L_law 502 = .ok (.iconst 0, 1) := by decide +kernel
theorem dL_law_503 : decode zc_L_law 503 = .ok (.laload, 1) := by decide +kernel
theorem dL_law_504 : decode zc_L_law 504 = .ok (.iload 6, 2) := by decide +kernel
theorem dL_law_506 : decode zc_L_law 506 = .ok (.i2l, 1) := by decide +kernel
theorem dL_law_507 : decode zc_L_law 507 = .ok (.lcmp, 1) := by decide +kernel
theorem dL_law_508 : decode zc_L_law 508 = .ok (.ifCond .eq 5, 3) := by decide +kernel
theorem dL_law_511 : decode zc_L_law 511 = .ok (.iconst 0, 1) := by decide +kernel
theorem dL_law_512 : decode zc_L_law 512 = .ok (.ireturn, 1) := by decide +kernel
theorem dL_law_513 : decode zc_L_law 513 = .ok (.goto 965, 3) := by decide +kernel
theorem dL_law_516 : decode zc_L_law 516 = .ok (.aload_n 1, 1) := by decide +kernel
theorem dL_law_517 : decode zc_L_law 517 = .ok (.aload_n 0, 1) := by decide +kernel
theorem dL_law_518 : decode zc_L_law 518 = .ok (.iload 4, 2) := by decide +kernel
theorem dL_law_520 : decode zc_L_law 520 = .ok (.iconst 1, 1) := by decide +kernel
theorem dL_law_521 : decode zc_L_law 521 = .ok (.iadd, 1) := by decide +kernel
theorem dL_law_522 : decode zc_L_law 522 = .ok (.iaload, 1) := by decide +kernel
theorem dL_law_523 : decode zc_L_law 523 = .ok (.aload_n 0, 1) := by decide +kernel
theorem dL_law_524 : decode zc_L_law 524 = .ok (.iload 4, 2) := by decide +kernel
theorem dL_law_526 : decode zc_L_law 526 = .ok (.iconst 2, 1) := by decide +kernel
theorem dL_law_527 : decode zc_L_law 527 = .ok (.iadd, 1) := by decide +kernel
theorem dL_law_528 : decode zc_L_law 528 = .ok (.iaload, 1) := by decide +kernel
theorem dL_law_529 : decode zc_L_law 529 = .ok (.aload_n 3, 1) := by decide +kernel
theorem dL_law_530 : decode zc_L_law 530 = .ok (.invokestatic 115, 3) := by decide +kernel
theorem dL_law_533 : decode zc_L_law 533 = .ok (.istore 5, 2) := by decide +kernel
theorem dL_law_535 : decode zc_L_law 535 = .ok (.aload_n 2, 1) := by decide +kernel
theorem dL_law_536 : decode zc_L_law 536 = .ok (.aload_n 0, 1) := by decide +kernel
theorem dL_law_537 : decode zc_L_law 537 = .ok (.iload 4, 2) := by decide +kernel
theorem dL_law_539 : decode zc_L_law 539 = .ok (.iconst 1, 1) := by decide +kernel
theorem dL_law_540 : decode zc_L_law 540 = .ok (.iadd, 1) := by decide +kernel
theorem dL_law_541 : decode zc_L_law 541 = .ok (.iaload, 1) := by decide +kernel
theorem dL_law_542 : decode zc_L_law 542 = .ok (.aload_n 0, 1) := by decide +kernel
theorem dL_law_543 : decode zc_L_law 543 = .ok (.iload 4, 2) := by decide +kernel
theorem dL_law_545 : decode zc_L_law 545 = .ok (.iconst 2, 1) := by decide +kernel
theorem dL_law_546 : decode zc_L_law 546 = .ok (.iadd, 1) := by decide +kernel
theorem dL_law_547 : decode zc_L_law 547 = .ok (.iaload, 1) := by decide +kernel
theorem dL_law_548 : decode zc_L_law 548 = .ok (.invokevirtual 117, 3) := by decide +kernel
theorem dL_law_551 : decode zc_L_law 551 = .ok (.istore 6, 2) := by decide +kernel
theorem dL_law_553 : decode zc_L_law 553 = .ok (.aload_n 2, 1) := by decide +kernel
theorem dL_law_554 : decode zc_L_law 554 = .ok (.invokevirtual 92, 3) := by decide +kernel
theorem dL_law_557 : decode zc_L_law 557 = .ok (.iload 5, 2) := by decide +kernel
theorem dL_law_559 : decode zc_L_law 559 = .ok (.if_icmp .eq 5, 3) := by decide +kernel
theorem dL_law_562 : decode zc_L_law 562 = .ok (.iconst 0, 1) := by decide +kernel
theorem dL_law_563 : decode zc_L_law 563 = .ok (.ireturn, 1) := by decide +kernel
theorem dL_law_564 : decode zc_L_law 564 = .ok (.iload 5, 2) := by decide +kernel
theorem dL_law_566 : decode zc_L_law 566 = .ok (.ifCond .ne 15, 3) := by decide +kernel
theorem dL_law_569 : decode zc_L_law 569 = .ok (.aload_n 3, 1) := by decide +kernel
theorem dL_law_570 : decode zc_L_law 570 = .ok (.iconst 0, 1) := by decide +kernel
theorem dL_law_571 : decode zc_L_law 571 = .ok (.laload, 1) := by decide +kernel
theorem dL_law_572 : decode zc_L_law 572 = .ok (.iload 6, 2) := by decide +kernel
theorem dL_law_574 : decode zc_L_law 574 = .ok (.i2l, 1) := by decide +kernel
theorem dL_law_575 : decode zc_L_law 575 = .ok (.lcmp, 1) := by decide +kernel
theorem dL_law_576 : decode zc_L_law 576 = .ok (.ifCond .eq 5, 3) := by decide +kernel
theorem dL_law_579 : decode zc_L_law 579 = .ok (.iconst 0, 1) := by decide +kernel
theorem dL_law_580 : decode zc_L_law 580 = .ok (.ireturn, 1) := by decide +kernel
theorem dL_law_581 : decode zc_L_law 581 = .ok (.goto 897, 3) := by decide +kernel
theorem dL_law_584 : decode zc_L_law 584 = .ok (.aload_n 1, 1) := by decide +kernel
theorem dL_law_585 : decode zc_L_law 585 = .ok (.aload_n 0, 1) := by decide +kernel
theorem dL_law_586 : decode zc_L_law 586 = .ok (.iload 4, 2) := by decide +kernel
theorem dL_law_588 : decode zc_L_law 588 = .ok (.iconst 1, 1) := by decide +kernel
theorem dL_law_589 : decode zc_L_law 589 = .ok (.iadd, 1) := by decide +kernel
theorem dL_law_590 : decode zc_L_law 590 = .ok (.iaload, 1) := by decide +kernel
theorem dL_law_591 : decode zc_L_law 591 = .ok (.aload_n 3, 1) := by decide +kernel
theorem dL_law_592 : decode zc_L_law 592 = .ok (.invokestatic 118, 3) := by decide +kernel
theorem dL_law_595 : decode zc_L_law 595 = .ok (.istore 5, 2) := by decide +kernel
theorem dL_law_597 : decode zc_L_law 597 = .ok (.aload_n 2, 1) := by decide +kernel
