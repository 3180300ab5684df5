theorem d_law_law_0 : decode code 0 = .ok (.new 7, 3) := by decide +kernel
theorem d_law_law_3 : decode code 3 = .ok (.dup, 1) := by decide +kernel
theorem d_law_law_4 : decode code 4 = .ok (.invokespecial 9, 3) := by decide +kernel
theorem d_law_law_7 : decode code 7 = .ok (.astore_n 1, 1) := by decide +kernel
theorem d_law_law_8 : decode code 8 = .ok (.new 10, 3) := by decide +kernel
theorem d_law_law_11 : decode code 11 = .ok (.dup, 1) := by decide +kernel
theorem d_law_law_12 : decode code 12 = .ok (.invokespecial 12, 3) := by decide +kernel
theorem d_law_law_15 : decode code 15 = .ok (.astore_n 2, 1) := by decide +kernel
theorem d_law_law_16 : decode code 16 = .ok (.iconst (0), 1) := by decide +kernel
theorem d_law_law_17 : decode code 17 = .ok (.istore_n 3, 1) := by decide +kernel
theorem d_law_law_18 : decode code 18 = .ok (.iload_n 3, 1) := by decide +kernel
theorem d_law_law_19 : decode code 19 = .ok (.aload_n 0, 1) := by decide +kernel
theorem d_law_law_20 : decode code 20 = .ok (.arraylength, 1) := by decide +kernel
theorem d_law_law_21 : decode code 21 = .ok (.bipush (6), 2) := by decide +kernel
theorem d_law_law_23 : decode code 23 = .ok (.isub, 1) := by decide +kernel
theorem d_law_law_24 : decode code 24 = .ok (.if_icmp .gt (777), 3) := by decide +kernel
theorem d_law_law_27 : decode code 27 = .ok (.aload_n 0, 1) := by decide +kernel
theorem d_law_law_28 : decode code 28 = .ok (.iload_n 3, 1) := by decide +kernel
theorem d_law_law_29 : decode code 29 = .ok (.iaload, 1) := by decide +kernel
theorem d_law_law_30 : decode code 30 = .ok (.bipush (31), 2) := by decide +kernel
theorem d_law_law_32 : decode code 32 = .ok (.iand, 1) := by decide +kernel
theorem d_law_law_33 : decode code 33 = .ok (.tableswitch (762) (0) (20) #[99, 122, 145, 188, 211, 234, 287, 320, 353, 396, 409, 472, 515, 558, 601, 624, 667, 680, 693, 706, 729], 99) := by decide +kernel
theorem d_law_law_132 : decode code 132 = .ok (.aload_n 1, 1) := by decide +kernel
theorem d_law_law_133 : decode code 133 = .ok (.aload_n 0, 1) := by decide +kernel
theorem d_law_law_134 : decode code 134 = .ok (.iload_n 3, 1) := by decide +kernel
theorem d_law_law_135 : decode code 135 = .ok (.iconst (1), 1) := by decide +kernel
theorem d_law_law_136 : decode code 136 = .ok (.iadd, 1) := by decide +kernel
theorem d_law_law_137 : decode code 137 = .ok (.iaload, 1) := by decide +kernel
theorem d_law_law_138 : decode code 138 = .ok (.invokevirtual 13, 3) := by decide +kernel
theorem d_law_law_141 : decode code 141 = .ok (.aload_n 2, 1) := by decide +kernel
theorem d_law_law_142 : decode code 142 = .ok (.aload_n 0, 1) := by decide +kernel
theorem d_law_law_143 : decode code 143 = .ok (.iload_n 3, 1) := by decide +kernel
theorem d_law_law_144 : decode code 144 = .ok (.iconst (1), 1) := by decide +kernel
theorem d_law_law_145 : decode code 145 = .ok (.iadd, 1) := by decide +kernel
theorem d_law_law_146 : decode code 146 = .ok (.iaload, 1) := by decide +kernel
theorem d_law_law_147 : decode code 147 = .ok (.invokevirtual 17, 3) := by decide +kernel
theorem d_law_law_150 : decode code 150 = .ok (.if_icmp .eq (645), 3) := by decide +kernel
theorem d_law_law_153 : decode code 153 = .ok (.iconst (0), 1) := by decide +kernel
theorem d_law_law_154 : decode code 154 = .ok (.ireturn, 1) := by decide +kernel
theorem d_law_law_155 : decode code 155 = .ok (.aload_n 1, 1) := by decide +kernel
theorem d_law_law_156 : decode code 156 = .ok (.aload_n 0, 1) := by decide +kernel
theorem d_law_law_157 : decode code 157 = .ok (.iload_n 3, 1) := by decide +kernel
theorem d_law_law_158 : decode code 158 = .ok (.iconst (1), 1) := by decide +kernel
theorem d_law_law_159 : decode code 159 = .ok (.iadd, 1) := by decide +kernel
theorem d_law_law_160 : decode code 160 = .ok (.iaload, 1) := by decide +kernel
theorem d_law_law_161 : decode code 161 = .ok (.invokevirtual 18, 3) := by decide +kernel
theorem d_law_law_164 : decode code 164 = .ok (.aload_n 2, 1) := by decide +kernel
theorem d_law_law_165 : decode code 165 = .ok (.aload_n 0, 1) := by decide +kernel
theorem d_law_law_166 : decode code 166 = .ok (.iload_n 3, 1) := by decide +kernel
theorem d_law_law_167 : decode code 167 = .ok (.iconst (1), 1) := by decide +kernel
theorem d_law_law_168 : decode code 168 = .ok (.iadd, 1) := by decide +kernel
theorem d_law_law_169 : decode code 169 = .ok (.iaload, 1) := by decide +kernel
theorem d_law_law_170 : decode code 170 = .ok (.invokevirtual 21, 3) := by decide +kernel
theorem d_law_law_173 : decode code 173 = .ok (.if_icmp .eq (622), 3) := by decide +kernel
theorem d_law_law_176 : decode code 176 = .ok (.iconst (0), 1) := by decide +kernel
theorem d_law_law_177 : decode code 177 = .ok (.ireturn, 1) := by decide +kernel
theorem d_law_law_178 : decode code 178 = .ok (.aload_n 1, 1) := by decide +kernel
theorem d_law_law_179 : decode code 179 = .ok (.aload_n 0, 1) := by decide +kernel
theorem d_law_law_180 : decode code 180 = .ok (.iload_n 3, 1) := by decide +kernel
theorem d_law_law_181 : decode code 181 = .ok (.iconst (1), 1) := by decide +kernel
theorem d_law_law_182 : decode code 182 = .ok (.iadd, 1) := by decide +kernel
theorem d_law_law_183 : decode code 183 = .ok (.iaload, 1) := by decide +kernel
theorem d_law_law_184 : decode code 184 = .ok (.aload_n 0, 1) := by decide +kernel
theorem d_law_law_185 : decode code 185 = .ok (.iload_n 3, 1) := by decide +kernel
theorem d_law_law_186 : decode code 186 = .ok (.iconst (2), 1) := by decide +kernel
theorem d_law_law_187 : decode code 187 = .ok (.iadd, 1) := by decide +kernel
theorem d_law_law_188 : decode code 188 = .ok (.iaload, 1) := by decide +kernel
theorem d_law_law_189 : decode code 189 = .ok (.aload_n 0, 1) := by decide +kernel
theorem d_law_law_190 : decode code 190 = .ok (.iload_n 3, 1) := by decide +kernel
theorem d_law_law_191 : decode code 191 = .ok (.iconst (3), 1) := by decide +kernel
theorem d_law_law_192 : decode code 192 = .ok (.iadd, 1) := by decide +kernel
theorem d_law_law_193 : decode code 193 = .ok (.iaload, 1) := by decide +kernel
theorem d_law_law_194 : decode code 194 = .ok (.invokevirtual 22, 3) := by decide +kernel
theorem d_law_law_197 : decode code 197 = .ok (.aload_n 2, 1) := by decide +kernel
theorem d_law_law_198 : decode code 198 = .ok (.aload_n 0, 1) := by decide +kernel
theorem d_law_law_199 : decode code 199 = .ok (.iload_n 3, 1) := by decide +kernel
theorem d_law_law_200 : decode code 200 = .ok (.iconst (1), 1) := by decide +kernel
theorem d_law_law_201 : decode code 201 = .ok (.iadd, 1) := by decide +kernel
theorem d_law_law_202 : decode code 202 = .ok (.iaload, 1) := by decide +kernel
theorem d_law_law_203 : decode code 203 = .ok (.aload_n 0, 1) := by decide +kernel
theorem d_law_law_204 : decode code 204 = .ok (.iload_n 3, 1) := by decide +kernel
theorem d_law_law_205 : decode code 205 = .ok (.iconst (2), 1) := by decide +kernel
theorem d_law_law_206 : decode code 206 = .ok (.iadd, 1) := by decide +kernel
theorem d_law_law_207 : decode code 207 = .ok (.iaload, 1) := by decide +kernel
theorem d_law_law_208 : decode code 208 = .ok (.aload_n 0, 1) := by decide +kernel
theorem d_law_law_209 : decode code 209 = .ok (.iload_n 3, 1) := by decide +kernel
theorem d_law_law_210 : decode code 210 = .ok (.iconst (3), 1) := by decide +kernel
theorem d_law_law_211 : decode code 211 = .ok (.iadd, 1) := by decide +kernel
theorem d_law_law_212 : decode code 212 = .ok (.iaload, 1) := by decide +kernel
theorem d_law_law_213 : decode code 213 = .ok (.invokevirtual 26, 3) := by decide +kernel
theorem d_law_law_216 : decode code 216 = .ok (.if_icmp .eq (579), 3) := by decide +kernel
theorem d_law_law_219 : decode code 219 = .ok (.iconst (0), 1) := by decide +kernel
theorem d_law_law_220 : decode code 220 = .ok (.ireturn, 1) := by decide +kernel
theorem d_law_law_221 : decode code 221 = .ok (.aload_n 1, 1) := by decide +kernel
theorem d_law_law_222 : decode code 222 = .ok (.aload_n 0, 1) := by decide +kernel
theorem d_law_law_223 : decode code 223 = .ok (.iload_n 3, 1) := by decide +kernel
theorem d_law_law_224 : decode code 224 = .ok (.iconst (1), 1) := by decide +kernel
theorem d_law_law_225 : decode code 225 = .ok (.iadd, 1) := by decide +kernel
theorem d_law_law_226 : decode code 226 = .ok (.iaload, 1) := by decide +kernel
theorem d_law_law_227 : decode code 227 = .ok (.invokevirtual 27, 3) := by decide +kernel
theorem d_law_law_230 : decode code 230 = .ok (.aload_n 2, 1) := by decide +kernel
theorem d_law_law_231 : decode code 231 = .ok (.aload_n 0, 1) := by decide +kernel
theorem d_law_law_232 : decode code 232 = .ok (.iload_n 3, 1) := by decide +kernel
theorem d_law_law_233 : decode code 233 = .ok (.iconst (1), 1) := by decide +kernel
theorem d_law_law_234 : decode code 234 = .ok (.iadd, 1) := by decide +kernel
theorem d_law_law_235 : decode code 235 = .ok (.iaload, 1) := by decide +kernel
theorem d_law_law_236 : decode code 236 = .ok (.invokevirtual 30, 3) := by decide +kernel
theorem d_law_law_239 : decode code 239 = .ok (.if_icmp .eq (556), 3) := by decide +kernel
theorem d_law_law_242 : decode code 242 = .ok (.iconst (0), 1) := by decide +kernel
theorem d_law_law_243 : decode code 243 = .ok (.ireturn, 1) := by decide +kernel
theorem d_law_law_244 : decode code 244 = .ok (.aload_n 1, 1) := by decide +kernel
theorem d_law_law_245 : decode code 245 = .ok (.aload_n 0, 1) := by decide +kernel
theorem d_law_law_246 : decode code 246 = .ok (.iload_n 3, 1) := by decide +kernel
theorem d_law_law_247 : decode code 247 = .ok (.iconst (1), 1) := by decide +kernel
theorem d_law_law_248 : decode code 248 = .ok (.iadd, 1) := by decide +kernel
theorem d_law_law_249 : decode code 249 = .ok (.iaload, 1) := by decide +kernel
theorem d_law_law_250 : decode code 250 = .ok (.invokevirtual 31, 3) := by decide +kernel
theorem d_law_law_253 : decode code 253 = .ok (.aload_n 2, 1) := by decide +kernel
theorem d_law_law_254 : decode code 254 = .ok (.aload_n 0, 1) := by decide +kernel
theorem d_law_law_255 : decode code 255 = .ok (.iload_n 3, 1) := by decide +kernel
theorem d_law_law_256 : decode code 256 = .ok (.iconst (1), 1) := by decide +kernel
theorem d_law_law_257 : decode code 257 = .ok (.iadd, 1) := by decide +kernel
theorem d_law_law_258 : decode code 258 = .ok (.iaload, 1) := by decide +kernel
theorem d_law_law_259 : decode code 259 = .ok (.invokevirtual 34, 3) := by decide +kernel
theorem d_law_law_262 : decode code 262 = .ok (.if_icmp .eq (533), 3) := by decide +kernel
theorem d_law_law_265 : decode code 265 = .ok (.iconst (0), 1) := by decide +kernel
theorem d_law_law_266 : decode code 266 = .ok (.ireturn, 1) := by decide +kernel
theorem d_law_law_267 : decode code 267 = .ok (.aload_n 1, 1) := by decide +kernel
theorem d_law_law_268 : decode code 268 = .ok (.aload_n 0, 1) := by decide +kernel
theorem d_law_law_269 : decode code 269 = .ok (.iload_n 3, 1) := by decide +kernel
theorem d_law_law_270 : decode code 270 = .ok (.iconst (1), 1) := by decide +kernel
theorem d_law_law_271 : decode code 271 = .ok (.iadd, 1) := by decide +kernel
theorem d_law_law_272 : decode code 272 = .ok (.iaload, 1) := by decide +kernel
theorem d_law_law_273 : decode code 273 = .ok (.aload_n 0, 1) := by decide +kernel
theorem d_law_law_274 : decode code 274 = .ok (.iload_n 3, 1) := by decide +kernel
theorem d_law_law_275 : decode code 275 = .ok (.iconst (2), 1) := by decide +kernel
theorem d_law_law_276 : decode code 276 = .ok (.iadd, 1) := by decide +kernel
theorem d_law_law_277 : decode code 277 = .ok (.iaload, 1) := by decide +kernel
theorem d_law_law_278 : decode code 278 = .ok (.aload_n 0, 1) := by decide +kernel
theorem d_law_law_279 : decode code 279 = .ok (.iload_n 3, 1) := by decide +kernel
theorem d_law_law_280 : decode code 280 = .ok (.iconst (3), 1) := by decide +kernel
theorem d_law_law_281 : decode code 281 = .ok (.iadd, 1) := by decide +kernel
theorem d_law_law_282 : decode code 282 = .ok (.iaload, 1) := by decide +kernel
theorem d_law_law_283 : decode code 283 = .ok (.aload_n 0, 1) := by decide +kernel
theorem d_law_law_284 : decode code 284 = .ok (.iload_n 3, 1) := by decide +kernel
theorem d_law_law_285 : decode code 285 = .ok (.iconst (4), 1) := by decide +kernel
theorem d_law_law_286 : decode code 286 = .ok (.iadd, 1) := by decide +kernel
theorem d_law_law_287 : decode code 287 = .ok (.iaload, 1) := by decide +kernel
theorem d_law_law_288 : decode code 288 = .ok (.invokevirtual 35, 3) := by decide +kernel
theorem d_law_law_291 : decode code 291 = .ok (.aload_n 2, 1) := by decide +kernel
theorem d_law_law_292 : decode code 292 = .ok (.aload_n 0, 1) := by decide +kernel
theorem d_law_law_293 : decode code 293 = .ok (.iload_n 3, 1) := by decide +kernel
theorem d_law_law_294 : decode code 294 = .ok (.iconst (1), 1) := by decide +kernel
theorem d_law_law_295 : decode code 295 = .ok (.iadd, 1) := by decide +kernel
theorem d_law_law_296 : decode code 296 = .ok (.iaload, 1) := by decide +kernel
theorem d_law_law_297 : decode code 297 = .ok (.aload_n 0, 1) := by decide +kernel
theorem d_law_law_298 : decode code 298 = .ok (.iload_n 3, 1) := by decide +kernel
theorem d_law_law_299 : decode code 299 = .ok (.iconst (2), 1) := by decide +kernel
theorem d_law_law_300 : decode code 300 = .ok (.iadd, 1) := by decide +kernel
theorem d_law_law_301 : decode code 301 = .ok (.iaload, 1) := by decide +kernel
theorem d_law_law_302 : decode code 302 = .ok (.aload_n 0, 1) := by decide +kernel
theorem d_law_law_303 : decode code 303 = .ok (.iload_n 3, 1) := by decide +kernel
theorem d_law_law_304 : decode code 304 = .ok (.iconst (3), 1) := by decide +kernel
theorem d_law_law_305 : decode code 305 = .ok (.iadd, 1) := by decide +kernel
theorem d_law_law_306 : decode code 306 = .ok (.iaload, 1) := by decide +kernel
theorem d_law_law_307 : decode code 307 = .ok (.aload_n 0, 1) := by decide +kernel
theorem d_law_law_308 : decode code 308 = .ok (.iload_n 3, 1) := by decide +kernel
theorem d_law_law_309 : decode code 309 = .ok (.iconst (4), 1) := by decide +kernel
theorem d_law_law_310 : decode code 310 = .ok (.iadd, 1) := by decide +kernel
theorem d_law_law_311 : decode code 311 = .ok (.iaload, 1) := by decide +kernel
theorem d_law_law_312 : decode code 312 = .ok (.invokevirtual 39, 3) := by decide +kernel
theorem d_law_law_315 : decode code 315 = .ok (.if_icmp .eq (480), 3) := by decide +kernel
theorem d_law_law_318 : decode code 318 = .ok (.iconst (0), 1) := by decide +kernel
theorem d_law_law_319 : decode code 319 = .ok (.ireturn, 1) := by decide +kernel
theorem d_law_law_320 : decode code 320 = .ok (.aload_n 1, 1) := by decide +kernel
theorem d_law_law_321 : decode code 321 = .ok (.aload_n 0, 1) := by decide +kernel
theorem d_law_law_322 : decode code 322 = .ok (.iload_n 3, 1) := by decide +kernel
theorem d_law_law_323 : decode code 323 = .ok (.iconst (1), 1) := by decide +kernel
theorem d_law_law_324 : decode code 324 = .ok (.iadd, 1) := by decide +kernel
theorem d_law_law_325 : decode code 325 = .ok (.iaload, 1) := by decide +kernel
theorem d_law_law_326 : decode code 326 = .ok (.aload_n 0, 1) := by decide +kernel
theorem d_law_law_327 : decode code 327 = .ok (.iload_n 3, 1) := by decide +kernel
theorem d_law_law_328 : decode code 328 = .ok (.iconst (2), 1) := by decide +kernel
theorem d_law_law_329 : decode code 329 = .ok (.iadd, 1) := by decide +kernel
theorem d_law_law_330 : decode code 330 = .ok (.iaload, 1) := by decide +kernel
theorem d_law_law_331 : decode code 331 = .ok (.invokevirtual 40, 3) := by decide +kernel
theorem d_law_law_334 : decode code 334 = .ok (.aload_n 2, 1) := by decide +kernel
theorem d_law_law_335 : decode code 335 = .ok (.aload_n 0, 1) := by decide +kernel
theorem d_law_law_336 : decode code 336 = .ok (.iload_n 3, 1) := by decide +kernel
theorem d_law_law_337 : decode code 337 = .ok (.iconst (1), 1) := by decide +kernel
theorem d_law_law_338 : decode code 338 = .ok (.iadd, 1) := by decide +kernel
theorem d_law_law_339 : decode code 339 = .ok (.iaload, 1) := by decide +kernel
theorem d_law_law_340 : decode code 340 = .ok (.aload_n 0, 1) := by decide +kernel
theorem d_law_law_341 : decode code 341 = .ok (.iload_n 3, 1) := by decide +kernel
theorem d_law_law_342 : decode code 342 = .ok (.iconst (2), 1) := by decide +kernel
theorem d_law_law_343 : decode code 343 = .ok (.iadd, 1) := by decide +kernel
theorem d_law_law_344 : decode code 344 = .ok (.iaload, 1) := by decide +kernel
theorem d_law_law_345 : decode code 345 = .ok (.invokevirtual 44, 3) := by decide +kernel
theorem d_law_law_348 : decode code 348 = .ok (.if_icmp .eq (447), 3) := by decide +kernel
theorem d_law_law_351 : decode code 351 = .ok (.iconst (0), 1) := by decide +kernel
theorem d_law_law_352 : decode code 352 = .ok (.ireturn, 1) := by decide +kernel
theorem d_law_law_353 : decode code 353 = .ok (.aload_n 1, 1) := by decide +kernel
theorem d_law_law_354 : decode code 354 = .ok (.aload_n 0, 1) := by decide +kernel
theorem d_law_law_355 : decode code 355 = .ok (.iload_n 3, 1) := by decide +kernel
theorem d_law_law_356 : decode code 356 = .ok (.iconst (1), 1) := by decide +kernel
theorem d_law_law_357 : decode code 357 = .ok (.iadd, 1) := by decide +kernel
theorem d_law_law_358 : decode code 358 = .ok (.iaload, 1) := by decide +kernel
theorem d_law_law_359 : decode code 359 = .ok (.aload_n 0, 1) := by decide +kernel
theorem d_law_law_360 : decode code 360 = .ok (.iload_n 3, 1) := by decide +kernel
theorem d_law_law_361 : decode code 361 = .ok (.iconst (2), 1) := by decide +kernel
theorem d_law_law_362 : decode code 362 = .ok (.iadd, 1) := by decide +kernel
theorem d_law_law_363 : decode code 363 = .ok (.iaload, 1) := by decide +kernel
theorem d_law_law_364 : decode code 364 = .ok (.invokevirtual 45, 3) := by decide +kernel
theorem d_law_law_367 : decode code 367 = .ok (.aload_n 2, 1) := by decide +kernel
theorem d_law_law_368 : decode code 368 = .ok (.aload_n 0, 1) := by decide +kernel
theorem d_law_law_369 : decode code 369 = .ok (.iload_n 3, 1) := by decide +kernel
theorem d_law_law_370 : decode code 370 = .ok (.iconst (1), 1) := by decide +kernel
theorem d_law_law_371 : decode code 371 = .ok (.iadd, 1) := by decide +kernel
theorem d_law_law_372 : decode code 372 = .ok (.iaload, 1) := by decide +kernel
theorem d_law_law_373 : decode code 373 = .ok (.aload_n 0, 1) := by decide +kernel
theorem d_law_law_374 : decode code 374 = .ok (.iload_n 3, 1) := by decide +kernel
theorem d_law_law_375 : decode code 375 = .ok (.iconst (2), 1) := by decide +kernel
theorem d_law_law_376 : decode code 376 = .ok (.iadd, 1) := by decide +kernel
theorem d_law_law_377 : decode code 377 = .ok (.iaload, 1) := by decide +kernel
theorem d_law_law_378 : decode code 378 = .ok (.invokevirtual 48, 3) := by decide +kernel
theorem d_law_law_381 : decode code 381 = .ok (.if_icmp .eq (414), 3) := by decide +kernel
theorem d_law_law_384 : decode code 384 = .ok (.iconst (0), 1) := by decide +kernel
theorem d_law_law_385 : decode code 385 = .ok (.ireturn, 1) := by decide +kernel
theorem d_law_law_386 : decode code 386 = .ok (.aload_n 1, 1) := by decide +kernel
theorem d_law_law_387 : decode code 387 = .ok (.aload_n 0, 1) := by decide +kernel
theorem d_law_law_388 : decode code 388 = .ok (.iload_n 3, 1) := by decide +kernel
theorem d_law_law_389 : decode code 389 = .ok (.iconst (1), 1) := by decide +kernel
theorem d_law_law_390 : decode code 390 = .ok (.iadd, 1) := by decide +kernel
theorem d_law_law_391 : decode code 391 = .ok (.iaload, 1) := by decide +kernel
theorem d_law_law_392 : decode code 392 = .ok (.aload_n 0, 1) := by decide +kernel
theorem d_law_law_393 : decode code 393 = .ok (.iload_n 3, 1) := by decide +kernel
theorem d_law_law_394 : decode code 394 = .ok (.iconst (2), 1) := by decide +kernel
theorem d_law_law_395 : decode code 395 = .ok (.iadd, 1) := by decide +kernel
theorem d_law_law_396 : decode code 396 = .ok (.iaload, 1) := by decide +kernel
theorem d_law_law_397 : decode code 397 = .ok (.aload_n 0, 1) := by decide +kernel
theorem d_law_law_398 : decode code 398 = .ok (.iload_n 3, 1) := by decide +kernel
theorem d_law_law_399 : decode code 399 = .ok (.iconst (3), 1) := by decide +kernel
theorem d_law_law_400 : decode code 400 = .ok (.iadd, 1) := by decide +kernel
theorem d_law_law_401 : decode code 401 = .ok (.iaload, 1) := by decide +kernel
theorem d_law_law_402 : decode code 402 = .ok (.invokevirtual 49, 3) := by decide +kernel
theorem d_law_law_405 : decode code 405 = .ok (.aload_n 2, 1) := by decide +kernel
theorem d_law_law_406 : decode code 406 = .ok (.aload_n 0, 1) := by decide +kernel
theorem d_law_law_407 : decode code 407 = .ok (.iload_n 3, 1) := by decide +kernel
theorem d_law_law_408 : decode code 408 = .ok (.iconst (1), 1) := by decide +kernel
theorem d_law_law_409 : decode code 409 = .ok (.iadd, 1) := by decide +kernel
theorem d_law_law_410 : decode code 410 = .ok (.iaload, 1) := by decide +kernel
theorem d_law_law_411 : decode code 411 = .ok (.aload_n 0, 1) := by decide +kernel
theorem d_law_law_412 : decode code 412 = .ok (.iload_n 3, 1) := by decide +kernel
theorem d_law_law_413 : decode code 413 = .ok (.iconst (2), 1) := by decide +kernel
theorem d_law_law_414 : decode code 414 = .ok (.iadd, 1) := by decide +kernel
theorem d_law_law_415 : decode code 415 = .ok (.iaload, 1) := by decide +kernel
theorem d_law_law_416 : decode code 416 = .ok (.aload_n 0, 1) := by decide +kernel
theorem d_law_law_417 : decode code 417 = .ok (.iload_n 3, 1) := by decide +kernel
theorem d_law_law_418 : decode code 418 = .ok (.iconst (3), 1) := by decide +kernel
theorem d_law_law_419 : decode code 419 = .ok (.iadd, 1) := by decide +kernel
theorem d_law_law_420 : decode code 420 = .ok (.iaload, 1) := by decide +kernel
theorem d_law_law_421 : decode code 421 = .ok (.invokevirtual 52, 3) := by decide +kernel
theorem d_law_law_424 : decode code 424 = .ok (.if_icmp .eq (371), 3) := by decide +kernel
theorem d_law_law_427 : decode code 427 = .ok (.iconst (0), 1) := by decide +kernel
theorem d_law_law_428 : decode code 428 = .ok (.ireturn, 1) := by decide +kernel
theorem d_law_law_429 : decode code 429 = .ok (.aload_n 1, 1) := by decide +kernel
theorem d_law_law_430 : decode code 430 = .ok (.invokevirtual 53, 3) := by decide +kernel
theorem d_law_law_433 : decode code 433 = .ok (.aload_n 2, 1) := by decide +kernel
theorem d_law_law_434 : decode code 434 = .ok (.invokevirtual 57, 3) := by decide +kernel
theorem d_law_law_437 : decode code 437 = .ok (.if_icmp .eq (358), 3) := by decide +kernel
theorem d_law_law_440 : decode code 440 = .ok (.iconst (0), 1) := by decide +kernel
theorem d_law_law_441 : decode code 441 = .ok (.ireturn, 1) := by decide +kernel
theorem d_law_law_442 : decode code 442 = .ok (.aload_n 1, 1) := by decide +kernel
theorem d_law_law_443 : decode code 443 = .ok (.aload_n 0, 1) := by decide +kernel
theorem d_law_law_444 : decode code 444 = .ok (.iload_n 3, 1) := by decide +kernel
theorem d_law_law_445 : decode code 445 = .ok (.iconst (1), 1) := by decide +kernel
theorem d_law_law_446 : decode code 446 = .ok (.iadd, 1) := by decide +kernel
theorem d_law_law_447 : decode code 447 = .ok (.iaload, 1) := by decide +kernel
theorem d_law_law_448 : decode code 448 = .ok (.aload_n 0, 1) := by decide +kernel
theorem d_law_law_449 : decode code 449 = .ok (.iload_n 3, 1) := by decide +kernel
theorem d_law_law_450 : decode code 450 = .ok (.iconst (2), 1) := by decide +kernel
theorem d_law_law_451 : decode code 451 = .ok (.iadd, 1) := by decide +kernel
theorem d_law_law_452 : decode code 452 = .ok (.iaload, 1) := by decide +kernel
theorem d_law_law_453 : decode code 453 = .ok (.aload_n 0, 1) := by decide +kernel
theorem d_law_law_454 : decode code 454 = .ok (.iload_n 3, 1) := by decide +kernel
theorem d_law_law_455 : decode code 455 = .ok (.iconst (3), 1) := by decide +kernel
theorem d_law_law_456 : decode code 456 = .ok (.iadd, 1) := by decide +kernel
theorem d_law_law_457 : decode code 457 = .ok (.iaload, 1) := by decide +kernel
theorem d_law_law_458 : decode code 458 = .ok (.aload_n 0, 1) := by decide +kernel
theorem d_law_law_459 : decode code 459 = .ok (.iload_n 3, 1) := by decide +kernel
theorem d_law_law_460 : decode code 460 = .ok (.iconst (4), 1) := by decide +kernel
theorem d_law_law_461 : decode code 461 = .ok (.iadd, 1) := by decide +kernel
theorem d_law_law_462 : decode code 462 = .ok (.iaload, 1) := by decide +kernel
theorem d_law_law_463 : decode code 463 = .ok (.aload_n 0, 1) := by decide +kernel
theorem d_law_law_464 : decode code 464 = .ok (.iload_n 3, 1) := by decide +kernel
theorem d_law_law_465 : decode code 465 = .ok (.iconst (5), 1) := by decide +kernel
theorem d_law_law_466 : decode code 466 = .ok (.iadd, 1) := by decide +kernel
theorem d_law_law_467 : decode code 467 = .ok (.iaload, 1) := by decide +kernel
theorem d_law_law_468 : decode code 468 = .ok (.invokevirtual 58, 3) := by decide +kernel
theorem d_law_law_471 : decode code 471 = .ok (.aload_n 2, 1) := by decide +kernel
