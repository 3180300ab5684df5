theorem tw_318 : (.methodLink "PageStoreLaw" 13 ⟨"PageStore", "values", "(I)I"⟩ : Cond) ∈ ps_tbl := ps_t1 157 rfl rfl
theorem tw_319 : (.methodLink "PageStoreLaw" 17 ⟨"PageStoreModel", "values", "(I)I"⟩ : Cond) ∈ ps_tbl := ps_t3 6 rfl rfl
theorem tw_320 : (.methodLink "PageStoreLaw" 18 ⟨"PageStore", "bytes", "(I)I"⟩ : Cond) ∈ ps_tbl := ps_t1 211 rfl rfl
theorem tw_321 : (.methodLink "PageStoreLaw" 21 ⟨"PageStoreModel", "bytes", "(I)I"⟩ : Cond) ∈ ps_tbl := ps_t3 14 rfl rfl
theorem tw_322 : (.methodLink "PageStoreLaw" 22 ⟨"PageStore", "part", "(III)I"⟩ : Cond) ∈ ps_tbl := ps_t1 216 rfl rfl
theorem tw_323 : (.methodLink "PageStoreLaw" 26 ⟨"PageStoreModel", "part", "(III)I"⟩ : Cond) ∈ ps_tbl := ps_t3 18 rfl rfl
theorem tw_324 : (.methodLink "PageStoreLaw" 27 ⟨"PageStore", "sort", "(I)I"⟩ : Cond) ∈ ps_tbl := ps_t1 228 rfl rfl
theorem tw_325 : (.methodLink "PageStoreLaw" 30 ⟨"PageStoreModel", "sort", "(I)I"⟩ : Cond) ∈ ps_tbl := ps_t3 26 rfl rfl
theorem tw_326 : (.methodLink "PageStoreLaw" 31 ⟨"PageStore", "length", "(I)I"⟩ : Cond) ∈ ps_tbl := ps_t1 232 rfl rfl
theorem tw_327 : (.methodLink "PageStoreLaw" 34 ⟨"PageStoreModel", "length", "(I)I"⟩ : Cond) ∈ ps_tbl := ps_t3 30 rfl rfl
theorem tw_328 : (.methodLink "PageStoreLaw" 40 ⟨"PageStore", "get", "(II)I"⟩ : Cond) ∈ ps_tbl := ps_t2 40 rfl rfl
theorem tw_329 : (.methodLink "PageStoreLaw" 44 ⟨"PageStoreModel", "get", "(II)I"⟩ : Cond) ∈ ps_tbl := ps_t3 50 rfl rfl
theorem tw_330 : (.methodLink "PageStoreLaw" 45 ⟨"PageStore", "number", "(II)I"⟩ : Cond) ∈ ps_tbl := ps_t2 44 rfl rfl
theorem tw_331 : (.methodLink "PageStoreLaw" 48 ⟨"PageStoreModel", "number", "(II)I"⟩ : Cond) ∈ ps_tbl := ps_t3 54 rfl rfl
theorem tw_332 : (.methodLink "PageStoreLaw" 49 ⟨"PageStore", "setByte", "(III)I"⟩ : Cond) ∈ ps_tbl := ps_t2 48 rfl rfl
theorem tw_333 : (.methodLink "PageStoreLaw" 52 ⟨"PageStoreModel", "setByte", "(III)I"⟩ : Cond) ∈ ps_tbl := ps_t3 58 rfl rfl
theorem tw_334 : (.methodLink "PageStoreLaw" 53 ⟨"PageStore", "dictionary", "()I"⟩ : Cond) ∈ ps_tbl := ps_t2 53 rfl rfl
theorem tw_335 : (.methodLink "PageStoreLaw" 57 ⟨"PageStoreModel", "dictionary", "()I"⟩ : Cond) ∈ ps_tbl := ps_t3 62 rfl rfl
theorem tw_336 : (.methodLink "PageStoreLaw" 83 ⟨"PageStore", "cursorKind", "()I"⟩ : Cond) ∈ ps_tbl := ps_t2 124 rfl rfl
theorem tw_337 : (.methodLink "PageStoreLaw" 86 ⟨"PageStoreModel", "cursorKind", "()I"⟩ : Cond) ∈ ps_tbl := ps_t3 105 rfl rfl
theorem tw_338 : (.methodLink "PageStoreLaw" 87 ⟨"PageStore", "cursorNumber", "()I"⟩ : Cond) ∈ ps_tbl := ps_t2 128 rfl rfl
theorem tw_339 : (.methodLink "PageStoreLaw" 90 ⟨"PageStoreModel", "cursorNumber", "()I"⟩ : Cond) ∈ ps_tbl := ps_t3 109 rfl rfl
theorem tw_340 : (.methodLink "PageStoreLaw" 99 ⟨"PageStore", "noted", "(II)I"⟩ : Cond) ∈ ps_tbl := ps_t2 148 rfl rfl
theorem tw_341 : (.methodLink "PageStoreLaw" 102 ⟨"PageStoreModel", "noted", "(II)I"⟩ : Cond) ∈ ps_tbl := ps_t3 129 rfl rfl
theorem tw_342 : (.methodLink "PageStoreLaw" 75 ⟨"PageStore", "count", "(I)I"⟩ : Cond) ∈ ps_tbl := ps_t2 104 rfl rfl
theorem tw_343 : (.methodLink "PageStoreLaw" 78 ⟨"PageStoreModel", "count", "(I)I"⟩ : Cond) ∈ ps_tbl := ps_t3 97 rfl rfl
theorem tw_344 : (.methodLink "PageStoreLaw" 63 ⟨"PageStore", "find", "(III)I"⟩ : Cond) ∈ ps_tbl := ps_t2 83 rfl rfl
theorem tw_345 : (.methodLink "PageStoreLaw" 66 ⟨"PageStoreModel", "find", "(III)I"⟩ : Cond) ∈ ps_tbl := ps_t3 81 rfl rfl
theorem tw_346 : (.methodLink "PageStoreLaw" 67 ⟨"PageStore", "found", "(III)I"⟩ : Cond) ∈ ps_tbl := ps_t2 96 rfl rfl
theorem tw_347 : (.methodLink "PageStoreLaw" 70 ⟨"PageStoreModel", "found", "(III)I"⟩ : Cond) ∈ ps_tbl := ps_t3 89 rfl rfl
theorem tw_348 : (.methodLink "PageStoreLaw" 91 ⟨"PageStore", "save", "()I"⟩ : Cond) ∈ ps_tbl := ps_t2 132 rfl rfl
theorem tw_349 : (.methodLink "PageStoreLaw" 94 ⟨"PageStoreModel", "save", "()I"⟩ : Cond) ∈ ps_tbl := ps_t3 113 rfl rfl
theorem tw_350 : (.methodLink "PageStoreLaw" 95 ⟨"PageStore", "restore", "(I)I"⟩ : Cond) ∈ ps_tbl := ps_t2 136 rfl rfl
theorem tw_351 : (.methodLink "PageStoreLaw" 98 ⟨"PageStoreModel", "restore", "(I)I"⟩ : Cond) ∈ ps_tbl := ps_t3 121 rfl rfl
theorem tw_352 : (.instanceMethod ⟨"PageStore", "values", "(I)I"⟩ : Cond) ∈ ps_tbl := ps_t1 158 rfl rfl
theorem tw_353 : (.selects "PageStore" ⟨"PageStore", "values", "(I)I"⟩ ⟨"PageStore", "values", "(I)I"⟩ : Cond) ∈ ps_tbl := ps_t1 159 rfl rfl
theorem tw_354 : (.code ⟨"PageStore", "values", "(I)I"⟩ prog_1_method_2_code 3 (some .int) : Cond) ∈ ps_tbl := ps_t1 160 rfl rfl
theorem tw_355 : (.instanceMethod ⟨"PageStoreModel", "values", "(I)I"⟩ : Cond) ∈ ps_tbl := ps_t3 7 rfl rfl
theorem tw_356 : (.selects "PageStoreModel" ⟨"PageStoreModel", "values", "(I)I"⟩ ⟨"PageStoreModel", "values", "(I)I"⟩ : Cond) ∈ ps_tbl := ps_t3 8 rfl rfl
theorem tw_357 : (.code ⟨"PageStoreModel", "values", "(I)I"⟩ prog_8_method_3_code 3 (some .int) : Cond) ∈ ps_tbl := ps_t3 9 rfl rfl
theorem tw_358 : (.instanceMethod ⟨"PageStore", "bytes", "(I)I"⟩ : Cond) ∈ ps_tbl := ps_t1 212 rfl rfl
theorem tw_359 : (.selects "PageStore" ⟨"PageStore", "bytes", "(I)I"⟩ ⟨"PageStore", "bytes", "(I)I"⟩ : Cond) ∈ ps_tbl := ps_t1 213 rfl rfl
theorem tw_360 : (.code ⟨"PageStore", "bytes", "(I)I"⟩ prog_1_method_3_code 3 (some .int) : Cond) ∈ ps_tbl := ps_t1 214 rfl rfl
theorem tw_361 : (.instanceMethod ⟨"PageStoreModel", "bytes", "(I)I"⟩ : Cond) ∈ ps_tbl := ps_t3 15 rfl rfl
theorem tw_362 : (.selects "PageStoreModel" ⟨"PageStoreModel", "bytes", "(I)I"⟩ ⟨"PageStoreModel", "bytes", "(I)I"⟩ : Cond) ∈ ps_tbl := ps_t3 16 rfl rfl
theorem tw_363 : (.code ⟨"PageStoreModel", "bytes", "(I)I"⟩ prog_8_method_4_code 3 (some .int) : Cond) ∈ ps_tbl := ps_t3 17 rfl rfl
theorem tw_364 : (.instanceMethod ⟨"PageStore", "part", "(III)I"⟩ : Cond) ∈ ps_tbl := ps_t1 217 rfl rfl
theorem tw_365 : (.selects "PageStore" ⟨"PageStore", "part", "(III)I"⟩ ⟨"PageStore", "part", "(III)I"⟩ : Cond) ∈ ps_tbl := ps_t1 218 rfl rfl
theorem tw_366 : (.code ⟨"PageStore", "part", "(III)I"⟩ prog_1_method_4_code 4 (some .int) : Cond) ∈ ps_tbl := ps_t1 219 rfl rfl
theorem tw_367 : (.instanceMethod ⟨"PageStoreModel", "part", "(III)I"⟩ : Cond) ∈ ps_tbl := ps_t3 19 rfl rfl
theorem tw_368 : (.selects "PageStoreModel" ⟨"PageStoreModel", "part", "(III)I"⟩ ⟨"PageStoreModel", "part", "(III)I"⟩ : Cond) ∈ ps_tbl := ps_t3 20 rfl rfl
theorem tw_369 : (.code ⟨"PageStoreModel", "part", "(III)I"⟩ prog_8_method_6_code 4 (some .int) : Cond) ∈ ps_tbl := ps_t3 21 rfl rfl
theorem tw_370 : (.instanceMethod ⟨"PageStore", "sort", "(I)I"⟩ : Cond) ∈ ps_tbl := ps_t1 229 rfl rfl
theorem tw_371 : (.selects "PageStore" ⟨"PageStore", "sort", "(I)I"⟩ ⟨"PageStore", "sort", "(I)I"⟩ : Cond) ∈ ps_tbl := ps_t1 230 rfl rfl
theorem tw_372 : (.code ⟨"PageStore", "sort", "(I)I"⟩ prog_1_method_5_code 2 (some .int) : Cond) ∈ ps_tbl := ps_t1 231 rfl rfl
theorem tw_373 : (.instanceMethod ⟨"PageStoreModel", "sort", "(I)I"⟩ : Cond) ∈ ps_tbl := ps_t3 27 rfl rfl
theorem tw_374 : (.selects "PageStoreModel" ⟨"PageStoreModel", "sort", "(I)I"⟩ ⟨"PageStoreModel", "sort", "(I)I"⟩ : Cond) ∈ ps_tbl := ps_t3 28 rfl rfl
theorem tw_375 : (.code ⟨"PageStoreModel", "sort", "(I)I"⟩ prog_8_method_7_code 2 (some .int) : Cond) ∈ ps_tbl := ps_t3 29 rfl rfl
theorem tw_376 : (.instanceMethod ⟨"PageStore", "length", "(I)I"⟩ : Cond) ∈ ps_tbl := ps_t1 233 rfl rfl
theorem tw_377 : (.selects "PageStore" ⟨"PageStore", "length", "(I)I"⟩ ⟨"PageStore", "length", "(I)I"⟩ : Cond) ∈ ps_tbl := ps_t1 234 rfl rfl
theorem tw_378 : (.code ⟨"PageStore", "length", "(I)I"⟩ prog_1_method_6_code 2 (some .int) : Cond) ∈ ps_tbl := ps_t1 235 rfl rfl
theorem tw_379 : (.instanceMethod ⟨"PageStoreModel", "length", "(I)I"⟩ : Cond) ∈ ps_tbl := ps_t3 31 rfl rfl
theorem tw_380 : (.selects "PageStoreModel" ⟨"PageStoreModel", "length", "(I)I"⟩ ⟨"PageStoreModel", "length", "(I)I"⟩ : Cond) ∈ ps_tbl := ps_t3 32 rfl rfl
theorem tw_381 : (.code ⟨"PageStoreModel", "length", "(I)I"⟩ prog_8_method_8_code 2 (some .int) : Cond) ∈ ps_tbl := ps_t3 33 rfl rfl
theorem tw_382 : (.instanceMethod ⟨"PageStore", "get", "(II)I"⟩ : Cond) ∈ ps_tbl := ps_t2 41 rfl rfl
theorem tw_383 : (.selects "PageStore" ⟨"PageStore", "get", "(II)I"⟩ ⟨"PageStore", "get", "(II)I"⟩ : Cond) ∈ ps_tbl := ps_t2 42 rfl rfl
theorem tw_384 : (.code ⟨"PageStore", "get", "(II)I"⟩ prog_1_method_8_code 4 (some .int) : Cond) ∈ ps_tbl := ps_t2 43 rfl rfl
theorem tw_385 : (.instanceMethod ⟨"PageStoreModel", "get", "(II)I"⟩ : Cond) ∈ ps_tbl := ps_t3 51 rfl rfl
theorem tw_386 : (.selects "PageStoreModel" ⟨"PageStoreModel", "get", "(II)I"⟩ ⟨"PageStoreModel", "get", "(II)I"⟩ : Cond) ∈ ps_tbl := ps_t3 52 rfl rfl
theorem tw_387 : (.code ⟨"PageStoreModel", "get", "(II)I"⟩ prog_8_method_13_code 4 (some .int) : Cond) ∈ ps_tbl := ps_t3 53 rfl rfl
theorem tw_388 : (.instanceMethod ⟨"PageStore", "number", "(II)I"⟩ : Cond) ∈ ps_tbl := ps_t2 45 rfl rfl
theorem tw_389 : (.selects "PageStore" ⟨"PageStore", "number", "(II)I"⟩ ⟨"PageStore", "number", "(II)I"⟩ : Cond) ∈ ps_tbl := ps_t2 46 rfl rfl
theorem tw_390 : (.code ⟨"PageStore", "number", "(II)I"⟩ prog_1_method_9_code 4 (some .int) : Cond) ∈ ps_tbl := ps_t2 47 rfl rfl
theorem tw_391 : (.instanceMethod ⟨"PageStoreModel", "number", "(II)I"⟩ : Cond) ∈ ps_tbl := ps_t3 55 rfl rfl
theorem tw_392 : (.selects "PageStoreModel" ⟨"PageStoreModel", "number", "(II)I"⟩ ⟨"PageStoreModel", "number", "(II)I"⟩ : Cond) ∈ ps_tbl := ps_t3 56 rfl rfl
theorem tw_393 : (.code ⟨"PageStoreModel", "number", "(II)I"⟩ prog_8_method_14_code 4 (some .int) : Cond) ∈ ps_tbl := ps_t3 57 rfl rfl
theorem tw_394 : (.instanceMethod ⟨"PageStore", "setByte", "(III)I"⟩ : Cond) ∈ ps_tbl := ps_t2 49 rfl rfl
theorem tw_395 : (.selects "PageStore" ⟨"PageStore", "setByte", "(III)I"⟩ ⟨"PageStore", "setByte", "(III)I"⟩ : Cond) ∈ ps_tbl := ps_t2 50 rfl rfl
theorem tw_396 : (.code ⟨"PageStore", "setByte", "(III)I"⟩ prog_1_method_10_code 5 (some .int) : Cond) ∈ ps_tbl := ps_t2 51 rfl rfl
theorem tw_397 : (.instanceMethod ⟨"PageStoreModel", "setByte", "(III)I"⟩ : Cond) ∈ ps_tbl := ps_t3 59 rfl rfl
theorem tw_398 : (.selects "PageStoreModel" ⟨"PageStoreModel", "setByte", "(III)I"⟩ ⟨"PageStoreModel", "setByte", "(III)I"⟩ : Cond) ∈ ps_tbl := ps_t3 60 rfl rfl
theorem tw_399 : (.code ⟨"PageStoreModel", "setByte", "(III)I"⟩ prog_8_method_15_code 5 (some .int) : Cond) ∈ ps_tbl := ps_t3 61 rfl rfl
theorem tw_400 : (.instanceMethod ⟨"PageStore", "dictionary", "()I"⟩ : Cond) ∈ ps_tbl := ps_t2 54 rfl rfl
theorem tw_401 : (.selects "PageStore" ⟨"PageStore", "dictionary", "()I"⟩ ⟨"PageStore", "dictionary", "()I"⟩ : Cond) ∈ ps_tbl := ps_t2 55 rfl rfl
theorem tw_402 : (.code ⟨"PageStore", "dictionary", "()I"⟩ prog_1_method_11_code 1 (some .int) : Cond) ∈ ps_tbl := ps_t2 56 rfl rfl
theorem tw_403 : (.instanceMethod ⟨"PageStoreModel", "dictionary", "()I"⟩ : Cond) ∈ ps_tbl := ps_t3 63 rfl rfl
theorem tw_404 : (.selects "PageStoreModel" ⟨"PageStoreModel", "dictionary", "()I"⟩ ⟨"PageStoreModel", "dictionary", "()I"⟩ : Cond) ∈ ps_tbl := ps_t3 64 rfl rfl
theorem tw_405 : (.code ⟨"PageStoreModel", "dictionary", "()I"⟩ prog_8_method_16_code 1 (some .int) : Cond) ∈ ps_tbl := ps_t3 65 rfl rfl
theorem tw_406 : (.instanceMethod ⟨"PageStore", "cursorKind", "()I"⟩ : Cond) ∈ ps_tbl := ps_t2 125 rfl rfl
theorem tw_407 : (.selects "PageStore" ⟨"PageStore", "cursorKind", "()I"⟩ ⟨"PageStore", "cursorKind", "()I"⟩ : Cond) ∈ ps_tbl := ps_t2 126 rfl rfl
theorem tw_408 : (.code ⟨"PageStore", "cursorKind", "()I"⟩ prog_1_method_18_code 1 (some .int) : Cond) ∈ ps_tbl := ps_t2 127 rfl rfl
theorem tw_409 : (.instanceMethod ⟨"PageStoreModel", "cursorKind", "()I"⟩ : Cond) ∈ ps_tbl := ps_t3 106 rfl rfl
theorem tw_410 : (.selects "PageStoreModel" ⟨"PageStoreModel", "cursorKind", "()I"⟩ ⟨"PageStoreModel", "cursorKind", "()I"⟩ : Cond) ∈ ps_tbl := ps_t3 107 rfl rfl
theorem tw_411 : (.code ⟨"PageStoreModel", "cursorKind", "()I"⟩ prog_8_method_27_code 1 (some .int) : Cond) ∈ ps_tbl := ps_t3 108 rfl rfl
theorem tw_412 : (.instanceMethod ⟨"PageStore", "cursorNumber", "()I"⟩ : Cond) ∈ ps_tbl := ps_t2 129 rfl rfl
theorem tw_413 : (.selects "PageStore" ⟨"PageStore", "cursorNumber", "()I"⟩ ⟨"PageStore", "cursorNumber", "()I"⟩ : Cond) ∈ ps_tbl := ps_t2 130 rfl rfl
theorem tw_414 : (.code ⟨"PageStore", "cursorNumber", "()I"⟩ prog_1_method_19_code 1 (some .int) : Cond) ∈ ps_tbl := ps_t2 131 rfl rfl
theorem tw_415 : (.instanceMethod ⟨"PageStoreModel", "cursorNumber", "()I"⟩ : Cond) ∈ ps_tbl := ps_t3 110 rfl rfl
theorem tw_416 : (.selects "PageStoreModel" ⟨"PageStoreModel", "cursorNumber", "()I"⟩ ⟨"PageStoreModel", "cursorNumber", "()I"⟩ : Cond) ∈ ps_tbl := ps_t3 111 rfl rfl
theorem tw_417 : (.code ⟨"PageStoreModel", "cursorNumber", "()I"⟩ prog_8_method_28_code 1 (some .int) : Cond) ∈ ps_tbl := ps_t3 112 rfl rfl
theorem tw_418 : (.instanceMethod ⟨"PageStore", "noted", "(II)I"⟩ : Cond) ∈ ps_tbl := ps_t2 149 rfl rfl
theorem tw_419 : (.selects "PageStore" ⟨"PageStore", "noted", "(II)I"⟩ ⟨"PageStore", "noted", "(II)I"⟩ : Cond) ∈ ps_tbl := ps_t2 150 rfl rfl
theorem tw_420 : (.code ⟨"PageStore", "noted", "(II)I"⟩ prog_1_method_22_code 3 (some .int) : Cond) ∈ ps_tbl := ps_t2 151 rfl rfl
theorem tw_421 : (.instanceMethod ⟨"PageStoreModel", "noted", "(II)I"⟩ : Cond) ∈ ps_tbl := ps_t3 130 rfl rfl
theorem tw_422 : (.selects "PageStoreModel" ⟨"PageStoreModel", "noted", "(II)I"⟩ ⟨"PageStoreModel", "noted", "(II)I"⟩ : Cond) ∈ ps_tbl := ps_t3 131 rfl rfl
theorem tw_423 : (.code ⟨"PageStoreModel", "noted", "(II)I"⟩ prog_8_method_33_code 3 (some .int) : Cond) ∈ ps_tbl := ps_t3 132 rfl rfl
theorem tw_424 : (.instanceMethod ⟨"PageStore", "count", "(I)I"⟩ : Cond) ∈ ps_tbl := ps_t2 105 rfl rfl
theorem tw_425 : (.selects "PageStore" ⟨"PageStore", "count", "(I)I"⟩ ⟨"PageStore", "count", "(I)I"⟩ : Cond) ∈ ps_tbl := ps_t2 106 rfl rfl
theorem tw_426 : (.code ⟨"PageStore", "count", "(I)I"⟩ prog_1_method_16_code 2 (some .int) : Cond) ∈ ps_tbl := ps_t2 107 rfl rfl
theorem tw_427 : (.instanceMethod ⟨"PageStoreModel", "count", "(I)I"⟩ : Cond) ∈ ps_tbl := ps_t3 98 rfl rfl
theorem tw_428 : (.selects "PageStoreModel" ⟨"PageStoreModel", "count", "(I)I"⟩ ⟨"PageStoreModel", "count", "(I)I"⟩ : Cond) ∈ ps_tbl := ps_t3 99 rfl rfl
theorem tw_429 : (.code ⟨"PageStoreModel", "count", "(I)I"⟩ prog_8_method_25_code 4 (some .int) : Cond) ∈ ps_tbl := ps_t3 100 rfl rfl
theorem tw_430 : (.instanceMethod ⟨"PageStore", "find", "(III)I"⟩ : Cond) ∈ ps_tbl := ps_t2 84 rfl rfl
theorem tw_431 : (.selects "PageStore" ⟨"PageStore", "find", "(III)I"⟩ ⟨"PageStore", "find", "(III)I"⟩ : Cond) ∈ ps_tbl := ps_t2 85 rfl rfl
theorem tw_432 : (.code ⟨"PageStore", "find", "(III)I"⟩ prog_1_method_13_code 5 (some .int) : Cond) ∈ ps_tbl := ps_t2 86 rfl rfl
theorem tw_433 : (.instanceMethod ⟨"PageStoreModel", "find", "(III)I"⟩ : Cond) ∈ ps_tbl := ps_t3 82 rfl rfl
theorem tw_434 : (.selects "PageStoreModel" ⟨"PageStoreModel", "find", "(III)I"⟩ ⟨"PageStoreModel", "find", "(III)I"⟩ : Cond) ∈ ps_tbl := ps_t3 83 rfl rfl
theorem tw_435 : (.code ⟨"PageStoreModel", "find", "(III)I"⟩ prog_8_method_22_code 5 (some .int) : Cond) ∈ ps_tbl := ps_t3 84 rfl rfl
theorem tw_436 : (.instanceMethod ⟨"PageStore", "found", "(III)I"⟩ : Cond) ∈ ps_tbl := ps_t2 97 rfl rfl
theorem tw_437 : (.selects "PageStore" ⟨"PageStore", "found", "(III)I"⟩ ⟨"PageStore", "found", "(III)I"⟩ : Cond) ∈ ps_tbl := ps_t2 98 rfl rfl
theorem tw_438 : (.code ⟨"PageStore", "found", "(III)I"⟩ prog_1_method_14_code 5 (some .int) : Cond) ∈ ps_tbl := ps_t2 99 rfl rfl
theorem tw_439 : (.instanceMethod ⟨"PageStoreModel", "found", "(III)I"⟩ : Cond) ∈ ps_tbl := ps_t3 90 rfl rfl
theorem tw_440 : (.selects "PageStoreModel" ⟨"PageStoreModel", "found", "(III)I"⟩ ⟨"PageStoreModel", "found", "(III)I"⟩ : Cond) ∈ ps_tbl := ps_t3 91 rfl rfl
theorem tw_441 : (.code ⟨"PageStoreModel", "found", "(III)I"⟩ prog_8_method_23_code 5 (some .int) : Cond) ∈ ps_tbl := ps_t3 92 rfl rfl
theorem tw_442 : (.instanceMethod ⟨"PageStore", "save", "()I"⟩ : Cond) ∈ ps_tbl := ps_t2 133 rfl rfl
theorem tw_443 : (.selects "PageStore" ⟨"PageStore", "save", "()I"⟩ ⟨"PageStore", "save", "()I"⟩ : Cond) ∈ ps_tbl := ps_t2 134 rfl rfl
theorem tw_444 : (.code ⟨"PageStore", "save", "()I"⟩ prog_1_method_20_code 2 (some .int) : Cond) ∈ ps_tbl := ps_t2 135 rfl rfl
theorem tw_445 : (.instanceMethod ⟨"PageStoreModel", "save", "()I"⟩ : Cond) ∈ ps_tbl := ps_t3 114 rfl rfl
theorem tw_446 : (.selects "PageStoreModel" ⟨"PageStoreModel", "save", "()I"⟩ ⟨"PageStoreModel", "save", "()I"⟩ : Cond) ∈ ps_tbl := ps_t3 115 rfl rfl
theorem tw_447 : (.code ⟨"PageStoreModel", "save", "()I"⟩ prog_8_method_30_code 2 (some .int) : Cond) ∈ ps_tbl := ps_t3 116 rfl rfl
theorem tw_448 : (.instanceMethod ⟨"PageStore", "restore", "(I)I"⟩ : Cond) ∈ ps_tbl := ps_t2 137 rfl rfl
theorem tw_449 : (.selects "PageStore" ⟨"PageStore", "restore", "(I)I"⟩ ⟨"PageStore", "restore", "(I)I"⟩ : Cond) ∈ ps_tbl := ps_t2 138 rfl rfl
theorem tw_450 : (.code ⟨"PageStore", "restore", "(I)I"⟩ prog_1_method_21_code 3 (some .int) : Cond) ∈ ps_tbl := ps_t2 139 rfl rfl
theorem tw_451 : (.instanceMethod ⟨"PageStoreModel", "restore", "(I)I"⟩ : Cond) ∈ ps_tbl := ps_t3 122 rfl rfl
theorem tw_452 : (.selects "PageStoreModel" ⟨"PageStoreModel", "restore", "(I)I"⟩ ⟨"PageStoreModel", "restore", "(I)I"⟩ : Cond) ∈ ps_tbl := ps_t3 123 rfl rfl
theorem tw_453 : (.code ⟨"PageStoreModel", "restore", "(I)I"⟩ prog_8_method_32_code 2 (some .int) : Cond) ∈ ps_tbl := ps_t3 124 rfl rfl
theorem k_PS_values : ps_cdV ps_tbl y_PS_values prog_1_method_2_code 3 (some .int) := ⟨tw_352, tw_353, tw_108, tw_354⟩
theorem k_Mod_values : ps_cdV ps_tbl y_Mod_values prog_8_method_3_code 3 (some .int) := ⟨tw_355, tw_356, tw_256, tw_357⟩
theorem k_PS_bytes : ps_cdV ps_tbl y_PS_bytes prog_1_method_3_code 3 (some .int) := ⟨tw_358, tw_359, tw_108, tw_360⟩
theorem k_Mod_bytes : ps_cdV ps_tbl y_Mod_bytes prog_8_method_4_code 3 (some .int) := ⟨tw_361, tw_362, tw_256, tw_363⟩
theorem k_PS_part : ps_cdV ps_tbl y_PS_part prog_1_method_4_code 4 (some .int) := ⟨tw_364, tw_365, tw_108, tw_366⟩
theorem k_Mod_part : ps_cdV ps_tbl y_Mod_part prog_8_method_6_code 4 (some .int) := ⟨tw_367, tw_368, tw_256, tw_369⟩
theorem k_PS_sort : ps_cdV ps_tbl y_PS_sort prog_1_method_5_code 2 (some .int) := ⟨tw_370, tw_371, tw_108, tw_372⟩
theorem k_Mod_sort : ps_cdV ps_tbl y_Mod_sort prog_8_method_7_code 2 (some .int) := ⟨tw_373, tw_374, tw_256, tw_375⟩
theorem k_PS_length : ps_cdV ps_tbl y_PS_length prog_1_method_6_code 2 (some .int) := ⟨tw_376, tw_377, tw_108, tw_378⟩
theorem k_Mod_length : ps_cdV ps_tbl y_Mod_length prog_8_method_8_code 2 (some .int) := ⟨tw_379, tw_380, tw_256, tw_381⟩
theorem k_PS_get : ps_cdV ps_tbl y_PS_get prog_1_method_8_code 4 (some .int) := ⟨tw_382, tw_383, tw_108, tw_384⟩
theorem k_Mod_get : ps_cdV ps_tbl y_Mod_get prog_8_method_13_code 4 (some .int) := ⟨tw_385, tw_386, tw_256, tw_387⟩
theorem k_PS_number : ps_cdV ps_tbl y_PS_number prog_1_method_9_code 4 (some .int) := ⟨tw_388, tw_389, tw_108, tw_390⟩
theorem k_Mod_number : ps_cdV ps_tbl y_Mod_number prog_8_method_14_code 4 (some .int) := ⟨tw_391, tw_392, tw_256, tw_393⟩
theorem k_PS_setByte : ps_cdV ps_tbl y_PS_setByte prog_1_method_10_code 5 (some .int) := ⟨tw_394, tw_395, tw_108, tw_396⟩
theorem k_Mod_setByte : ps_cdV ps_tbl y_Mod_setByte prog_8_method_15_code 5 (some .int) := ⟨tw_397, tw_398, tw_256, tw_399⟩
theorem k_PS_dictionary : ps_cdV ps_tbl y_PS_dictionary prog_1_method_11_code 1 (some .int) := ⟨tw_400, tw_401, tw_108, tw_402⟩
theorem k_Mod_dictionary : ps_cdV ps_tbl y_Mod_dictionary prog_8_method_16_code 1 (some .int) := ⟨tw_403, tw_404, tw_256, tw_405⟩
theorem k_PS_cursorKind : ps_cdV ps_tbl y_PS_cursorKind prog_1_method_18_code 1 (some .int) := ⟨tw_406, tw_407, tw_108, tw_408⟩
theorem k_Mod_cursorKind : ps_cdV ps_tbl y_Mod_cursorKind prog_8_method_27_code 1 (some .int) := ⟨tw_409, tw_410, tw_256, tw_411⟩
theorem k_PS_cursorNumber : ps_cdV ps_tbl y_PS_cursorNumber prog_1_method_19_code 1 (some .int) := ⟨tw_412, tw_413, tw_108, tw_414⟩
theorem k_Mod_cursorNumber : ps_cdV ps_tbl y_Mod_cursorNumber prog_8_method_28_code 1 (some .int) := ⟨tw_415, tw_416, tw_256, tw_417⟩
theorem k_PS_noted : ps_cdV ps_tbl y_PS_noted prog_1_method_22_code 3 (some .int) := ⟨tw_418, tw_419, tw_108, tw_420⟩
theorem k_Mod_noted : ps_cdV ps_tbl y_Mod_noted prog_8_method_33_code 3 (some .int) := ⟨tw_421, tw_422, tw_256, tw_423⟩
theorem k_PS_count : ps_cdV ps_tbl y_PS_count prog_1_method_16_code 2 (some .int) := ⟨tw_424, tw_425, tw_108, tw_426⟩
theorem k_Mod_count : ps_cdV ps_tbl y_Mod_count prog_8_method_25_code 4 (some .int) := ⟨tw_427, tw_428, tw_256, tw_429⟩
theorem k_PS_find : ps_cdV ps_tbl y_PS_find prog_1_method_13_code 5 (some .int) := ⟨tw_430, tw_431, tw_108, tw_432⟩
theorem k_Mod_find : ps_cdV ps_tbl y_Mod_find prog_8_method_22_code 5 (some .int) := ⟨tw_433, tw_434, tw_256, tw_435⟩
theorem k_PS_found : ps_cdV ps_tbl y_PS_found prog_1_method_14_code 5 (some .int) := ⟨tw_436, tw_437, tw_108, tw_438⟩
theorem k_Mod_found : ps_cdV ps_tbl y_Mod_found prog_8_method_23_code 5 (some .int) := ⟨tw_439, tw_440, tw_256, tw_441⟩
theorem k_PS_save : ps_cdV ps_tbl y_PS_save prog_1_method_20_code 2 (some .int) := ⟨tw_442, tw_443, tw_108, tw_444⟩
theorem k_Mod_save : ps_cdV ps_tbl y_Mod_save prog_8_method_30_code 2 (some .int) := ⟨tw_445, tw_446, tw_256, tw_447⟩
theorem k_PS_restore : ps_cdV ps_tbl y_PS_restore prog_1_method_21_code 3 (some .int) := ⟨tw_448, tw_449, tw_108, tw_450⟩
theorem k_Mod_restore : ps_cdV ps_tbl y_Mod_restore prog_8_method_32_code 2 (some .int) := ⟨tw_451, tw_452, tw_256, tw_453⟩
def lw_C (p : Program) (s : State) (m : MethodId) (meth : Method) (c : Code) (sb L : Nat) (xs : Nat → Int32) (A : Nat → Prop) (dC : Nat → ClassId) (dI : Nat → Nat → Nat) (cI cB cS cZ : ClassId) (tys : List (ClassId × FieldType)) : Prop :=
  lw_At p s m meth c sb L xs ∧ L ≤ 3072 ∧ (∀ q : Nat, s.heap.size ≤ q → A q) ∧ (∀ q : Nat, A q → s.heap.size ≤ q) ∧ ¬ A sb ∧ va_K (dC, dI) classes tys s ∧ tys[0]? = some (cI, FieldType.int) ∧ tys[1]? = some (cB, FieldType.byte) ∧ tys[2]? = some (cS, FieldType.short) ∧ tys[3]? = some (cZ, FieldType.boolean)
/-- at pc, turn i: with every state of the two that the invariant ties -/
def lw_H (p : Program) (l : Launch) (e : Env) (s : State) (m : MethodId) (below : List Frame) (meth : Method) (c : Code) (sb : Nat) (A : Nat → Prop) (dC : Nat → ClassId) (dI : Nat → Nat → Nat) (cI cB cS cZ : ClassId) (a b : Nat → Nat) (pc i : Nat) : Prop :=
  ∀ (K : Nat → Nat) (S : Nat) (ck cu : Int32) (F : Nat → Nat → Int32) (N : Nat → Nat) (T : Nat → Nat → Nat) (X : Nat → Nat → Int32) (q : Nat → Nat) (H : Heap) (locs : List Loc) (ls : Array Slot), li_I K S F N T X →
    lv_has ls 4 [(3, .int (nI (6 * i))), (2, .ref (b 0)), (1, .ref (a 0)), (0, .ref sb)] → va_P (dC, dI) classes (pw cI a q K S ck cu F N ++ mw cI cB cS cZ b K S ck cu F X) H → va_D A (pw cI a q K S ck cu F N ++ mw cI cB cS cZ b K S ck cu F X) → va_S A s.heap H locs →
    W p l e room_1 s m #[Value.ref sb] below meth c H locs (100 + ps_L N) (440000 + ps_Y N) (lw_Z below #[Value.ref sb] s) (F0 m pc ls [])
theorem lw_s1 {cI : ClassId} {a q K : Nat → Nat} {S : Nat} {ck cu : Int32} {F : Nat → Nat → Int32} {N : Nat → Nat} {w : va_W} : [0, 1, 2, 3, 4, 5, 6, 7, 8, 9, 10, 11, 12, 13, 14, 15, 16, 17, 18, 19, 20, 21, 22, 23, 24, 25, 26, 27, 28, 29, 30, 31, 32, 33, 34, 35, 36, 37, 38, 39].map (fun i => (pw cI a q K S ck cu F N ++ w)[i]?) = (pw cI a q K S ck cu F N).map some := rfl
theorem lw_s2 {cI cB cS cZ : ClassId} {a b q K K' : Nat → Nat} {S S' : Nat} {ck cu ck' cu' : Int32} {F F' X : Nat → Nat → Int32} {N : Nat → Nat} : [40, 41, 42, 43, 44, 45, 46, 47, 48, 49, 50, 51, 52, 53, 54, 55, 56, 57, 58].map (fun i => (pw cI a q K S ck cu F N ++ mw cI cB cS cZ b K' S' ck' cu' F' X)[i]?) = (mw cI cB cS cZ b K' S' ck' cu' F' X).map some := rfl
theorem lw_s3 {cI cB cS cZ : ClassId} {b K : Nat → Nat} {S : Nat} {ck cu : Int32} {F X : Nat → Nat → Int32} {w : va_W} : [0, 1, 2, 3, 4, 5, 6, 7, 8, 9, 10, 11, 12, 13, 14, 15, 16, 17, 18].map (fun i => (mw cI cB cS cZ b K S ck cu F X ++ w)[i]?) = (mw cI cB cS cZ b K S ck cu F X).map some := rfl
theorem lw_s4 {cI cB cS cZ : ClassId} {a b q K K' : Nat → Nat} {S S' : Nat} {ck cu ck' cu' : Int32} {F F' X : Nat → Nat → Int32} {N : Nat → Nat} : [19, 20, 21, 22, 23, 24, 25, 26, 27, 28, 29, 30, 31, 32, 33, 34, 35, 36, 37, 38, 39, 40, 41, 42, 43, 44, 45, 46, 47, 48, 49, 50, 51, 52, 53, 54, 55, 56, 57, 58].map (fun i => (mw cI cB cS cZ b K' S' ck' cu' F' X ++ pw cI a q K S ck cu F N)[i]?) = (pw cI a q K S ck cu F N).map some := rfl

set_option maxHeartbeats 4000000 in
set_option maxRecDepth 100000 in
theorem lw_values {p : Program} {l : Launch} {e : Env} {s : State} {m : MethodId} {below : List Frame} {meth : Method} {c : Code} {sb L : Nat} {xs : Nat → Int32} {A : Nat → Prop} {dC : Nat → ClassId} {dI : Nat → Nat → Nat} {cI cB cS cZ : ClassId} {tys : List (ClassId × FieldType)} {a b : Nat → Nat} (hC : lw_C p s m meth c sb L xs A dC dI cI cB cS cZ tys) {i : Nat} (hi : 6 * i + 6 ≤ L) (ih : lw_H p l e s m below meth c sb A dC dI cI cB cS cZ a b 795 i) : lw_H p l e s m below meth c sb A dC dI cI cB cS cZ a b 132 i := by
  intro K S ck cu F N T X q H locs ls hI hl hP hD hS
  obtain ⟨⟨hx, hb, hr, hml, hown, hts0, hX, hbl, hlocks, hgv⟩, hL, hA, hAs, hbA, hK, ht, htB, htS, htZ⟩ := hC
  have hts : ∀ w ∈ ps_tbl, w.before #[Value.ref sb] s = true := fun w hw => hts0 w (List.mem_filter.mp hw).1
  obtain ⟨⟨hKb, hk0, hk1, hk3, hk4, hk5, hSb⟩, hw, hIL, hIT, hIM, hIP, hIB, hIV⟩ := id hI
  have hrw := hIL.1
  have hRL := ps_L_le hw
  have hRY := ps_Y_le hw
  by_cases hA9 : (xs (6 * i + 1)) < 0 ∨ nI 32768 < (xs (6 * i + 1))
  · have hI2 : li_I K S F N T X := hI
    have hRL2 := ps_L_le hI2.2.1
    have hRY2 := ps_Y_le hI2.2.1
    refine lv_aload_n hx hb d_law_law_132 rfl (lv_at hl 2 rfl) ?_
    refine lv_aload_n hx hb d_law_law_133 rfl (lv_at hl 3 rfl) ?_
    refine lv_iload_n hx hb d_law_law_134 rfl (lv_at hl 0 rfl) ?_
    refine lv_iconst (v := nI 1) hx hb d_law_law_135 (by decide) ?_
    refine lv_iadd hx hb d_law_law_136 ?_
    refine ps_top (z := nI (6 * i + 1)) (nI_add _ _) ?_
    refine va_sld hx hb hX hbl hbA hS (vp_in_nI (show 6 * i + 1 < L by omega) (by omega)) d_law_law_137 ?_
    refine ps_top (z := xs (6 * i + 1)) (by rw [nI_clamp (show 6 * i + 1 < 2 ^ 31 by omega)]) ?_
    refine ps_afterI (wc := pw cI a q K S ck cu F N) (wr := mw cI cB cS cZ b K S ck cu F X) hP hD hS hA [0, 1, 2, 3, 4, 5, 6, 7, 8, 9, 10, 11, 12, 13, 14, 15, 16, 17, 18, 19, 20, 21, 22, 23, 24, 25, 26, 27, 28, 29, 30, 31, 32, 33, 34, 35, 36, 37, 38, 39] [40, 41, 42, 43, 44, 45, 46, 47, 48, 49, 50, 51, 52, 53, 54, 55, 56, 57, 58] lw_s1 lw_s2 (by decide) (by decide) (ps_runVI ⟨hx, hb, hml, hown, hts⟩ (c_values l dC dI cI tys ht a q K S ck cu F N hw hKb hSb (xs (6 * i + 1)) hk1 0 0 (fun q => absurd hA9 q)) (ps_cwV ps_gd 1 hts tw_318 k_PS_values e_PS_values ⟨Nat.le_of_ble_eq_true rfl, Nat.le_of_ble_eq_true rfl⟩) hK hP hD [0, 1, 2, 3, 4, 5, 6, 7, 8, 9, 10, 11, 12, 13, 14, 15, 16, 17, 18, 19, 20, 21, 22, 23, 24, 25, 26, 27, 28, 29, 30, 31, 32, 33, 34, 35, 36, 37, 38, 39] (by decide) lw_s1 0 cPS rfl rfl rfl hl.1 rfl (Nat.le_of_ble_eq_true rfl) d_law_law_138 ⟨by show 100 + ps_L N + (0) ≤ 600000; omega, by show 440000 + ps_Y N + (0) ≤ 7302250; omega⟩) (fun r1 u1 H locs h1 hP hD hS => ?_)
    obtain ⟨hr1, hu1⟩ := h1.y hA9
    subst hr1
    subst hu1
    refine lv_aload_n hx hb d_law_law_141 rfl (lv_at hl 1 rfl) ?_
    refine lv_aload_n hx hb d_law_law_142 rfl (lv_at hl 3 rfl) ?_
    refine lv_iload_n hx hb d_law_law_143 rfl (lv_at hl 0 rfl) ?_
    refine lv_iconst (v := nI 1) hx hb d_law_law_144 (by decide) ?_
    refine lv_iadd hx hb d_law_law_145 ?_
    refine ps_top (z := nI (6 * i + 1)) (nI_add _ _) ?_
    refine va_sld hx hb hX hbl hbA hS (vp_in_nI (show 6 * i + 1 < L by omega) (by omega)) d_law_law_146 ?_
    refine ps_top (z := xs (6 * i + 1)) (by rw [nI_clamp (show 6 * i + 1 < 2 ^ 31 by omega)]) ?_
    refine ps_afterI (wc := mw cI cB cS cZ b K S ck cu F X) (wr := pw cI a q K S ck cu F N) hP hD hS hA [0, 1, 2, 3, 4, 5, 6, 7, 8, 9, 10, 11, 12, 13, 14, 15, 16, 17, 18] [19, 20, 21, 22, 23, 24, 25, 26, 27, 28, 29, 30, 31, 32, 33, 34, 35, 36, 37, 38, 39, 40, 41, 42, 43, 44, 45, 46, 47, 48, 49, 50, 51, 52, 53, 54, 55, 56, 57, 58] lw_s3 lw_s4 (by decide) (by decide) (ps_runVI ⟨hx, hb, hml, hown, hts⟩ (m_values l dC dI cI tys ht cB cS cZ htB htS htZ b K S ck cu F X hKb hSb (xs (6 * i + 1)) hk0 hk1) (ps_cwV ps_gd 1 hts tw_319 k_Mod_values e_Mod_values ⟨Nat.le_of_ble_eq_true rfl, Nat.le_of_ble_eq_true rfl⟩) hK hP hD [0, 1, 2, 3, 4, 5, 6, 7, 8, 9, 10, 11, 12, 13, 14, 15, 16, 17, 18] (by decide) lw_s3 0 cMod rfl rfl rfl hl.1 rfl (Nat.le_of_ble_eq_true rfl) d_law_law_147 ⟨by show 100 + ps_L N + (0) + 0 ≤ 600000; omega, by show 440000 + ps_Y N + (0) + 0 ≤ 7302250; omega⟩) (fun r2 u2 H locs h2 hP hD hS => ?_)
    obtain ⟨hr2, hu2⟩ := h2.y hA9
    subst hr2
    subst hu2
    refine lv_icmp_eq (tgt := 795) hx hb d_law_law_150 (by decide) (fun c_1 => ?_) (fun c_1 => ?_)
    · refine W.widen (k := 100 + ps_L N) (n := 440000 + ps_Y N) (by show 100 + ps_L N + (0) + 0 ≤ _; omega) (by show 440000 + ps_Y N + (0) + 0 ≤ _; omega) ?_
      exact ih _ _ _ _ _ _ _ _ _ _ _ ls hI2 hl hP hD hS
    · exact absurd rfl c_1
  · by_cases hB9 : 16384 ≤ K 0 ∨ 32768 < K 1 + (xs (6 * i + 1)).toNatClampNeg
    · have hI2 : li_I K S F N T X := hI
      have hRL2 := ps_L_le hI2.2.1
      have hRY2 := ps_Y_le hI2.2.1
      refine lv_aload_n hx hb d_law_law_132 rfl (lv_at hl 2 rfl) ?_
      refine lv_aload_n hx hb d_law_law_133 rfl (lv_at hl 3 rfl) ?_
      refine lv_iload_n hx hb d_law_law_134 rfl (lv_at hl 0 rfl) ?_
      refine lv_iconst (v := nI 1) hx hb d_law_law_135 (by decide) ?_
      refine lv_iadd hx hb d_law_law_136 ?_
      refine ps_top (z := nI (6 * i + 1)) (nI_add _ _) ?_
      refine va_sld hx hb hX hbl hbA hS (vp_in_nI (show 6 * i + 1 < L by omega) (by omega)) d_law_law_137 ?_
      refine ps_top (z := xs (6 * i + 1)) (by rw [nI_clamp (show 6 * i + 1 < 2 ^ 31 by omega)]) ?_
      refine ps_afterI (wc := pw cI a q K S ck cu F N) (wr := mw cI cB cS cZ b K S ck cu F X) hP hD hS hA [0, 1, 2, 3, 4, 5, 6, 7, 8, 9, 10, 11, 12, 13, 14, 15, 16, 17, 18, 19, 20, 21, 22, 23, 24, 25, 26, 27, 28, 29, 30, 31, 32, 33, 34, 35, 36, 37, 38, 39] [40, 41, 42, 43, 44, 45, 46, 47, 48, 49, 50, 51, 52, 53, 54, 55, 56, 57, 58] lw_s1 lw_s2 (by decide) (by decide) (ps_runVI ⟨hx, hb, hml, hown, hts⟩ (c_values l dC dI cI tys ht a q K S ck cu F N hw hKb hSb (xs (6 * i + 1)) hk1 0 0 (fun _ q => absurd hB9 q)) (ps_cwV ps_gd 1 hts tw_318 k_PS_values e_PS_values ⟨Nat.le_of_ble_eq_true rfl, Nat.le_of_ble_eq_true rfl⟩) hK hP hD [0, 1, 2, 3, 4, 5, 6, 7, 8, 9, 10, 11, 12, 13, 14, 15, 16, 17, 18, 19, 20, 21, 22, 23, 24, 25, 26, 27, 28, 29, 30, 31, 32, 33, 34, 35, 36, 37, 38, 39] (by decide) lw_s1 0 cPS rfl rfl rfl hl.1 rfl (Nat.le_of_ble_eq_true rfl) d_law_law_138 ⟨by show 100 + ps_L N + (0) ≤ 600000; omega, by show 440000 + ps_Y N + (0) ≤ 7302250; omega⟩) (fun r1 u1 H locs h1 hP hD hS => ?_)
      obtain ⟨hr1, hu1⟩ := (h1.n hA9).y hB9
      subst hr1
      subst hu1
      refine lv_aload_n hx hb d_law_law_141 rfl (lv_at hl 1 rfl) ?_
      refine lv_aload_n hx hb d_law_law_142 rfl (lv_at hl 3 rfl) ?_
      refine lv_iload_n hx hb d_law_law_143 rfl (lv_at hl 0 rfl) ?_
      refine lv_iconst (v := nI 1) hx hb d_law_law_144 (by decide) ?_
      refine lv_iadd hx hb d_law_law_145 ?_
      refine ps_top (z := nI (6 * i + 1)) (nI_add _ _) ?_
      refine va_sld hx hb hX hbl hbA hS (vp_in_nI (show 6 * i + 1 < L by omega) (by omega)) d_law_law_146 ?_
      refine ps_top (z := xs (6 * i + 1)) (by rw [nI_clamp (show 6 * i + 1 < 2 ^ 31 by omega)]) ?_
      refine ps_afterI (wc := mw cI cB cS cZ b K S ck cu F X) (wr := pw cI a q K S ck cu F N) hP hD hS hA [0, 1, 2, 3, 4, 5, 6, 7, 8, 9, 10, 11, 12, 13, 14, 15, 16, 17, 18] [19, 20, 21, 22, 23, 24, 25, 26, 27, 28, 29, 30, 31, 32, 33, 34, 35, 36, 37, 38, 39, 40, 41, 42, 43, 44, 45, 46, 47, 48, 49, 50, 51, 52, 53, 54, 55, 56, 57, 58] lw_s3 lw_s4 (by decide) (by decide) (ps_runVI ⟨hx, hb, hml, hown, hts⟩ (m_values l dC dI cI tys ht cB cS cZ htB htS htZ b K S ck cu F X hKb hSb (xs (6 * i + 1)) hk0 hk1) (ps_cwV ps_gd 1 hts tw_319 k_Mod_values e_Mod_values ⟨Nat.le_of_ble_eq_true rfl, Nat.le_of_ble_eq_true rfl⟩) hK hP hD [0, 1, 2, 3, 4, 5, 6, 7, 8, 9, 10, 11, 12, 13, 14, 15, 16, 17, 18] (by decide) lw_s3 0 cMod rfl rfl rfl hl.1 rfl (Nat.le_of_ble_eq_true rfl) d_law_law_147 ⟨by show 100 + ps_L N + (0) + 0 ≤ 600000; omega, by show 440000 + ps_Y N + (0) + 0 ≤ 7302250; omega⟩) (fun r2 u2 H locs h2 hP hD hS => ?_)
      obtain ⟨hr2, hu2⟩ := (h2.n hA9).y hB9
      subst hr2
      subst hu2
      refine lv_icmp_eq (tgt := 795) hx hb d_law_law_150 (by decide) (fun c_2 => ?_) (fun c_2 => ?_)
      · refine W.widen (k := 100 + ps_L N) (n := 440000 + ps_Y N) (by show 100 + ps_L N + (0) + 0 ≤ _; omega) (by show 440000 + ps_Y N + (0) + 0 ≤ _; omega) ?_
        exact ih _ _ _ _ _ _ _ _ _ _ _ ls hI2 hl hP hD hS
      · exact absurd rfl c_2
    · obtain ⟨n0, hn0, en⟩ := nI_of (not_or.mp hA9).1
      have hB8 := hB9
      rw [en, nI_clamp hn0] at hB8
      have hcL := li_cr_L (N := N) (K 0 + 1)
      have hcY := li_cr_Y (K 0 + 1) hw (by omega)
      have hI2 : li_I (va_up (va_up K 1 (K 1 + (xs (6 * i + 1)).toNatClampNeg)) 0 (K 0 + 1)) S (ps_Fr (ps_w (ps_w F 2 (K 1) (K 1 + (xs (6 * i + 1)).toNatClampNeg)) 3 (K 1) (K 1 + (xs (6 * i + 1)).toNatClampNeg)) (K 0 + 1) (nI 1) (nI (K 1)) (xs (6 * i + 1))) (ps_Nr N (K 0 + 1)) T X := (by rw [en, nI_clamp hn0]; exact li_row (K := va_up K 1 (K 1 + n0)) (li_w2 hI (by omega)) (show K 0 < 16384 by omega) (Or.inl ⟨rfl, Nat.le_refl _⟩))
      have hRL2 := ps_L_le hI2.2.1
      have hRY2 := ps_Y_le hI2.2.1
      refine lv_aload_n hx hb d_law_law_132 rfl (lv_at hl 2 rfl) ?_
      refine lv_aload_n hx hb d_law_law_133 rfl (lv_at hl 3 rfl) ?_
      refine lv_iload_n hx hb d_law_law_134 rfl (lv_at hl 0 rfl) ?_
      refine lv_iconst (v := nI 1) hx hb d_law_law_135 (by decide) ?_
      refine lv_iadd hx hb d_law_law_136 ?_
      refine ps_top (z := nI (6 * i + 1)) (nI_add _ _) ?_
      refine va_sld hx hb hX hbl hbA hS (vp_in_nI (show 6 * i + 1 < L by omega) (by omega)) d_law_law_137 ?_
      refine ps_top (z := xs (6 * i + 1)) (by rw [nI_clamp (show 6 * i + 1 < 2 ^ 31 by omega)]) ?_
      refine ps_afterI (wc := pw cI a q K S ck cu F N) (wr := mw cI cB cS cZ b K S ck cu F X) hP hD hS hA [0, 1, 2, 3, 4, 5, 6, 7, 8, 9, 10, 11, 12, 13, 14, 15, 16, 17, 18, 19, 20, 21, 22, 23, 24, 25, 26, 27, 28, 29, 30, 31, 32, 33, 34, 35, 36, 37, 38, 39] [40, 41, 42, 43, 44, 45, 46, 47, 48, 49, 50, 51, 52, 53, 54, 55, 56, 57, 58] lw_s1 lw_s2 (by decide) (by decide) (ps_runVI ⟨hx, hb, hml, hown, hts⟩ (c_values l dC dI cI tys ht a q K S ck cu F N hw hKb hSb (xs (6 * i + 1)) hk1 (ps_rc N (K 0 + 1)) (ps_rs N (K 0 + 1)) (fun _ _ => ⟨Nat.le_refl _, Nat.le_refl _⟩)) (ps_cwV ps_gd 1 hts tw_318 k_PS_values e_PS_values ⟨Nat.le_of_ble_eq_true rfl, Nat.le_of_ble_eq_true rfl⟩) hK hP hD [0, 1, 2, 3, 4, 5, 6, 7, 8, 9, 10, 11, 12, 13, 14, 15, 16, 17, 18, 19, 20, 21, 22, 23, 24, 25, 26, 27, 28, 29, 30, 31, 32, 33, 34, 35, 36, 37, 38, 39] (by decide) lw_s1 0 cPS rfl rfl rfl hl.1 rfl (Nat.le_of_ble_eq_true rfl) d_law_law_138 ⟨by show 100 + ps_L N + (ps_rc N (K 0 + 1)) ≤ 600000; omega, by show 440000 + ps_Y N + (ps_rs N (K 0 + 1)) ≤ 7302250; omega⟩) (fun r1 u1 H locs h1 hP hD hS => ?_)
      obtain ⟨q1, hr1, hu1⟩ := (h1.n hA9).n hB9
      subst hr1
      subst hu1
      refine lv_aload_n hx hb d_law_law_141 rfl (lv_at hl 1 rfl) ?_
      refine lv_aload_n hx hb d_law_law_142 rfl (lv_at hl 3 rfl) ?_
      refine lv_iload_n hx hb d_law_law_143 rfl (lv_at hl 0 rfl) ?_
      refine lv_iconst (v := nI 1) hx hb d_law_law_144 (by decide) ?_
      refine lv_iadd hx hb d_law_law_145 ?_
      refine ps_top (z := nI (6 * i + 1)) (nI_add _ _) ?_
      refine va_sld hx hb hX hbl hbA hS (vp_in_nI (show 6 * i + 1 < L by omega) (by omega)) d_law_law_146 ?_
      refine ps_top (z := xs (6 * i + 1)) (by rw [nI_clamp (show 6 * i + 1 < 2 ^ 31 by omega)]) ?_
      refine ps_afterI (wc := mw cI cB cS cZ b K S ck cu F X) (wr := pw cI a q1 (va_up (va_up K 1 (K 1 + (xs (6 * i + 1)).toNatClampNeg)) 0 (K 0 + 1)) S ck cu (ps_Fr (ps_w (ps_w F 2 (K 1) (K 1 + (xs (6 * i + 1)).toNatClampNeg)) 3 (K 1) (K 1 + (xs (6 * i + 1)).toNatClampNeg)) (K 0 + 1) (nI 1) (nI (K 1)) (xs (6 * i + 1))) (ps_Nr N (K 0 + 1))) hP hD hS hA [0, 1, 2, 3, 4, 5, 6, 7, 8, 9, 10, 11, 12, 13, 14, 15, 16, 17, 18] [19, 20, 21, 22, 23, 24, 25, 26, 27, 28, 29, 30, 31, 32, 33, 34, 35, 36, 37, 38, 39, 40, 41, 42, 43, 44, 45, 46, 47, 48, 49, 50, 51, 52, 53, 54, 55, 56, 57, 58] lw_s3 lw_s4 (by decide) (by decide) (ps_runVI ⟨hx, hb, hml, hown, hts⟩ (m_values l dC dI cI tys ht cB cS cZ htB htS htZ b K S ck cu F X hKb hSb (xs (6 * i + 1)) hk0 hk1) (ps_cwV ps_gd 1 hts tw_319 k_Mod_values e_Mod_values ⟨Nat.le_of_ble_eq_true rfl, Nat.le_of_ble_eq_true rfl⟩) hK hP hD [0, 1, 2, 3, 4, 5, 6, 7, 8, 9, 10, 11, 12, 13, 14, 15, 16, 17, 18] (by decide) lw_s3 0 cMod rfl rfl rfl hl.1 rfl (Nat.le_of_ble_eq_true rfl) d_law_law_147 ⟨by show 100 + ps_L N + (ps_rc N (K 0 + 1)) + 0 ≤ 600000; omega, by show 440000 + ps_Y N + (ps_rs N (K 0 + 1)) + 0 ≤ 7302250; omega⟩) (fun r2 u2 H locs h2 hP hD hS => ?_)
      obtain ⟨hr2, hu2⟩ := (h2.n hA9).n hB9
      subst hr2
      subst hu2
      refine lv_icmp_eq (tgt := 795) hx hb d_law_law_150 (by decide) (fun c_3 => ?_) (fun c_3 => ?_)
      · refine W.widen (k := 100 + ps_L (ps_Nr N (K 0 + 1))) (n := 440000 + ps_Y (ps_Nr N (K 0 + 1))) (by show 100 + ps_L N + (ps_rc N (K 0 + 1)) + 0 ≤ _; omega) (by show 440000 + ps_Y N + (ps_rs N (K 0 + 1)) + 0 ≤ _; omega) ?_
        exact ih _ _ _ _ _ _ _ _ _ _ _ ls hI2 hl hP hD hS
      · exact absurd rfl c_3

set_option maxHeartbeats 4000000 in
set_option maxRecDepth 100000 in
theorem lw_bytes {p : Program} {l : Launch} {e : Env} {s : State} {m : MethodId} {below : List Frame} {meth : Method} {c : Code} {sb L : Nat} {xs : Nat → Int32} {A : Nat → Prop} {dC : Nat → ClassId} {dI : Nat → Nat → Nat} {cI cB cS cZ : ClassId} {tys : List (ClassId × FieldType)} {a b : Nat → Nat} (hC : lw_C p s m meth c sb L xs A dC dI cI cB cS cZ tys) {i : Nat} (hi : 6 * i + 6 ≤ L) (ih : lw_H p l e s m below meth c sb A dC dI cI cB cS cZ a b 795 i) : lw_H p l e s m below meth c sb A dC dI cI cB cS cZ a b 155 i := by
  intro K S ck cu F N T X q H locs ls hI hl hP hD hS
  obtain ⟨⟨hx, hb, hr, hml, hown, hts0, hX, hbl, hlocks, hgv⟩, hL, hA, hAs, hbA, hK, ht, htB, htS, htZ⟩ := hC
  have hts : ∀ w ∈ ps_tbl, w.before #[Value.ref sb] s = true := fun w hw => hts0 w (List.mem_filter.mp hw).1
  obtain ⟨⟨hKb, hk0, hk1, hk3, hk4, hk5, hSb⟩, hw, hIL, hIT, hIM, hIP, hIB, hIV⟩ := id hI
  have hrw := hIL.1
  have hRL := ps_L_le hw
  have hRY := ps_Y_le hw
  by_cases hA9 : (xs (6 * i + 1)) < 0 ∨ nI 65536 < (xs (6 * i + 1))
  · have hI2 : li_I K S F N T X := hI
    have hRL2 := ps_L_le hI2.2.1
    have hRY2 := ps_Y_le hI2.2.1
    refine lv_aload_n hx hb d_law_law_155 rfl (lv_at hl 2 rfl) ?_
    refine lv_aload_n hx hb d_law_law_156 rfl (lv_at hl 3 rfl) ?_
    refine lv_iload_n hx hb d_law_law_157 rfl (lv_at hl 0 rfl) ?_
    refine lv_iconst (v := nI 1) hx hb d_law_law_158 (by decide) ?_
    refine lv_iadd hx hb d_law_law_159 ?_
    refine ps_top (z := nI (6 * i + 1)) (nI_add _ _) ?_
    refine va_sld hx hb hX hbl hbA hS (vp_in_nI (show 6 * i + 1 < L by omega) (by omega)) d_law_law_160 ?_
    refine ps_top (z := xs (6 * i + 1)) (by rw [nI_clamp (show 6 * i + 1 < 2 ^ 31 by omega)]) ?_
    refine ps_afterI (wc := pw cI a q K S ck cu F N) (wr := mw cI cB cS cZ b K S ck cu F X) hP hD hS hA [0, 1, 2, 3, 4, 5, 6, 7, 8, 9, 10, 11, 12, 13, 14, 15, 16, 17, 18, 19, 20, 21, 22, 23, 24, 25, 26, 27, 28, 29, 30, 31, 32, 33, 34, 35, 36, 37, 38, 39] [40, 41, 42, 43, 44, 45, 46, 47, 48, 49, 50, 51, 52, 53, 54, 55, 56, 57, 58] lw_s1 lw_s2 (by decide) (by decide) (ps_runVI ⟨hx, hb, hml, hown, hts⟩ (c_bytes l dC dI cI tys ht a q K S ck cu F N hw hKb hSb (xs (6 * i + 1)) (hKb 2) 0 0 (fun q => absurd hA9 q)) (ps_cwV ps_gd 1 hts tw_320 k_PS_bytes e_PS_bytes ⟨Nat.le_of_ble_eq_true rfl, Nat.le_of_ble_eq_true rfl⟩) hK hP hD [0, 1, 2, 3, 4, 5, 6, 7, 8, 9, 10, 11, 12, 13, 14, 15, 16, 17, 18, 19, 20, 21, 22, 23, 24, 25, 26, 27, 28, 29, 30, 31, 32, 33, 34, 35, 36, 37, 38, 39] (by decide) lw_s1 0 cPS rfl rfl rfl hl.1 rfl (Nat.le_of_ble_eq_true rfl) d_law_law_161 ⟨by show 100 + ps_L N + (0) ≤ 600000; omega, by show 440000 + ps_Y N + (0) ≤ 7302250; omega⟩) (fun r1 u1 H locs h1 hP hD hS => ?_)
    obtain ⟨hr1, hu1⟩ := h1.y hA9
    subst hr1
    subst hu1
    refine lv_aload_n hx hb d_law_law_164 rfl (lv_at hl 1 rfl) ?_
    refine lv_aload_n hx hb d_law_law_165 rfl (lv_at hl 3 rfl) ?_
    refine lv_iload_n hx hb d_law_law_166 rfl (lv_at hl 0 rfl) ?_
    refine lv_iconst (v := nI 1) hx hb d_law_law_167 (by decide) ?_
    refine lv_iadd hx hb d_law_law_168 ?_
    refine ps_top (z := nI (6 * i + 1)) (nI_add _ _) ?_
    refine va_sld hx hb hX hbl hbA hS (vp_in_nI (show 6 * i + 1 < L by omega) (by omega)) d_law_law_169 ?_
    refine ps_top (z := xs (6 * i + 1)) (by rw [nI_clamp (show 6 * i + 1 < 2 ^ 31 by omega)]) ?_
    refine ps_afterI (wc := mw cI cB cS cZ b K S ck cu F X) (wr := pw cI a q K S ck cu F N) hP hD hS hA [0, 1, 2, 3, 4, 5, 6, 7, 8, 9, 10, 11, 12, 13, 14, 15, 16, 17, 18] [19, 20, 21, 22, 23, 24, 25, 26, 27, 28, 29, 30, 31, 32, 33, 34, 35, 36, 37, 38, 39, 40, 41, 42, 43, 44, 45, 46, 47, 48, 49, 50, 51, 52, 53, 54, 55, 56, 57, 58] lw_s3 lw_s4 (by decide) (by decide) (ps_runVI ⟨hx, hb, hml, hown, hts⟩ (m_bytes l dC dI cI tys ht cB cS cZ htB htS htZ b K S ck cu F X hKb hSb (xs (6 * i + 1)) hk0 (hKb 2)) (ps_cwV ps_gd 1 hts tw_321 k_Mod_bytes e_Mod_bytes ⟨Nat.le_of_ble_eq_true rfl, Nat.le_of_ble_eq_true rfl⟩) hK hP hD [0, 1, 2, 3, 4, 5, 6, 7, 8, 9, 10, 11, 12, 13, 14, 15, 16, 17, 18] (by decide) lw_s3 0 cMod rfl rfl rfl hl.1 rfl (Nat.le_of_ble_eq_true rfl) d_law_law_170 ⟨by show 100 + ps_L N + (0) + 0 ≤ 600000; omega, by show 440000 + ps_Y N + (0) + 0 ≤ 7302250; omega⟩) (fun r2 u2 H locs h2 hP hD hS => ?_)
    obtain ⟨hr2, hu2⟩ := h2.y hA9
    subst hr2
    subst hu2
    refine lv_icmp_eq (tgt := 795) hx hb d_law_law_173 (by decide) (fun c_1 => ?_) (fun c_1 => ?_)
    · refine W.widen (k := 100 + ps_L N) (n := 440000 + ps_Y N) (by show 100 + ps_L N + (0) + 0 ≤ _; omega) (by show 440000 + ps_Y N + (0) + 0 ≤ _; omega) ?_
      exact ih _ _ _ _ _ _ _ _ _ _ _ ls hI2 hl hP hD hS
    · exact absurd rfl c_1
  · by_cases hB9 : 16384 ≤ K 0 ∨ 65536 < K 2 + (xs (6 * i + 1)).toNatClampNeg
    · have hI2 : li_I K S F N T X := hI
      have hRL2 := ps_L_le hI2.2.1
      have hRY2 := ps_Y_le hI2.2.1
      refine lv_aload_n hx hb d_law_law_155 rfl (lv_at hl 2 rfl) ?_
      refine lv_aload_n hx hb d_law_law_156 rfl (lv_at hl 3 rfl) ?_
      refine lv_iload_n hx hb d_law_law_157 rfl (lv_at hl 0 rfl) ?_
      refine lv_iconst (v := nI 1) hx hb d_law_law_158 (by decide) ?_
      refine lv_iadd hx hb d_law_law_159 ?_
      refine ps_top (z := nI (6 * i + 1)) (nI_add _ _) ?_
      refine va_sld hx hb hX hbl hbA hS (vp_in_nI (show 6 * i + 1 < L by omega) (by omega)) d_law_law_160 ?_
      refine ps_top (z := xs (6 * i + 1)) (by rw [nI_clamp (show 6 * i + 1 < 2 ^ 31 by omega)]) ?_
      refine ps_afterI (wc := pw cI a q K S ck cu F N) (wr := mw cI cB cS cZ b K S ck cu F X) hP hD hS hA [0, 1, 2, 3, 4, 5, 6, 7, 8, 9, 10, 11, 12, 13, 14, 15, 16, 17, 18, 19, 20, 21, 22, 23, 24, 25, 26, 27, 28, 29, 30, 31, 32, 33, 34, 35, 36, 37, 38, 39] [40, 41, 42, 43, 44, 45, 46, 47, 48, 49, 50, 51, 52, 53, 54, 55, 56, 57, 58] lw_s1 lw_s2 (by decide) (by decide) (ps_runVI ⟨hx, hb, hml, hown, hts⟩ (c_bytes l dC dI cI tys ht a q K S ck cu F N hw hKb hSb (xs (6 * i + 1)) (hKb 2) 0 0 (fun _ q => absurd hB9 q)) (ps_cwV ps_gd 1 hts tw_320 k_PS_bytes e_PS_bytes ⟨Nat.le_of_ble_eq_true rfl, Nat.le_of_ble_eq_true rfl⟩) hK hP hD [0, 1, 2, 3, 4, 5, 6, 7, 8, 9, 10, 11, 12, 13, 14, 15, 16, 17, 18, 19, 20, 21, 22, 23, 24, 25, 26, 27, 28, 29, 30, 31, 32, 33, 34, 35, 36, 37, 38, 39] (by decide) lw_s1 0 cPS rfl rfl rfl hl.1 rfl (Nat.le_of_ble_eq_true rfl) d_law_law_161 ⟨by show 100 + ps_L N + (0) ≤ 600000; omega, by show 440000 + ps_Y N + (0) ≤ 7302250; omega⟩) (fun r1 u1 H locs h1 hP hD hS => ?_)
      obtain ⟨hr1, hu1⟩ := (h1.n hA9).y hB9
      subst hr1
      subst hu1
      refine lv_aload_n hx hb d_law_law_164 rfl (lv_at hl 1 rfl) ?_
      refine lv_aload_n hx hb d_law_law_165 rfl (lv_at hl 3 rfl) ?_
      refine lv_iload_n hx hb d_law_law_166 rfl (lv_at hl 0 rfl) ?_
      refine lv_iconst (v := nI 1) hx hb d_law_law_167 (by decide) ?_
      refine lv_iadd hx hb d_law_law_168 ?_
      refine ps_top (z := nI (6 * i + 1)) (nI_add _ _) ?_
      refine va_sld hx hb hX hbl hbA hS (vp_in_nI (show 6 * i + 1 < L by omega) (by omega)) d_law_law_169 ?_
      refine ps_top (z := xs (6 * i + 1)) (by rw [nI_clamp (show 6 * i + 1 < 2 ^ 31 by omega)]) ?_
      refine ps_afterI (wc := mw cI cB cS cZ b K S ck cu F X) (wr := pw cI a q K S ck cu F N) hP hD hS hA [0, 1, 2, 3, 4, 5, 6, 7, 8, 9, 10, 11, 12, 13, 14, 15, 16, 17, 18] [19, 20, 21, 22, 23, 24, 25, 26, 27, 28, 29, 30, 31, 32, 33, 34, 35, 36, 37, 38, 39, 40, 41, 42, 43, 44, 45, 46, 47, 48, 49, 50, 51, 52, 53, 54, 55, 56, 57, 58] lw_s3 lw_s4 (by decide) (by decide) (ps_runVI ⟨hx, hb, hml, hown, hts⟩ (m_bytes l dC dI cI tys ht cB cS cZ htB htS htZ b K S ck cu F X hKb hSb (xs (6 * i + 1)) hk0 (hKb 2)) (ps_cwV ps_gd 1 hts tw_321 k_Mod_bytes e_Mod_bytes ⟨Nat.le_of_ble_eq_true rfl, Nat.le_of_ble_eq_true rfl⟩) hK hP hD [0, 1, 2, 3, 4, 5, 6, 7, 8, 9, 10, 11, 12, 13, 14, 15, 16, 17, 18] (by decide) lw_s3 0 cMod rfl rfl rfl hl.1 rfl (Nat.le_of_ble_eq_true rfl) d_law_law_170 ⟨by show 100 + ps_L N + (0) + 0 ≤ 600000; omega, by show 440000 + ps_Y N + (0) + 0 ≤ 7302250; omega⟩) (fun r2 u2 H locs h2 hP hD hS => ?_)
      obtain ⟨hr2, hu2⟩ := (h2.n hA9).y hB9
      subst hr2
      subst hu2
      refine lv_icmp_eq (tgt := 795) hx hb d_law_law_173 (by decide) (fun c_2 => ?_) (fun c_2 => ?_)
      · refine W.widen (k := 100 + ps_L N) (n := 440000 + ps_Y N) (by show 100 + ps_L N + (0) + 0 ≤ _; omega) (by show 440000 + ps_Y N + (0) + 0 ≤ _; omega) ?_
        exact ih _ _ _ _ _ _ _ _ _ _ _ ls hI2 hl hP hD hS
      · exact absurd rfl c_2
    · obtain ⟨n0, hn0, en⟩ := nI_of (not_or.mp hA9).1
      have hB8 := hB9
      rw [en, nI_clamp hn0] at hB8
      have hcL := li_cr_L (N := N) (K 0 + 1)
      have hcY := li_cr_Y (K 0 + 1) hw (by omega)
      have hI2 : li_I (va_up (va_up K 2 (K 2 + (xs (6 * i + 1)).toNatClampNeg)) 0 (K 0 + 1)) S (ps_Fr (ps_w F 1 (K 2) (K 2 + (xs (6 * i + 1)).toNatClampNeg)) (K 0 + 1) (nI 2) (nI (K 2)) (xs (6 * i + 1))) (ps_Nr N (K 0 + 1)) T (ps_w X 0 (K 2) (K 2 + (xs (6 * i + 1)).toNatClampNeg)) := (by rw [en, nI_clamp hn0]; exact li_row (K := va_up K 2 (K 2 + n0)) (li_w1 hI (by omega)) (show K 0 < 16384 by omega) (Or.inr ⟨rfl, Nat.le_refl _⟩))
      have hRL2 := ps_L_le hI2.2.1
      have hRY2 := ps_Y_le hI2.2.1
      refine lv_aload_n hx hb d_law_law_155 rfl (lv_at hl 2 rfl) ?_
      refine lv_aload_n hx hb d_law_law_156 rfl (lv_at hl 3 rfl) ?_
      refine lv_iload_n hx hb d_law_law_157 rfl (lv_at hl 0 rfl) ?_
      refine lv_iconst (v := nI 1) hx hb d_law_law_158 (by decide) ?_
      refine lv_iadd hx hb d_law_law_159 ?_
      refine ps_top (z := nI (6 * i + 1)) (nI_add _ _) ?_
      refine va_sld hx hb hX hbl hbA hS (vp_in_nI (show 6 * i + 1 < L by omega) (by omega)) d_law_law_160 ?_
      refine ps_top (z := xs (6 * i + 1)) (by rw [nI_clamp (show 6 * i + 1 < 2 ^ 31 by omega)]) ?_
      refine ps_afterI (wc := pw cI a q K S ck cu F N) (wr := mw cI cB cS cZ b K S ck cu F X) hP hD hS hA [0, 1, 2, 3, 4, 5, 6, 7, 8, 9, 10, 11, 12, 13, 14, 15, 16, 17, 18, 19, 20, 21, 22, 23, 24, 25, 26, 27, 28, 29, 30, 31, 32, 33, 34, 35, 36, 37, 38, 39] [40, 41, 42, 43, 44, 45, 46, 47, 48, 49, 50, 51, 52, 53, 54, 55, 56, 57, 58] lw_s1 lw_s2 (by decide) (by decide) (ps_runVI ⟨hx, hb, hml, hown, hts⟩ (c_bytes l dC dI cI tys ht a q K S ck cu F N hw hKb hSb (xs (6 * i + 1)) (hKb 2) (ps_rc N (K 0 + 1)) (ps_rs N (K 0 + 1)) (fun _ _ => ⟨Nat.le_refl _, Nat.le_refl _⟩)) (ps_cwV ps_gd 1 hts tw_320 k_PS_bytes e_PS_bytes ⟨Nat.le_of_ble_eq_true rfl, Nat.le_of_ble_eq_true rfl⟩) hK hP hD [0, 1, 2, 3, 4, 5, 6, 7, 8, 9, 10, 11, 12, 13, 14, 15, 16, 17, 18, 19, 20, 21, 22, 23, 24, 25, 26, 27, 28, 29, 30, 31, 32, 33, 34, 35, 36, 37, 38, 39] (by decide) lw_s1 0 cPS rfl rfl rfl hl.1 rfl (Nat.le_of_ble_eq_true rfl) d_law_law_161 ⟨by show 100 + ps_L N + (ps_rc N (K 0 + 1)) ≤ 600000; omega, by show 440000 + ps_Y N + (ps_rs N (K 0 + 1)) ≤ 7302250; omega⟩) (fun r1 u1 H locs h1 hP hD hS => ?_)
      obtain ⟨q1, hr1, hu1⟩ := (h1.n hA9).n hB9
      subst hr1
      subst hu1
      refine lv_aload_n hx hb d_law_law_164 rfl (lv_at hl 1 rfl) ?_
      refine lv_aload_n hx hb d_law_law_165 rfl (lv_at hl 3 rfl) ?_
      refine lv_iload_n hx hb d_law_law_166 rfl (lv_at hl 0 rfl) ?_
      refine lv_iconst (v := nI 1) hx hb d_law_law_167 (by decide) ?_
      refine lv_iadd hx hb d_law_law_168 ?_
      refine ps_top (z := nI (6 * i + 1)) (nI_add _ _) ?_
      refine va_sld hx hb hX hbl hbA hS (vp_in_nI (show 6 * i + 1 < L by omega) (by omega)) d_law_law_169 ?_
      refine ps_top (z := xs (6 * i + 1)) (by rw [nI_clamp (show 6 * i + 1 < 2 ^ 31 by omega)]) ?_
      refine ps_afterI (wc := mw cI cB cS cZ b K S ck cu F X) (wr := pw cI a q1 (va_up (va_up K 2 (K 2 + (xs (6 * i + 1)).toNatClampNeg)) 0 (K 0 + 1)) S ck cu (ps_Fr (ps_w F 1 (K 2) (K 2 + (xs (6 * i + 1)).toNatClampNeg)) (K 0 + 1) (nI 2) (nI (K 2)) (xs (6 * i + 1))) (ps_Nr N (K 0 + 1))) hP hD hS hA [0, 1, 2, 3, 4, 5, 6, 7, 8, 9, 10, 11, 12, 13, 14, 15, 16, 17, 18] [19, 20, 21, 22, 23, 24, 25, 26, 27, 28, 29, 30, 31, 32, 33, 34, 35, 36, 37, 38, 39, 40, 41, 42, 43, 44, 45, 46, 47, 48, 49, 50, 51, 52, 53, 54, 55, 56, 57, 58] lw_s3 lw_s4 (by decide) (by decide) (ps_runVI ⟨hx, hb, hml, hown, hts⟩ (m_bytes l dC dI cI tys ht cB cS cZ htB htS htZ b K S ck cu F X hKb hSb (xs (6 * i + 1)) hk0 (hKb 2)) (ps_cwV ps_gd 1 hts tw_321 k_Mod_bytes e_Mod_bytes ⟨Nat.le_of_ble_eq_true rfl, Nat.le_of_ble_eq_true rfl⟩) hK hP hD [0, 1, 2, 3, 4, 5, 6, 7, 8, 9, 10, 11, 12, 13, 14, 15, 16, 17, 18] (by decide) lw_s3 0 cMod rfl rfl rfl hl.1 rfl (Nat.le_of_ble_eq_true rfl) d_law_law_170 ⟨by show 100 + ps_L N + (ps_rc N (K 0 + 1)) + 0 ≤ 600000; omega, by show 440000 + ps_Y N + (ps_rs N (K 0 + 1)) + 0 ≤ 7302250; omega⟩) (fun r2 u2 H locs h2 hP hD hS => ?_)
      obtain ⟨hr2, hu2⟩ := (h2.n hA9).n hB9
      subst hr2
      subst hu2
      refine lv_icmp_eq (tgt := 795) hx hb d_law_law_173 (by decide) (fun c_3 => ?_) (fun c_3 => ?_)
      · refine W.widen (k := 100 + ps_L (ps_Nr N (K 0 + 1))) (n := 440000 + ps_Y (ps_Nr N (K 0 + 1))) (by show 100 + ps_L N + (ps_rc N (K 0 + 1)) + 0 ≤ _; omega) (by show 440000 + ps_Y N + (ps_rs N (K 0 + 1)) + 0 ≤ _; omega) ?_
        exact ih _ _ _ _ _ _ _ _ _ _ _ ls hI2 hl hP hD hS
      · exact absurd rfl c_3

set_option maxHeartbeats 4000000 in
set_option maxRecDepth 100000 in
theorem lw_part {p : Program} {l : Launch} {e : Env} {s : State} {m : MethodId} {below : List Frame} {meth : Method} {c : Code} {sb L : Nat} {xs : Nat → Int32} {A : Nat → Prop} {dC : Nat → ClassId} {dI : Nat → Nat → Nat} {cI cB cS cZ : ClassId} {tys : List (ClassId × FieldType)} {a b : Nat → Nat} (hC : lw_C p s m meth c sb L xs A dC dI cI cB cS cZ tys) {i : Nat} (hi : 6 * i + 6 ≤ L) (ih : lw_H p l e s m below meth c sb A dC dI cI cB cS cZ a b 795 i) : lw_H p l e s m below meth c sb A dC dI cI cB cS cZ a b 178 i := by
  intro K S ck cu F N T X q H locs ls hI hl hP hD hS
  obtain ⟨⟨hx, hb, hr, hml, hown, hts0, hX, hbl, hlocks, hgv⟩, hL, hA, hAs, hbA, hK, ht, htB, htS, htZ⟩ := hC
  have hts : ∀ w ∈ ps_tbl, w.before #[Value.ref sb] s = true := fun w hw => hts0 w (List.mem_filter.mp hw).1
  obtain ⟨⟨hKb, hk0, hk1, hk3, hk4, hk5, hSb⟩, hw, hIL, hIT, hIM, hIP, hIB, hIV⟩ := id hI
  have hrw := hIL.1
  have hRL := ps_L_le hw
  have hRY := ps_Y_le hw
  by_cases hA9 : ¬ ((nI 1 ≤ (xs (6 * i + 1)) ∧ (xs (6 * i + 1)) ≤ nI (K 0)) ∧ ¬ (xs (6 * i + 2)) < 0 ∧ ¬ (xs (6 * i + 3)) < 0 ∧ (xs (6 * i + 2)).toNatClampNeg + (xs (6 * i + 3)).toNatClampNeg ≤ (F 6 (xs (6 * i + 1)).toNatClampNeg).toNatClampNeg)
  · have hI2 : li_I K S F N T X := hI
    have hRL2 := ps_L_le hI2.2.1
    have hRY2 := ps_Y_le hI2.2.1
    refine lv_aload_n hx hb d_law_law_178 rfl (lv_at hl 2 rfl) ?_
    refine lv_aload_n hx hb d_law_law_179 rfl (lv_at hl 3 rfl) ?_
    refine lv_iload_n hx hb d_law_law_180 rfl (lv_at hl 0 rfl) ?_
    refine lv_iconst (v := nI 1) hx hb d_law_law_181 (by decide) ?_
    refine lv_iadd hx hb d_law_law_182 ?_
    refine ps_top (z := nI (6 * i + 1)) (nI_add _ _) ?_
    refine va_sld hx hb hX hbl hbA hS (vp_in_nI (show 6 * i + 1 < L by omega) (by omega)) d_law_law_183 ?_
    refine ps_top (z := xs (6 * i + 1)) (by rw [nI_clamp (show 6 * i + 1 < 2 ^ 31 by omega)]) ?_
    refine lv_aload_n hx hb d_law_law_184 rfl (lv_at hl 3 rfl) ?_
    refine lv_iload_n hx hb d_law_law_185 rfl (lv_at hl 0 rfl) ?_
    refine lv_iconst (v := nI 2) hx hb d_law_law_186 (by decide) ?_
    refine lv_iadd hx hb d_law_law_187 ?_
    refine ps_top (z := nI (6 * i + 2)) (nI_add _ _) ?_
    refine va_sld hx hb hX hbl hbA hS (vp_in_nI (show 6 * i + 2 < L by omega) (by omega)) d_law_law_188 ?_
    refine ps_top (z := xs (6 * i + 2)) (by rw [nI_clamp (show 6 * i + 2 < 2 ^ 31 by omega)]) ?_
    refine lv_aload_n hx hb d_law_law_189 rfl (lv_at hl 3 rfl) ?_
    refine lv_iload_n hx hb d_law_law_190 rfl (lv_at hl 0 rfl) ?_
    refine lv_iconst (v := nI 3) hx hb d_law_law_191 (by decide) ?_
    refine lv_iadd hx hb d_law_law_192 ?_
    refine ps_top (z := nI (6 * i + 3)) (nI_add _ _) ?_
    refine va_sld hx hb hX hbl hbA hS (vp_in_nI (show 6 * i + 3 < L by omega) (by omega)) d_law_law_193 ?_
    refine ps_top (z := xs (6 * i + 3)) (by rw [nI_clamp (show 6 * i + 3 < 2 ^ 31 by omega)]) ?_
    refine ps_afterI (wc := pw cI a q K S ck cu F N) (wr := mw cI cB cS cZ b K S ck cu F X) hP hD hS hA [0, 1, 2, 3, 4, 5, 6, 7, 8, 9, 10, 11, 12, 13, 14, 15, 16, 17, 18, 19, 20, 21, 22, 23, 24, 25, 26, 27, 28, 29, 30, 31, 32, 33, 34, 35, 36, 37, 38, 39] [40, 41, 42, 43, 44, 45, 46, 47, 48, 49, 50, 51, 52, 53, 54, 55, 56, 57, 58] lw_s1 lw_s2 (by decide) (by decide) (ps_runVI ⟨hx, hb, hml, hown, hts⟩ (c_part l dC dI cI tys ht a q K S ck cu F N hw hKb hSb (xs (6 * i + 1)) (xs (6 * i + 2)) (xs (6 * i + 3)) hrw 0 0 (fun q => absurd hA9 q)) (ps_cwV ps_gd 3 hts tw_322 k_PS_part e_PS_part ⟨Nat.le_of_ble_eq_true rfl, Nat.le_of_ble_eq_true rfl⟩) hK hP hD [0, 1, 2, 3, 4, 5, 6, 7, 8, 9, 10, 11, 12, 13, 14, 15, 16, 17, 18, 19, 20, 21, 22, 23, 24, 25, 26, 27, 28, 29, 30, 31, 32, 33, 34, 35, 36, 37, 38, 39] (by decide) lw_s1 0 cPS rfl rfl rfl hl.1 rfl (Nat.le_of_ble_eq_true rfl) d_law_law_194 ⟨by show 100 + ps_L N + (0) ≤ 600000; omega, by show 440000 + ps_Y N + (0) ≤ 7302250; omega⟩) (fun r1 u1 H locs h1 hP hD hS => ?_)
    obtain ⟨hr1, hu1⟩ := h1.y hA9
    subst hr1
    subst hu1
    refine lv_aload_n hx hb d_law_law_197 rfl (lv_at hl 1 rfl) ?_
    refine lv_aload_n hx hb d_law_law_198 rfl (lv_at hl 3 rfl) ?_
    refine lv_iload_n hx hb d_law_law_199 rfl (lv_at hl 0 rfl) ?_
    refine lv_iconst (v := nI 1) hx hb d_law_law_200 (by decide) ?_
    refine lv_iadd hx hb d_law_law_201 ?_
    refine ps_top (z := nI (6 * i + 1)) (nI_add _ _) ?_
    refine va_sld hx hb hX hbl hbA hS (vp_in_nI (show 6 * i + 1 < L by omega) (by omega)) d_law_law_202 ?_
    refine ps_top (z := xs (6 * i + 1)) (by rw [nI_clamp (show 6 * i + 1 < 2 ^ 31 by omega)]) ?_
    refine lv_aload_n hx hb d_law_law_203 rfl (lv_at hl 3 rfl) ?_
    refine lv_iload_n hx hb d_law_law_204 rfl (lv_at hl 0 rfl) ?_
    refine lv_iconst (v := nI 2) hx hb d_law_law_205 (by decide) ?_
    refine lv_iadd hx hb d_law_law_206 ?_
    refine ps_top (z := nI (6 * i + 2)) (nI_add _ _) ?_
    refine va_sld hx hb hX hbl hbA hS (vp_in_nI (show 6 * i + 2 < L by omega) (by omega)) d_law_law_207 ?_
    refine ps_top (z := xs (6 * i + 2)) (by rw [nI_clamp (show 6 * i + 2 < 2 ^ 31 by omega)]) ?_
    refine lv_aload_n hx hb d_law_law_208 rfl (lv_at hl 3 rfl) ?_
    refine lv_iload_n hx hb d_law_law_209 rfl (lv_at hl 0 rfl) ?_
    refine lv_iconst (v := nI 3) hx hb d_law_law_210 (by decide) ?_
    refine lv_iadd hx hb d_law_law_211 ?_
    refine ps_top (z := nI (6 * i + 3)) (nI_add _ _) ?_
    refine va_sld hx hb hX hbl hbA hS (vp_in_nI (show 6 * i + 3 < L by omega) (by omega)) d_law_law_212 ?_
    refine ps_top (z := xs (6 * i + 3)) (by rw [nI_clamp (show 6 * i + 3 < 2 ^ 31 by omega)]) ?_
    refine ps_afterI (wc := mw cI cB cS cZ b K S ck cu F X) (wr := pw cI a q K S ck cu F N) hP hD hS hA [0, 1, 2, 3, 4, 5, 6, 7, 8, 9, 10, 11, 12, 13, 14, 15, 16, 17, 18] [19, 20, 21, 22, 23, 24, 25, 26, 27, 28, 29, 30, 31, 32, 33, 34, 35, 36, 37, 38, 39, 40, 41, 42, 43, 44, 45, 46, 47, 48, 49, 50, 51, 52, 53, 54, 55, 56, 57, 58] lw_s3 lw_s4 (by decide) (by decide) (ps_runVI ⟨hx, hb, hml, hown, hts⟩ (m_part l dC dI cI tys ht cB cS cZ htB htS htZ b K S ck cu F X hKb hSb (xs (6 * i + 1)) (xs (6 * i + 2)) (xs (6 * i + 3)) hk0 hrw) (ps_cwV ps_gd 3 hts tw_323 k_Mod_part e_Mod_part ⟨Nat.le_of_ble_eq_true rfl, Nat.le_of_ble_eq_true rfl⟩) hK hP hD [0, 1, 2, 3, 4, 5, 6, 7, 8, 9, 10, 11, 12, 13, 14, 15, 16, 17, 18] (by decide) lw_s3 0 cMod rfl rfl rfl hl.1 rfl (Nat.le_of_ble_eq_true rfl) d_law_law_213 ⟨by show 100 + ps_L N + (0) + 0 ≤ 600000; omega, by show 440000 + ps_Y N + (0) + 0 ≤ 7302250; omega⟩) (fun r2 u2 H locs h2 hP hD hS => ?_)
    obtain ⟨hr2, hu2⟩ := h2.y hA9
    subst hr2
    subst hu2
    refine lv_icmp_eq (tgt := 795) hx hb d_law_law_216 (by decide) (fun c_1 => ?_) (fun c_1 => ?_)
    · refine W.widen (k := 100 + ps_L N) (n := 440000 + ps_Y N) (by show 100 + ps_L N + (0) + 0 ≤ _; omega) (by show 440000 + ps_Y N + (0) + 0 ≤ _; omega) ?_
      exact ih _ _ _ _ _ _ _ _ _ _ _ ls hI2 hl hP hD hS
    · exact absurd rfl c_1
  · by_cases hB9 : 16384 ≤ K 0
    · have hI2 : li_I K S F N T X := hI
      have hRL2 := ps_L_le hI2.2.1
      have hRY2 := ps_Y_le hI2.2.1
      refine lv_aload_n hx hb d_law_law_178 rfl (lv_at hl 2 rfl) ?_
      refine lv_aload_n hx hb d_law_law_179 rfl (lv_at hl 3 rfl) ?_
      refine lv_iload_n hx hb d_law_law_180 rfl (lv_at hl 0 rfl) ?_
      refine lv_iconst (v := nI 1) hx hb d_law_law_181 (by decide) ?_
      refine lv_iadd hx hb d_law_law_182 ?_
      refine ps_top (z := nI (6 * i + 1)) (nI_add _ _) ?_
      refine va_sld hx hb hX hbl hbA hS (vp_in_nI (show 6 * i + 1 < L by omega) (by omega)) d_law_law_183 ?_
      refine ps_top (z := xs (6 * i + 1)) (by rw [nI_clamp (show 6 * i + 1 < 2 ^ 31 by omega)]) ?_
      refine lv_aload_n hx hb d_law_law_184 rfl (lv_at hl 3 rfl) ?_
      refine lv_iload_n hx hb d_law_law_185 rfl (lv_at hl 0 rfl) ?_
      refine lv_iconst (v := nI 2) hx hb d_law_law_186 (by decide) ?_
      refine lv_iadd hx hb d_law_law_187 ?_
      refine ps_top (z := nI (6 * i + 2)) (nI_add _ _) ?_
      refine va_sld hx hb hX hbl hbA hS (vp_in_nI (show 6 * i + 2 < L by omega) (by omega)) d_law_law_188 ?_
      refine ps_top (z := xs (6 * i + 2)) (by rw [nI_clamp (show 6 * i + 2 < 2 ^ 31 by omega)]) ?_
      refine lv_aload_n hx hb d_law_law_189 rfl (lv_at hl 3 rfl) ?_
      refine lv_iload_n hx hb d_law_law_190 rfl (lv_at hl 0 rfl) ?_
      refine lv_iconst (v := nI 3) hx hb d_law_law_191 (by decide) ?_
      refine lv_iadd hx hb d_law_law_192 ?_
      refine ps_top (z := nI (6 * i + 3)) (nI_add _ _) ?_
      refine va_sld hx hb hX hbl hbA hS (vp_in_nI (show 6 * i + 3 < L by omega) (by omega)) d_law_law_193 ?_
      refine ps_top (z := xs (6 * i + 3)) (by rw [nI_clamp (show 6 * i + 3 < 2 ^ 31 by omega)]) ?_
      refine ps_afterI (wc := pw cI a q K S ck cu F N) (wr := mw cI cB cS cZ b K S ck cu F X) hP hD hS hA [0, 1, 2, 3, 4, 5, 6, 7, 8, 9, 10, 11, 12, 13, 14, 15, 16, 17, 18, 19, 20, 21, 22, 23, 24, 25, 26, 27, 28, 29, 30, 31, 32, 33, 34, 35, 36, 37, 38, 39] [40, 41, 42, 43, 44, 45, 46, 47, 48, 49, 50, 51, 52, 53, 54, 55, 56, 57, 58] lw_s1 lw_s2 (by decide) (by decide) (ps_runVI ⟨hx, hb, hml, hown, hts⟩ (c_part l dC dI cI tys ht a q K S ck cu F N hw hKb hSb (xs (6 * i + 1)) (xs (6 * i + 2)) (xs (6 * i + 3)) hrw 0 0 (fun _ q => absurd hB9 q)) (ps_cwV ps_gd 3 hts tw_322 k_PS_part e_PS_part ⟨Nat.le_of_ble_eq_true rfl, Nat.le_of_ble_eq_true rfl⟩) hK hP hD [0, 1, 2, 3, 4, 5, 6, 7, 8, 9, 10, 11, 12, 13, 14, 15, 16, 17, 18, 19, 20, 21, 22, 23, 24, 25, 26, 27, 28, 29, 30, 31, 32, 33, 34, 35, 36, 37, 38, 39] (by decide) lw_s1 0 cPS rfl rfl rfl hl.1 rfl (Nat.le_of_ble_eq_true rfl) d_law_law_194 ⟨by show 100 + ps_L N + (0) ≤ 600000; omega, by show 440000 + ps_Y N + (0) ≤ 7302250; omega⟩) (fun r1 u1 H locs h1 hP hD hS => ?_)
      obtain ⟨hr1, hu1⟩ := (h1.n hA9).y hB9
      subst hr1
      subst hu1
      refine lv_aload_n hx hb d_law_law_197 rfl (lv_at hl 1 rfl) ?_
      refine lv_aload_n hx hb d_law_law_198 rfl (lv_at hl 3 rfl) ?_
      refine lv_iload_n hx hb d_law_law_199 rfl (lv_at hl 0 rfl) ?_
      refine lv_iconst (v := nI 1) hx hb d_law_law_200 (by decide) ?_
      refine lv_iadd hx hb d_law_law_201 ?_
      refine ps_top (z := nI (6 * i + 1)) (nI_add _ _) ?_
      refine va_sld hx hb hX hbl hbA hS (vp_in_nI (show 6 * i + 1 < L by omega) (by omega)) d_law_law_202 ?_
      refine ps_top (z := xs (6 * i + 1)) (by rw [nI_clamp (show 6 * i + 1 < 2 ^ 31 by omega)]) ?_
      refine lv_aload_n hx hb d_law_law_203 rfl (lv_at hl 3 rfl) ?_
      refine lv_iload_n hx hb d_law_law_204 rfl (lv_at hl 0 rfl) ?_
      refine lv_iconst (v := nI 2) hx hb d_law_law_205 (by decide) ?_
      refine lv_iadd hx hb d_law_law_206 ?_
      refine ps_top (z := nI (6 * i + 2)) (nI_add _ _) ?_
      refine va_sld hx hb hX hbl hbA hS (vp_in_nI (show 6 * i + 2 < L by omega) (by omega)) d_law_law_207 ?_
      refine ps_top (z := xs (6 * i + 2)) (by rw [nI_clamp (show 6 * i + 2 < 2 ^ 31 by omega)]) ?_
      refine lv_aload_n hx hb d_law_law_208 rfl (lv_at hl 3 rfl) ?_
      refine lv_iload_n hx hb d_law_law_209 rfl (lv_at hl 0 rfl) ?_
      refine lv_iconst (v := nI 3) hx hb d_law_law_210 (by decide) ?_
      refine lv_iadd hx hb d_law_law_211 ?_
      refine ps_top (z := nI (6 * i + 3)) (nI_add _ _) ?_
      refine va_sld hx hb hX hbl hbA hS (vp_in_nI (show 6 * i + 3 < L by omega) (by omega)) d_law_law_212 ?_
      refine ps_top (z := xs (6 * i + 3)) (by rw [nI_clamp (show 6 * i + 3 < 2 ^ 31 by omega)]) ?_
      refine ps_afterI (wc := mw cI cB cS cZ b K S ck cu F X) (wr := pw cI a q K S ck cu F N) hP hD hS hA [0, 1, 2, 3, 4, 5, 6, 7, 8, 9, 10, 11, 12, 13, 14, 15, 16, 17, 18] [19, 20, 21, 22, 23, 24, 25, 26, 27, 28, 29, 30, 31, 32, 33, 34, 35, 36, 37, 38, 39, 40, 41, 42, 43, 44, 45, 46, 47, 48, 49, 50, 51, 52, 53, 54, 55, 56, 57, 58] lw_s3 lw_s4 (by decide) (by decide) (ps_runVI ⟨hx, hb, hml, hown, hts⟩ (m_part l dC dI cI tys ht cB cS cZ htB htS htZ b K S ck cu F X hKb hSb (xs (6 * i + 1)) (xs (6 * i + 2)) (xs (6 * i + 3)) hk0 hrw) (ps_cwV ps_gd 3 hts tw_323 k_Mod_part e_Mod_part ⟨Nat.le_of_ble_eq_true rfl, Nat.le_of_ble_eq_true rfl⟩) hK hP hD [0, 1, 2, 3, 4, 5, 6, 7, 8, 9, 10, 11, 12, 13, 14, 15, 16, 17, 18] (by decide) lw_s3 0 cMod rfl rfl rfl hl.1 rfl (Nat.le_of_ble_eq_true rfl) d_law_law_213 ⟨by show 100 + ps_L N + (0) + 0 ≤ 600000; omega, by show 440000 + ps_Y N + (0) + 0 ≤ 7302250; omega⟩) (fun r2 u2 H locs h2 hP hD hS => ?_)
      obtain ⟨hr2, hu2⟩ := (h2.n hA9).y hB9
      subst hr2
      subst hu2
      refine lv_icmp_eq (tgt := 795) hx hb d_law_law_216 (by decide) (fun c_2 => ?_) (fun c_2 => ?_)
      · refine W.widen (k := 100 + ps_L N) (n := 440000 + ps_Y N) (by show 100 + ps_L N + (0) + 0 ≤ _; omega) (by show 440000 + ps_Y N + (0) + 0 ≤ _; omega) ?_
        exact ih _ _ _ _ _ _ _ _ _ _ _ ls hI2 hl hP hD hS
      · exact absurd rfl c_2
    · have hcL := li_cr_L (N := N) (K 0 + 1)
      have hcY := li_cr_Y (K 0 + 1) hw (by omega)
      have hI2 : li_I (va_up K 0 (K 0 + 1)) S (ps_Fr F (K 0 + 1) (F 4 (xs (6 * i + 1)).toNatClampNeg) (F 5 (xs (6 * i + 1)).toNatClampNeg + (xs (6 * i + 2))) (xs (6 * i + 3))) (ps_Nr N (K 0 + 1)) T X := li_part hI hB9 (Classical.not_not.mp hA9)
      have hRL2 := ps_L_le hI2.2.1
      have hRY2 := ps_Y_le hI2.2.1
      refine lv_aload_n hx hb d_law_law_178 rfl (lv_at hl 2 rfl) ?_
      refine lv_aload_n hx hb d_law_law_179 rfl (lv_at hl 3 rfl) ?_
      refine lv_iload_n hx hb d_law_law_180 rfl (lv_at hl 0 rfl) ?_
      refine lv_iconst (v := nI 1) hx hb d_law_law_181 (by decide) ?_
      refine lv_iadd hx hb d_law_law_182 ?_
      refine ps_top (z := nI (6 * i + 1)) (nI_add _ _) ?_
      refine va_sld hx hb hX hbl hbA hS (vp_in_nI (show 6 * i + 1 < L by omega) (by omega)) d_law_law_183 ?_
      refine ps_top (z := xs (6 * i + 1)) (by rw [nI_clamp (show 6 * i + 1 < 2 ^ 31 by omega)]) ?_
      refine lv_aload_n hx hb d_law_law_184 rfl (lv_at hl 3 rfl) ?_
      refine lv_iload_n hx hb d_law_law_185 rfl (lv_at hl 0 rfl) ?_
      refine lv_iconst (v := nI 2) hx hb d_law_law_186 (by decide) ?_
      refine lv_iadd hx hb d_law_law_187 ?_
      refine ps_top (z := nI (6 * i + 2)) (nI_add _ _) ?_
      refine va_sld hx hb hX hbl hbA hS (vp_in_nI (show 6 * i + 2 < L by omega) (by omega)) d_law_law_188 ?_
      refine ps_top (z := xs (6 * i + 2)) (by rw [nI_clamp (show 6 * i + 2 < 2 ^ 31 by omega)]) ?_
      refine lv_aload_n hx hb d_law_law_189 rfl (lv_at hl 3 rfl) ?_
      refine lv_iload_n hx hb d_law_law_190 rfl (lv_at hl 0 rfl) ?_
      refine lv_iconst (v := nI 3) hx hb d_law_law_191 (by decide) ?_
      refine lv_iadd hx hb d_law_law_192 ?_
      refine ps_top (z := nI (6 * i + 3)) (nI_add _ _) ?_
      refine va_sld hx hb hX hbl hbA hS (vp_in_nI (show 6 * i + 3 < L by omega) (by omega)) d_law_law_193 ?_
      refine ps_top (z := xs (6 * i + 3)) (by rw [nI_clamp (show 6 * i + 3 < 2 ^ 31 by omega)]) ?_
      refine ps_afterI (wc := pw cI a q K S ck cu F N) (wr := mw cI cB cS cZ b K S ck cu F X) hP hD hS hA [0, 1, 2, 3, 4, 5, 6, 7, 8, 9, 10, 11, 12, 13, 14, 15, 16, 17, 18, 19, 20, 21, 22, 23, 24, 25, 26, 27, 28, 29, 30, 31, 32, 33, 34, 35, 36, 37, 38, 39] [40, 41, 42, 43, 44, 45, 46, 47, 48, 49, 50, 51, 52, 53, 54, 55, 56, 57, 58] lw_s1 lw_s2 (by decide) (by decide) (ps_runVI ⟨hx, hb, hml, hown, hts⟩ (c_part l dC dI cI tys ht a q K S ck cu F N hw hKb hSb (xs (6 * i + 1)) (xs (6 * i + 2)) (xs (6 * i + 3)) hrw (ps_rc N (K 0 + 1)) (ps_rs N (K 0 + 1)) (fun _ _ => ⟨Nat.le_refl _, Nat.le_refl _⟩)) (ps_cwV ps_gd 3 hts tw_322 k_PS_part e_PS_part ⟨Nat.le_of_ble_eq_true rfl, Nat.le_of_ble_eq_true rfl⟩) hK hP hD [0, 1, 2, 3, 4, 5, 6, 7, 8, 9, 10, 11, 12, 13, 14, 15, 16, 17, 18, 19, 20, 21, 22, 23, 24, 25, 26, 27, 28, 29, 30, 31, 32, 33, 34, 35, 36, 37, 38, 39] (by decide) lw_s1 0 cPS rfl rfl rfl hl.1 rfl (Nat.le_of_ble_eq_true rfl) d_law_law_194 ⟨by show 100 + ps_L N + (ps_rc N (K 0 + 1)) ≤ 600000; omega, by show 440000 + ps_Y N + (ps_rs N (K 0 + 1)) ≤ 7302250; omega⟩) (fun r1 u1 H locs h1 hP hD hS => ?_)
      obtain ⟨q1, hr1, hu1⟩ := (h1.n hA9).n hB9
      subst hr1
      subst hu1
      refine lv_aload_n hx hb d_law_law_197 rfl (lv_at hl 1 rfl) ?_
      refine lv_aload_n hx hb d_law_law_198 rfl (lv_at hl 3 rfl) ?_
      refine lv_iload_n hx hb d_law_law_199 rfl (lv_at hl 0 rfl) ?_
      refine lv_iconst (v := nI 1) hx hb d_law_law_200 (by decide) ?_
      refine lv_iadd hx hb d_law_law_201 ?_
      refine ps_top (z := nI (6 * i + 1)) (nI_add _ _) ?_
      refine va_sld hx hb hX hbl hbA hS (vp_in_nI (show 6 * i + 1 < L by omega) (by omega)) d_law_law_202 ?_
      refine ps_top (z := xs (6 * i + 1)) (by rw [nI_clamp (show 6 * i + 1 < 2 ^ 31 by omega)]) ?_
      refine lv_aload_n hx hb d_law_law_203 rfl (lv_at hl 3 rfl) ?_
      refine lv_iload_n hx hb d_law_law_204 rfl (lv_at hl 0 rfl) ?_
      refine lv_iconst (v := nI 2) hx hb d_law_law_205 (by decide) ?_
      refine lv_iadd hx hb d_law_law_206 ?_
      refine ps_top (z := nI (6 * i + 2)) (nI_add _ _) ?_
      refine va_sld hx hb hX hbl hbA hS (vp_in_nI (show 6 * i + 2 < L by omega) (by omega)) d_law_law_207 ?_
      refine ps_top (z := xs (6 * i + 2)) (by rw [nI_clamp (show 6 * i + 2 < 2 ^ 31 by omega)]) ?_
      refine lv_aload_n hx hb d_law_law_208 rfl (lv_at hl 3 rfl) ?_
      refine lv_iload_n hx hb d_law_law_209 rfl (lv_at hl 0 rfl) ?_
      refine lv_iconst (v := nI 3) hx hb d_law_law_210 (by decide) ?_
      refine lv_iadd hx hb d_law_law_211 ?_
      refine ps_top (z := nI (6 * i + 3)) (nI_add _ _) ?_
      refine va_sld hx hb hX hbl hbA hS (vp_in_nI (show 6 * i + 3 < L by omega) (by omega)) d_law_law_212 ?_
      refine ps_top (z := xs (6 * i + 3)) (by rw [nI_clamp (show 6 * i + 3 < 2 ^ 31 by omega)]) ?_
      refine ps_afterI (wc := mw cI cB cS cZ b K S ck cu F X) (wr := pw cI a q1 (va_up K 0 (K 0 + 1)) S ck cu (ps_Fr F (K 0 + 1) (F 4 (xs (6 * i + 1)).toNatClampNeg) (F 5 (xs (6 * i + 1)).toNatClampNeg + (xs (6 * i + 2))) (xs (6 * i + 3))) (ps_Nr N (K 0 + 1))) hP hD hS hA [0, 1, 2, 3, 4, 5, 6, 7, 8, 9, 10, 11, 12, 13, 14, 15, 16, 17, 18] [19, 20, 21, 22, 23, 24, 25, 26, 27, 28, 29, 30, 31, 32, 33, 34, 35, 36, 37, 38, 39, 40, 41, 42, 43, 44, 45, 46, 47, 48, 49, 50, 51, 52, 53, 54, 55, 56, 57, 58] lw_s3 lw_s4 (by decide) (by decide) (ps_runVI ⟨hx, hb, hml, hown, hts⟩ (m_part l dC dI cI tys ht cB cS cZ htB htS htZ b K S ck cu F X hKb hSb (xs (6 * i + 1)) (xs (6 * i + 2)) (xs (6 * i + 3)) hk0 hrw) (ps_cwV ps_gd 3 hts tw_323 k_Mod_part e_Mod_part ⟨Nat.le_of_ble_eq_true rfl, Nat.le_of_ble_eq_true rfl⟩) hK hP hD [0, 1, 2, 3, 4, 5, 6, 7, 8, 9, 10, 11, 12, 13, 14, 15, 16, 17, 18] (by decide) lw_s3 0 cMod rfl rfl rfl hl.1 rfl (Nat.le_of_ble_eq_true rfl) d_law_law_213 ⟨by show 100 + ps_L N + (ps_rc N (K 0 + 1)) + 0 ≤ 600000; omega, by show 440000 + ps_Y N + (ps_rs N (K 0 + 1)) + 0 ≤ 7302250; omega⟩) (fun r2 u2 H locs h2 hP hD hS => ?_)
      obtain ⟨hr2, hu2⟩ := (h2.n hA9).n hB9
      subst hr2
      subst hu2
      refine lv_icmp_eq (tgt := 795) hx hb d_law_law_216 (by decide) (fun c_3 => ?_) (fun c_3 => ?_)
      · refine W.widen (k := 100 + ps_L (ps_Nr N (K 0 + 1))) (n := 440000 + ps_Y (ps_Nr N (K 0 + 1))) (by show 100 + ps_L N + (ps_rc N (K 0 + 1)) + 0 ≤ _; omega) (by show 440000 + ps_Y N + (ps_rs N (K 0 + 1)) + 0 ≤ _; omega) ?_
        exact ih _ _ _ _ _ _ _ _ _ _ _ ls hI2 hl hP hD hS
      · exact absurd rfl c_3

set_option maxHeartbeats 4000000 in
set_option maxRecDepth 100000 in
theorem lw_sort {p : Program} {l : Launch} {e : Env} {s : State} {m : MethodId} {below : List Frame} {meth : Method} {c : Code} {sb L : Nat} {xs : Nat → Int32} {A : Nat → Prop} {dC : Nat → ClassId} {dI : Nat → Nat → Nat} {cI cB cS cZ : ClassId} {tys : List (ClassId × FieldType)} {a b : Nat → Nat} (hC : lw_C p s m meth c sb L xs A dC dI cI cB cS cZ tys) {i : Nat} (hi : 6 * i + 6 ≤ L) (ih : lw_H p l e s m below meth c sb A dC dI cI cB cS cZ a b 795 i) : lw_H p l e s m below meth c sb A dC dI cI cB cS cZ a b 221 i := by
  intro K S ck cu F N T X q H locs ls hI hl hP hD hS
  obtain ⟨⟨hx, hb, hr, hml, hown, hts0, hX, hbl, hlocks, hgv⟩, hL, hA, hAs, hbA, hK, ht, htB, htS, htZ⟩ := hC
  have hts : ∀ w ∈ ps_tbl, w.before #[Value.ref sb] s = true := fun w hw => hts0 w (List.mem_filter.mp hw).1
  obtain ⟨⟨hKb, hk0, hk1, hk3, hk4, hk5, hSb⟩, hw, hIL, hIT, hIM, hIP, hIB, hIV⟩ := id hI
  have hrw := hIL.1
  have hRL := ps_L_le hw
  have hRY := ps_Y_le hw
  refine lv_aload_n hx hb d_law_law_221 rfl (lv_at hl 2 rfl) ?_
  refine lv_aload_n hx hb d_law_law_222 rfl (lv_at hl 3 rfl) ?_
  refine lv_iload_n hx hb d_law_law_223 rfl (lv_at hl 0 rfl) ?_
  refine lv_iconst (v := nI 1) hx hb d_law_law_224 (by decide) ?_
  refine lv_iadd hx hb d_law_law_225 ?_
  refine ps_top (z := nI (6 * i + 1)) (nI_add _ _) ?_
  refine va_sld hx hb hX hbl hbA hS (vp_in_nI (show 6 * i + 1 < L by omega) (by omega)) d_law_law_226 ?_
  refine ps_top (z := xs (6 * i + 1)) (by rw [nI_clamp (show 6 * i + 1 < 2 ^ 31 by omega)]) ?_
  refine ps_readI (wc := pw cI a q K S ck cu F N) hP hD hS hA [0, 1, 2, 3, 4, 5, 6, 7, 8, 9, 10, 11, 12, 13, 14, 15, 16, 17, 18, 19, 20, 21, 22, 23, 24, 25, 26, 27, 28, 29, 30, 31, 32, 33, 34, 35, 36, 37, 38, 39] lw_s1 (fun _ _ h => h.1) (ps_runVI ⟨hx, hb, hml, hown, hts⟩ (c_sort l dC dI cI tys ht a q K S ck cu F N hw hKb hSb (xs (6 * i + 1))) (ps_cwV ps_gd 1 hts tw_324 k_PS_sort e_PS_sort ⟨Nat.le_of_ble_eq_true rfl, Nat.le_of_ble_eq_true rfl⟩) hK hP hD [0, 1, 2, 3, 4, 5, 6, 7, 8, 9, 10, 11, 12, 13, 14, 15, 16, 17, 18, 19, 20, 21, 22, 23, 24, 25, 26, 27, 28, 29, 30, 31, 32, 33, 34, 35, 36, 37, 38, 39] (by decide) lw_s1 0 cPS rfl rfl rfl hl.1 rfl (Nat.le_of_ble_eq_true rfl) d_law_law_227 ⟨by show 100 + ps_L N + 0 ≤ 600000; omega, by show 440000 + ps_Y N + 0 ≤ 7302250; omega⟩) (fun r1 H locs hr1 hP hS => ?_)
  have hr1 := hr1.2
  refine lv_aload_n hx hb d_law_law_230 rfl (lv_at hl 1 rfl) ?_
  refine lv_aload_n hx hb d_law_law_231 rfl (lv_at hl 3 rfl) ?_
  refine lv_iload_n hx hb d_law_law_232 rfl (lv_at hl 0 rfl) ?_
  refine lv_iconst (v := nI 1) hx hb d_law_law_233 (by decide) ?_
  refine lv_iadd hx hb d_law_law_234 ?_
  refine ps_top (z := nI (6 * i + 1)) (nI_add _ _) ?_
  refine va_sld hx hb hX hbl hbA hS (vp_in_nI (show 6 * i + 1 < L by omega) (by omega)) d_law_law_235 ?_
  refine ps_top (z := xs (6 * i + 1)) (by rw [nI_clamp (show 6 * i + 1 < 2 ^ 31 by omega)]) ?_
  refine ps_readI (wc := mw cI cB cS cZ b K S ck cu F X) hP hD hS hA [40, 41, 42, 43, 44, 45, 46, 47, 48, 49, 50, 51, 52, 53, 54, 55, 56, 57, 58] lw_s2 (fun _ _ h => h.1) (ps_runVI ⟨hx, hb, hml, hown, hts⟩ (m_sort l dC dI cI tys ht cB cS cZ htB htS htZ b K S ck cu F X hKb hSb (xs (6 * i + 1)) hk0) (ps_cwV ps_gd 1 hts tw_325 k_Mod_sort e_Mod_sort ⟨Nat.le_of_ble_eq_true rfl, Nat.le_of_ble_eq_true rfl⟩) hK hP hD [40, 41, 42, 43, 44, 45, 46, 47, 48, 49, 50, 51, 52, 53, 54, 55, 56, 57, 58] (by decide) lw_s2 0 cMod rfl rfl rfl hl.1 rfl (Nat.le_of_ble_eq_true rfl) d_law_law_236 ⟨by show 100 + ps_L N + 0 + 0 ≤ 600000; omega, by show 440000 + ps_Y N + 0 + 0 ≤ 7302250; omega⟩) (fun r2 H locs hr2 hP hS => ?_)
  have hr2 := hr2.2
  have heq : r1 = r2 := by
    by_cases hc : nI 1 ≤ (xs (6 * i + 1)) ∧ (xs (6 * i + 1)) ≤ nI (K 0)
    · rw [hr1.y hc, hr2.y hc]
    · rw [hr1.n hc, hr2.n hc]
  refine lv_icmp_eq (tgt := 795) hx hb d_law_law_239 (by decide) (fun c_1 => ?_) (fun c_1 => ?_)
  · refine W.widen (k := 100 + ps_L N) (n := 440000 + ps_Y N) (by show 100 + ps_L N + 0 + 0 ≤ _; omega) (by show 440000 + ps_Y N + 0 + 0 ≤ _; omega) ?_
    exact ih K S ck cu F N T X q _ _ ls hI hl hP hD hS
  · exact absurd heq c_1

set_option maxHeartbeats 4000000 in
set_option maxRecDepth 100000 in
theorem lw_length {p : Program} {l : Launch} {e : Env} {s : State} {m : MethodId} {below : List Frame} {meth : Method} {c : Code} {sb L : Nat} {xs : Nat → Int32} {A : Nat → Prop} {dC : Nat → ClassId} {dI : Nat → Nat → Nat} {cI cB cS cZ : ClassId} {tys : List (ClassId × FieldType)} {a b : Nat → Nat} (hC : lw_C p s m meth c sb L xs A dC dI cI cB cS cZ tys) {i : Nat} (hi : 6 * i + 6 ≤ L) (ih : lw_H p l e s m below meth c sb A dC dI cI cB cS cZ a b 795 i) : lw_H p l e s m below meth c sb A dC dI cI cB cS cZ a b 244 i := by
  intro K S ck cu F N T X q H locs ls hI hl hP hD hS
  obtain ⟨⟨hx, hb, hr, hml, hown, hts0, hX, hbl, hlocks, hgv⟩, hL, hA, hAs, hbA, hK, ht, htB, htS, htZ⟩ := hC
  have hts : ∀ w ∈ ps_tbl, w.before #[Value.ref sb] s = true := fun w hw => hts0 w (List.mem_filter.mp hw).1
  obtain ⟨⟨hKb, hk0, hk1, hk3, hk4, hk5, hSb⟩, hw, hIL, hIT, hIM, hIP, hIB, hIV⟩ := id hI
  have hrw := hIL.1
  have hRL := ps_L_le hw
  have hRY := ps_Y_le hw
  refine lv_aload_n hx hb d_law_law_244 rfl (lv_at hl 2 rfl) ?_
  refine lv_aload_n hx hb d_law_law_245 rfl (lv_at hl 3 rfl) ?_
  refine lv_iload_n hx hb d_law_law_246 rfl (lv_at hl 0 rfl) ?_
  refine lv_iconst (v := nI 1) hx hb d_law_law_247 (by decide) ?_
  refine lv_iadd hx hb d_law_law_248 ?_
  refine ps_top (z := nI (6 * i + 1)) (nI_add _ _) ?_
  refine va_sld hx hb hX hbl hbA hS (vp_in_nI (show 6 * i + 1 < L by omega) (by omega)) d_law_law_249 ?_
  refine ps_top (z := xs (6 * i + 1)) (by rw [nI_clamp (show 6 * i + 1 < 2 ^ 31 by omega)]) ?_
  refine ps_readI (wc := pw cI a q K S ck cu F N) hP hD hS hA [0, 1, 2, 3, 4, 5, 6, 7, 8, 9, 10, 11, 12, 13, 14, 15, 16, 17, 18, 19, 20, 21, 22, 23, 24, 25, 26, 27, 28, 29, 30, 31, 32, 33, 34, 35, 36, 37, 38, 39] lw_s1 (fun _ _ h => h.1) (ps_runVI ⟨hx, hb, hml, hown, hts⟩ (c_length l dC dI cI tys ht a q K S ck cu F N hw hKb hSb (xs (6 * i + 1))) (ps_cwV ps_gd 1 hts tw_326 k_PS_length e_PS_length ⟨Nat.le_of_ble_eq_true rfl, Nat.le_of_ble_eq_true rfl⟩) hK hP hD [0, 1, 2, 3, 4, 5, 6, 7, 8, 9, 10, 11, 12, 13, 14, 15, 16, 17, 18, 19, 20, 21, 22, 23, 24, 25, 26, 27, 28, 29, 30, 31, 32, 33, 34, 35, 36, 37, 38, 39] (by decide) lw_s1 0 cPS rfl rfl rfl hl.1 rfl (Nat.le_of_ble_eq_true rfl) d_law_law_250 ⟨by show 100 + ps_L N + 0 ≤ 600000; omega, by show 440000 + ps_Y N + 0 ≤ 7302250; omega⟩) (fun r1 H locs hr1 hP hS => ?_)
  have hr1 := hr1.2
  refine lv_aload_n hx hb d_law_law_253 rfl (lv_at hl 1 rfl) ?_
  refine lv_aload_n hx hb d_law_law_254 rfl (lv_at hl 3 rfl) ?_
  refine lv_iload_n hx hb d_law_law_255 rfl (lv_at hl 0 rfl) ?_
  refine lv_iconst (v := nI 1) hx hb d_law_law_256 (by decide) ?_
  refine lv_iadd hx hb d_law_law_257 ?_
  refine ps_top (z := nI (6 * i + 1)) (nI_add _ _) ?_
  refine va_sld hx hb hX hbl hbA hS (vp_in_nI (show 6 * i + 1 < L by omega) (by omega)) d_law_law_258 ?_
  refine ps_top (z := xs (6 * i + 1)) (by rw [nI_clamp (show 6 * i + 1 < 2 ^ 31 by omega)]) ?_
  refine ps_readI (wc := mw cI cB cS cZ b K S ck cu F X) hP hD hS hA [40, 41, 42, 43, 44, 45, 46, 47, 48, 49, 50, 51, 52, 53, 54, 55, 56, 57, 58] lw_s2 (fun _ _ h => h.1) (ps_runVI ⟨hx, hb, hml, hown, hts⟩ (m_length l dC dI cI tys ht cB cS cZ htB htS htZ b K S ck cu F X hKb hSb (xs (6 * i + 1)) hk0) (ps_cwV ps_gd 1 hts tw_327 k_Mod_length e_Mod_length ⟨Nat.le_of_ble_eq_true rfl, Nat.le_of_ble_eq_true rfl⟩) hK hP hD [40, 41, 42, 43, 44, 45, 46, 47, 48, 49, 50, 51, 52, 53, 54, 55, 56, 57, 58] (by decide) lw_s2 0 cMod rfl rfl rfl hl.1 rfl (Nat.le_of_ble_eq_true rfl) d_law_law_259 ⟨by show 100 + ps_L N + 0 + 0 ≤ 600000; omega, by show 440000 + ps_Y N + 0 + 0 ≤ 7302250; omega⟩) (fun r2 H locs hr2 hP hS => ?_)
  have hr2 := hr2.2
  have heq : r1 = r2 := by
    by_cases hc : nI 1 ≤ (xs (6 * i + 1)) ∧ (xs (6 * i + 1)) ≤ nI (K 0)
    · rw [hr1.y hc, hr2.y hc]
    · rw [hr1.n hc, hr2.n hc]
  refine lv_icmp_eq (tgt := 795) hx hb d_law_law_262 (by decide) (fun c_1 => ?_) (fun c_1 => ?_)
  · refine W.widen (k := 100 + ps_L N) (n := 440000 + ps_Y N) (by show 100 + ps_L N + 0 + 0 ≤ _; omega) (by show 440000 + ps_Y N + 0 + 0 ≤ _; omega) ?_
    exact ih K S ck cu F N T X q _ _ ls hI hl hP hD hS
  · exact absurd heq c_1

set_option maxHeartbeats 4000000 in
set_option maxRecDepth 100000 in
theorem lw_get {p : Program} {l : Launch} {e : Env} {s : State} {m : MethodId} {below : List Frame} {meth : Method} {c : Code} {sb L : Nat} {xs : Nat → Int32} {A : Nat → Prop} {dC : Nat → ClassId} {dI : Nat → Nat → Nat} {cI cB cS cZ : ClassId} {tys : List (ClassId × FieldType)} {a b : Nat → Nat} (hC : lw_C p s m meth c sb L xs A dC dI cI cB cS cZ tys) {i : Nat} (hi : 6 * i + 6 ≤ L) (ih : lw_H p l e s m below meth c sb A dC dI cI cB cS cZ a b 795 i) : lw_H p l e s m below meth c sb A dC dI cI cB cS cZ a b 320 i := by
  intro K S ck cu F N T X q H locs ls hI hl hP hD hS
  obtain ⟨⟨hx, hb, hr, hml, hown, hts0, hX, hbl, hlocks, hgv⟩, hL, hA, hAs, hbA, hK, ht, htB, htS, htZ⟩ := hC
  have hts : ∀ w ∈ ps_tbl, w.before #[Value.ref sb] s = true := fun w hw => hts0 w (List.mem_filter.mp hw).1
  obtain ⟨⟨hKb, hk0, hk1, hk3, hk4, hk5, hSb⟩, hw, hIL, hIT, hIM, hIP, hIB, hIV⟩ := id hI
  have hrw := hIL.1
  have hRL := ps_L_le hw
  have hRY := ps_Y_le hw
  refine lv_aload_n hx hb d_law_law_320 rfl (lv_at hl 2 rfl) ?_
  refine lv_aload_n hx hb d_law_law_321 rfl (lv_at hl 3 rfl) ?_
  refine lv_iload_n hx hb d_law_law_322 rfl (lv_at hl 0 rfl) ?_
  refine lv_iconst (v := nI 1) hx hb d_law_law_323 (by decide) ?_
  refine lv_iadd hx hb d_law_law_324 ?_
  refine ps_top (z := nI (6 * i + 1)) (nI_add _ _) ?_
  refine va_sld hx hb hX hbl hbA hS (vp_in_nI (show 6 * i + 1 < L by omega) (by omega)) d_law_law_325 ?_
  refine ps_top (z := xs (6 * i + 1)) (by rw [nI_clamp (show 6 * i + 1 < 2 ^ 31 by omega)]) ?_
  refine lv_aload_n hx hb d_law_law_326 rfl (lv_at hl 3 rfl) ?_
  refine lv_iload_n hx hb d_law_law_327 rfl (lv_at hl 0 rfl) ?_
  refine lv_iconst (v := nI 2) hx hb d_law_law_328 (by decide) ?_
  refine lv_iadd hx hb d_law_law_329 ?_
  refine ps_top (z := nI (6 * i + 2)) (nI_add _ _) ?_
  refine va_sld hx hb hX hbl hbA hS (vp_in_nI (show 6 * i + 2 < L by omega) (by omega)) d_law_law_330 ?_
  refine ps_top (z := xs (6 * i + 2)) (by rw [nI_clamp (show 6 * i + 2 < 2 ^ 31 by omega)]) ?_
  refine ps_readI (wc := pw cI a q K S ck cu F N) hP hD hS hA [0, 1, 2, 3, 4, 5, 6, 7, 8, 9, 10, 11, 12, 13, 14, 15, 16, 17, 18, 19, 20, 21, 22, 23, 24, 25, 26, 27, 28, 29, 30, 31, 32, 33, 34, 35, 36, 37, 38, 39] lw_s1 (fun _ _ h => h.1) (ps_runVI ⟨hx, hb, hml, hown, hts⟩ (c_get l dC dI cI tys ht a q K S ck cu F N hw hKb hSb (xs (6 * i + 1)) (xs (6 * i + 2)) hrw) (ps_cwV ps_gd 2 hts tw_328 k_PS_get e_PS_get ⟨Nat.le_of_ble_eq_true rfl, Nat.le_of_ble_eq_true rfl⟩) hK hP hD [0, 1, 2, 3, 4, 5, 6, 7, 8, 9, 10, 11, 12, 13, 14, 15, 16, 17, 18, 19, 20, 21, 22, 23, 24, 25, 26, 27, 28, 29, 30, 31, 32, 33, 34, 35, 36, 37, 38, 39] (by decide) lw_s1 0 cPS rfl rfl rfl hl.1 rfl (Nat.le_of_ble_eq_true rfl) d_law_law_331 ⟨by show 100 + ps_L N + 0 ≤ 600000; omega, by show 440000 + ps_Y N + 0 ≤ 7302250; omega⟩) (fun r1 H locs hr1 hP hS => ?_)
  have hr1 := hr1.2
  refine lv_aload_n hx hb d_law_law_334 rfl (lv_at hl 1 rfl) ?_
  refine lv_aload_n hx hb d_law_law_335 rfl (lv_at hl 3 rfl) ?_
  refine lv_iload_n hx hb d_law_law_336 rfl (lv_at hl 0 rfl) ?_
  refine lv_iconst (v := nI 1) hx hb d_law_law_337 (by decide) ?_
  refine lv_iadd hx hb d_law_law_338 ?_
  refine ps_top (z := nI (6 * i + 1)) (nI_add _ _) ?_
  refine va_sld hx hb hX hbl hbA hS (vp_in_nI (show 6 * i + 1 < L by omega) (by omega)) d_law_law_339 ?_
  refine ps_top (z := xs (6 * i + 1)) (by rw [nI_clamp (show 6 * i + 1 < 2 ^ 31 by omega)]) ?_
  refine lv_aload_n hx hb d_law_law_340 rfl (lv_at hl 3 rfl) ?_
  refine lv_iload_n hx hb d_law_law_341 rfl (lv_at hl 0 rfl) ?_
  refine lv_iconst (v := nI 2) hx hb d_law_law_342 (by decide) ?_
  refine lv_iadd hx hb d_law_law_343 ?_
  refine ps_top (z := nI (6 * i + 2)) (nI_add _ _) ?_
  refine va_sld hx hb hX hbl hbA hS (vp_in_nI (show 6 * i + 2 < L by omega) (by omega)) d_law_law_344 ?_
  refine ps_top (z := xs (6 * i + 2)) (by rw [nI_clamp (show 6 * i + 2 < 2 ^ 31 by omega)]) ?_
  refine ps_readI (wc := mw cI cB cS cZ b K S ck cu F X) hP hD hS hA [40, 41, 42, 43, 44, 45, 46, 47, 48, 49, 50, 51, 52, 53, 54, 55, 56, 57, 58] lw_s2 (fun _ _ h => h.1) (ps_runVI ⟨hx, hb, hml, hown, hts⟩ (m_get l dC dI cI tys ht cB cS cZ htB htS htZ b K S ck cu F X hKb hSb (xs (6 * i + 1)) (xs (6 * i + 2)) hk0 hk1 hrw) (ps_cwV ps_gd 2 hts tw_329 k_Mod_get e_Mod_get ⟨Nat.le_of_ble_eq_true rfl, Nat.le_of_ble_eq_true rfl⟩) hK hP hD [40, 41, 42, 43, 44, 45, 46, 47, 48, 49, 50, 51, 52, 53, 54, 55, 56, 57, 58] (by decide) lw_s2 0 cMod rfl rfl rfl hl.1 rfl (Nat.le_of_ble_eq_true rfl) d_law_law_345 ⟨by show 100 + ps_L N + 0 + 0 ≤ 600000; omega, by show 440000 + ps_Y N + 0 + 0 ≤ 7302250; omega⟩) (fun r2 H locs hr2 hP hS => ?_)
  have hr2 := hr2.2
  have heq : r1 = r2 := by
    by_cases hc : ps_ok K F (nI 1) (xs (6 * i + 1)) (xs (6 * i + 2))
    · rw [hr1.y hc, hr2.y hc]
    · by_cases hd : ps_ok K F (nI 2) (xs (6 * i + 1)) (xs (6 * i + 2))
      · rw [(hr1.n hc).y hd, (hr2.n hc).y hd]; exact hIB _
      · rw [(hr1.n hc).n hd, (hr2.n hc).n hd]
  refine lv_icmp_eq (tgt := 795) hx hb d_law_law_348 (by decide) (fun c_1 => ?_) (fun c_1 => ?_)
  · refine W.widen (k := 100 + ps_L N) (n := 440000 + ps_Y N) (by show 100 + ps_L N + 0 + 0 ≤ _; omega) (by show 440000 + ps_Y N + 0 + 0 ≤ _; omega) ?_
    exact ih K S ck cu F N T X q _ _ ls hI hl hP hD hS
  · exact absurd heq c_1

set_option maxHeartbeats 4000000 in
set_option maxRecDepth 100000 in
theorem lw_number {p : Program} {l : Launch} {e : Env} {s : State} {m : MethodId} {below : List Frame} {meth : Method} {c : Code} {sb L : Nat} {xs : Nat → Int32} {A : Nat → Prop} {dC : Nat → ClassId} {dI : Nat → Nat → Nat} {cI cB cS cZ : ClassId} {tys : List (ClassId × FieldType)} {a b : Nat → Nat} (hC : lw_C p s m meth c sb L xs A dC dI cI cB cS cZ tys) {i : Nat} (hi : 6 * i + 6 ≤ L) (ih : lw_H p l e s m below meth c sb A dC dI cI cB cS cZ a b 795 i) : lw_H p l e s m below meth c sb A dC dI cI cB cS cZ a b 353 i := by
  intro K S ck cu F N T X q H locs ls hI hl hP hD hS
  obtain ⟨⟨hx, hb, hr, hml, hown, hts0, hX, hbl, hlocks, hgv⟩, hL, hA, hAs, hbA, hK, ht, htB, htS, htZ⟩ := hC
  have hts : ∀ w ∈ ps_tbl, w.before #[Value.ref sb] s = true := fun w hw => hts0 w (List.mem_filter.mp hw).1
  obtain ⟨⟨hKb, hk0, hk1, hk3, hk4, hk5, hSb⟩, hw, hIL, hIT, hIM, hIP, hIB, hIV⟩ := id hI
  have hrw := hIL.1
  have hRL := ps_L_le hw
  have hRY := ps_Y_le hw
  refine lv_aload_n hx hb d_law_law_353 rfl (lv_at hl 2 rfl) ?_
  refine lv_aload_n hx hb d_law_law_354 rfl (lv_at hl 3 rfl) ?_
  refine lv_iload_n hx hb d_law_law_355 rfl (lv_at hl 0 rfl) ?_
  refine lv_iconst (v := nI 1) hx hb d_law_law_356 (by decide) ?_
  refine lv_iadd hx hb d_law_law_357 ?_
  refine ps_top (z := nI (6 * i + 1)) (nI_add _ _) ?_
  refine va_sld hx hb hX hbl hbA hS (vp_in_nI (show 6 * i + 1 < L by omega) (by omega)) d_law_law_358 ?_
  refine ps_top (z := xs (6 * i + 1)) (by rw [nI_clamp (show 6 * i + 1 < 2 ^ 31 by omega)]) ?_
  refine lv_aload_n hx hb d_law_law_359 rfl (lv_at hl 3 rfl) ?_
  refine lv_iload_n hx hb d_law_law_360 rfl (lv_at hl 0 rfl) ?_
  refine lv_iconst (v := nI 2) hx hb d_law_law_361 (by decide) ?_
  refine lv_iadd hx hb d_law_law_362 ?_
  refine ps_top (z := nI (6 * i + 2)) (nI_add _ _) ?_
  refine va_sld hx hb hX hbl hbA hS (vp_in_nI (show 6 * i + 2 < L by omega) (by omega)) d_law_law_363 ?_
  refine ps_top (z := xs (6 * i + 2)) (by rw [nI_clamp (show 6 * i + 2 < 2 ^ 31 by omega)]) ?_
  refine ps_readI (wc := pw cI a q K S ck cu F N) hP hD hS hA [0, 1, 2, 3, 4, 5, 6, 7, 8, 9, 10, 11, 12, 13, 14, 15, 16, 17, 18, 19, 20, 21, 22, 23, 24, 25, 26, 27, 28, 29, 30, 31, 32, 33, 34, 35, 36, 37, 38, 39] lw_s1 (fun _ _ h => h.1) (ps_runVI ⟨hx, hb, hml, hown, hts⟩ (c_number l dC dI cI tys ht a q K S ck cu F N hw hKb hSb (xs (6 * i + 1)) (xs (6 * i + 2)) hrw) (ps_cwV ps_gd 2 hts tw_330 k_PS_number e_PS_number ⟨Nat.le_of_ble_eq_true rfl, Nat.le_of_ble_eq_true rfl⟩) hK hP hD [0, 1, 2, 3, 4, 5, 6, 7, 8, 9, 10, 11, 12, 13, 14, 15, 16, 17, 18, 19, 20, 21, 22, 23, 24, 25, 26, 27, 28, 29, 30, 31, 32, 33, 34, 35, 36, 37, 38, 39] (by decide) lw_s1 0 cPS rfl rfl rfl hl.1 rfl (Nat.le_of_ble_eq_true rfl) d_law_law_364 ⟨by show 100 + ps_L N + 0 ≤ 600000; omega, by show 440000 + ps_Y N + 0 ≤ 7302250; omega⟩) (fun r1 H locs hr1 hP hS => ?_)
  have hr1 := hr1.2
  refine lv_aload_n hx hb d_law_law_367 rfl (lv_at hl 1 rfl) ?_
  refine lv_aload_n hx hb d_law_law_368 rfl (lv_at hl 3 rfl) ?_
  refine lv_iload_n hx hb d_law_law_369 rfl (lv_at hl 0 rfl) ?_
  refine lv_iconst (v := nI 1) hx hb d_law_law_370 (by decide) ?_
  refine lv_iadd hx hb d_law_law_371 ?_
  refine ps_top (z := nI (6 * i + 1)) (nI_add _ _) ?_
  refine va_sld hx hb hX hbl hbA hS (vp_in_nI (show 6 * i + 1 < L by omega) (by omega)) d_law_law_372 ?_
  refine ps_top (z := xs (6 * i + 1)) (by rw [nI_clamp (show 6 * i + 1 < 2 ^ 31 by omega)]) ?_
  refine lv_aload_n hx hb d_law_law_373 rfl (lv_at hl 3 rfl) ?_
  refine lv_iload_n hx hb d_law_law_374 rfl (lv_at hl 0 rfl) ?_
  refine lv_iconst (v := nI 2) hx hb d_law_law_375 (by decide) ?_
  refine lv_iadd hx hb d_law_law_376 ?_
  refine ps_top (z := nI (6 * i + 2)) (nI_add _ _) ?_
  refine va_sld hx hb hX hbl hbA hS (vp_in_nI (show 6 * i + 2 < L by omega) (by omega)) d_law_law_377 ?_
  refine ps_top (z := xs (6 * i + 2)) (by rw [nI_clamp (show 6 * i + 2 < 2 ^ 31 by omega)]) ?_
  refine ps_readI (wc := mw cI cB cS cZ b K S ck cu F X) hP hD hS hA [40, 41, 42, 43, 44, 45, 46, 47, 48, 49, 50, 51, 52, 53, 54, 55, 56, 57, 58] lw_s2 (fun _ _ h => h.1) (ps_runVI ⟨hx, hb, hml, hown, hts⟩ (m_number l dC dI cI tys ht cB cS cZ htB htS htZ b K S ck cu F X hKb hSb (xs (6 * i + 1)) (xs (6 * i + 2)) hk0 hk1 hrw) (ps_cwV ps_gd 2 hts tw_331 k_Mod_number e_Mod_number ⟨Nat.le_of_ble_eq_true rfl, Nat.le_of_ble_eq_true rfl⟩) hK hP hD [40, 41, 42, 43, 44, 45, 46, 47, 48, 49, 50, 51, 52, 53, 54, 55, 56, 57, 58] (by decide) lw_s2 0 cMod rfl rfl rfl hl.1 rfl (Nat.le_of_ble_eq_true rfl) d_law_law_378 ⟨by show 100 + ps_L N + 0 + 0 ≤ 600000; omega, by show 440000 + ps_Y N + 0 + 0 ≤ 7302250; omega⟩) (fun r2 H locs hr2 hP hS => ?_)
  have hr2 := hr2.2
  have heq : r1 = r2 := by
    by_cases hc : ps_ok K F (nI 1) (xs (6 * i + 1)) (xs (6 * i + 2))
    · rw [hr1.y hc, hr2.y hc]
    · rw [hr1.n hc, hr2.n hc]
  refine lv_icmp_eq (tgt := 795) hx hb d_law_law_381 (by decide) (fun c_1 => ?_) (fun c_1 => ?_)
  · refine W.widen (k := 100 + ps_L N) (n := 440000 + ps_Y N) (by show 100 + ps_L N + 0 + 0 ≤ _; omega) (by show 440000 + ps_Y N + 0 + 0 ≤ _; omega) ?_
    exact ih K S ck cu F N T X q _ _ ls hI hl hP hD hS
  · exact absurd heq c_1

set_option maxHeartbeats 4000000 in
set_option maxRecDepth 100000 in
theorem lw_setByte {p : Program} {l : Launch} {e : Env} {s : State} {m : MethodId} {below : List Frame} {meth : Method} {c : Code} {sb L : Nat} {xs : Nat → Int32} {A : Nat → Prop} {dC : Nat → ClassId} {dI : Nat → Nat → Nat} {cI cB cS cZ : ClassId} {tys : List (ClassId × FieldType)} {a b : Nat → Nat} (hC : lw_C p s m meth c sb L xs A dC dI cI cB cS cZ tys) {i : Nat} (hi : 6 * i + 6 ≤ L) (ih : lw_H p l e s m below meth c sb A dC dI cI cB cS cZ a b 795 i) : lw_H p l e s m below meth c sb A dC dI cI cB cS cZ a b 386 i := by
  intro K S ck cu F N T X q H locs ls hI hl hP hD hS
  obtain ⟨⟨hx, hb, hr, hml, hown, hts0, hX, hbl, hlocks, hgv⟩, hL, hA, hAs, hbA, hK, ht, htB, htS, htZ⟩ := hC
  have hts : ∀ w ∈ ps_tbl, w.before #[Value.ref sb] s = true := fun w hw => hts0 w (List.mem_filter.mp hw).1
  obtain ⟨⟨hKb, hk0, hk1, hk3, hk4, hk5, hSb⟩, hw, hIL, hIT, hIM, hIP, hIB, hIV⟩ := id hI
  have hrw := hIL.1
  have hRL := ps_L_le hw
  have hRY := ps_Y_le hw
  by_cases hA9 : ps_ok K F (nI 2) (xs (6 * i + 1)) (xs (6 * i + 2))
  · have hix := (ps_ok_ix hKb hrw (Or.inr rfl) hA9).2
    have b2 := hKb 2
    have hcL := li_cb_L (N := N) (ps_ix F (xs (6 * i + 1)) (xs (6 * i + 2)))
    have hcY := li_cb_Y (ps_ix F (xs (6 * i + 1)) (xs (6 * i + 2))) hw (by omega)
    have hI2 : li_I K S (ps_u F 1 (ps_ix F (xs (6 * i + 1)) (xs (6 * i + 2))) ((xs (6 * i + 3)) &&& nI 255)) (ps_g N 1 (ps_ix F (xs (6 * i + 1)) (xs (6 * i + 2)))) T (ps_u X 0 (ps_ix F (xs (6 * i + 1)) (xs (6 * i + 2))) (xs (6 * i + 3)).toInt8.toInt32) := li_setb hI _ (by omega)
    have hRL2 := ps_L_le hI2.2.1
    have hRY2 := ps_Y_le hI2.2.1
    refine lv_aload_n hx hb d_law_law_386 rfl (lv_at hl 2 rfl) ?_
    refine lv_aload_n hx hb d_law_law_387 rfl (lv_at hl 3 rfl) ?_
    refine lv_iload_n hx hb d_law_law_388 rfl (lv_at hl 0 rfl) ?_
    refine lv_iconst (v := nI 1) hx hb d_law_law_389 (by decide) ?_
    refine lv_iadd hx hb d_law_law_390 ?_
    refine ps_top (z := nI (6 * i + 1)) (nI_add _ _) ?_
    refine va_sld hx hb hX hbl hbA hS (vp_in_nI (show 6 * i + 1 < L by omega) (by omega)) d_law_law_391 ?_
    refine ps_top (z := xs (6 * i + 1)) (by rw [nI_clamp (show 6 * i + 1 < 2 ^ 31 by omega)]) ?_
    refine lv_aload_n hx hb d_law_law_392 rfl (lv_at hl 3 rfl) ?_
    refine lv_iload_n hx hb d_law_law_393 rfl (lv_at hl 0 rfl) ?_
    refine lv_iconst (v := nI 2) hx hb d_law_law_394 (by decide) ?_
    refine lv_iadd hx hb d_law_law_395 ?_
    refine ps_top (z := nI (6 * i + 2)) (nI_add _ _) ?_
    refine va_sld hx hb hX hbl hbA hS (vp_in_nI (show 6 * i + 2 < L by omega) (by omega)) d_law_law_396 ?_
    refine ps_top (z := xs (6 * i + 2)) (by rw [nI_clamp (show 6 * i + 2 < 2 ^ 31 by omega)]) ?_
    refine lv_aload_n hx hb d_law_law_397 rfl (lv_at hl 3 rfl) ?_
    refine lv_iload_n hx hb d_law_law_398 rfl (lv_at hl 0 rfl) ?_
    refine lv_iconst (v := nI 3) hx hb d_law_law_399 (by decide) ?_
    refine lv_iadd hx hb d_law_law_400 ?_
    refine ps_top (z := nI (6 * i + 3)) (nI_add _ _) ?_
    refine va_sld hx hb hX hbl hbA hS (vp_in_nI (show 6 * i + 3 < L by omega) (by omega)) d_law_law_401 ?_
    refine ps_top (z := xs (6 * i + 3)) (by rw [nI_clamp (show 6 * i + 3 < 2 ^ 31 by omega)]) ?_
    refine ps_afterI (wc := pw cI a q K S ck cu F N) (wr := mw cI cB cS cZ b K S ck cu F X) hP hD hS hA [0, 1, 2, 3, 4, 5, 6, 7, 8, 9, 10, 11, 12, 13, 14, 15, 16, 17, 18, 19, 20, 21, 22, 23, 24, 25, 26, 27, 28, 29, 30, 31, 32, 33, 34, 35, 36, 37, 38, 39] [40, 41, 42, 43, 44, 45, 46, 47, 48, 49, 50, 51, 52, 53, 54, 55, 56, 57, 58] lw_s1 lw_s2 (by decide) (by decide) (ps_runVI ⟨hx, hb, hml, hown, hts⟩ (c_setByte l dC dI cI tys ht a q K S ck cu F N hw hKb hSb (xs (6 * i + 1)) (xs (6 * i + 2)) (xs (6 * i + 3)) hrw (hKb 2) (ps_dc 65536 (N 1) (ps_ix F (xs (6 * i + 1)) (xs (6 * i + 2)))) (ps_ds 65536 (N 1) (ps_ix F (xs (6 * i + 1)) (xs (6 * i + 2)))) (fun _ => ⟨Nat.le_refl _, Nat.le_refl _⟩)) (ps_cwV ps_gd 3 hts tw_332 k_PS_setByte e_PS_setByte ⟨Nat.le_of_ble_eq_true rfl, Nat.le_of_ble_eq_true rfl⟩) hK hP hD [0, 1, 2, 3, 4, 5, 6, 7, 8, 9, 10, 11, 12, 13, 14, 15, 16, 17, 18, 19, 20, 21, 22, 23, 24, 25, 26, 27, 28, 29, 30, 31, 32, 33, 34, 35, 36, 37, 38, 39] (by decide) lw_s1 0 cPS rfl rfl rfl hl.1 rfl (Nat.le_of_ble_eq_true rfl) d_law_law_402 ⟨by show 100 + ps_L N + (ps_dc 65536 (N 1) (ps_ix F (xs (6 * i + 1)) (xs (6 * i + 2)))) ≤ 600000; omega, by show 440000 + ps_Y N + (ps_ds 65536 (N 1) (ps_ix F (xs (6 * i + 1)) (xs (6 * i + 2)))) ≤ 7302250; omega⟩) (fun r1 u1 H locs h1 hP hD hS => ?_)
    obtain ⟨q1, hr1, hu1⟩ := h1.y hA9
    subst hr1
    subst hu1
    refine lv_aload_n hx hb d_law_law_405 rfl (lv_at hl 1 rfl) ?_
    refine lv_aload_n hx hb d_law_law_406 rfl (lv_at hl 3 rfl) ?_
    refine lv_iload_n hx hb d_law_law_407 rfl (lv_at hl 0 rfl) ?_
    refine lv_iconst (v := nI 1) hx hb d_law_law_408 (by decide) ?_
    refine lv_iadd hx hb d_law_law_409 ?_
    refine ps_top (z := nI (6 * i + 1)) (nI_add _ _) ?_
    refine va_sld hx hb hX hbl hbA hS (vp_in_nI (show 6 * i + 1 < L by omega) (by omega)) d_law_law_410 ?_
    refine ps_top (z := xs (6 * i + 1)) (by rw [nI_clamp (show 6 * i + 1 < 2 ^ 31 by omega)]) ?_
    refine lv_aload_n hx hb d_law_law_411 rfl (lv_at hl 3 rfl) ?_
    refine lv_iload_n hx hb d_law_law_412 rfl (lv_at hl 0 rfl) ?_
    refine lv_iconst (v := nI 2) hx hb d_law_law_413 (by decide) ?_
    refine lv_iadd hx hb d_law_law_414 ?_
    refine ps_top (z := nI (6 * i + 2)) (nI_add _ _) ?_
    refine va_sld hx hb hX hbl hbA hS (vp_in_nI (show 6 * i + 2 < L by omega) (by omega)) d_law_law_415 ?_
    refine ps_top (z := xs (6 * i + 2)) (by rw [nI_clamp (show 6 * i + 2 < 2 ^ 31 by omega)]) ?_
    refine lv_aload_n hx hb d_law_law_416 rfl (lv_at hl 3 rfl) ?_
    refine lv_iload_n hx hb d_law_law_417 rfl (lv_at hl 0 rfl) ?_
    refine lv_iconst (v := nI 3) hx hb d_law_law_418 (by decide) ?_
    refine lv_iadd hx hb d_law_law_419 ?_
    refine ps_top (z := nI (6 * i + 3)) (nI_add _ _) ?_
    refine va_sld hx hb hX hbl hbA hS (vp_in_nI (show 6 * i + 3 < L by omega) (by omega)) d_law_law_420 ?_
    refine ps_top (z := xs (6 * i + 3)) (by rw [nI_clamp (show 6 * i + 3 < 2 ^ 31 by omega)]) ?_
    refine ps_afterI (wc := mw cI cB cS cZ b K S ck cu F X) (wr := pw cI a q1 K S ck cu (ps_u F 1 (ps_ix F (xs (6 * i + 1)) (xs (6 * i + 2))) ((xs (6 * i + 3)) &&& nI 255)) (ps_g N 1 (ps_ix F (xs (6 * i + 1)) (xs (6 * i + 2))))) hP hD hS hA [0, 1, 2, 3, 4, 5, 6, 7, 8, 9, 10, 11, 12, 13, 14, 15, 16, 17, 18] [19, 20, 21, 22, 23, 24, 25, 26, 27, 28, 29, 30, 31, 32, 33, 34, 35, 36, 37, 38, 39, 40, 41, 42, 43, 44, 45, 46, 47, 48, 49, 50, 51, 52, 53, 54, 55, 56, 57, 58] lw_s3 lw_s4 (by decide) (by decide) (ps_runVI ⟨hx, hb, hml, hown, hts⟩ (m_setByte l dC dI cI tys ht cB cS cZ htB htS htZ b K S ck cu F X hKb hSb (xs (6 * i + 1)) (xs (6 * i + 2)) (xs (6 * i + 3)) hk0 hk1 hrw) (ps_cwV ps_gd 3 hts tw_333 k_Mod_setByte e_Mod_setByte ⟨Nat.le_of_ble_eq_true rfl, Nat.le_of_ble_eq_true rfl⟩) hK hP hD [0, 1, 2, 3, 4, 5, 6, 7, 8, 9, 10, 11, 12, 13, 14, 15, 16, 17, 18] (by decide) lw_s3 0 cMod rfl rfl rfl hl.1 rfl (Nat.le_of_ble_eq_true rfl) d_law_law_421 ⟨by show 100 + ps_L N + (ps_dc 65536 (N 1) (ps_ix F (xs (6 * i + 1)) (xs (6 * i + 2)))) + 0 ≤ 600000; omega, by show 440000 + ps_Y N + (ps_ds 65536 (N 1) (ps_ix F (xs (6 * i + 1)) (xs (6 * i + 2)))) + 0 ≤ 7302250; omega⟩) (fun r2 u2 H locs h2 hP hD hS => ?_)
    obtain ⟨hr2, hu2⟩ := h2.y hA9
    subst hr2
    subst hu2
    refine lv_icmp_eq (tgt := 795) hx hb d_law_law_424 (by decide) (fun c_1 => ?_) (fun c_1 => ?_)
    · refine W.widen (k := 100 + ps_L (ps_g N 1 (ps_ix F (xs (6 * i + 1)) (xs (6 * i + 2))))) (n := 440000 + ps_Y (ps_g N 1 (ps_ix F (xs (6 * i + 1)) (xs (6 * i + 2))))) (by show 100 + ps_L N + (ps_dc 65536 (N 1) (ps_ix F (xs (6 * i + 1)) (xs (6 * i + 2)))) + 0 ≤ _; omega) (by show 440000 + ps_Y N + (ps_ds 65536 (N 1) (ps_ix F (xs (6 * i + 1)) (xs (6 * i + 2)))) + 0 ≤ _; omega) ?_
      exact ih _ _ _ _ _ _ _ _ _ _ _ ls hI2 hl hP hD hS
    · exact absurd rfl c_1
  · have hI2 : li_I K S F N T X := hI
    have hRL2 := ps_L_le hI2.2.1
    have hRY2 := ps_Y_le hI2.2.1
    refine lv_aload_n hx hb d_law_law_386 rfl (lv_at hl 2 rfl) ?_
    refine lv_aload_n hx hb d_law_law_387 rfl (lv_at hl 3 rfl) ?_
    refine lv_iload_n hx hb d_law_law_388 rfl (lv_at hl 0 rfl) ?_
    refine lv_iconst (v := nI 1) hx hb d_law_law_389 (by decide) ?_
    refine lv_iadd hx hb d_law_law_390 ?_
    refine ps_top (z := nI (6 * i + 1)) (nI_add _ _) ?_
    refine va_sld hx hb hX hbl hbA hS (vp_in_nI (show 6 * i + 1 < L by omega) (by omega)) d_law_law_391 ?_
    refine ps_top (z := xs (6 * i + 1)) (by rw [nI_clamp (show 6 * i + 1 < 2 ^ 31 by omega)]) ?_
    refine lv_aload_n hx hb d_law_law_392 rfl (lv_at hl 3 rfl) ?_
    refine lv_iload_n hx hb d_law_law_393 rfl (lv_at hl 0 rfl) ?_
    refine lv_iconst (v := nI 2) hx hb d_law_law_394 (by decide) ?_
    refine lv_iadd hx hb d_law_law_395 ?_
    refine ps_top (z := nI (6 * i + 2)) (nI_add _ _) ?_
    refine va_sld hx hb hX hbl hbA hS (vp_in_nI (show 6 * i + 2 < L by omega) (by omega)) d_law_law_396 ?_
    refine ps_top (z := xs (6 * i + 2)) (by rw [nI_clamp (show 6 * i + 2 < 2 ^ 31 by omega)]) ?_
    refine lv_aload_n hx hb d_law_law_397 rfl (lv_at hl 3 rfl) ?_
    refine lv_iload_n hx hb d_law_law_398 rfl (lv_at hl 0 rfl) ?_
    refine lv_iconst (v := nI 3) hx hb d_law_law_399 (by decide) ?_
    refine lv_iadd hx hb d_law_law_400 ?_
    refine ps_top (z := nI (6 * i + 3)) (nI_add _ _) ?_
    refine va_sld hx hb hX hbl hbA hS (vp_in_nI (show 6 * i + 3 < L by omega) (by omega)) d_law_law_401 ?_
    refine ps_top (z := xs (6 * i + 3)) (by rw [nI_clamp (show 6 * i + 3 < 2 ^ 31 by omega)]) ?_
    refine ps_afterI (wc := pw cI a q K S ck cu F N) (wr := mw cI cB cS cZ b K S ck cu F X) hP hD hS hA [0, 1, 2, 3, 4, 5, 6, 7, 8, 9, 10, 11, 12, 13, 14, 15, 16, 17, 18, 19, 20, 21, 22, 23, 24, 25, 26, 27, 28, 29, 30, 31, 32, 33, 34, 35, 36, 37, 38, 39] [40, 41, 42, 43, 44, 45, 46, 47, 48, 49, 50, 51, 52, 53, 54, 55, 56, 57, 58] lw_s1 lw_s2 (by decide) (by decide) (ps_runVI ⟨hx, hb, hml, hown, hts⟩ (c_setByte l dC dI cI tys ht a q K S ck cu F N hw hKb hSb (xs (6 * i + 1)) (xs (6 * i + 2)) (xs (6 * i + 3)) hrw (hKb 2) 0 0 (fun q => absurd q hA9)) (ps_cwV ps_gd 3 hts tw_332 k_PS_setByte e_PS_setByte ⟨Nat.le_of_ble_eq_true rfl, Nat.le_of_ble_eq_true rfl⟩) hK hP hD [0, 1, 2, 3, 4, 5, 6, 7, 8, 9, 10, 11, 12, 13, 14, 15, 16, 17, 18, 19, 20, 21, 22, 23, 24, 25, 26, 27, 28, 29, 30, 31, 32, 33, 34, 35, 36, 37, 38, 39] (by decide) lw_s1 0 cPS rfl rfl rfl hl.1 rfl (Nat.le_of_ble_eq_true rfl) d_law_law_402 ⟨by show 100 + ps_L N + (0) ≤ 600000; omega, by show 440000 + ps_Y N + (0) ≤ 7302250; omega⟩) (fun r1 u1 H locs h1 hP hD hS => ?_)
    obtain ⟨hr1, hu1⟩ := h1.n hA9
    subst hr1
    subst hu1
    refine lv_aload_n hx hb d_law_law_405 rfl (lv_at hl 1 rfl) ?_
    refine lv_aload_n hx hb d_law_law_406 rfl (lv_at hl 3 rfl) ?_
    refine lv_iload_n hx hb d_law_law_407 rfl (lv_at hl 0 rfl) ?_
    refine lv_iconst (v := nI 1) hx hb d_law_law_408 (by decide) ?_
    refine lv_iadd hx hb d_law_law_409 ?_
    refine ps_top (z := nI (6 * i + 1)) (nI_add _ _) ?_
    refine va_sld hx hb hX hbl hbA hS (vp_in_nI (show 6 * i + 1 < L by omega) (by omega)) d_law_law_410 ?_
    refine ps_top (z := xs (6 * i + 1)) (by rw [nI_clamp (show 6 * i + 1 < 2 ^ 31 by omega)]) ?_
    refine lv_aload_n hx hb d_law_law_411 rfl (lv_at hl 3 rfl) ?_
    refine lv_iload_n hx hb d_law_law_412 rfl (lv_at hl 0 rfl) ?_
    refine lv_iconst (v := nI 2) hx hb d_law_law_413 (by decide) ?_
    refine lv_iadd hx hb d_law_law_414 ?_
    refine ps_top (z := nI (6 * i + 2)) (nI_add _ _) ?_
    refine va_sld hx hb hX hbl hbA hS (vp_in_nI (show 6 * i + 2 < L by omega) (by omega)) d_law_law_415 ?_
    refine ps_top (z := xs (6 * i + 2)) (by rw [nI_clamp (show 6 * i + 2 < 2 ^ 31 by omega)]) ?_
    refine lv_aload_n hx hb d_law_law_416 rfl (lv_at hl 3 rfl) ?_
    refine lv_iload_n hx hb d_law_law_417 rfl (lv_at hl 0 rfl) ?_
    refine lv_iconst (v := nI 3) hx hb d_law_law_418 (by decide) ?_
    refine lv_iadd hx hb d_law_law_419 ?_
    refine ps_top (z := nI (6 * i + 3)) (nI_add _ _) ?_
    refine va_sld hx hb hX hbl hbA hS (vp_in_nI (show 6 * i + 3 < L by omega) (by omega)) d_law_law_420 ?_
    refine ps_top (z := xs (6 * i + 3)) (by rw [nI_clamp (show 6 * i + 3 < 2 ^ 31 by omega)]) ?_
    refine ps_afterI (wc := mw cI cB cS cZ b K S ck cu F X) (wr := pw cI a q K S ck cu F N) hP hD hS hA [0, 1, 2, 3, 4, 5, 6, 7, 8, 9, 10, 11, 12, 13, 14, 15, 16, 17, 18] [19, 20, 21, 22, 23, 24, 25, 26, 27, 28, 29, 30, 31, 32, 33, 34, 35, 36, 37, 38, 39, 40, 41, 42, 43, 44, 45, 46, 47, 48, 49, 50, 51, 52, 53, 54, 55, 56, 57, 58] lw_s3 lw_s4 (by decide) (by decide) (ps_runVI ⟨hx, hb, hml, hown, hts⟩ (m_setByte l dC dI cI tys ht cB cS cZ htB htS htZ b K S ck cu F X hKb hSb (xs (6 * i + 1)) (xs (6 * i + 2)) (xs (6 * i + 3)) hk0 hk1 hrw) (ps_cwV ps_gd 3 hts tw_333 k_Mod_setByte e_Mod_setByte ⟨Nat.le_of_ble_eq_true rfl, Nat.le_of_ble_eq_true rfl⟩) hK hP hD [0, 1, 2, 3, 4, 5, 6, 7, 8, 9, 10, 11, 12, 13, 14, 15, 16, 17, 18] (by decide) lw_s3 0 cMod rfl rfl rfl hl.1 rfl (Nat.le_of_ble_eq_true rfl) d_law_law_421 ⟨by show 100 + ps_L N + (0) + 0 ≤ 600000; omega, by show 440000 + ps_Y N + (0) + 0 ≤ 7302250; omega⟩) (fun r2 u2 H locs h2 hP hD hS => ?_)
    obtain ⟨hr2, hu2⟩ := h2.n hA9
    subst hr2
    subst hu2
    refine lv_icmp_eq (tgt := 795) hx hb d_law_law_424 (by decide) (fun c_2 => ?_) (fun c_2 => ?_)
    · refine W.widen (k := 100 + ps_L N) (n := 440000 + ps_Y N) (by show 100 + ps_L N + (0) + 0 ≤ _; omega) (by show 440000 + ps_Y N + (0) + 0 ≤ _; omega) ?_
      exact ih _ _ _ _ _ _ _ _ _ _ _ ls hI2 hl hP hD hS
    · exact absurd rfl c_2

set_option maxHeartbeats 4000000 in
set_option maxRecDepth 100000 in
theorem lw_dictionary {p : Program} {l : Launch} {e : Env} {s : State} {m : MethodId} {below : List Frame} {meth : Method} {c : Code} {sb L : Nat} {xs : Nat → Int32} {A : Nat → Prop} {dC : Nat → ClassId} {dI : Nat → Nat → Nat} {cI cB cS cZ : ClassId} {tys : List (ClassId × FieldType)} {a b : Nat → Nat} (hC : lw_C p s m meth c sb L xs A dC dI cI cB cS cZ tys) {i : Nat} (hi : 6 * i + 6 ≤ L) (ih : lw_H p l e s m below meth c sb A dC dI cI cB cS cZ a b 795 i) : lw_H p l e s m below meth c sb A dC dI cI cB cS cZ a b 429 i := by
  intro K S ck cu F N T X q H locs ls hI hl hP hD hS
  obtain ⟨⟨hx, hb, hr, hml, hown, hts0, hX, hbl, hlocks, hgv⟩, hL, hA, hAs, hbA, hK, ht, htB, htS, htZ⟩ := hC
  have hts : ∀ w ∈ ps_tbl, w.before #[Value.ref sb] s = true := fun w hw => hts0 w (List.mem_filter.mp hw).1
  obtain ⟨⟨hKb, hk0, hk1, hk3, hk4, hk5, hSb⟩, hw, hIL, hIT, hIM, hIP, hIB, hIV⟩ := id hI
  have hrw := hIL.1
  have hRL := ps_L_le hw
  have hRY := ps_Y_le hw
  by_cases hA9 : 1024 ≤ K 3
  · have hI2 : li_I K S F N T X := hI
    have hRL2 := ps_L_le hI2.2.1
    have hRY2 := ps_Y_le hI2.2.1
    refine lv_aload_n hx hb d_law_law_429 rfl (lv_at hl 2 rfl) ?_
    refine ps_afterI (wc := pw cI a q K S ck cu F N) (wr := mw cI cB cS cZ b K S ck cu F X) hP hD hS hA [0, 1, 2, 3, 4, 5, 6, 7, 8, 9, 10, 11, 12, 13, 14, 15, 16, 17, 18, 19, 20, 21, 22, 23, 24, 25, 26, 27, 28, 29, 30, 31, 32, 33, 34, 35, 36, 37, 38, 39] [40, 41, 42, 43, 44, 45, 46, 47, 48, 49, 50, 51, 52, 53, 54, 55, 56, 57, 58] lw_s1 lw_s2 (by decide) (by decide) (ps_runVI ⟨hx, hb, hml, hown, hts⟩ (c_dictionary l dC dI cI tys ht a q K S ck cu F N hw hKb hSb) (ps_cwV ps_gd 0 hts tw_334 k_PS_dictionary e_PS_dictionary ⟨Nat.le_of_ble_eq_true rfl, Nat.le_of_ble_eq_true rfl⟩) hK hP hD [0, 1, 2, 3, 4, 5, 6, 7, 8, 9, 10, 11, 12, 13, 14, 15, 16, 17, 18, 19, 20, 21, 22, 23, 24, 25, 26, 27, 28, 29, 30, 31, 32, 33, 34, 35, 36, 37, 38, 39] (by decide) lw_s1 0 cPS rfl rfl rfl hl.1 rfl (Nat.le_of_ble_eq_true rfl) d_law_law_430 ⟨by show 100 + ps_L N + (0) ≤ 600000; omega, by show 440000 + ps_Y N + (0) ≤ 7302250; omega⟩) (fun r1 u1 H locs h1 hP hD hS => ?_)
    obtain ⟨hr1, hu1⟩ := h1.y hA9
    subst hr1
    subst hu1
    refine lv_aload_n hx hb d_law_law_433 rfl (lv_at hl 1 rfl) ?_
    refine ps_afterI (wc := mw cI cB cS cZ b K S ck cu F X) (wr := pw cI a q K S ck cu F N) hP hD hS hA [0, 1, 2, 3, 4, 5, 6, 7, 8, 9, 10, 11, 12, 13, 14, 15, 16, 17, 18] [19, 20, 21, 22, 23, 24, 25, 26, 27, 28, 29, 30, 31, 32, 33, 34, 35, 36, 37, 38, 39, 40, 41, 42, 43, 44, 45, 46, 47, 48, 49, 50, 51, 52, 53, 54, 55, 56, 57, 58] lw_s3 lw_s4 (by decide) (by decide) (ps_runVI ⟨hx, hb, hml, hown, hts⟩ (m_dictionary l dC dI cI tys ht cB cS cZ htB htS htZ b K S ck cu F X hKb hSb hk3) (ps_cwV ps_gd 0 hts tw_335 k_Mod_dictionary e_Mod_dictionary ⟨Nat.le_of_ble_eq_true rfl, Nat.le_of_ble_eq_true rfl⟩) hK hP hD [0, 1, 2, 3, 4, 5, 6, 7, 8, 9, 10, 11, 12, 13, 14, 15, 16, 17, 18] (by decide) lw_s3 0 cMod rfl rfl rfl hl.1 rfl (Nat.le_of_ble_eq_true rfl) d_law_law_434 ⟨by show 100 + ps_L N + (0) + 0 ≤ 600000; omega, by show 440000 + ps_Y N + (0) + 0 ≤ 7302250; omega⟩) (fun r2 u2 H locs h2 hP hD hS => ?_)
    obtain ⟨hr2, hu2⟩ := h2.y hA9
    subst hr2
    subst hu2
    refine lv_icmp_eq (tgt := 795) hx hb d_law_law_437 (by decide) (fun c_1 => ?_) (fun c_1 => ?_)
    · refine W.widen (k := 100 + ps_L N) (n := 440000 + ps_Y N) (by show 100 + ps_L N + (0) + 0 ≤ _; omega) (by show 440000 + ps_Y N + (0) + 0 ≤ _; omega) ?_
      exact ih _ _ _ _ _ _ _ _ _ _ _ ls hI2 hl hP hD hS
    · exact absurd rfl c_1
  · have hI2 : li_I (va_up K 3 (K 3 + 1)) S F N T X := li_dict hI hA9
    have hRL2 := ps_L_le hI2.2.1
    have hRY2 := ps_Y_le hI2.2.1
    refine lv_aload_n hx hb d_law_law_429 rfl (lv_at hl 2 rfl) ?_
    refine ps_afterI (wc := pw cI a q K S ck cu F N) (wr := mw cI cB cS cZ b K S ck cu F X) hP hD hS hA [0, 1, 2, 3, 4, 5, 6, 7, 8, 9, 10, 11, 12, 13, 14, 15, 16, 17, 18, 19, 20, 21, 22, 23, 24, 25, 26, 27, 28, 29, 30, 31, 32, 33, 34, 35, 36, 37, 38, 39] [40, 41, 42, 43, 44, 45, 46, 47, 48, 49, 50, 51, 52, 53, 54, 55, 56, 57, 58] lw_s1 lw_s2 (by decide) (by decide) (ps_runVI ⟨hx, hb, hml, hown, hts⟩ (c_dictionary l dC dI cI tys ht a q K S ck cu F N hw hKb hSb) (ps_cwV ps_gd 0 hts tw_334 k_PS_dictionary e_PS_dictionary ⟨Nat.le_of_ble_eq_true rfl, Nat.le_of_ble_eq_true rfl⟩) hK hP hD [0, 1, 2, 3, 4, 5, 6, 7, 8, 9, 10, 11, 12, 13, 14, 15, 16, 17, 18, 19, 20, 21, 22, 23, 24, 25, 26, 27, 28, 29, 30, 31, 32, 33, 34, 35, 36, 37, 38, 39] (by decide) lw_s1 0 cPS rfl rfl rfl hl.1 rfl (Nat.le_of_ble_eq_true rfl) d_law_law_430 ⟨by show 100 + ps_L N + (0) ≤ 600000; omega, by show 440000 + ps_Y N + (0) ≤ 7302250; omega⟩) (fun r1 u1 H locs h1 hP hD hS => ?_)
    obtain ⟨hr1, hu1⟩ := h1.n hA9
    subst hr1
    subst hu1
    refine lv_aload_n hx hb d_law_law_433 rfl (lv_at hl 1 rfl) ?_
    refine ps_afterI (wc := mw cI cB cS cZ b K S ck cu F X) (wr := pw cI a q (va_up K 3 (K 3 + 1)) S ck cu F N) hP hD hS hA [0, 1, 2, 3, 4, 5, 6, 7, 8, 9, 10, 11, 12, 13, 14, 15, 16, 17, 18] [19, 20, 21, 22, 23, 24, 25, 26, 27, 28, 29, 30, 31, 32, 33, 34, 35, 36, 37, 38, 39, 40, 41, 42, 43, 44, 45, 46, 47, 48, 49, 50, 51, 52, 53, 54, 55, 56, 57, 58] lw_s3 lw_s4 (by decide) (by decide) (ps_runVI ⟨hx, hb, hml, hown, hts⟩ (m_dictionary l dC dI cI tys ht cB cS cZ htB htS htZ b K S ck cu F X hKb hSb hk3) (ps_cwV ps_gd 0 hts tw_335 k_Mod_dictionary e_Mod_dictionary ⟨Nat.le_of_ble_eq_true rfl, Nat.le_of_ble_eq_true rfl⟩) hK hP hD [0, 1, 2, 3, 4, 5, 6, 7, 8, 9, 10, 11, 12, 13, 14, 15, 16, 17, 18] (by decide) lw_s3 0 cMod rfl rfl rfl hl.1 rfl (Nat.le_of_ble_eq_true rfl) d_law_law_434 ⟨by show 100 + ps_L N + (0) + 0 ≤ 600000; omega, by show 440000 + ps_Y N + (0) + 0 ≤ 7302250; omega⟩) (fun r2 u2 H locs h2 hP hD hS => ?_)
    obtain ⟨hr2, hu2⟩ := h2.n hA9
    subst hr2
    subst hu2
    refine lv_icmp_eq (tgt := 795) hx hb d_law_law_437 (by decide) (fun c_2 => ?_) (fun c_2 => ?_)
    · refine W.widen (k := 100 + ps_L N) (n := 440000 + ps_Y N) (by show 100 + ps_L N + (0) + 0 ≤ _; omega) (by show 440000 + ps_Y N + (0) + 0 ≤ _; omega) ?_
      exact ih _ _ _ _ _ _ _ _ _ _ _ ls hI2 hl hP hD hS
    · exact absurd rfl c_2

set_option maxHeartbeats 4000000 in
set_option maxRecDepth 100000 in
theorem lw_cursorKind {p : Program} {l : Launch} {e : Env} {s : State} {m : MethodId} {below : List Frame} {meth : Method} {c : Code} {sb L : Nat} {xs : Nat → Int32} {A : Nat → Prop} {dC : Nat → ClassId} {dI : Nat → Nat → Nat} {cI cB cS cZ : ClassId} {tys : List (ClassId × FieldType)} {a b : Nat → Nat} (hC : lw_C p s m meth c sb L xs A dC dI cI cB cS cZ tys) {i : Nat} (hi : 6 * i + 6 ≤ L) (ih : lw_H p l e s m below meth c sb A dC dI cI cB cS cZ a b 795 i) : lw_H p l e s m below meth c sb A dC dI cI cB cS cZ a b 700 i := by
  intro K S ck cu F N T X q H locs ls hI hl hP hD hS
  obtain ⟨⟨hx, hb, hr, hml, hown, hts0, hX, hbl, hlocks, hgv⟩, hL, hA, hAs, hbA, hK, ht, htB, htS, htZ⟩ := hC
  have hts : ∀ w ∈ ps_tbl, w.before #[Value.ref sb] s = true := fun w hw => hts0 w (List.mem_filter.mp hw).1
  obtain ⟨⟨hKb, hk0, hk1, hk3, hk4, hk5, hSb⟩, hw, hIL, hIT, hIM, hIP, hIB, hIV⟩ := id hI
  have hrw := hIL.1
  have hRL := ps_L_le hw
  have hRY := ps_Y_le hw
  refine lv_aload_n hx hb d_law_law_700 rfl (lv_at hl 2 rfl) ?_
  refine ps_readI (wc := pw cI a q K S ck cu F N) hP hD hS hA [0, 1, 2, 3, 4, 5, 6, 7, 8, 9, 10, 11, 12, 13, 14, 15, 16, 17, 18, 19, 20, 21, 22, 23, 24, 25, 26, 27, 28, 29, 30, 31, 32, 33, 34, 35, 36, 37, 38, 39] lw_s1 (fun _ _ h => h.1) (ps_runVI ⟨hx, hb, hml, hown, hts⟩ (c_cursorKind l dC dI cI tys ht a q K S ck cu F N hw hKb hSb) (ps_cwV ps_gd 0 hts tw_336 k_PS_cursorKind e_PS_cursorKind ⟨Nat.le_of_ble_eq_true rfl, Nat.le_of_ble_eq_true rfl⟩) hK hP hD [0, 1, 2, 3, 4, 5, 6, 7, 8, 9, 10, 11, 12, 13, 14, 15, 16, 17, 18, 19, 20, 21, 22, 23, 24, 25, 26, 27, 28, 29, 30, 31, 32, 33, 34, 35, 36, 37, 38, 39] (by decide) lw_s1 0 cPS rfl rfl rfl hl.1 rfl (Nat.le_of_ble_eq_true rfl) d_law_law_701 ⟨by show 100 + ps_L N + 0 ≤ 600000; omega, by show 440000 + ps_Y N + 0 ≤ 7302250; omega⟩) (fun r1 H locs hr1 hP hS => ?_)
  have hr1 := hr1.2
  refine lv_aload_n hx hb d_law_law_704 rfl (lv_at hl 1 rfl) ?_
  refine ps_readI (wc := mw cI cB cS cZ b K S ck cu F X) hP hD hS hA [40, 41, 42, 43, 44, 45, 46, 47, 48, 49, 50, 51, 52, 53, 54, 55, 56, 57, 58] lw_s2 (fun _ _ h => h.1) (ps_runVI ⟨hx, hb, hml, hown, hts⟩ (m_cursorKind l dC dI cI tys ht cB cS cZ htB htS htZ b K S ck cu F X hKb hSb) (ps_cwV ps_gd 0 hts tw_337 k_Mod_cursorKind e_Mod_cursorKind ⟨Nat.le_of_ble_eq_true rfl, Nat.le_of_ble_eq_true rfl⟩) hK hP hD [40, 41, 42, 43, 44, 45, 46, 47, 48, 49, 50, 51, 52, 53, 54, 55, 56, 57, 58] (by decide) lw_s2 0 cMod rfl rfl rfl hl.1 rfl (Nat.le_of_ble_eq_true rfl) d_law_law_705 ⟨by show 100 + ps_L N + 0 + 0 ≤ 600000; omega, by show 440000 + ps_Y N + 0 + 0 ≤ 7302250; omega⟩) (fun r2 H locs hr2 hP hS => ?_)
  have hr2 := hr2.2
  have heq : r1 = r2 := by rw [hr1, hr2]
  refine lv_icmp_eq (tgt := 795) hx hb d_law_law_708 (by decide) (fun c_1 => ?_) (fun c_1 => ?_)
  · refine W.widen (k := 100 + ps_L N) (n := 440000 + ps_Y N) (by show 100 + ps_L N + 0 + 0 ≤ _; omega) (by show 440000 + ps_Y N + 0 + 0 ≤ _; omega) ?_
    exact ih K S ck cu F N T X q _ _ ls hI hl hP hD hS
  · exact absurd heq c_1

set_option maxHeartbeats 4000000 in
set_option maxRecDepth 100000 in
theorem lw_cursorNumber {p : Program} {l : Launch} {e : Env} {s : State} {m : MethodId} {below : List Frame} {meth : Method} {c : Code} {sb L : Nat} {xs : Nat → Int32} {A : Nat → Prop} {dC : Nat → ClassId} {dI : Nat → Nat → Nat} {cI cB cS cZ : ClassId} {tys : List (ClassId × FieldType)} {a b : Nat → Nat} (hC : lw_C p s m meth c sb L xs A dC dI cI cB cS cZ tys) {i : Nat} (hi : 6 * i + 6 ≤ L) (ih : lw_H p l e s m below meth c sb A dC dI cI cB cS cZ a b 795 i) : lw_H p l e s m below meth c sb A dC dI cI cB cS cZ a b 713 i := by
  intro K S ck cu F N T X q H locs ls hI hl hP hD hS
  obtain ⟨⟨hx, hb, hr, hml, hown, hts0, hX, hbl, hlocks, hgv⟩, hL, hA, hAs, hbA, hK, ht, htB, htS, htZ⟩ := hC
  have hts : ∀ w ∈ ps_tbl, w.before #[Value.ref sb] s = true := fun w hw => hts0 w (List.mem_filter.mp hw).1
  obtain ⟨⟨hKb, hk0, hk1, hk3, hk4, hk5, hSb⟩, hw, hIL, hIT, hIM, hIP, hIB, hIV⟩ := id hI
  have hrw := hIL.1
  have hRL := ps_L_le hw
  have hRY := ps_Y_le hw
  refine lv_aload_n hx hb d_law_law_713 rfl (lv_at hl 2 rfl) ?_
  refine ps_readI (wc := pw cI a q K S ck cu F N) hP hD hS hA [0, 1, 2, 3, 4, 5, 6, 7, 8, 9, 10, 11, 12, 13, 14, 15, 16, 17, 18, 19, 20, 21, 22, 23, 24, 25, 26, 27, 28, 29, 30, 31, 32, 33, 34, 35, 36, 37, 38, 39] lw_s1 (fun _ _ h => h.1) (ps_runVI ⟨hx, hb, hml, hown, hts⟩ (c_cursorNumber l dC dI cI tys ht a q K S ck cu F N hw hKb hSb) (ps_cwV ps_gd 0 hts tw_338 k_PS_cursorNumber e_PS_cursorNumber ⟨Nat.le_of_ble_eq_true rfl, Nat.le_of_ble_eq_true rfl⟩) hK hP hD [0, 1, 2, 3, 4, 5, 6, 7, 8, 9, 10, 11, 12, 13, 14, 15, 16, 17, 18, 19, 20, 21, 22, 23, 24, 25, 26, 27, 28, 29, 30, 31, 32, 33, 34, 35, 36, 37, 38, 39] (by decide) lw_s1 0 cPS rfl rfl rfl hl.1 rfl (Nat.le_of_ble_eq_true rfl) d_law_law_714 ⟨by show 100 + ps_L N + 0 ≤ 600000; omega, by show 440000 + ps_Y N + 0 ≤ 7302250; omega⟩) (fun r1 H locs hr1 hP hS => ?_)
  have hr1 := hr1.2
  refine lv_aload_n hx hb d_law_law_717 rfl (lv_at hl 1 rfl) ?_
  refine ps_readI (wc := mw cI cB cS cZ b K S ck cu F X) hP hD hS hA [40, 41, 42, 43, 44, 45, 46, 47, 48, 49, 50, 51, 52, 53, 54, 55, 56, 57, 58] lw_s2 (fun _ _ h => h.1) (ps_runVI ⟨hx, hb, hml, hown, hts⟩ (m_cursorNumber l dC dI cI tys ht cB cS cZ htB htS htZ b K S ck cu F X hKb hSb) (ps_cwV ps_gd 0 hts tw_339 k_Mod_cursorNumber e_Mod_cursorNumber ⟨Nat.le_of_ble_eq_true rfl, Nat.le_of_ble_eq_true rfl⟩) hK hP hD [40, 41, 42, 43, 44, 45, 46, 47, 48, 49, 50, 51, 52, 53, 54, 55, 56, 57, 58] (by decide) lw_s2 0 cMod rfl rfl rfl hl.1 rfl (Nat.le_of_ble_eq_true rfl) d_law_law_718 ⟨by show 100 + ps_L N + 0 + 0 ≤ 600000; omega, by show 440000 + ps_Y N + 0 + 0 ≤ 7302250; omega⟩) (fun r2 H locs hr2 hP hS => ?_)
  have hr2 := hr2.2
  have heq : r1 = r2 := by rw [hr1, hr2]
  refine lv_icmp_eq (tgt := 795) hx hb d_law_law_721 (by decide) (fun c_1 => ?_) (fun c_1 => ?_)
  · refine W.widen (k := 100 + ps_L N) (n := 440000 + ps_Y N) (by show 100 + ps_L N + 0 + 0 ≤ _; omega) (by show 440000 + ps_Y N + 0 + 0 ≤ _; omega) ?_
    exact ih K S ck cu F N T X q _ _ ls hI hl hP hD hS
  · exact absurd heq c_1

set_option maxHeartbeats 4000000 in
set_option maxRecDepth 100000 in
theorem lw_noted {p : Program} {l : Launch} {e : Env} {s : State} {m : MethodId} {below : List Frame} {meth : Method} {c : Code} {sb L : Nat} {xs : Nat → Int32} {A : Nat → Prop} {dC : Nat → ClassId} {dI : Nat → Nat → Nat} {cI cB cS cZ : ClassId} {tys : List (ClassId × FieldType)} {a b : Nat → Nat} (hC : lw_C p s m meth c sb L xs A dC dI cI cB cS cZ tys) {i : Nat} (hi : 6 * i + 6 ≤ L) (ih : lw_H p l e s m below meth c sb A dC dI cI cB cS cZ a b 795 i) : lw_H p l e s m below meth c sb A dC dI cI cB cS cZ a b 762 i := by
  intro K S ck cu F N T X q H locs ls hI hl hP hD hS
  obtain ⟨⟨hx, hb, hr, hml, hown, hts0, hX, hbl, hlocks, hgv⟩, hL, hA, hAs, hbA, hK, ht, htB, htS, htZ⟩ := hC
  have hts : ∀ w ∈ ps_tbl, w.before #[Value.ref sb] s = true := fun w hw => hts0 w (List.mem_filter.mp hw).1
  obtain ⟨⟨hKb, hk0, hk1, hk3, hk4, hk5, hSb⟩, hw, hIL, hIT, hIM, hIP, hIB, hIV⟩ := id hI
  have hrw := hIL.1
  have hRL := ps_L_le hw
  have hRY := ps_Y_le hw
  refine lv_aload_n hx hb d_law_law_762 rfl (lv_at hl 2 rfl) ?_
  refine lv_aload_n hx hb d_law_law_763 rfl (lv_at hl 3 rfl) ?_
  refine lv_iload_n hx hb d_law_law_764 rfl (lv_at hl 0 rfl) ?_
  refine lv_iconst (v := nI 1) hx hb d_law_law_765 (by decide) ?_
  refine lv_iadd hx hb d_law_law_766 ?_
  refine ps_top (z := nI (6 * i + 1)) (nI_add _ _) ?_
  refine va_sld hx hb hX hbl hbA hS (vp_in_nI (show 6 * i + 1 < L by omega) (by omega)) d_law_law_767 ?_
  refine ps_top (z := xs (6 * i + 1)) (by rw [nI_clamp (show 6 * i + 1 < 2 ^ 31 by omega)]) ?_
  refine lv_aload_n hx hb d_law_law_768 rfl (lv_at hl 3 rfl) ?_
  refine lv_iload_n hx hb d_law_law_769 rfl (lv_at hl 0 rfl) ?_
  refine lv_iconst (v := nI 2) hx hb d_law_law_770 (by decide) ?_
  refine lv_iadd hx hb d_law_law_771 ?_
  refine ps_top (z := nI (6 * i + 2)) (nI_add _ _) ?_
  refine va_sld hx hb hX hbl hbA hS (vp_in_nI (show 6 * i + 2 < L by omega) (by omega)) d_law_law_772 ?_
  refine ps_top (z := xs (6 * i + 2)) (by rw [nI_clamp (show 6 * i + 2 < 2 ^ 31 by omega)]) ?_
  refine ps_readI (wc := pw cI a q K S ck cu F N) hP hD hS hA [0, 1, 2, 3, 4, 5, 6, 7, 8, 9, 10, 11, 12, 13, 14, 15, 16, 17, 18, 19, 20, 21, 22, 23, 24, 25, 26, 27, 28, 29, 30, 31, 32, 33, 34, 35, 36, 37, 38, 39] lw_s1 (fun _ _ h => h.1) (ps_runVI ⟨hx, hb, hml, hown, hts⟩ (c_noted l dC dI cI tys ht a q K S ck cu F N hw hKb hSb (xs (6 * i + 1)) (xs (6 * i + 2))) (ps_cwV ps_gd 2 hts tw_340 k_PS_noted e_PS_noted ⟨Nat.le_of_ble_eq_true rfl, Nat.le_of_ble_eq_true rfl⟩) hK hP hD [0, 1, 2, 3, 4, 5, 6, 7, 8, 9, 10, 11, 12, 13, 14, 15, 16, 17, 18, 19, 20, 21, 22, 23, 24, 25, 26, 27, 28, 29, 30, 31, 32, 33, 34, 35, 36, 37, 38, 39] (by decide) lw_s1 0 cPS rfl rfl rfl hl.1 rfl (Nat.le_of_ble_eq_true rfl) d_law_law_773 ⟨by show 100 + ps_L N + 0 ≤ 600000; omega, by show 440000 + ps_Y N + 0 ≤ 7302250; omega⟩) (fun r1 H locs hr1 hP hS => ?_)
  have hr1 := hr1.2
  refine lv_aload_n hx hb d_law_law_776 rfl (lv_at hl 1 rfl) ?_
  refine lv_aload_n hx hb d_law_law_777 rfl (lv_at hl 3 rfl) ?_
  refine lv_iload_n hx hb d_law_law_778 rfl (lv_at hl 0 rfl) ?_
  refine lv_iconst (v := nI 1) hx hb d_law_law_779 (by decide) ?_
  refine lv_iadd hx hb d_law_law_780 ?_
  refine ps_top (z := nI (6 * i + 1)) (nI_add _ _) ?_
  refine va_sld hx hb hX hbl hbA hS (vp_in_nI (show 6 * i + 1 < L by omega) (by omega)) d_law_law_781 ?_
  refine ps_top (z := xs (6 * i + 1)) (by rw [nI_clamp (show 6 * i + 1 < 2 ^ 31 by omega)]) ?_
  refine lv_aload_n hx hb d_law_law_782 rfl (lv_at hl 3 rfl) ?_
  refine lv_iload_n hx hb d_law_law_783 rfl (lv_at hl 0 rfl) ?_
  refine lv_iconst (v := nI 2) hx hb d_law_law_784 (by decide) ?_
  refine lv_iadd hx hb d_law_law_785 ?_
  refine ps_top (z := nI (6 * i + 2)) (nI_add _ _) ?_
  refine va_sld hx hb hX hbl hbA hS (vp_in_nI (show 6 * i + 2 < L by omega) (by omega)) d_law_law_786 ?_
  refine ps_top (z := xs (6 * i + 2)) (by rw [nI_clamp (show 6 * i + 2 < 2 ^ 31 by omega)]) ?_
  refine ps_readI (wc := mw cI cB cS cZ b K S ck cu F X) hP hD hS hA [40, 41, 42, 43, 44, 45, 46, 47, 48, 49, 50, 51, 52, 53, 54, 55, 56, 57, 58] lw_s2 (fun _ _ h => h.1) (ps_runVI ⟨hx, hb, hml, hown, hts⟩ (m_noted l dC dI cI tys ht cB cS cZ htB htS htZ b K S ck cu F X hKb hSb (xs (6 * i + 1)) (xs (6 * i + 2))) (ps_cwV ps_gd 2 hts tw_341 k_Mod_noted e_Mod_noted ⟨Nat.le_of_ble_eq_true rfl, Nat.le_of_ble_eq_true rfl⟩) hK hP hD [40, 41, 42, 43, 44, 45, 46, 47, 48, 49, 50, 51, 52, 53, 54, 55, 56, 57, 58] (by decide) lw_s2 0 cMod rfl rfl rfl hl.1 rfl (Nat.le_of_ble_eq_true rfl) d_law_law_787 ⟨by show 100 + ps_L N + 0 + 0 ≤ 600000; omega, by show 440000 + ps_Y N + 0 + 0 ≤ 7302250; omega⟩) (fun r2 H locs hr2 hP hS => ?_)
  have hr2 := hr2.2
  have heq : r1 = r2 := by
    by_cases hc : (xs (6 * i + 2)) < 0 ∨ nI 6 ≤ (xs (6 * i + 2))
    · rw [hr1.y hc, hr2.y hc]
    · by_cases hd : (xs (6 * i + 1)) = 0
      · rw [(hr1.n hc).y hd, (hr2.n hc).y hd]
      · by_cases he : (nI 1 ≤ (xs (6 * i + 1)) ∧ (xs (6 * i + 1)) ≤ nI S) ∧ ¬ (xs (6 * i + 2)) = nI 5
        · rw [((hr1.n hc).n hd).y he, ((hr2.n hc).n hd).y he]
          obtain ⟨k0, hk01, hk02, ek⟩ := ps_rng (by omega) he.1
          obtain ⟨w0, hw31, ew⟩ := nI_of (not_or.mp hc).1
          have hc2 := (not_or.mp hc).2
          have he2 := he.2
          rw [ek, ew, nI_clamp hw31, nI_clamp (show k0 < 2 ^ 31 by omega)]
          rw [ew] at hc2 he2
          have hw6 : w0 < 6 := Nat.lt_of_not_le (fun z => hc2 ((nI_leI (by decide) hw31).mpr z))
          have hw5 : ¬ w0 = 5 := fun z => he2 (by rw [z])
          obtain ⟨-, p2, p3, -⟩ := hIT.1 k0 hk01 hk02
          rw [(p2 w0 hw6).1, p3 w0 (by omega)]
        · rw [((hr1.n hc).n hd).n he, ((hr2.n hc).n hd).n he]
  refine lv_icmp_eq (tgt := 795) hx hb d_law_law_790 (by decide) (fun c_1 => ?_) (fun c_1 => ?_)
  · refine W.widen (k := 100 + ps_L N) (n := 440000 + ps_Y N) (by show 100 + ps_L N + 0 + 0 ≤ _; omega) (by show 440000 + ps_Y N + 0 + 0 ≤ _; omega) ?_
    exact ih K S ck cu F N T X q _ _ ls hI hl hP hD hS
  · exact absurd heq c_1

set_option maxHeartbeats 4000000 in
set_option maxRecDepth 100000 in
theorem lw_count {p : Program} {l : Launch} {e : Env} {s : State} {m : MethodId} {below : List Frame} {meth : Method} {c : Code} {sb L : Nat} {xs : Nat → Int32} {A : Nat → Prop} {dC : Nat → ClassId} {dI : Nat → Nat → Nat} {cI cB cS cZ : ClassId} {tys : List (ClassId × FieldType)} {a b : Nat → Nat} (hC : lw_C p s m meth c sb L xs A dC dI cI cB cS cZ tys) {i : Nat} (hi : 6 * i + 6 ≤ L) (ih : lw_H p l e s m below meth c sb A dC dI cI cB cS cZ a b 795 i) : lw_H p l e s m below meth c sb A dC dI cI cB cS cZ a b 634 i := by
  intro K S ck cu F N T X q H locs ls hI hl hP hD hS
  obtain ⟨⟨hx, hb, hr, hml, hown, hts0, hX, hbl, hlocks, hgv⟩, hL, hA, hAs, hbA, hK, ht, htB, htS, htZ⟩ := hC
  have hts : ∀ w ∈ ps_tbl, w.before #[Value.ref sb] s = true := fun w hw => hts0 w (List.mem_filter.mp hw).1
  obtain ⟨⟨hKb, hk0, hk1, hk3, hk4, hk5, hSb⟩, hw, hIL, hIT, hIM, hIP, hIB, hIV⟩ := id hI
  have hrw := hIL.1
  have hRL := ps_L_le hw
  have hRY := ps_Y_le hw
  refine lv_aload_n hx hb d_law_law_634 rfl (lv_at hl 2 rfl) ?_
  refine lv_aload_n hx hb d_law_law_635 rfl (lv_at hl 3 rfl) ?_
  refine lv_iload_n hx hb d_law_law_636 rfl (lv_at hl 0 rfl) ?_
  refine lv_iconst (v := nI 1) hx hb d_law_law_637 (by decide) ?_
  refine lv_iadd hx hb d_law_law_638 ?_
  refine ps_top (z := nI (6 * i + 1)) (nI_add _ _) ?_
  refine va_sld hx hb hX hbl hbA hS (vp_in_nI (show 6 * i + 1 < L by omega) (by omega)) d_law_law_639 ?_
  refine ps_top (z := xs (6 * i + 1)) (by rw [nI_clamp (show 6 * i + 1 < 2 ^ 31 by omega)]) ?_
  refine ps_readI (wc := pw cI a q K S ck cu F N) hP hD hS hA [0, 1, 2, 3, 4, 5, 6, 7, 8, 9, 10, 11, 12, 13, 14, 15, 16, 17, 18, 19, 20, 21, 22, 23, 24, 25, 26, 27, 28, 29, 30, 31, 32, 33, 34, 35, 36, 37, 38, 39] lw_s1 (fun _ _ h => h.1) (ps_runVI ⟨hx, hb, hml, hown, hts⟩ (c_count l dC dI cI tys ht a q K S ck cu F N hw hKb hSb (xs (6 * i + 1))) (ps_cwV ps_gd 1 hts tw_342 k_PS_count e_PS_count ⟨Nat.le_of_ble_eq_true rfl, Nat.le_of_ble_eq_true rfl⟩) hK hP hD [0, 1, 2, 3, 4, 5, 6, 7, 8, 9, 10, 11, 12, 13, 14, 15, 16, 17, 18, 19, 20, 21, 22, 23, 24, 25, 26, 27, 28, 29, 30, 31, 32, 33, 34, 35, 36, 37, 38, 39] (by decide) lw_s1 0 cPS rfl rfl rfl hl.1 rfl (Nat.le_of_ble_eq_true rfl) d_law_law_640 ⟨by show 100 + ps_L N + 0 ≤ 600000; omega, by show 440000 + ps_Y N + 0 ≤ 7302250; omega⟩) (fun r1 H locs hr1 hP hS => ?_)
  have hr1 := hr1.2
  refine lv_aload_n hx hb d_law_law_643 rfl (lv_at hl 1 rfl) ?_
  refine lv_aload_n hx hb d_law_law_644 rfl (lv_at hl 3 rfl) ?_
  refine lv_iload_n hx hb d_law_law_645 rfl (lv_at hl 0 rfl) ?_
  refine lv_iconst (v := nI 1) hx hb d_law_law_646 (by decide) ?_
  refine lv_iadd hx hb d_law_law_647 ?_
  refine ps_top (z := nI (6 * i + 1)) (nI_add _ _) ?_
  refine va_sld hx hb hX hbl hbA hS (vp_in_nI (show 6 * i + 1 < L by omega) (by omega)) d_law_law_648 ?_
  refine ps_top (z := xs (6 * i + 1)) (by rw [nI_clamp (show 6 * i + 1 < 2 ^ 31 by omega)]) ?_
  refine ps_readI (wc := mw cI cB cS cZ b K S ck cu F X) hP hD hS hA [40, 41, 42, 43, 44, 45, 46, 47, 48, 49, 50, 51, 52, 53, 54, 55, 56, 57, 58] lw_s2 (fun _ _ h => h.1) (ps_runVI ⟨hx, hb, hml, hown, hts⟩ (m_count l dC dI cI tys ht cB cS cZ htB htS htZ b K S ck cu F X hKb hSb (xs (6 * i + 1)) hk4) (ps_cwV ps_gd 1 hts tw_343 k_Mod_count e_Mod_count ⟨Nat.le_of_ble_eq_true rfl, Nat.le_of_ble_eq_true rfl⟩) hK hP hD [40, 41, 42, 43, 44, 45, 46, 47, 48, 49, 50, 51, 52, 53, 54, 55, 56, 57, 58] (by decide) lw_s2 0 cMod rfl rfl rfl hl.1 rfl (Nat.le_of_ble_eq_true rfl) d_law_law_649 ⟨by show 100 + ps_L N + 0 + 0 ≤ 600000; omega, by show 440000 + ps_Y N + 0 + 0 ≤ 7302250; omega⟩) (fun r2 H locs hr2 hP hS => ?_)
  have hr2 := hr2.2
  have heq : r1 = r2 := by
    by_cases hc : nI 1 ≤ (xs (6 * i + 1)) ∧ (xs (6 * i + 1)) ≤ nI (K 3)
    · rw [hr1.y hc, hr2.y hc, li_c2d hIV (xs (6 * i + 1))]
    · rw [hr1.n hc, hr2.n hc]
  refine lv_icmp_eq (tgt := 795) hx hb d_law_law_652 (by decide) (fun c_1 => ?_) (fun c_1 => ?_)
  · refine W.widen (k := 100 + ps_L N) (n := 440000 + ps_Y N) (by show 100 + ps_L N + 0 + 0 ≤ _; omega) (by show 440000 + ps_Y N + 0 + 0 ≤ _; omega) ?_
    exact ih K S ck cu F N T X q _ _ ls hI hl hP hD hS
  · exact absurd heq c_1

set_option maxHeartbeats 4000000 in
set_option maxRecDepth 100000 in
theorem lw_find {p : Program} {l : Launch} {e : Env} {s : State} {m : MethodId} {below : List Frame} {meth : Method} {c : Code} {sb L : Nat} {xs : Nat → Int32} {A : Nat → Prop} {dC : Nat → ClassId} {dI : Nat → Nat → Nat} {cI cB cS cZ : ClassId} {tys : List (ClassId × FieldType)} {a b : Nat → Nat} (hC : lw_C p s m meth c sb L xs A dC dI cI cB cS cZ tys) {i : Nat} (hi : 6 * i + 6 ≤ L) (ih : lw_H p l e s m below meth c sb A dC dI cI cB cS cZ a b 795 i) : lw_H p l e s m below meth c sb A dC dI cI cB cS cZ a b 505 i := by
  intro K S ck cu F N T X q H locs ls hI hl hP hD hS
  obtain ⟨⟨hx, hb, hr, hml, hown, hts0, hX, hbl, hlocks, hgv⟩, hL, hA, hAs, hbA, hK, ht, htB, htS, htZ⟩ := hC
  have hts : ∀ w ∈ ps_tbl, w.before #[Value.ref sb] s = true := fun w hw => hts0 w (List.mem_filter.mp hw).1
  obtain ⟨⟨hKb, hk0, hk1, hk3, hk4, hk5, hSb⟩, hw, hIL, hIT, hIM, hIP, hIB, hIV⟩ := id hI
  have hrw := hIL.1
  have hRL := ps_L_le hw
  have hRY := ps_Y_le hw
  refine lv_aload_n hx hb d_law_law_505 rfl (lv_at hl 2 rfl) ?_
  refine lv_aload_n hx hb d_law_law_506 rfl (lv_at hl 3 rfl) ?_
  refine lv_iload_n hx hb d_law_law_507 rfl (lv_at hl 0 rfl) ?_
  refine lv_iconst (v := nI 1) hx hb d_law_law_508 (by decide) ?_
  refine lv_iadd hx hb d_law_law_509 ?_
  refine ps_top (z := nI (6 * i + 1)) (nI_add _ _) ?_
  refine va_sld hx hb hX hbl hbA hS (vp_in_nI (show 6 * i + 1 < L by omega) (by omega)) d_law_law_510 ?_
  refine ps_top (z := xs (6 * i + 1)) (by rw [nI_clamp (show 6 * i + 1 < 2 ^ 31 by omega)]) ?_
  refine lv_aload_n hx hb d_law_law_511 rfl (lv_at hl 3 rfl) ?_
  refine lv_iload_n hx hb d_law_law_512 rfl (lv_at hl 0 rfl) ?_
  refine lv_iconst (v := nI 2) hx hb d_law_law_513 (by decide) ?_
  refine lv_iadd hx hb d_law_law_514 ?_
  refine ps_top (z := nI (6 * i + 2)) (nI_add _ _) ?_
  refine va_sld hx hb hX hbl hbA hS (vp_in_nI (show 6 * i + 2 < L by omega) (by omega)) d_law_law_515 ?_
  refine ps_top (z := xs (6 * i + 2)) (by rw [nI_clamp (show 6 * i + 2 < 2 ^ 31 by omega)]) ?_
  refine lv_aload_n hx hb d_law_law_516 rfl (lv_at hl 3 rfl) ?_
  refine lv_iload_n hx hb d_law_law_517 rfl (lv_at hl 0 rfl) ?_
  refine lv_iconst (v := nI 3) hx hb d_law_law_518 (by decide) ?_
  refine lv_iadd hx hb d_law_law_519 ?_
  refine ps_top (z := nI (6 * i + 3)) (nI_add _ _) ?_
  refine va_sld hx hb hX hbl hbA hS (vp_in_nI (show 6 * i + 3 < L by omega) (by omega)) d_law_law_520 ?_
  refine ps_top (z := xs (6 * i + 3)) (by rw [nI_clamp (show 6 * i + 3 < 2 ^ 31 by omega)]) ?_
  refine ps_readI (wc := pw cI a q K S ck cu F N) hP hD hS hA [0, 1, 2, 3, 4, 5, 6, 7, 8, 9, 10, 11, 12, 13, 14, 15, 16, 17, 18, 19, 20, 21, 22, 23, 24, 25, 26, 27, 28, 29, 30, 31, 32, 33, 34, 35, 36, 37, 38, 39] lw_s1 (fun _ _ h => h.1) (ps_runVI ⟨hx, hb, hml, hown, hts⟩ (c_find l dC dI cI tys ht a q K S ck cu F N hw hKb hSb (xs (6 * i + 1)) (xs (6 * i + 2)) (xs (6 * i + 3))) (ps_cwV ps_gd 3 hts tw_344 k_PS_find e_PS_find ⟨Nat.le_of_ble_eq_true rfl, Nat.le_of_ble_eq_true rfl⟩) hK hP hD [0, 1, 2, 3, 4, 5, 6, 7, 8, 9, 10, 11, 12, 13, 14, 15, 16, 17, 18, 19, 20, 21, 22, 23, 24, 25, 26, 27, 28, 29, 30, 31, 32, 33, 34, 35, 36, 37, 38, 39] (by decide) lw_s1 0 cPS rfl rfl rfl hl.1 rfl (Nat.le_of_ble_eq_true rfl) d_law_law_521 ⟨by show 100 + ps_L N + 0 ≤ 600000; omega, by show 440000 + ps_Y N + 0 ≤ 7302250; omega⟩) (fun r1 H locs hr1 hP hS => ?_)
  have hr1 := hr1.2
  refine lv_aload_n hx hb d_law_law_524 rfl (lv_at hl 1 rfl) ?_
  refine lv_aload_n hx hb d_law_law_525 rfl (lv_at hl 3 rfl) ?_
  refine lv_iload_n hx hb d_law_law_526 rfl (lv_at hl 0 rfl) ?_
  refine lv_iconst (v := nI 1) hx hb d_law_law_527 (by decide) ?_
  refine lv_iadd hx hb d_law_law_528 ?_
  refine ps_top (z := nI (6 * i + 1)) (nI_add _ _) ?_
  refine va_sld hx hb hX hbl hbA hS (vp_in_nI (show 6 * i + 1 < L by omega) (by omega)) d_law_law_529 ?_
  refine ps_top (z := xs (6 * i + 1)) (by rw [nI_clamp (show 6 * i + 1 < 2 ^ 31 by omega)]) ?_
  refine lv_aload_n hx hb d_law_law_530 rfl (lv_at hl 3 rfl) ?_
  refine lv_iload_n hx hb d_law_law_531 rfl (lv_at hl 0 rfl) ?_
  refine lv_iconst (v := nI 2) hx hb d_law_law_532 (by decide) ?_
  refine lv_iadd hx hb d_law_law_533 ?_
  refine ps_top (z := nI (6 * i + 2)) (nI_add _ _) ?_
  refine va_sld hx hb hX hbl hbA hS (vp_in_nI (show 6 * i + 2 < L by omega) (by omega)) d_law_law_534 ?_
  refine ps_top (z := xs (6 * i + 2)) (by rw [nI_clamp (show 6 * i + 2 < 2 ^ 31 by omega)]) ?_
  refine lv_aload_n hx hb d_law_law_535 rfl (lv_at hl 3 rfl) ?_
  refine lv_iload_n hx hb d_law_law_536 rfl (lv_at hl 0 rfl) ?_
  refine lv_iconst (v := nI 3) hx hb d_law_law_537 (by decide) ?_
  refine lv_iadd hx hb d_law_law_538 ?_
  refine ps_top (z := nI (6 * i + 3)) (nI_add _ _) ?_
  refine va_sld hx hb hX hbl hbA hS (vp_in_nI (show 6 * i + 3 < L by omega) (by omega)) d_law_law_539 ?_
  refine ps_top (z := xs (6 * i + 3)) (by rw [nI_clamp (show 6 * i + 3 < 2 ^ 31 by omega)]) ?_
  refine ps_readI (wc := mw cI cB cS cZ b K S ck cu F X) hP hD hS hA [40, 41, 42, 43, 44, 45, 46, 47, 48, 49, 50, 51, 52, 53, 54, 55, 56, 57, 58] lw_s2 (fun _ _ h => h.1) (ps_runVI ⟨hx, hb, hml, hown, hts⟩ (m_find l dC dI cI tys ht cB cS cZ htB htS htZ b K S ck cu F X hKb hSb (xs (6 * i + 1)) (xs (6 * i + 2)) (xs (6 * i + 3)) hk4) (ps_cwV ps_gd 3 hts tw_345 k_Mod_find e_Mod_find ⟨Nat.le_of_ble_eq_true rfl, Nat.le_of_ble_eq_true rfl⟩) hK hP hD [40, 41, 42, 43, 44, 45, 46, 47, 48, 49, 50, 51, 52, 53, 54, 55, 56, 57, 58] (by decide) lw_s2 0 cMod rfl rfl rfl hl.1 rfl (Nat.le_of_ble_eq_true rfl) d_law_law_540 ⟨by show 100 + ps_L N + 0 + 0 ≤ 600000; omega, by show 440000 + ps_Y N + 0 + 0 ≤ 7302250; omega⟩) (fun r2 H locs hr2 hP hS => ?_)
  have hr2 := hr2.2
  have heq : r1 = r2 := by
    by_cases hc : (nI 1 ≤ (xs (6 * i + 1)) ∧ (xs (6 * i + 1)) ≤ nI (K 3)) ∧ (nI 1 ≤ (xs (6 * i + 2)) ∧ (xs (6 * i + 2)) ≤ nI 15)
    · have c1 := hr1.y hc
      have c2 := hr2.y hc
      rcases li_find (fun j => F 9 j = (xs (6 * i + 3)) ∧ F 8 j = (xs (6 * i + 2)) ∧ F 7 j = (xs (6 * i + 1))) 0 (K 4) with hno | ⟨j, -, hj, hjm, hjn⟩
      · rw [li_sn c1 hno, li_sn c2 hno]
      · by_cases hg : F 10 j = -1
        · rw [(li_ss c1 hj hjm hjn).y hg, (li_ss c2 hj hjm hjn).y ((li_gone hIV j).mp hg)]
        · rw [(li_ss c1 hj hjm hjn).n hg, (li_ss c2 hj hjm hjn).n (fun q => hg ((li_gone hIV j).mpr q)), (li_there hIV hg).1]
    · rw [hr1.n hc, hr2.n hc]
  refine lv_icmp_eq (tgt := 795) hx hb d_law_law_543 (by decide) (fun c_1 => ?_) (fun c_1 => ?_)
  · refine W.widen (k := 100 + ps_L N) (n := 440000 + ps_Y N) (by show 100 + ps_L N + 0 + 0 ≤ _; omega) (by show 440000 + ps_Y N + 0 + 0 ≤ _; omega) ?_
    exact ih K S ck cu F N T X q _ _ ls hI hl hP hD hS
  · exact absurd heq c_1

set_option maxHeartbeats 4000000 in
set_option maxRecDepth 100000 in
theorem lw_found {p : Program} {l : Launch} {e : Env} {s : State} {m : MethodId} {below : List Frame} {meth : Method} {c : Code} {sb L : Nat} {xs : Nat → Int32} {A : Nat → Prop} {dC : Nat → ClassId} {dI : Nat → Nat → Nat} {cI cB cS cZ : ClassId} {tys : List (ClassId × FieldType)} {a b : Nat → Nat} (hC : lw_C p s m meth c sb L xs A dC dI cI cB cS cZ tys) {i : Nat} (hi : 6 * i + 6 ≤ L) (ih : lw_H p l e s m below meth c sb A dC dI cI cB cS cZ a b 795 i) : lw_H p l e s m below meth c sb A dC dI cI cB cS cZ a b 548 i := by
  intro K S ck cu F N T X q H locs ls hI hl hP hD hS
  obtain ⟨⟨hx, hb, hr, hml, hown, hts0, hX, hbl, hlocks, hgv⟩, hL, hA, hAs, hbA, hK, ht, htB, htS, htZ⟩ := hC
  have hts : ∀ w ∈ ps_tbl, w.before #[Value.ref sb] s = true := fun w hw => hts0 w (List.mem_filter.mp hw).1
  obtain ⟨⟨hKb, hk0, hk1, hk3, hk4, hk5, hSb⟩, hw, hIL, hIT, hIM, hIP, hIB, hIV⟩ := id hI
  have hrw := hIL.1
  have hRL := ps_L_le hw
  have hRY := ps_Y_le hw
  refine lv_aload_n hx hb d_law_law_548 rfl (lv_at hl 2 rfl) ?_
  refine lv_aload_n hx hb d_law_law_549 rfl (lv_at hl 3 rfl) ?_
  refine lv_iload_n hx hb d_law_law_550 rfl (lv_at hl 0 rfl) ?_
  refine lv_iconst (v := nI 1) hx hb d_law_law_551 (by decide) ?_
  refine lv_iadd hx hb d_law_law_552 ?_
  refine ps_top (z := nI (6 * i + 1)) (nI_add _ _) ?_
  refine va_sld hx hb hX hbl hbA hS (vp_in_nI (show 6 * i + 1 < L by omega) (by omega)) d_law_law_553 ?_
  refine ps_top (z := xs (6 * i + 1)) (by rw [nI_clamp (show 6 * i + 1 < 2 ^ 31 by omega)]) ?_
  refine lv_aload_n hx hb d_law_law_554 rfl (lv_at hl 3 rfl) ?_
  refine lv_iload_n hx hb d_law_law_555 rfl (lv_at hl 0 rfl) ?_
  refine lv_iconst (v := nI 2) hx hb d_law_law_556 (by decide) ?_
  refine lv_iadd hx hb d_law_law_557 ?_
  refine ps_top (z := nI (6 * i + 2)) (nI_add _ _) ?_
  refine va_sld hx hb hX hbl hbA hS (vp_in_nI (show 6 * i + 2 < L by omega) (by omega)) d_law_law_558 ?_
  refine ps_top (z := xs (6 * i + 2)) (by rw [nI_clamp (show 6 * i + 2 < 2 ^ 31 by omega)]) ?_
  refine lv_aload_n hx hb d_law_law_559 rfl (lv_at hl 3 rfl) ?_
  refine lv_iload_n hx hb d_law_law_560 rfl (lv_at hl 0 rfl) ?_
  refine lv_iconst (v := nI 3) hx hb d_law_law_561 (by decide) ?_
  refine lv_iadd hx hb d_law_law_562 ?_
  refine ps_top (z := nI (6 * i + 3)) (nI_add _ _) ?_
  refine va_sld hx hb hX hbl hbA hS (vp_in_nI (show 6 * i + 3 < L by omega) (by omega)) d_law_law_563 ?_
  refine ps_top (z := xs (6 * i + 3)) (by rw [nI_clamp (show 6 * i + 3 < 2 ^ 31 by omega)]) ?_
  refine ps_readI (wc := pw cI a q K S ck cu F N) hP hD hS hA [0, 1, 2, 3, 4, 5, 6, 7, 8, 9, 10, 11, 12, 13, 14, 15, 16, 17, 18, 19, 20, 21, 22, 23, 24, 25, 26, 27, 28, 29, 30, 31, 32, 33, 34, 35, 36, 37, 38, 39] lw_s1 (fun _ _ h => h.1) (ps_runVI ⟨hx, hb, hml, hown, hts⟩ (c_found l dC dI cI tys ht a q K S ck cu F N hw hKb hSb (xs (6 * i + 1)) (xs (6 * i + 2)) (xs (6 * i + 3))) (ps_cwV ps_gd 3 hts tw_346 k_PS_found e_PS_found ⟨Nat.le_of_ble_eq_true rfl, Nat.le_of_ble_eq_true rfl⟩) hK hP hD [0, 1, 2, 3, 4, 5, 6, 7, 8, 9, 10, 11, 12, 13, 14, 15, 16, 17, 18, 19, 20, 21, 22, 23, 24, 25, 26, 27, 28, 29, 30, 31, 32, 33, 34, 35, 36, 37, 38, 39] (by decide) lw_s1 0 cPS rfl rfl rfl hl.1 rfl (Nat.le_of_ble_eq_true rfl) d_law_law_564 ⟨by show 100 + ps_L N + 0 ≤ 600000; omega, by show 440000 + ps_Y N + 0 ≤ 7302250; omega⟩) (fun r1 H locs hr1 hP hS => ?_)
  have hr1 := hr1.2
  refine lv_aload_n hx hb d_law_law_567 rfl (lv_at hl 1 rfl) ?_
  refine lv_aload_n hx hb d_law_law_568 rfl (lv_at hl 3 rfl) ?_
  refine lv_iload_n hx hb d_law_law_569 rfl (lv_at hl 0 rfl) ?_
  refine lv_iconst (v := nI 1) hx hb d_law_law_570 (by decide) ?_
  refine lv_iadd hx hb d_law_law_571 ?_
  refine ps_top (z := nI (6 * i + 1)) (nI_add _ _) ?_
  refine va_sld hx hb hX hbl hbA hS (vp_in_nI (show 6 * i + 1 < L by omega) (by omega)) d_law_law_572 ?_
  refine ps_top (z := xs (6 * i + 1)) (by rw [nI_clamp (show 6 * i + 1 < 2 ^ 31 by omega)]) ?_
  refine lv_aload_n hx hb d_law_law_573 rfl (lv_at hl 3 rfl) ?_
  refine lv_iload_n hx hb d_law_law_574 rfl (lv_at hl 0 rfl) ?_
  refine lv_iconst (v := nI 2) hx hb d_law_law_575 (by decide) ?_
  refine lv_iadd hx hb d_law_law_576 ?_
  refine ps_top (z := nI (6 * i + 2)) (nI_add _ _) ?_
  refine va_sld hx hb hX hbl hbA hS (vp_in_nI (show 6 * i + 2 < L by omega) (by omega)) d_law_law_577 ?_
  refine ps_top (z := xs (6 * i + 2)) (by rw [nI_clamp (show 6 * i + 2 < 2 ^ 31 by omega)]) ?_
  refine lv_aload_n hx hb d_law_law_578 rfl (lv_at hl 3 rfl) ?_
  refine lv_iload_n hx hb d_law_law_579 rfl (lv_at hl 0 rfl) ?_
  refine lv_iconst (v := nI 3) hx hb d_law_law_580 (by decide) ?_
  refine lv_iadd hx hb d_law_law_581 ?_
  refine ps_top (z := nI (6 * i + 3)) (nI_add _ _) ?_
  refine va_sld hx hb hX hbl hbA hS (vp_in_nI (show 6 * i + 3 < L by omega) (by omega)) d_law_law_582 ?_
  refine ps_top (z := xs (6 * i + 3)) (by rw [nI_clamp (show 6 * i + 3 < 2 ^ 31 by omega)]) ?_
  refine ps_readI (wc := mw cI cB cS cZ b K S ck cu F X) hP hD hS hA [40, 41, 42, 43, 44, 45, 46, 47, 48, 49, 50, 51, 52, 53, 54, 55, 56, 57, 58] lw_s2 (fun _ _ h => h.1) (ps_runVI ⟨hx, hb, hml, hown, hts⟩ (m_found l dC dI cI tys ht cB cS cZ htB htS htZ b K S ck cu F X hKb hSb (xs (6 * i + 1)) (xs (6 * i + 2)) (xs (6 * i + 3)) hk4) (ps_cwV ps_gd 3 hts tw_347 k_Mod_found e_Mod_found ⟨Nat.le_of_ble_eq_true rfl, Nat.le_of_ble_eq_true rfl⟩) hK hP hD [40, 41, 42, 43, 44, 45, 46, 47, 48, 49, 50, 51, 52, 53, 54, 55, 56, 57, 58] (by decide) lw_s2 0 cMod rfl rfl rfl hl.1 rfl (Nat.le_of_ble_eq_true rfl) d_law_law_583 ⟨by show 100 + ps_L N + 0 + 0 ≤ 600000; omega, by show 440000 + ps_Y N + 0 + 0 ≤ 7302250; omega⟩) (fun r2 H locs hr2 hP hS => ?_)
  have hr2 := hr2.2
  have heq : r1 = r2 := by
    by_cases hc : nI 1 ≤ (xs (6 * i + 1)) ∧ (xs (6 * i + 1)) ≤ nI (K 3)
    · have c2 := hr2.y hc
      rcases li_find (fun j => F 9 j = (xs (6 * i + 3)) ∧ F 8 j = (xs (6 * i + 2)) ∧ F 7 j = (xs (6 * i + 1))) 0 (K 4) with hno | ⟨j, -, hj, hjm, hjn⟩
      · rw [li_sn hr1 hno, li_sn c2 hno]
      · by_cases hg : F 10 j = -1
        · rw [(li_ss hr1 hj hjm hjn).y hg, (li_ss c2 hj hjm hjn).y ((li_gone hIV j).mp hg)]
        · rw [(li_ss hr1 hj hjm hjn).n hg, (li_ss c2 hj hjm hjn).n (fun q => hg ((li_gone hIV j).mpr q)), (li_there hIV hg).2]
    · rw [hr2.n hc]
      refine li_sn hr1 (fun j _ hj hm => hc ?_)
      obtain ⟨d0, e7, hd1, hd2⟩ := hIL.2 j hj
      rw [← hm.2.2, e7]
      exact ⟨(nI_leI (by decide) (by omega)).mpr hd1, (nI_leI (by omega) (by omega)).mpr hd2⟩
  refine lv_icmp_eq (tgt := 795) hx hb d_law_law_586 (by decide) (fun c_1 => ?_) (fun c_1 => ?_)
  · refine W.widen (k := 100 + ps_L N) (n := 440000 + ps_Y N) (by show 100 + ps_L N + 0 + 0 ≤ _; omega) (by show 440000 + ps_Y N + 0 + 0 ≤ _; omega) ?_
    exact ih K S ck cu F N T X q _ _ ls hI hl hP hD hS
  · exact absurd heq c_1

set_option maxHeartbeats 4000000 in
set_option maxRecDepth 100000 in
theorem lw_save {p : Program} {l : Launch} {e : Env} {s : State} {m : MethodId} {below : List Frame} {meth : Method} {c : Code} {sb L : Nat} {xs : Nat → Int32} {A : Nat → Prop} {dC : Nat → ClassId} {dI : Nat → Nat → Nat} {cI cB cS cZ : ClassId} {tys : List (ClassId × FieldType)} {a b : Nat → Nat} (hC : lw_C p s m meth c sb L xs A dC dI cI cB cS cZ tys) {i : Nat} (hi : 6 * i + 6 ≤ L) (ih : lw_H p l e s m below meth c sb A dC dI cI cB cS cZ a b 795 i) : lw_H p l e s m below meth c sb A dC dI cI cB cS cZ a b 726 i := by
  intro K S ck cu F N T X q H locs ls hI hl hP hD hS
  obtain ⟨⟨hx, hb, hr, hml, hown, hts0, hX, hbl, hlocks, hgv⟩, hL, hA, hAs, hbA, hK, ht, htB, htS, htZ⟩ := hC
  have hts : ∀ w ∈ ps_tbl, w.before #[Value.ref sb] s = true := fun w hw => hts0 w (List.mem_filter.mp hw).1
  obtain ⟨⟨hKb, hk0, hk1, hk3, hk4, hk5, hSb⟩, hw, hIL, hIT, hIM, hIP, hIB, hIV⟩ := id hI
  have hrw := hIL.1
  have hRL := ps_L_le hw
  have hRY := ps_Y_le hw
  by_cases hA9 : 15 ≤ S
  · have hI2 : li_I K S F N T X := hI
    have hRL2 := ps_L_le hI2.2.1
    have hRY2 := ps_Y_le hI2.2.1
    refine lv_aload_n hx hb d_law_law_726 rfl (lv_at hl 2 rfl) ?_
    refine ps_afterI (wc := pw cI a q K S ck cu F N) (wr := mw cI cB cS cZ b K S ck cu F X) hP hD hS hA [0, 1, 2, 3, 4, 5, 6, 7, 8, 9, 10, 11, 12, 13, 14, 15, 16, 17, 18, 19, 20, 21, 22, 23, 24, 25, 26, 27, 28, 29, 30, 31, 32, 33, 34, 35, 36, 37, 38, 39] [40, 41, 42, 43, 44, 45, 46, 47, 48, 49, 50, 51, 52, 53, 54, 55, 56, 57, 58] lw_s1 lw_s2 (by decide) (by decide) (ps_runVI ⟨hx, hb, hml, hown, hts⟩ (c_save l dC dI cI tys ht a q K S ck cu F N hw hKb hSb 0 0 (fun q => absurd hA9 q)) (ps_cwV ps_gd 0 hts tw_348 k_PS_save e_PS_save ⟨Nat.le_of_ble_eq_true rfl, Nat.le_of_ble_eq_true rfl⟩) hK hP hD [0, 1, 2, 3, 4, 5, 6, 7, 8, 9, 10, 11, 12, 13, 14, 15, 16, 17, 18, 19, 20, 21, 22, 23, 24, 25, 26, 27, 28, 29, 30, 31, 32, 33, 34, 35, 36, 37, 38, 39] (by decide) lw_s1 0 cPS rfl rfl rfl hl.1 rfl (Nat.le_of_ble_eq_true rfl) d_law_law_727 ⟨by show 100 + ps_L N + (0) ≤ 600000; omega, by show 440000 + ps_Y N + (0) ≤ 7302250; omega⟩) (fun r1 u1 H locs h1 hP hD hS => ?_)
    obtain ⟨hr1, hu1⟩ := h1.y hA9
    subst hr1
    subst hu1
    refine lv_aload_n hx hb d_law_law_730 rfl (lv_at hl 1 rfl) ?_
    refine ps_afterI (wc := mw cI cB cS cZ b K S ck cu F X) (wr := pw cI a q K S ck cu F N) hP hD hS hA [0, 1, 2, 3, 4, 5, 6, 7, 8, 9, 10, 11, 12, 13, 14, 15, 16, 17, 18] [19, 20, 21, 22, 23, 24, 25, 26, 27, 28, 29, 30, 31, 32, 33, 34, 35, 36, 37, 38, 39, 40, 41, 42, 43, 44, 45, 46, 47, 48, 49, 50, 51, 52, 53, 54, 55, 56, 57, 58] lw_s3 lw_s4 (by decide) (by decide) (ps_runVI ⟨hx, hb, hml, hown, hts⟩ (m_save l dC dI cI tys ht cB cS cZ htB htS htZ b K S ck cu F X hKb hSb) (ps_cwV ps_gd 0 hts tw_349 k_Mod_save e_Mod_save ⟨Nat.le_of_ble_eq_true rfl, Nat.le_of_ble_eq_true rfl⟩) hK hP hD [0, 1, 2, 3, 4, 5, 6, 7, 8, 9, 10, 11, 12, 13, 14, 15, 16, 17, 18] (by decide) lw_s3 0 cMod rfl rfl rfl hl.1 rfl (Nat.le_of_ble_eq_true rfl) d_law_law_731 ⟨by show 100 + ps_L N + (0) + 0 ≤ 600000; omega, by show 440000 + ps_Y N + (0) + 0 ≤ 7302250; omega⟩) (fun r2 u2 H locs h2 hP hD hS => ?_)
    obtain ⟨hr2, hu2⟩ := h2.y hA9
    subst hr2
    subst hu2
    refine lv_icmp_eq (tgt := 795) hx hb d_law_law_734 (by decide) (fun c_1 => ?_) (fun c_1 => ?_)
    · refine W.widen (k := 100 + ps_L N) (n := 440000 + ps_Y N) (by show 100 + ps_L N + (0) + 0 ≤ _; omega) (by show 440000 + ps_Y N + (0) + 0 ≤ _; omega) ?_
      exact ih _ _ _ _ _ _ _ _ _ _ _ ls hI2 hl hP hD hS
    · exact absurd rfl c_1
  · have hcL := li_cs_L (N := N) S
    have hcY := li_cs_Y S hw (by omega)
    have hI2 : li_I K (S + 1) (va_up F 0 (ps_nt (F 0) K (S * 6) 6)) (va_up N 0 (ps_nl (N 0) (S * 6) 6)) (va_up T (S + 1) K) (va_up (va_up X 4 (ps_nt (X 4) K (5 * (S + 1)) 5)) 5 (upd (X 5) (S + 1) (nI (K 5)))) := li_save hI hA9
    have hRL2 := ps_L_le hI2.2.1
    have hRY2 := ps_Y_le hI2.2.1
    refine lv_aload_n hx hb d_law_law_726 rfl (lv_at hl 2 rfl) ?_
    refine ps_afterI (wc := pw cI a q K S ck cu F N) (wr := mw cI cB cS cZ b K S ck cu F X) hP hD hS hA [0, 1, 2, 3, 4, 5, 6, 7, 8, 9, 10, 11, 12, 13, 14, 15, 16, 17, 18, 19, 20, 21, 22, 23, 24, 25, 26, 27, 28, 29, 30, 31, 32, 33, 34, 35, 36, 37, 38, 39] [40, 41, 42, 43, 44, 45, 46, 47, 48, 49, 50, 51, 52, 53, 54, 55, 56, 57, 58] lw_s1 lw_s2 (by decide) (by decide) (ps_runVI ⟨hx, hb, hml, hown, hts⟩ (c_save l dC dI cI tys ht a q K S ck cu F N hw hKb hSb (ps_nl (N 0) (S * 6) 6 - N 0) (ps_psi 90 (ps_nl (N 0) (S * 6) 6) - ps_psi 90 (N 0)) (fun _ => ⟨Nat.le_refl _, Nat.le_refl _⟩)) (ps_cwV ps_gd 0 hts tw_348 k_PS_save e_PS_save ⟨Nat.le_of_ble_eq_true rfl, Nat.le_of_ble_eq_true rfl⟩) hK hP hD [0, 1, 2, 3, 4, 5, 6, 7, 8, 9, 10, 11, 12, 13, 14, 15, 16, 17, 18, 19, 20, 21, 22, 23, 24, 25, 26, 27, 28, 29, 30, 31, 32, 33, 34, 35, 36, 37, 38, 39] (by decide) lw_s1 0 cPS rfl rfl rfl hl.1 rfl (Nat.le_of_ble_eq_true rfl) d_law_law_727 ⟨by show 100 + ps_L N + (ps_nl (N 0) (S * 6) 6 - N 0) ≤ 600000; omega, by show 440000 + ps_Y N + (ps_psi 90 (ps_nl (N 0) (S * 6) 6) - ps_psi 90 (N 0)) ≤ 7302250; omega⟩) (fun r1 u1 H locs h1 hP hD hS => ?_)
    obtain ⟨q1, hr1, hu1⟩ := h1.n hA9
    subst hr1
    subst hu1
    refine lv_aload_n hx hb d_law_law_730 rfl (lv_at hl 1 rfl) ?_
    refine ps_afterI (wc := mw cI cB cS cZ b K S ck cu F X) (wr := pw cI a q1 K (S + 1) ck cu (va_up F 0 (ps_nt (F 0) K (S * 6) 6)) (va_up N 0 (ps_nl (N 0) (S * 6) 6))) hP hD hS hA [0, 1, 2, 3, 4, 5, 6, 7, 8, 9, 10, 11, 12, 13, 14, 15, 16, 17, 18] [19, 20, 21, 22, 23, 24, 25, 26, 27, 28, 29, 30, 31, 32, 33, 34, 35, 36, 37, 38, 39, 40, 41, 42, 43, 44, 45, 46, 47, 48, 49, 50, 51, 52, 53, 54, 55, 56, 57, 58] lw_s3 lw_s4 (by decide) (by decide) (ps_runVI ⟨hx, hb, hml, hown, hts⟩ (m_save l dC dI cI tys ht cB cS cZ htB htS htZ b K S ck cu F X hKb hSb) (ps_cwV ps_gd 0 hts tw_349 k_Mod_save e_Mod_save ⟨Nat.le_of_ble_eq_true rfl, Nat.le_of_ble_eq_true rfl⟩) hK hP hD [0, 1, 2, 3, 4, 5, 6, 7, 8, 9, 10, 11, 12, 13, 14, 15, 16, 17, 18] (by decide) lw_s3 0 cMod rfl rfl rfl hl.1 rfl (Nat.le_of_ble_eq_true rfl) d_law_law_731 ⟨by show 100 + ps_L N + (ps_nl (N 0) (S * 6) 6 - N 0) + 0 ≤ 600000; omega, by show 440000 + ps_Y N + (ps_psi 90 (ps_nl (N 0) (S * 6) 6) - ps_psi 90 (N 0)) + 0 ≤ 7302250; omega⟩) (fun r2 u2 H locs h2 hP hD hS => ?_)
    obtain ⟨hr2, hu2⟩ := h2.n hA9
    subst hr2
    subst hu2
    refine lv_icmp_eq (tgt := 795) hx hb d_law_law_734 (by decide) (fun c_2 => ?_) (fun c_2 => ?_)
    · refine W.widen (k := 100 + ps_L (va_up N 0 (ps_nl (N 0) (S * 6) 6))) (n := 440000 + ps_Y (va_up N 0 (ps_nl (N 0) (S * 6) 6))) (by show 100 + ps_L N + (ps_nl (N 0) (S * 6) 6 - N 0) + 0 ≤ _; omega) (by show 440000 + ps_Y N + (ps_psi 90 (ps_nl (N 0) (S * 6) 6) - ps_psi 90 (N 0)) + 0 ≤ _; omega) ?_
      exact ih _ _ _ _ _ _ _ _ _ _ _ ls hI2 hl hP hD hS
    · exact absurd rfl c_2

set_option maxHeartbeats 4000000 in
set_option maxRecDepth 100000 in
theorem lw_restore {p : Program} {l : Launch} {e : Env} {s : State} {m : MethodId} {below : List Frame} {meth : Method} {c : Code} {sb L : Nat} {xs : Nat → Int32} {A : Nat → Prop} {dC : Nat → ClassId} {dI : Nat → Nat → Nat} {cI cB cS cZ : ClassId} {tys : List (ClassId × FieldType)} {a b : Nat → Nat} (hC : lw_C p s m meth c sb L xs A dC dI cI cB cS cZ tys) {i : Nat} (hi : 6 * i + 6 ≤ L) (ih : lw_H p l e s m below meth c sb A dC dI cI cB cS cZ a b 795 i) : lw_H p l e s m below meth c sb A dC dI cI cB cS cZ a b 739 i := by
  intro K S ck cu F N T X q H locs ls hI hl hP hD hS
  obtain ⟨⟨hx, hb, hr, hml, hown, hts0, hX, hbl, hlocks, hgv⟩, hL, hA, hAs, hbA, hK, ht, htB, htS, htZ⟩ := hC
  have hts : ∀ w ∈ ps_tbl, w.before #[Value.ref sb] s = true := fun w hw => hts0 w (List.mem_filter.mp hw).1
  obtain ⟨⟨hKb, hk0, hk1, hk3, hk4, hk5, hSb⟩, hw, hIL, hIT, hIM, hIP, hIB, hIV⟩ := id hI
  have hrw := hIL.1
  have hRL := ps_L_le hw
  have hRY := ps_Y_le hw
  by_cases hA9 : nI 1 ≤ (xs (6 * i + 1)) ∧ (xs (6 * i + 1)) ≤ nI S
  · have hI2 : li_I (ps_kx K (T (xs (6 * i + 1)).toNatClampNeg) 6) ((xs (6 * i + 1)).toNatClampNeg - 1) (ps_bs F (K 5) (K 5 - T (xs (6 * i + 1)).toNatClampNeg 5)) N T (mo_bs F X (K 5) (K 5 - T (xs (6 * i + 1)).toNatClampNeg 5)) := (by obtain ⟨k0, hk01, hk02, ek⟩ := ps_rng (by omega) hA9; rw [ek, nI_clamp (show k0 < 2 ^ 31 by omega)]; exact li_rest hI hk01 hk02)
    have hRL2 := ps_L_le hI2.2.1
    have hRY2 := ps_Y_le hI2.2.1
    refine lv_aload_n hx hb d_law_law_739 rfl (lv_at hl 2 rfl) ?_
    refine lv_aload_n hx hb d_law_law_740 rfl (lv_at hl 3 rfl) ?_
    refine lv_iload_n hx hb d_law_law_741 rfl (lv_at hl 0 rfl) ?_
    refine lv_iconst (v := nI 1) hx hb d_law_law_742 (by decide) ?_
    refine lv_iadd hx hb d_law_law_743 ?_
    refine ps_top (z := nI (6 * i + 1)) (nI_add _ _) ?_
    refine va_sld hx hb hX hbl hbA hS (vp_in_nI (show 6 * i + 1 < L by omega) (by omega)) d_law_law_744 ?_
    refine ps_top (z := xs (6 * i + 1)) (by rw [nI_clamp (show 6 * i + 1 < 2 ^ 31 by omega)]) ?_
    refine ps_afterI (wc := pw cI a q K S ck cu F N) (wr := mw cI cB cS cZ b K S ck cu F X) hP hD hS hA [0, 1, 2, 3, 4, 5, 6, 7, 8, 9, 10, 11, 12, 13, 14, 15, 16, 17, 18, 19, 20, 21, 22, 23, 24, 25, 26, 27, 28, 29, 30, 31, 32, 33, 34, 35, 36, 37, 38, 39] [40, 41, 42, 43, 44, 45, 46, 47, 48, 49, 50, 51, 52, 53, 54, 55, 56, 57, 58] lw_s1 lw_s2 (by decide) (by decide) (ps_runVI ⟨hx, hb, hml, hown, hts⟩ (c_restore l dC dI cI tys ht a q K S ck cu F N hw hKb hSb T (xs (6 * i + 1)) hIM.mem (fun k h1 h2 w hw6 => (hIT.1 k h1 h2).2.1 w hw6)) (ps_cwV ps_gd 1 hts tw_350 k_PS_restore e_PS_restore ⟨Nat.le_of_ble_eq_true rfl, Nat.le_of_ble_eq_true rfl⟩) hK hP hD [0, 1, 2, 3, 4, 5, 6, 7, 8, 9, 10, 11, 12, 13, 14, 15, 16, 17, 18, 19, 20, 21, 22, 23, 24, 25, 26, 27, 28, 29, 30, 31, 32, 33, 34, 35, 36, 37, 38, 39] (by decide) lw_s1 0 cPS rfl rfl rfl hl.1 rfl (Nat.le_of_ble_eq_true rfl) d_law_law_745 ⟨by show 100 + ps_L N + (0) ≤ 600000; omega, by show 440000 + ps_Y N + (0) ≤ 7302250; omega⟩) (fun r1 u1 H locs h1 hP hD hS => ?_)
    obtain ⟨q1, hr1, hu1⟩ := h1.y hA9
    subst hr1
    subst hu1
    refine lv_aload_n hx hb d_law_law_748 rfl (lv_at hl 1 rfl) ?_
    refine lv_aload_n hx hb d_law_law_749 rfl (lv_at hl 3 rfl) ?_
    refine lv_iload_n hx hb d_law_law_750 rfl (lv_at hl 0 rfl) ?_
    refine lv_iconst (v := nI 1) hx hb d_law_law_751 (by decide) ?_
    refine lv_iadd hx hb d_law_law_752 ?_
    refine ps_top (z := nI (6 * i + 1)) (nI_add _ _) ?_
    refine va_sld hx hb hX hbl hbA hS (vp_in_nI (show 6 * i + 1 < L by omega) (by omega)) d_law_law_753 ?_
    refine ps_top (z := xs (6 * i + 1)) (by rw [nI_clamp (show 6 * i + 1 < 2 ^ 31 by omega)]) ?_
    refine ps_afterI (wc := mw cI cB cS cZ b K S ck cu F X) (wr := pw cI a q1 (ps_kx K (T (xs (6 * i + 1)).toNatClampNeg) 6) ((xs (6 * i + 1)).toNatClampNeg - 1) ck cu (ps_bs F (K 5) (K 5 - T (xs (6 * i + 1)).toNatClampNeg 5)) N) hP hD hS hA [0, 1, 2, 3, 4, 5, 6, 7, 8, 9, 10, 11, 12, 13, 14, 15, 16, 17, 18] [19, 20, 21, 22, 23, 24, 25, 26, 27, 28, 29, 30, 31, 32, 33, 34, 35, 36, 37, 38, 39, 40, 41, 42, 43, 44, 45, 46, 47, 48, 49, 50, 51, 52, 53, 54, 55, 56, 57, 58] lw_s3 lw_s4 (by decide) (by decide) (ps_runVI ⟨hx, hb, hml, hown, hts⟩ (m_restore l dC dI cI tys ht cB cS cZ htB htS htZ b K S ck cu F X hKb hSb T (xs (6 * i + 1)) hk5 (hIM.mo hw) (fun k h1 h2 => ⟨(hIT.1 k h1 h2).2.2.1, (hIT.1 k h1 h2).2.2.2, fun w hw6 => ((hIT.1 k h1 h2).2.1 w hw6).2⟩)) (ps_cwV ps_gd 1 hts tw_351 k_Mod_restore e_Mod_restore ⟨Nat.le_of_ble_eq_true rfl, Nat.le_of_ble_eq_true rfl⟩) hK hP hD [0, 1, 2, 3, 4, 5, 6, 7, 8, 9, 10, 11, 12, 13, 14, 15, 16, 17, 18] (by decide) lw_s3 0 cMod rfl rfl rfl hl.1 rfl (Nat.le_of_ble_eq_true rfl) d_law_law_754 ⟨by show 100 + ps_L N + (0) + 0 ≤ 600000; omega, by show 440000 + ps_Y N + (0) + 0 ≤ 7302250; omega⟩) (fun r2 u2 H locs h2 hP hD hS => ?_)
    obtain ⟨hr2, hu2⟩ := h2.y hA9
    subst hr2
    subst hu2
    refine lv_icmp_eq (tgt := 795) hx hb d_law_law_757 (by decide) (fun c_1 => ?_) (fun c_1 => ?_)
    · refine W.widen (k := 100 + ps_L N) (n := 440000 + ps_Y N) (by show 100 + ps_L N + (0) + 0 ≤ _; omega) (by show 440000 + ps_Y N + (0) + 0 ≤ _; omega) ?_
      exact ih _ _ _ _ _ _ _ _ _ _ _ ls hI2 hl hP hD hS
    · exact absurd rfl c_1
  · have hI2 : li_I K S F N T X := hI
    have hRL2 := ps_L_le hI2.2.1
    have hRY2 := ps_Y_le hI2.2.1
    refine lv_aload_n hx hb d_law_law_739 rfl (lv_at hl 2 rfl) ?_
    refine lv_aload_n hx hb d_law_law_740 rfl (lv_at hl 3 rfl) ?_
    refine lv_iload_n hx hb d_law_law_741 rfl (lv_at hl 0 rfl) ?_
    refine lv_iconst (v := nI 1) hx hb d_law_law_742 (by decide) ?_
    refine lv_iadd hx hb d_law_law_743 ?_
    refine ps_top (z := nI (6 * i + 1)) (nI_add _ _) ?_
    refine va_sld hx hb hX hbl hbA hS (vp_in_nI (show 6 * i + 1 < L by omega) (by omega)) d_law_law_744 ?_
    refine ps_top (z := xs (6 * i + 1)) (by rw [nI_clamp (show 6 * i + 1 < 2 ^ 31 by omega)]) ?_
    refine ps_afterI (wc := pw cI a q K S ck cu F N) (wr := mw cI cB cS cZ b K S ck cu F X) hP hD hS hA [0, 1, 2, 3, 4, 5, 6, 7, 8, 9, 10, 11, 12, 13, 14, 15, 16, 17, 18, 19, 20, 21, 22, 23, 24, 25, 26, 27, 28, 29, 30, 31, 32, 33, 34, 35, 36, 37, 38, 39] [40, 41, 42, 43, 44, 45, 46, 47, 48, 49, 50, 51, 52, 53, 54, 55, 56, 57, 58] lw_s1 lw_s2 (by decide) (by decide) (ps_runVI ⟨hx, hb, hml, hown, hts⟩ (c_restore l dC dI cI tys ht a q K S ck cu F N hw hKb hSb T (xs (6 * i + 1)) hIM.mem (fun k h1 h2 w hw6 => (hIT.1 k h1 h2).2.1 w hw6)) (ps_cwV ps_gd 1 hts tw_350 k_PS_restore e_PS_restore ⟨Nat.le_of_ble_eq_true rfl, Nat.le_of_ble_eq_true rfl⟩) hK hP hD [0, 1, 2, 3, 4, 5, 6, 7, 8, 9, 10, 11, 12, 13, 14, 15, 16, 17, 18, 19, 20, 21, 22, 23, 24, 25, 26, 27, 28, 29, 30, 31, 32, 33, 34, 35, 36, 37, 38, 39] (by decide) lw_s1 0 cPS rfl rfl rfl hl.1 rfl (Nat.le_of_ble_eq_true rfl) d_law_law_745 ⟨by show 100 + ps_L N + (0) ≤ 600000; omega, by show 440000 + ps_Y N + (0) ≤ 7302250; omega⟩) (fun r1 u1 H locs h1 hP hD hS => ?_)
    obtain ⟨hr1, hu1⟩ := h1.n hA9
    subst hr1
    subst hu1
    refine lv_aload_n hx hb d_law_law_748 rfl (lv_at hl 1 rfl) ?_
    refine lv_aload_n hx hb d_law_law_749 rfl (lv_at hl 3 rfl) ?_
    refine lv_iload_n hx hb d_law_law_750 rfl (lv_at hl 0 rfl) ?_
    refine lv_iconst (v := nI 1) hx hb d_law_law_751 (by decide) ?_
    refine lv_iadd hx hb d_law_law_752 ?_
    refine ps_top (z := nI (6 * i + 1)) (nI_add _ _) ?_
    refine va_sld hx hb hX hbl hbA hS (vp_in_nI (show 6 * i + 1 < L by omega) (by omega)) d_law_law_753 ?_
    refine ps_top (z := xs (6 * i + 1)) (by rw [nI_clamp (show 6 * i + 1 < 2 ^ 31 by omega)]) ?_
    refine ps_afterI (wc := mw cI cB cS cZ b K S ck cu F X) (wr := pw cI a q K S ck cu F N) hP hD hS hA [0, 1, 2, 3, 4, 5, 6, 7, 8, 9, 10, 11, 12, 13, 14, 15, 16, 17, 18] [19, 20, 21, 22, 23, 24, 25, 26, 27, 28, 29, 30, 31, 32, 33, 34, 35, 36, 37, 38, 39, 40, 41, 42, 43, 44, 45, 46, 47, 48, 49, 50, 51, 52, 53, 54, 55, 56, 57, 58] lw_s3 lw_s4 (by decide) (by decide) (ps_runVI ⟨hx, hb, hml, hown, hts⟩ (m_restore l dC dI cI tys ht cB cS cZ htB htS htZ b K S ck cu F X hKb hSb T (xs (6 * i + 1)) hk5 (hIM.mo hw) (fun k h1 h2 => ⟨(hIT.1 k h1 h2).2.2.1, (hIT.1 k h1 h2).2.2.2, fun w hw6 => ((hIT.1 k h1 h2).2.1 w hw6).2⟩)) (ps_cwV ps_gd 1 hts tw_351 k_Mod_restore e_Mod_restore ⟨Nat.le_of_ble_eq_true rfl, Nat.le_of_ble_eq_true rfl⟩) hK hP hD [0, 1, 2, 3, 4, 5, 6, 7, 8, 9, 10, 11, 12, 13, 14, 15, 16, 17, 18] (by decide) lw_s3 0 cMod rfl rfl rfl hl.1 rfl (Nat.le_of_ble_eq_true rfl) d_law_law_754 ⟨by show 100 + ps_L N + (0) + 0 ≤ 600000; omega, by show 440000 + ps_Y N + (0) + 0 ≤ 7302250; omega⟩) (fun r2 u2 H locs h2 hP hD hS => ?_)
    obtain ⟨hr2, hu2⟩ := h2.n hA9
    subst hr2
    subst hu2
    refine lv_icmp_eq (tgt := 795) hx hb d_law_law_757 (by decide) (fun c_2 => ?_) (fun c_2 => ?_)
    · refine W.widen (k := 100 + ps_L N) (n := 440000 + ps_Y N) (by show 100 + ps_L N + (0) + 0 ≤ _; omega) (by show 440000 + ps_Y N + (0) + 0 ≤ _; omega) ?_
      exact ih _ _ _ _ _ _ _ _ _ _ _ ls hI2 hl hP hD hS
    · exact absurd rfl c_2
