theorem kw_344 : Cond.methodLink "NoonShadeLaw" 13 yX8_island ∈ gtb := gtb_mem (in_t1 (List.mem_of_getElem? (i := 237) (by decide +kernel))) rfl
theorem kw_345 : Cond.instanceMethod yX8_island ∈ gtb := gtb_mem (in_t1 (List.mem_of_getElem? (i := 238) (by decide +kernel))) rfl
theorem kw_346 : Cond.selects "NoonShade" yX8_island yX8_island ∈ gtb := gtb_mem (in_t1 (List.mem_of_getElem? (i := 239) (by decide +kernel))) rfl
theorem kw_347 : Cond.code yX8_island prog_1_method_2_code 3 (some .int) ∈ gtb := gtb_mem (in_t2 (List.mem_of_getElem? (i := 0) (rfl))) rfl
theorem kw_348 : Cond.methodLink "NoonShadeLaw" 17 yX9_island ∈ gtb := gtb_mem (in_t4 (List.mem_of_getElem? (i := 123) (by decide +kernel))) rfl
theorem kw_349 : Cond.instanceMethod yX9_island ∈ gtb := gtb_mem (in_t4 (List.mem_of_getElem? (i := 124) (by decide +kernel))) rfl
theorem kw_350 : Cond.selects "NoonShadeModel" yX9_island yX9_island ∈ gtb := gtb_mem (in_t4 (List.mem_of_getElem? (i := 125) (by decide +kernel))) rfl
theorem kw_351 : Cond.code yX9_island prog_11_method_17_code 3 (some .int) ∈ gtb := gtb_mem (in_t4 (List.mem_of_getElem? (i := 126) (rfl))) rfl
theorem kw_352 : Cond.methodLink "NoonShadeLaw" 18 yX8_caster ∈ gtb := gtb_mem (in_t2 (List.mem_of_getElem? (i := 20) (by decide +kernel))) rfl
theorem kw_353 : Cond.instanceMethod yX8_caster ∈ gtb := gtb_mem (in_t2 (List.mem_of_getElem? (i := 21) (by decide +kernel))) rfl
theorem kw_354 : Cond.selects "NoonShade" yX8_caster yX8_caster ∈ gtb := gtb_mem (in_t2 (List.mem_of_getElem? (i := 22) (by decide +kernel))) rfl
theorem kw_355 : Cond.code yX8_caster prog_1_method_3_code 4 (some .int) ∈ gtb := gtb_mem (in_t2 (List.mem_of_getElem? (i := 23) (rfl))) rfl
theorem kw_356 : Cond.methodLink "NoonShadeLaw" 22 yX9_caster ∈ gtb := gtb_mem (in_t4 (List.mem_of_getElem? (i := 135) (by decide +kernel))) rfl
theorem kw_357 : Cond.instanceMethod yX9_caster ∈ gtb := gtb_mem (in_t4 (List.mem_of_getElem? (i := 136) (by decide +kernel))) rfl
theorem kw_358 : Cond.selects "NoonShadeModel" yX9_caster yX9_caster ∈ gtb := gtb_mem (in_t4 (List.mem_of_getElem? (i := 137) (by decide +kernel))) rfl
theorem kw_359 : Cond.code yX9_caster prog_11_method_19_code 4 (some .int) ∈ gtb := gtb_mem (in_t4 (List.mem_of_getElem? (i := 138) (rfl))) rfl
theorem kw_360 : Cond.methodLink "NoonShadeLaw" 23 yX8_jar ∈ gtb := gtb_mem (in_t2 (List.mem_of_getElem? (i := 29) (by decide +kernel))) rfl
theorem kw_361 : Cond.instanceMethod yX8_jar ∈ gtb := gtb_mem (in_t2 (List.mem_of_getElem? (i := 30) (by decide +kernel))) rfl
theorem kw_362 : Cond.selects "NoonShade" yX8_jar yX8_jar ∈ gtb := gtb_mem (in_t2 (List.mem_of_getElem? (i := 31) (by decide +kernel))) rfl
theorem kw_363 : Cond.code yX8_jar prog_1_method_4_code 2 (some .int) ∈ gtb := gtb_mem (in_t2 (List.mem_of_getElem? (i := 32) (rfl))) rfl
theorem kw_364 : Cond.methodLink "NoonShadeLaw" 26 yX9_jar ∈ gtb := gtb_mem (in_t4 (List.mem_of_getElem? (i := 158) (by decide +kernel))) rfl
theorem kw_365 : Cond.instanceMethod yX9_jar ∈ gtb := gtb_mem (in_t4 (List.mem_of_getElem? (i := 159) (by decide +kernel))) rfl
theorem kw_366 : Cond.selects "NoonShadeModel" yX9_jar yX9_jar ∈ gtb := gtb_mem (in_t4 (List.mem_of_getElem? (i := 160) (by decide +kernel))) rfl
theorem kw_367 : Cond.code yX9_jar prog_11_method_21_code 2 (some .int) ∈ gtb := gtb_mem (in_t4 (List.mem_of_getElem? (i := 161) (rfl))) rfl
theorem kw_368 : Cond.methodLink "NoonShadeLaw" 27 yX8_type ∈ gtb := gtb_mem (in_t2 (List.mem_of_getElem? (i := 37) (by decide +kernel))) rfl
theorem kw_369 : Cond.instanceMethod yX8_type ∈ gtb := gtb_mem (in_t2 (List.mem_of_getElem? (i := 38) (by decide +kernel))) rfl
theorem kw_370 : Cond.selects "NoonShade" yX8_type yX8_type ∈ gtb := gtb_mem (in_t2 (List.mem_of_getElem? (i := 39) (by decide +kernel))) rfl
theorem kw_371 : Cond.code yX8_type prog_1_method_5_code 2 (some .int) ∈ gtb := gtb_mem (in_t2 (List.mem_of_getElem? (i := 40) (rfl))) rfl
theorem kw_372 : Cond.methodLink "NoonShadeLaw" 30 yX9_type ∈ gtb := gtb_mem (in_t5 (List.mem_of_getElem? (i := 162) (by decide +kernel))) rfl
theorem kw_373 : Cond.instanceMethod yX9_type ∈ gtb := gtb_mem (in_t5 (List.mem_of_getElem? (i := 163) (by decide +kernel))) rfl
theorem kw_374 : Cond.selects "NoonShadeModel" yX9_type yX9_type ∈ gtb := gtb_mem (in_t5 (List.mem_of_getElem? (i := 164) (by decide +kernel))) rfl
theorem kw_375 : Cond.code yX9_type prog_11_method_73_code 2 (some .int) ∈ gtb := gtb_mem (in_t5 (List.mem_of_getElem? (i := 165) (rfl))) rfl
theorem kw_376 : Cond.methodLink "NoonShadeLaw" 31 yX8_clear ∈ gtb := gtb_mem (in_t2 (List.mem_of_getElem? (i := 50) (by decide +kernel))) rfl
theorem kw_377 : Cond.instanceMethod yX8_clear ∈ gtb := gtb_mem (in_t2 (List.mem_of_getElem? (i := 51) (by decide +kernel))) rfl
theorem kw_378 : Cond.selects "NoonShade" yX8_clear yX8_clear ∈ gtb := gtb_mem (in_t2 (List.mem_of_getElem? (i := 52) (by decide +kernel))) rfl
theorem kw_379 : Cond.code yX8_clear prog_1_method_6_code 1 (some .int) ∈ gtb := gtb_mem (in_t2 (List.mem_of_getElem? (i := 53) (rfl))) rfl
theorem kw_380 : Cond.methodLink "NoonShadeLaw" 35 yX9_clear ∈ gtb := gtb_mem (in_t5 (List.mem_of_getElem? (i := 167) (by decide +kernel))) rfl
theorem kw_381 : Cond.instanceMethod yX9_clear ∈ gtb := gtb_mem (in_t5 (List.mem_of_getElem? (i := 168) (by decide +kernel))) rfl
theorem kw_382 : Cond.selects "NoonShadeModel" yX9_clear yX9_clear ∈ gtb := gtb_mem (in_t5 (List.mem_of_getElem? (i := 169) (by decide +kernel))) rfl
theorem kw_383 : Cond.code yX9_clear prog_11_method_74_code 2 (some .int) ∈ gtb := gtb_mem (in_t5 (List.mem_of_getElem? (i := 170) (rfl))) rfl
theorem kw_384 : Cond.methodLink "NoonShadeLaw" 36 yX8_read ∈ gtb := gtb_mem (in_t2 (List.mem_of_getElem? (i := 58) (by decide +kernel))) rfl
theorem kw_385 : Cond.instanceMethod yX8_read ∈ gtb := gtb_mem (in_t2 (List.mem_of_getElem? (i := 59) (by decide +kernel))) rfl
theorem kw_386 : Cond.selects "NoonShade" yX8_read yX8_read ∈ gtb := gtb_mem (in_t2 (List.mem_of_getElem? (i := 60) (by decide +kernel))) rfl
theorem kw_387 : Cond.code yX8_read prog_1_method_7_code 2 (some .int) ∈ gtb := gtb_mem (in_t2 (List.mem_of_getElem? (i := 61) (rfl))) rfl
theorem kw_388 : Cond.methodLink "NoonShadeLaw" 39 yX9_read ∈ gtb := gtb_mem (in_t5 (List.mem_of_getElem? (i := 171) (by decide +kernel))) rfl
theorem kw_389 : Cond.instanceMethod yX9_read ∈ gtb := gtb_mem (in_t5 (List.mem_of_getElem? (i := 172) (by decide +kernel))) rfl
theorem kw_390 : Cond.selects "NoonShadeModel" yX9_read yX9_read ∈ gtb := gtb_mem (in_t5 (List.mem_of_getElem? (i := 173) (by decide +kernel))) rfl
theorem kw_391 : Cond.code yX9_read prog_11_method_87_code 3 (some .int) ∈ gtb := gtb_mem (in_t5 (List.mem_of_getElem? (i := 174) (rfl))) rfl
theorem kw_392 : Cond.methodLink "NoonShadeLaw" 40 yX8_ladle ∈ gtb := gtb_mem (in_t3 (List.mem_of_getElem? (i := 4) (by decide +kernel))) rfl
theorem kw_393 : Cond.instanceMethod yX8_ladle ∈ gtb := gtb_mem (in_t3 (List.mem_of_getElem? (i := 5) (by decide +kernel))) rfl
theorem kw_394 : Cond.selects "NoonShade" yX8_ladle yX8_ladle ∈ gtb := gtb_mem (in_t3 (List.mem_of_getElem? (i := 6) (by decide +kernel))) rfl
theorem kw_395 : Cond.code yX8_ladle prog_1_method_8_code 3 (some .int) ∈ gtb := gtb_mem (in_t3 (List.mem_of_getElem? (i := 7) (rfl))) rfl
theorem kw_396 : Cond.methodLink "NoonShadeLaw" 44 yX9_ladle ∈ gtb := gtb_mem (in_t4 (List.mem_of_getElem? (i := 165) (by decide +kernel))) rfl
theorem kw_397 : Cond.instanceMethod yX9_ladle ∈ gtb := gtb_mem (in_t4 (List.mem_of_getElem? (i := 166) (by decide +kernel))) rfl
theorem kw_398 : Cond.selects "NoonShadeModel" yX9_ladle yX9_ladle ∈ gtb := gtb_mem (in_t4 (List.mem_of_getElem? (i := 167) (by decide +kernel))) rfl
theorem kw_399 : Cond.code yX9_ladle prog_11_method_32_code 3 (some .int) ∈ gtb := gtb_mem (in_t4 (List.mem_of_getElem? (i := 168) (rfl))) rfl
theorem kw_400 : Cond.methodLink "NoonShadeLaw" 45 yX8_pours ∈ gtb := gtb_mem (in_t3 (List.mem_of_getElem? (i := 16) (by decide +kernel))) rfl
theorem kw_401 : Cond.instanceMethod yX8_pours ∈ gtb := gtb_mem (in_t3 (List.mem_of_getElem? (i := 17) (by decide +kernel))) rfl
theorem kw_402 : Cond.selects "NoonShade" yX8_pours yX8_pours ∈ gtb := gtb_mem (in_t3 (List.mem_of_getElem? (i := 18) (by decide +kernel))) rfl
theorem kw_403 : Cond.code yX8_pours prog_1_method_9_code 3 (some .int) ∈ gtb := gtb_mem (in_t3 (List.mem_of_getElem? (i := 19) (rfl))) rfl
theorem kw_404 : Cond.methodLink "NoonShadeLaw" 48 yX9_pours ∈ gtb := gtb_mem (in_t4 (List.mem_of_getElem? (i := 200) (by decide +kernel))) rfl
theorem kw_405 : Cond.instanceMethod yX9_pours ∈ gtb := gtb_mem (in_t4 (List.mem_of_getElem? (i := 201) (by decide +kernel))) rfl
theorem kw_406 : Cond.selects "NoonShadeModel" yX9_pours yX9_pours ∈ gtb := gtb_mem (in_t4 (List.mem_of_getElem? (i := 202) (by decide +kernel))) rfl
theorem kw_407 : Cond.code yX9_pours prog_11_method_33_code 3 (some .int) ∈ gtb := gtb_mem (in_t4 (List.mem_of_getElem? (i := 203) (rfl))) rfl
theorem kw_408 : Cond.methodLink "NoonShadeLaw" 49 yX8_sells ∈ gtb := gtb_mem (in_t3 (List.mem_of_getElem? (i := 21) (by decide +kernel))) rfl
theorem kw_409 : Cond.instanceMethod yX8_sells ∈ gtb := gtb_mem (in_t3 (List.mem_of_getElem? (i := 22) (by decide +kernel))) rfl
theorem kw_410 : Cond.selects "NoonShade" yX8_sells yX8_sells ∈ gtb := gtb_mem (in_t3 (List.mem_of_getElem? (i := 23) (by decide +kernel))) rfl
theorem kw_411 : Cond.code yX8_sells prog_1_method_10_code 2 (some .int) ∈ gtb := gtb_mem (in_t3 (List.mem_of_getElem? (i := 24) (rfl))) rfl
theorem kw_412 : Cond.methodLink "NoonShadeLaw" 52 yX9_sells ∈ gtb := gtb_mem (in_t4 (List.mem_of_getElem? (i := 207) (by decide +kernel))) rfl
theorem kw_413 : Cond.instanceMethod yX9_sells ∈ gtb := gtb_mem (in_t4 (List.mem_of_getElem? (i := 208) (by decide +kernel))) rfl
theorem kw_414 : Cond.selects "NoonShadeModel" yX9_sells yX9_sells ∈ gtb := gtb_mem (in_t4 (List.mem_of_getElem? (i := 209) (by decide +kernel))) rfl
theorem kw_415 : Cond.code yX9_sells prog_11_method_34_code 4 (some .int) ∈ gtb := gtb_mem (in_t4 (List.mem_of_getElem? (i := 210) (rfl))) rfl
theorem kw_416 : Cond.methodLink "NoonShadeLaw" 53 yX8_hours ∈ gtb := gtb_mem (in_t3 (List.mem_of_getElem? (i := 29) (by decide +kernel))) rfl
theorem kw_417 : Cond.instanceMethod yX8_hours ∈ gtb := gtb_mem (in_t3 (List.mem_of_getElem? (i := 30) (by decide +kernel))) rfl
theorem kw_418 : Cond.selects "NoonShade" yX8_hours yX8_hours ∈ gtb := gtb_mem (in_t3 (List.mem_of_getElem? (i := 31) (by decide +kernel))) rfl
theorem kw_419 : Cond.code yX8_hours prog_1_method_11_code 2 (some .int) ∈ gtb := gtb_mem (in_t3 (List.mem_of_getElem? (i := 32) (rfl))) rfl
theorem kw_420 : Cond.methodLink "NoonShadeLaw" 56 yX9_hours ∈ gtb := gtb_mem (in_t4 (List.mem_of_getElem? (i := 211) (by decide +kernel))) rfl
theorem kw_421 : Cond.instanceMethod yX9_hours ∈ gtb := gtb_mem (in_t4 (List.mem_of_getElem? (i := 212) (by decide +kernel))) rfl
theorem kw_422 : Cond.selects "NoonShadeModel" yX9_hours yX9_hours ∈ gtb := gtb_mem (in_t4 (List.mem_of_getElem? (i := 213) (by decide +kernel))) rfl
theorem kw_423 : Cond.code yX9_hours prog_11_method_35_code 2 (some .int) ∈ gtb := gtb_mem (in_t4 (List.mem_of_getElem? (i := 214) (rfl))) rfl
theorem kw_424 : Cond.methodLink "NoonShadeLaw" 57 yX8_undo ∈ gtb := gtb_mem (in_t3 (List.mem_of_getElem? (i := 34) (by decide +kernel))) rfl
theorem kw_425 : Cond.instanceMethod yX8_undo ∈ gtb := gtb_mem (in_t3 (List.mem_of_getElem? (i := 35) (by decide +kernel))) rfl
theorem kw_426 : Cond.selects "NoonShade" yX8_undo yX8_undo ∈ gtb := gtb_mem (in_t3 (List.mem_of_getElem? (i := 36) (by decide +kernel))) rfl
theorem kw_427 : Cond.code yX8_undo prog_1_method_12_code 1 (some .int) ∈ gtb := gtb_mem (in_t3 (List.mem_of_getElem? (i := 37) (rfl))) rfl
theorem kw_428 : Cond.methodLink "NoonShadeLaw" 60 yX9_undo ∈ gtb := gtb_mem (in_t4 (List.mem_of_getElem? (i := 228) (by decide +kernel))) rfl
theorem kw_429 : Cond.instanceMethod yX9_undo ∈ gtb := gtb_mem (in_t4 (List.mem_of_getElem? (i := 229) (by decide +kernel))) rfl
theorem kw_430 : Cond.selects "NoonShadeModel" yX9_undo yX9_undo ∈ gtb := gtb_mem (in_t4 (List.mem_of_getElem? (i := 230) (by decide +kernel))) rfl
theorem kw_431 : Cond.code yX9_undo prog_11_method_36_code 2 (some .int) ∈ gtb := gtb_mem (in_t4 (List.mem_of_getElem? (i := 231) (rfl))) rfl
theorem kw_432 : Cond.methodLink "NoonShadeLaw" 61 yX8_of ∈ gtb := gtb_mem (in_t3 (List.mem_of_getElem? (i := 42) (by decide +kernel))) rfl
theorem kw_433 : Cond.instanceMethod yX8_of ∈ gtb := gtb_mem (in_t3 (List.mem_of_getElem? (i := 43) (by decide +kernel))) rfl
theorem kw_434 : Cond.selects "NoonShade" yX8_of yX8_of ∈ gtb := gtb_mem (in_t3 (List.mem_of_getElem? (i := 44) (by decide +kernel))) rfl
theorem kw_435 : Cond.code yX8_of prog_1_method_13_code 3 (some .int) ∈ gtb := gtb_mem (in_t3 (List.mem_of_getElem? (i := 45) (rfl))) rfl
theorem kw_436 : Cond.methodLink "NoonShadeLaw" 64 yX9_of ∈ gtb := gtb_mem (in_t4 (List.mem_of_getElem? (i := 232) (by decide +kernel))) rfl
theorem kw_437 : Cond.instanceMethod yX9_of ∈ gtb := gtb_mem (in_t4 (List.mem_of_getElem? (i := 233) (by decide +kernel))) rfl
theorem kw_438 : Cond.selects "NoonShadeModel" yX9_of yX9_of ∈ gtb := gtb_mem (in_t4 (List.mem_of_getElem? (i := 234) (by decide +kernel))) rfl
theorem kw_439 : Cond.code yX9_of prog_11_method_38_code 3 (some .int) ∈ gtb := gtb_mem (in_t4 (List.mem_of_getElem? (i := 235) (rfl))) rfl
theorem kw_440 : Cond.methodLink "NoonShadeLaw" 65 yX8_about ∈ gtb := gtb_mem (in_t3 (List.mem_of_getElem? (i := 47) (by decide +kernel))) rfl
theorem kw_441 : Cond.instanceMethod yX8_about ∈ gtb := gtb_mem (in_t3 (List.mem_of_getElem? (i := 48) (by decide +kernel))) rfl
theorem kw_442 : Cond.selects "NoonShade" yX8_about yX8_about ∈ gtb := gtb_mem (in_t3 (List.mem_of_getElem? (i := 49) (by decide +kernel))) rfl
theorem kw_443 : Cond.code yX8_about prog_1_method_14_code 3 (some .int) ∈ gtb := gtb_mem (in_t3 (List.mem_of_getElem? (i := 50) (rfl))) rfl
theorem kw_444 : Cond.methodLink "NoonShadeLaw" 68 yX9_about ∈ gtb := gtb_mem (in_t5 (List.mem_of_getElem? (i := 1) (by decide +kernel))) rfl
theorem kw_445 : Cond.instanceMethod yX9_about ∈ gtb := gtb_mem (in_t5 (List.mem_of_getElem? (i := 2) (by decide +kernel))) rfl
theorem kw_446 : Cond.selects "NoonShadeModel" yX9_about yX9_about ∈ gtb := gtb_mem (in_t5 (List.mem_of_getElem? (i := 3) (by decide +kernel))) rfl
theorem kw_447 : Cond.code yX9_about prog_11_method_40_code 3 (some .int) ∈ gtb := gtb_mem (in_t5 (List.mem_of_getElem? (i := 4) (rfl))) rfl
theorem kw_448 : Cond.methodLink "NoonShadeLaw" 69 yX8_gives ∈ gtb := gtb_mem (in_t3 (List.mem_of_getElem? (i := 59) (by decide +kernel))) rfl
theorem kw_449 : Cond.instanceMethod yX8_gives ∈ gtb := gtb_mem (in_t3 (List.mem_of_getElem? (i := 60) (by decide +kernel))) rfl
theorem kw_450 : Cond.selects "NoonShade" yX8_gives yX8_gives ∈ gtb := gtb_mem (in_t3 (List.mem_of_getElem? (i := 61) (by decide +kernel))) rfl
theorem kw_451 : Cond.code yX8_gives prog_1_method_15_code 3 (some .int) ∈ gtb := gtb_mem (in_t3 (List.mem_of_getElem? (i := 62) (rfl))) rfl
theorem kw_452 : Cond.methodLink "NoonShadeLaw" 72 yX9_gives ∈ gtb := gtb_mem (in_t5 (List.mem_of_getElem? (i := 9) (by decide +kernel))) rfl
theorem kw_453 : Cond.instanceMethod yX9_gives ∈ gtb := gtb_mem (in_t5 (List.mem_of_getElem? (i := 10) (by decide +kernel))) rfl
theorem kw_454 : Cond.selects "NoonShadeModel" yX9_gives yX9_gives ∈ gtb := gtb_mem (in_t5 (List.mem_of_getElem? (i := 11) (by decide +kernel))) rfl
theorem kw_455 : Cond.code yX9_gives prog_11_method_42_code 3 (some .int) ∈ gtb := gtb_mem (in_t5 (List.mem_of_getElem? (i := 12) (rfl))) rfl
theorem kw_456 : Cond.methodLink "NoonShadeLaw" 73 yX8_keeps ∈ gtb := gtb_mem (in_t3 (List.mem_of_getElem? (i := 63) (by decide +kernel))) rfl
theorem kw_457 : Cond.instanceMethod yX8_keeps ∈ gtb := gtb_mem (in_t3 (List.mem_of_getElem? (i := 64) (by decide +kernel))) rfl
theorem kw_458 : Cond.selects "NoonShade" yX8_keeps yX8_keeps ∈ gtb := gtb_mem (in_t3 (List.mem_of_getElem? (i := 65) (by decide +kernel))) rfl
theorem kw_459 : Cond.code yX8_keeps prog_1_method_16_code 3 (some .int) ∈ gtb := gtb_mem (in_t3 (List.mem_of_getElem? (i := 66) (rfl))) rfl
theorem kw_460 : Cond.methodLink "NoonShadeLaw" 76 yX9_keeps ∈ gtb := gtb_mem (in_t5 (List.mem_of_getElem? (i := 13) (by decide +kernel))) rfl
theorem kw_461 : Cond.instanceMethod yX9_keeps ∈ gtb := gtb_mem (in_t5 (List.mem_of_getElem? (i := 14) (by decide +kernel))) rfl
theorem kw_462 : Cond.selects "NoonShadeModel" yX9_keeps yX9_keeps ∈ gtb := gtb_mem (in_t5 (List.mem_of_getElem? (i := 15) (by decide +kernel))) rfl
theorem kw_463 : Cond.code yX9_keeps prog_11_method_43_code 4 (some .int) ∈ gtb := gtb_mem (in_t5 (List.mem_of_getElem? (i := 16) (rfl))) rfl
theorem kw_464 : Cond.methodLink "NoonShadeLaw" 77 yX8_when ∈ gtb := gtb_mem (in_t3 (List.mem_of_getElem? (i := 67) (by decide +kernel))) rfl
theorem kw_465 : Cond.instanceMethod yX8_when ∈ gtb := gtb_mem (in_t3 (List.mem_of_getElem? (i := 68) (by decide +kernel))) rfl
theorem kw_466 : Cond.selects "NoonShade" yX8_when yX8_when ∈ gtb := gtb_mem (in_t3 (List.mem_of_getElem? (i := 69) (by decide +kernel))) rfl
theorem kw_467 : Cond.code yX8_when prog_1_method_17_code 4 (some .int) ∈ gtb := gtb_mem (in_t3 (List.mem_of_getElem? (i := 70) (rfl))) rfl
theorem kw_468 : Cond.methodLink "NoonShadeLaw" 80 yX9_when ∈ gtb := gtb_mem (in_t5 (List.mem_of_getElem? (i := 21) (by decide +kernel))) rfl
theorem kw_469 : Cond.instanceMethod yX9_when ∈ gtb := gtb_mem (in_t5 (List.mem_of_getElem? (i := 22) (by decide +kernel))) rfl
theorem kw_470 : Cond.selects "NoonShadeModel" yX9_when yX9_when ∈ gtb := gtb_mem (in_t5 (List.mem_of_getElem? (i := 23) (by decide +kernel))) rfl
theorem kw_471 : Cond.code yX9_when prog_11_method_44_code 4 (some .int) ∈ gtb := gtb_mem (in_t5 (List.mem_of_getElem? (i := 24) (rfl))) rfl
theorem kw_472 : Cond.methodLink "NoonShadeLaw" 81 yX8_gone ∈ gtb := gtb_mem (in_t3 (List.mem_of_getElem? (i := 71) (by decide +kernel))) rfl
theorem kw_473 : Cond.instanceMethod yX8_gone ∈ gtb := gtb_mem (in_t3 (List.mem_of_getElem? (i := 72) (by decide +kernel))) rfl
theorem kw_474 : Cond.selects "NoonShade" yX8_gone yX8_gone ∈ gtb := gtb_mem (in_t3 (List.mem_of_getElem? (i := 73) (by decide +kernel))) rfl
theorem kw_475 : Cond.code yX8_gone prog_1_method_18_code 4 (some .int) ∈ gtb := gtb_mem (in_t3 (List.mem_of_getElem? (i := 74) (rfl))) rfl
theorem kw_476 : Cond.methodLink "NoonShadeLaw" 84 yX9_gone ∈ gtb := gtb_mem (in_t5 (List.mem_of_getElem? (i := 25) (by decide +kernel))) rfl
theorem kw_477 : Cond.instanceMethod yX9_gone ∈ gtb := gtb_mem (in_t5 (List.mem_of_getElem? (i := 26) (by decide +kernel))) rfl
theorem kw_478 : Cond.selects "NoonShadeModel" yX9_gone yX9_gone ∈ gtb := gtb_mem (in_t5 (List.mem_of_getElem? (i := 27) (by decide +kernel))) rfl
theorem kw_479 : Cond.code yX9_gone prog_11_method_45_code 3 (some .int) ∈ gtb := gtb_mem (in_t5 (List.mem_of_getElem? (i := 28) (rfl))) rfl
theorem kw_480 : Cond.methodLink "NoonShadeLaw" 85 yX8_round ∈ gtb := gtb_mem (in_t3 (List.mem_of_getElem? (i := 76) (by decide +kernel))) rfl
theorem kw_481 : Cond.instanceMethod yX8_round ∈ gtb := gtb_mem (in_t3 (List.mem_of_getElem? (i := 77) (by decide +kernel))) rfl
theorem kw_482 : Cond.selects "NoonShade" yX8_round yX8_round ∈ gtb := gtb_mem (in_t3 (List.mem_of_getElem? (i := 78) (by decide +kernel))) rfl
theorem kw_483 : Cond.code yX8_round prog_1_method_19_code 4 (some .int) ∈ gtb := gtb_mem (in_t3 (List.mem_of_getElem? (i := 79) (rfl))) rfl
theorem kw_484 : Cond.methodLink "NoonShadeLaw" 88 yX9_round ∈ gtb := gtb_mem (in_t5 (List.mem_of_getElem? (i := 29) (by decide +kernel))) rfl
theorem kw_485 : Cond.instanceMethod yX9_round ∈ gtb := gtb_mem (in_t5 (List.mem_of_getElem? (i := 30) (by decide +kernel))) rfl
theorem kw_486 : Cond.selects "NoonShadeModel" yX9_round yX9_round ∈ gtb := gtb_mem (in_t5 (List.mem_of_getElem? (i := 31) (by decide +kernel))) rfl
theorem kw_487 : Cond.code yX9_round prog_11_method_49_code 6 (some .int) ∈ gtb := gtb_mem (in_t5 (List.mem_of_getElem? (i := 32) (rfl))) rfl
theorem kw_488 : Cond.methodLink "NoonShadeLaw" 89 yX8_few ∈ gtb := gtb_mem (in_t3 (List.mem_of_getElem? (i := 113) (by decide +kernel))) rfl
theorem kw_489 : Cond.instanceMethod yX8_few ∈ gtb := gtb_mem (in_t3 (List.mem_of_getElem? (i := 114) (by decide +kernel))) rfl
theorem kw_490 : Cond.selects "NoonShade" yX8_few yX8_few ∈ gtb := gtb_mem (in_t3 (List.mem_of_getElem? (i := 115) (by decide +kernel))) rfl
theorem kw_491 : Cond.code yX8_few prog_1_method_20_code 6 (some .int) ∈ gtb := gtb_mem (in_t3 (List.mem_of_getElem? (i := 116) (rfl))) rfl
theorem kw_492 : Cond.methodLink "NoonShadeLaw" 93 yX9_few ∈ gtb := gtb_mem (in_t5 (List.mem_of_getElem? (i := 44) (by decide +kernel))) rfl
theorem kw_493 : Cond.instanceMethod yX9_few ∈ gtb := gtb_mem (in_t5 (List.mem_of_getElem? (i := 45) (by decide +kernel))) rfl
theorem kw_494 : Cond.selects "NoonShadeModel" yX9_few yX9_few ∈ gtb := gtb_mem (in_t5 (List.mem_of_getElem? (i := 46) (by decide +kernel))) rfl
theorem kw_495 : Cond.code yX9_few prog_11_method_52_code 9 (some .int) ∈ gtb := gtb_mem (in_t5 (List.mem_of_getElem? (i := 47) (rfl))) rfl
theorem kw_496 : Cond.methodLink "NoonShadeLaw" 94 yX8_into ∈ gtb := gtb_mem (in_t3 (List.mem_of_getElem? (i := 136) (by decide +kernel))) rfl
theorem kw_497 : Cond.instanceMethod yX8_into ∈ gtb := gtb_mem (in_t3 (List.mem_of_getElem? (i := 137) (by decide +kernel))) rfl
theorem kw_498 : Cond.selects "NoonShade" yX8_into yX8_into ∈ gtb := gtb_mem (in_t3 (List.mem_of_getElem? (i := 138) (by decide +kernel))) rfl
theorem kw_499 : Cond.code yX8_into prog_1_method_21_code 8 (some .int) ∈ gtb := gtb_mem (in_t3 (List.mem_of_getElem? (i := 139) (rfl))) rfl
theorem kw_500 : Cond.methodLink "NoonShadeLaw" 97 yX9_into ∈ gtb := gtb_mem (in_t5 (List.mem_of_getElem? (i := 59) (by decide +kernel))) rfl
theorem kw_501 : Cond.instanceMethod yX9_into ∈ gtb := gtb_mem (in_t5 (List.mem_of_getElem? (i := 60) (by decide +kernel))) rfl
theorem kw_502 : Cond.selects "NoonShadeModel" yX9_into yX9_into ∈ gtb := gtb_mem (in_t5 (List.mem_of_getElem? (i := 61) (by decide +kernel))) rfl
theorem kw_503 : Cond.code yX9_into prog_11_method_53_code 9 (some .int) ∈ gtb := gtb_mem (in_t5 (List.mem_of_getElem? (i := 62) (rfl))) rfl
theorem kw_504 : Cond.methodLink "NoonShadeLaw" 98 yX8_note ∈ gtb := gtb_mem (in_t3 (List.mem_of_getElem? (i := 146) (by decide +kernel))) rfl
theorem kw_505 : Cond.instanceMethod yX8_note ∈ gtb := gtb_mem (in_t3 (List.mem_of_getElem? (i := 147) (by decide +kernel))) rfl
theorem kw_506 : Cond.selects "NoonShade" yX8_note yX8_note ∈ gtb := gtb_mem (in_t3 (List.mem_of_getElem? (i := 148) (by decide +kernel))) rfl
theorem kw_507 : Cond.code yX8_note prog_1_method_22_code 5 (some .int) ∈ gtb := gtb_mem (in_t3 (List.mem_of_getElem? (i := 149) (rfl))) rfl
theorem kw_508 : Cond.methodLink "NoonShadeLaw" 101 yX9_note ∈ gtb := gtb_mem (in_t5 (List.mem_of_getElem? (i := 64) (by decide +kernel))) rfl
theorem kw_509 : Cond.instanceMethod yX9_note ∈ gtb := gtb_mem (in_t5 (List.mem_of_getElem? (i := 65) (by decide +kernel))) rfl
theorem kw_510 : Cond.selects "NoonShadeModel" yX9_note yX9_note ∈ gtb := gtb_mem (in_t5 (List.mem_of_getElem? (i := 66) (by decide +kernel))) rfl
theorem kw_511 : Cond.code yX9_note prog_11_method_55_code 5 (some .int) ∈ gtb := gtb_mem (in_t5 (List.mem_of_getElem? (i := 67) (rfl))) rfl
theorem kw_512 : Cond.methodLink "NoonShadeLaw" 102 yX8_mark ∈ gtb := gtb_mem (in_t3 (List.mem_of_getElem? (i := 159) (by decide +kernel))) rfl
theorem kw_513 : Cond.instanceMethod yX8_mark ∈ gtb := gtb_mem (in_t3 (List.mem_of_getElem? (i := 160) (by decide +kernel))) rfl
theorem kw_514 : Cond.selects "NoonShade" yX8_mark yX8_mark ∈ gtb := gtb_mem (in_t3 (List.mem_of_getElem? (i := 161) (by decide +kernel))) rfl
theorem kw_515 : Cond.code yX8_mark prog_1_method_23_code 5 (some .int) ∈ gtb := gtb_mem (in_t3 (List.mem_of_getElem? (i := 162) (rfl))) rfl
theorem kw_516 : Cond.methodLink "NoonShadeLaw" 105 yX9_mark ∈ gtb := gtb_mem (in_t5 (List.mem_of_getElem? (i := 77) (by decide +kernel))) rfl
theorem kw_517 : Cond.instanceMethod yX9_mark ∈ gtb := gtb_mem (in_t5 (List.mem_of_getElem? (i := 78) (by decide +kernel))) rfl
theorem kw_518 : Cond.selects "NoonShadeModel" yX9_mark yX9_mark ∈ gtb := gtb_mem (in_t5 (List.mem_of_getElem? (i := 79) (by decide +kernel))) rfl
theorem kw_519 : Cond.code yX9_mark prog_11_method_56_code 5 (some .int) ∈ gtb := gtb_mem (in_t5 (List.mem_of_getElem? (i := 80) (rfl))) rfl
theorem kw_520 : Cond.methodLink "NoonShadeLaw" 106 yX8_forget ∈ gtb := gtb_mem (in_t3 (List.mem_of_getElem? (i := 163) (by decide +kernel))) rfl
theorem kw_521 : Cond.instanceMethod yX8_forget ∈ gtb := gtb_mem (in_t3 (List.mem_of_getElem? (i := 164) (by decide +kernel))) rfl
theorem kw_522 : Cond.selects "NoonShade" yX8_forget yX8_forget ∈ gtb := gtb_mem (in_t3 (List.mem_of_getElem? (i := 165) (by decide +kernel))) rfl
theorem kw_523 : Cond.code yX8_forget prog_1_method_24_code 2 (some .int) ∈ gtb := gtb_mem (in_t3 (List.mem_of_getElem? (i := 166) (rfl))) rfl
theorem kw_524 : Cond.methodLink "NoonShadeLaw" 109 yX9_forget ∈ gtb := gtb_mem (in_t5 (List.mem_of_getElem? (i := 84) (by decide +kernel))) rfl
theorem kw_525 : Cond.instanceMethod yX9_forget ∈ gtb := gtb_mem (in_t5 (List.mem_of_getElem? (i := 85) (by decide +kernel))) rfl
theorem kw_526 : Cond.selects "NoonShadeModel" yX9_forget yX9_forget ∈ gtb := gtb_mem (in_t5 (List.mem_of_getElem? (i := 86) (by decide +kernel))) rfl
theorem kw_527 : Cond.code yX9_forget prog_11_method_57_code 3 (some .int) ∈ gtb := gtb_mem (in_t5 (List.mem_of_getElem? (i := 87) (rfl))) rfl
theorem kw_528 : Cond.methodLink "NoonShadeLaw" 110 yX8_is ∈ gtb := gtb_mem (in_t3 (List.mem_of_getElem? (i := 168) (by decide +kernel))) rfl
theorem kw_529 : Cond.instanceMethod yX8_is ∈ gtb := gtb_mem (in_t3 (List.mem_of_getElem? (i := 169) (by decide +kernel))) rfl
theorem kw_530 : Cond.selects "NoonShade" yX8_is yX8_is ∈ gtb := gtb_mem (in_t3 (List.mem_of_getElem? (i := 170) (by decide +kernel))) rfl
theorem kw_531 : Cond.code yX8_is prog_1_method_25_code 2 (some .int) ∈ gtb := gtb_mem (in_t3 (List.mem_of_getElem? (i := 171) (rfl))) rfl
theorem kw_532 : Cond.methodLink "NoonShadeLaw" 113 yX9_is ∈ gtb := gtb_mem (in_t5 (List.mem_of_getElem? (i := 88) (by decide +kernel))) rfl
theorem kw_533 : Cond.instanceMethod yX9_is ∈ gtb := gtb_mem (in_t5 (List.mem_of_getElem? (i := 89) (by decide +kernel))) rfl
theorem kw_534 : Cond.selects "NoonShadeModel" yX9_is yX9_is ∈ gtb := gtb_mem (in_t5 (List.mem_of_getElem? (i := 90) (by decide +kernel))) rfl
theorem kw_535 : Cond.code yX9_is prog_11_method_61_code 2 (some .int) ∈ gtb := gtb_mem (in_t5 (List.mem_of_getElem? (i := 91) (rfl))) rfl
theorem kw_536 : Cond.methodLink "NoonShadeLaw" 114 yX8_look ∈ gtb := gtb_mem (in_t3 (List.mem_of_getElem? (i := 185) (by decide +kernel))) rfl
theorem kw_537 : Cond.instanceMethod yX8_look ∈ gtb := gtb_mem (in_t3 (List.mem_of_getElem? (i := 186) (by decide +kernel))) rfl
theorem kw_538 : Cond.selects "NoonShade" yX8_look yX8_look ∈ gtb := gtb_mem (in_t3 (List.mem_of_getElem? (i := 187) (by decide +kernel))) rfl
theorem kw_539 : Cond.code yX8_look prog_1_method_26_code 4 (some .int) ∈ gtb := gtb_mem (in_t3 (List.mem_of_getElem? (i := 188) (rfl))) rfl
theorem kw_540 : Cond.methodLink "NoonShadeLaw" 117 yX9_look ∈ gtb := gtb_mem (in_t5 (List.mem_of_getElem? (i := 100) (by decide +kernel))) rfl
theorem kw_541 : Cond.instanceMethod yX9_look ∈ gtb := gtb_mem (in_t5 (List.mem_of_getElem? (i := 101) (by decide +kernel))) rfl
theorem kw_542 : Cond.selects "NoonShadeModel" yX9_look yX9_look ∈ gtb := gtb_mem (in_t5 (List.mem_of_getElem? (i := 102) (by decide +kernel))) rfl
theorem kw_543 : Cond.code yX9_look prog_11_method_63_code 7 (some .int) ∈ gtb := gtb_mem (in_t5 (List.mem_of_getElem? (i := 103) (rfl))) rfl
theorem kw_544 : Cond.methodLink "NoonShadeLaw" 118 yX8_kinds ∈ gtb := gtb_mem (in_t3 (List.mem_of_getElem? (i := 203) (by decide +kernel))) rfl
theorem kw_545 : Cond.instanceMethod yX8_kinds ∈ gtb := gtb_mem (in_t3 (List.mem_of_getElem? (i := 204) (by decide +kernel))) rfl
theorem kw_546 : Cond.selects "NoonShade" yX8_kinds yX8_kinds ∈ gtb := gtb_mem (in_t3 (List.mem_of_getElem? (i := 205) (by decide +kernel))) rfl
theorem kw_547 : Cond.code yX8_kinds prog_1_method_27_code 2 (some .int) ∈ gtb := gtb_mem (in_t3 (List.mem_of_getElem? (i := 206) (rfl))) rfl
theorem kw_548 : Cond.methodLink "NoonShadeLaw" 121 yX9_kinds ∈ gtb := gtb_mem (in_t5 (List.mem_of_getElem? (i := 109) (by decide +kernel))) rfl
theorem kw_549 : Cond.instanceMethod yX9_kinds ∈ gtb := gtb_mem (in_t5 (List.mem_of_getElem? (i := 110) (by decide +kernel))) rfl
theorem kw_550 : Cond.selects "NoonShadeModel" yX9_kinds yX9_kinds ∈ gtb := gtb_mem (in_t5 (List.mem_of_getElem? (i := 111) (by decide +kernel))) rfl
theorem kw_551 : Cond.code yX9_kinds prog_11_method_64_code 2 (some .int) ∈ gtb := gtb_mem (in_t5 (List.mem_of_getElem? (i := 112) (rfl))) rfl
theorem kw_552 : Cond.methodLink "NoonShadeLaw" 122 yX8_ask ∈ gtb := gtb_mem (in_t3 (List.mem_of_getElem? (i := 207) (by decide +kernel))) rfl
theorem kw_553 : Cond.instanceMethod yX8_ask ∈ gtb := gtb_mem (in_t3 (List.mem_of_getElem? (i := 208) (by decide +kernel))) rfl
theorem kw_554 : Cond.selects "NoonShade" yX8_ask yX8_ask ∈ gtb := gtb_mem (in_t3 (List.mem_of_getElem? (i := 209) (by decide +kernel))) rfl
theorem kw_555 : Cond.code yX8_ask prog_1_method_28_code 3 (some .int) ∈ gtb := gtb_mem (in_t3 (List.mem_of_getElem? (i := 210) (rfl))) rfl
theorem kw_556 : Cond.methodLink "NoonShadeLaw" 125 yX9_ask ∈ gtb := gtb_mem (in_t5 (List.mem_of_getElem? (i := 117) (by decide +kernel))) rfl
theorem kw_557 : Cond.instanceMethod yX9_ask ∈ gtb := gtb_mem (in_t5 (List.mem_of_getElem? (i := 118) (by decide +kernel))) rfl
theorem kw_558 : Cond.selects "NoonShadeModel" yX9_ask yX9_ask ∈ gtb := gtb_mem (in_t5 (List.mem_of_getElem? (i := 119) (by decide +kernel))) rfl
theorem kw_559 : Cond.code yX9_ask prog_11_method_65_code 8 (some .int) ∈ gtb := gtb_mem (in_t5 (List.mem_of_getElem? (i := 120) (rfl))) rfl
theorem kw_560 : Cond.methodLink "NoonShadeLaw" 126 yX8_two ∈ gtb := gtb_mem (in_t3 (List.mem_of_getElem? (i := 211) (by decide +kernel))) rfl
theorem kw_561 : Cond.instanceMethod yX8_two ∈ gtb := gtb_mem (in_t3 (List.mem_of_getElem? (i := 212) (by decide +kernel))) rfl
theorem kw_562 : Cond.selects "NoonShade" yX8_two yX8_two ∈ gtb := gtb_mem (in_t3 (List.mem_of_getElem? (i := 213) (by decide +kernel))) rfl
theorem kw_563 : Cond.code yX8_two prog_1_method_29_code 5 (some .int) ∈ gtb := gtb_mem (in_t3 (List.mem_of_getElem? (i := 214) (rfl))) rfl
theorem kw_564 : Cond.methodLink "NoonShadeLaw" 129 yX9_two ∈ gtb := gtb_mem (in_t5 (List.mem_of_getElem? (i := 121) (by decide +kernel))) rfl
theorem kw_565 : Cond.instanceMethod yX9_two ∈ gtb := gtb_mem (in_t5 (List.mem_of_getElem? (i := 122) (by decide +kernel))) rfl
theorem kw_566 : Cond.selects "NoonShadeModel" yX9_two yX9_two ∈ gtb := gtb_mem (in_t5 (List.mem_of_getElem? (i := 123) (by decide +kernel))) rfl
theorem kw_567 : Cond.code yX9_two prog_11_method_69_code 5 (some .int) ∈ gtb := gtb_mem (in_t5 (List.mem_of_getElem? (i := 124) (rfl))) rfl
theorem kw_568 : Cond.methodLink "NoonShadeLaw" 130 yX8_spilt ∈ gtb := gtb_mem (in_t3 (List.mem_of_getElem? (i := 223) (by decide +kernel))) rfl
theorem kw_569 : Cond.instanceMethod yX8_spilt ∈ gtb := gtb_mem (in_t3 (List.mem_of_getElem? (i := 224) (by decide +kernel))) rfl
theorem kw_570 : Cond.selects "NoonShade" yX8_spilt yX8_spilt ∈ gtb := gtb_mem (in_t3 (List.mem_of_getElem? (i := 225) (by decide +kernel))) rfl
theorem kw_571 : Cond.code yX8_spilt prog_1_method_30_code 5 (some .int) ∈ gtb := gtb_mem (in_t3 (List.mem_of_getElem? (i := 226) (rfl))) rfl
theorem kw_572 : Cond.methodLink "NoonShadeLaw" 133 yX9_spilt ∈ gtb := gtb_mem (in_t5 (List.mem_of_getElem? (i := 137) (by decide +kernel))) rfl
theorem kw_573 : Cond.instanceMethod yX9_spilt ∈ gtb := gtb_mem (in_t5 (List.mem_of_getElem? (i := 138) (by decide +kernel))) rfl
theorem kw_574 : Cond.selects "NoonShadeModel" yX9_spilt yX9_spilt ∈ gtb := gtb_mem (in_t5 (List.mem_of_getElem? (i := 139) (by decide +kernel))) rfl
theorem kw_575 : Cond.code yX9_spilt prog_11_method_71_code 14 (some .int) ∈ gtb := gtb_mem (in_t5 (List.mem_of_getElem? (i := 140) (rfl))) rfl
theorem kw_576 : Cond.methodLink "NoonShadeLaw" 134 yX8_noons ∈ gtb := gtb_mem (in_t4 (List.mem_of_getElem? (i := 3) (by decide +kernel))) rfl
theorem kw_577 : Cond.instanceMethod yX8_noons ∈ gtb := gtb_mem (in_t4 (List.mem_of_getElem? (i := 4) (by decide +kernel))) rfl
theorem kw_578 : Cond.selects "NoonShade" yX8_noons yX8_noons ∈ gtb := gtb_mem (in_t4 (List.mem_of_getElem? (i := 5) (by decide +kernel))) rfl
theorem kw_579 : Cond.code yX8_noons prog_1_method_31_code 8 (some .int) ∈ gtb := gtb_mem (in_t4 (List.mem_of_getElem? (i := 6) (rfl))) rfl
theorem kw_580 : Cond.methodLink "NoonShadeLaw" 137 yX9_noons ∈ gtb := gtb_mem (in_t5 (List.mem_of_getElem? (i := 146) (by decide +kernel))) rfl
theorem kw_581 : Cond.instanceMethod yX9_noons ∈ gtb := gtb_mem (in_t5 (List.mem_of_getElem? (i := 147) (by decide +kernel))) rfl
theorem kw_582 : Cond.selects "NoonShadeModel" yX9_noons yX9_noons ∈ gtb := gtb_mem (in_t5 (List.mem_of_getElem? (i := 148) (by decide +kernel))) rfl
theorem kw_583 : Cond.code yX9_noons prog_11_method_72_code 9 (some .int) ∈ gtb := gtb_mem (in_t5 (List.mem_of_getElem? (i := 149) (rfl))) rfl
theorem kw_584 : Cond.methodLink "NoonShadeLaw" 138 yX8_part ∈ gtb := gtb_mem (in_t4 (List.mem_of_getElem? (i := 22) (by decide +kernel))) rfl
theorem kw_585 : Cond.instanceMethod yX8_part ∈ gtb := gtb_mem (in_t4 (List.mem_of_getElem? (i := 23) (by decide +kernel))) rfl
theorem kw_586 : Cond.selects "NoonShade" yX8_part yX8_part ∈ gtb := gtb_mem (in_t4 (List.mem_of_getElem? (i := 24) (by decide +kernel))) rfl
theorem kw_587 : Cond.code yX8_part prog_1_method_32_code 2 (some .long) ∈ gtb := gtb_mem (in_t4 (List.mem_of_getElem? (i := 25) (rfl))) rfl
theorem kw_588 : Cond.methodLink "NoonShadeLaw" 142 yX9_part ∈ gtb := gtb_mem (in_t5 (List.mem_of_getElem? (i := 225) (by decide +kernel))) rfl
theorem kw_589 : Cond.instanceMethod yX9_part ∈ gtb := gtb_mem (in_t5 (List.mem_of_getElem? (i := 226) (by decide +kernel))) rfl
theorem kw_590 : Cond.selects "NoonShadeModel" yX9_part yX9_part ∈ gtb := gtb_mem (in_t5 (List.mem_of_getElem? (i := 227) (by decide +kernel))) rfl
theorem kw_591 : Cond.code yX9_part prog_11_method_88_code 2 (some .long) ∈ gtb := gtb_mem (in_t5 (List.mem_of_getElem? (i := 228) (rfl))) rfl
theorem kw_592 : Cond.methodLink "NoonShadeLaw" 143 yX8_image ∈ gtb := gtb_mem (in_t4 (List.mem_of_getElem? (i := 26) (by decide +kernel))) rfl
theorem kw_593 : Cond.instanceMethod yX8_image ∈ gtb := gtb_mem (in_t4 (List.mem_of_getElem? (i := 27) (by decide +kernel))) rfl
theorem kw_594 : Cond.selects "NoonShade" yX8_image yX8_image ∈ gtb := gtb_mem (in_t4 (List.mem_of_getElem? (i := 28) (by decide +kernel))) rfl
theorem kw_595 : Cond.code yX8_image prog_1_method_33_code 2 (some .int) ∈ gtb := gtb_mem (in_t4 (List.mem_of_getElem? (i := 29) (rfl))) rfl
theorem kw_596 : Cond.methodLink "NoonShadeLaw" 146 yX9_image ∈ gtb := gtb_mem (in_t5 (List.mem_of_getElem? (i := 229) (by decide +kernel))) rfl
theorem kw_597 : Cond.instanceMethod yX9_image ∈ gtb := gtb_mem (in_t5 (List.mem_of_getElem? (i := 230) (by decide +kernel))) rfl
theorem kw_598 : Cond.selects "NoonShadeModel" yX9_image yX9_image ∈ gtb := gtb_mem (in_t5 (List.mem_of_getElem? (i := 231) (by decide +kernel))) rfl
theorem kw_599 : Cond.code yX9_image prog_11_method_89_code 3 (some .int) ∈ gtb := gtb_mem (in_t5 (List.mem_of_getElem? (i := 232) (rfl))) rfl
theorem kw_600 : Cond.methodLink "NoonShadeLaw" 147 yX8_from ∈ gtb := gtb_mem (in_t4 (List.mem_of_getElem? (i := 30) (by decide +kernel))) rfl
theorem kw_601 : Cond.instanceMethod yX8_from ∈ gtb := gtb_mem (in_t4 (List.mem_of_getElem? (i := 31) (by decide +kernel))) rfl
theorem kw_602 : Cond.selects "NoonShade" yX8_from yX8_from ∈ gtb := gtb_mem (in_t4 (List.mem_of_getElem? (i := 32) (by decide +kernel))) rfl
theorem kw_603 : Cond.code yX8_from prog_1_method_34_code 2 (some .int) ∈ gtb := gtb_mem (in_t4 (List.mem_of_getElem? (i := 33) (rfl))) rfl
theorem kw_604 : Cond.methodLink "NoonShadeLaw" 150 yX9_from ∈ gtb := gtb_mem (in_t5 (List.mem_of_getElem? (i := 233) (by decide +kernel))) rfl
theorem kw_605 : Cond.instanceMethod yX9_from ∈ gtb := gtb_mem (in_t5 (List.mem_of_getElem? (i := 234) (by decide +kernel))) rfl
theorem kw_606 : Cond.selects "NoonShadeModel" yX9_from yX9_from ∈ gtb := gtb_mem (in_t5 (List.mem_of_getElem? (i := 235) (by decide +kernel))) rfl
theorem kw_607 : Cond.code yX9_from prog_11_method_90_code 3 (some .int) ∈ gtb := gtb_mem (in_t5 (List.mem_of_getElem? (i := 236) (rfl))) rfl
theorem kw_608 : Cond.methodLink "NoonShadeLaw" 151 yX8_status ∈ gtb := gtb_mem (in_t4 (List.mem_of_getElem? (i := 34) (by decide +kernel))) rfl
theorem kw_609 : Cond.instanceMethod yX8_status ∈ gtb := gtb_mem (in_t4 (List.mem_of_getElem? (i := 35) (by decide +kernel))) rfl
theorem kw_610 : Cond.selects "NoonShade" yX8_status yX8_status ∈ gtb := gtb_mem (in_t4 (List.mem_of_getElem? (i := 36) (by decide +kernel))) rfl
theorem kw_611 : Cond.code yX8_status prog_1_method_35_code 2 (some .int) ∈ gtb := gtb_mem (in_t4 (List.mem_of_getElem? (i := 37) (rfl))) rfl
theorem kw_612 : Cond.methodLink "NoonShadeLaw" 154 yX9_status ∈ gtb := gtb_mem (in_t5 (List.mem_of_getElem? (i := 237) (by decide +kernel))) rfl
theorem kw_613 : Cond.instanceMethod yX9_status ∈ gtb := gtb_mem (in_t5 (List.mem_of_getElem? (i := 238) (by decide +kernel))) rfl
theorem kw_614 : Cond.selects "NoonShadeModel" yX9_status yX9_status ∈ gtb := gtb_mem (in_t5 (List.mem_of_getElem? (i := 239) (by decide +kernel))) rfl
theorem kw_615 : Cond.code yX9_status prog_11_method_91_code 2 (some .int) ∈ gtb := gtb_mem (in_t6 (List.mem_of_getElem? (i := 0) (rfl))) rfl
theorem kw_616 : Cond.methodLink "NoonShadeLaw" 155 yX8_count ∈ gtb := gtb_mem (in_t4 (List.mem_of_getElem? (i := 38) (by decide +kernel))) rfl
theorem kw_617 : Cond.instanceMethod yX8_count ∈ gtb := gtb_mem (in_t4 (List.mem_of_getElem? (i := 39) (by decide +kernel))) rfl
theorem kw_618 : Cond.selects "NoonShade" yX8_count yX8_count ∈ gtb := gtb_mem (in_t4 (List.mem_of_getElem? (i := 40) (by decide +kernel))) rfl
theorem kw_619 : Cond.code yX8_count prog_1_method_36_code 2 (some .int) ∈ gtb := gtb_mem (in_t4 (List.mem_of_getElem? (i := 41) (rfl))) rfl
theorem kw_620 : Cond.methodLink "NoonShadeLaw" 158 yX9_count ∈ gtb := gtb_mem (in_t6 (List.mem_of_getElem? (i := 1) (by decide +kernel))) rfl
theorem kw_621 : Cond.instanceMethod yX9_count ∈ gtb := gtb_mem (in_t6 (List.mem_of_getElem? (i := 2) (by decide +kernel))) rfl
theorem kw_622 : Cond.selects "NoonShadeModel" yX9_count yX9_count ∈ gtb := gtb_mem (in_t6 (List.mem_of_getElem? (i := 3) (by decide +kernel))) rfl
theorem kw_623 : Cond.code yX9_count prog_11_method_94_code 2 (some .int) ∈ gtb := gtb_mem (in_t6 (List.mem_of_getElem? (i := 4) (rfl))) rfl
theorem kw_624 : Cond.methodLink "NoonShadeLaw" 159 yX8_digest ∈ gtb := gtb_mem (in_t4 (List.mem_of_getElem? (i := 46) (by decide +kernel))) rfl
theorem kw_625 : Cond.instanceMethod yX8_digest ∈ gtb := gtb_mem (in_t4 (List.mem_of_getElem? (i := 47) (by decide +kernel))) rfl
theorem kw_626 : Cond.selects "NoonShade" yX8_digest yX8_digest ∈ gtb := gtb_mem (in_t4 (List.mem_of_getElem? (i := 48) (by decide +kernel))) rfl
theorem kw_627 : Cond.code yX8_digest prog_1_method_37_code 4 (some .long) ∈ gtb := gtb_mem (in_t4 (List.mem_of_getElem? (i := 49) (rfl))) rfl
theorem kw_628 : Cond.methodLink "NoonShadeLaw" 163 yX9_digest ∈ gtb := gtb_mem (in_t6 (List.mem_of_getElem? (i := 9) (by decide +kernel))) rfl
theorem kw_629 : Cond.instanceMethod yX9_digest ∈ gtb := gtb_mem (in_t6 (List.mem_of_getElem? (i := 10) (by decide +kernel))) rfl
theorem kw_630 : Cond.selects "NoonShadeModel" yX9_digest yX9_digest ∈ gtb := gtb_mem (in_t6 (List.mem_of_getElem? (i := 11) (by decide +kernel))) rfl
theorem kw_631 : Cond.code yX9_digest prog_11_method_96_code 5 (some .long) ∈ gtb := gtb_mem (in_t6 (List.mem_of_getElem? (i := 12) (rfl))) rfl
