theorem kv_403 : Cond.fieldLink "NoonShade$Text" 61 "NoonShade$Isle" "casters" "I" ∈ gtb := gtb_mem (in_t1 (List.mem_of_getElem? (i := 75) (by decide +kernel))) rfl
theorem kv_404 : Cond.fieldLink "NoonShade$Text" 64 "NoonShade$Isle" "jars" "I" ∈ gtb := gtb_mem (in_t1 (List.mem_of_getElem? (i := 78) (by decide +kernel))) rfl
theorem kv_405 : Cond.methodLink "NoonShade$Text" 78 yX7_fitsCaster ∈ gtb := gtb_mem (in_t2 (List.mem_of_getElem? (i := 157) (by decide +kernel))) rfl
theorem kv_406 : Cond.instanceMethod yX7_fitsCaster ∈ gtb := gtb_mem (in_t2 (List.mem_of_getElem? (i := 159) (by decide +kernel))) rfl
theorem kv_407 : Cond.selects "NoonShade$Text" yX7_fitsCaster yX7_fitsCaster ∈ gtb := gtb_mem (in_t0 (List.mem_of_getElem? (i := 7) (by decide +kernel))) rfl
theorem kv_408 : Cond.code yX7_fitsCaster prog_9_method_10_code 2 (some .boolean) ∈ gtb := gtb_mem (in_t2 (List.mem_of_getElem? (i := 160) (rfl))) rfl
theorem kv_409 : Cond.methodLink "NoonShade$Text" 82 yX2_hasCaster ∈ gtb := gtb_mem (in_t2 (List.mem_of_getElem? (i := 162) (by decide +kernel))) rfl
theorem kv_410 : Cond.methodLink "NoonShade$Text" 85 yX2_isMilked ∈ gtb := gtb_mem (in_t2 (List.mem_of_getElem? (i := 166) (by decide +kernel))) rfl
theorem kv_411 : Cond.methodLink "NoonShade$Text" 88 yX2_hasJar ∈ gtb := gtb_mem (in_t2 (List.mem_of_getElem? (i := 170) (by decide +kernel))) rfl
theorem kv_412 : Cond.fieldLink "NoonShade$Text" 91 "NoonShade$Isle" "cool" "[I" ∈ gtb := gtb_mem (in_t1 (List.mem_of_getElem? (i := 92) (by decide +kernel))) rfl
theorem kv_413 : Cond.fieldLink "NoonShade$Text" 15 "NoonShade$Text" "numbers" "[I" ∈ gtb := gtb_mem (in_t1 (List.mem_of_getElem? (i := 139) (by decide +kernel))) rfl
theorem kv_414 : Cond.methodLink "NoonShade$Text" 67 yX7_numbersOf ∈ gtb := gtb_mem (in_t2 (List.mem_of_getElem? (i := 150) (by decide +kernel))) rfl
theorem kv_415 : Cond.static yX7_numbersOf ∈ gtb := gtb_mem (in_t2 (List.mem_of_getElem? (i := 151) (by decide +kernel))) rfl
theorem kv_416 : Cond.code yX7_numbersOf prog_9_method_8_code 1 (some .int) ∈ gtb := gtb_mem (in_t2 (List.mem_of_getElem? (i := 152) (rfl))) rfl
theorem kv_417 : Cond.methodLink "NoonShade$Text" 36 yX7_step ∈ gtb := gtb_mem (in_t2 (List.mem_of_getElem? (i := 67) (by decide +kernel))) rfl
theorem kv_418 : Cond.instanceMethod yX7_step ∈ gtb := gtb_mem (in_t2 (List.mem_of_getElem? (i := 69) (by decide +kernel))) rfl
theorem kv_419 : Cond.selects "NoonShade$Text" yX7_step yX7_step ∈ gtb := gtb_mem (in_t0 (List.mem_of_getElem? (i := 1) (by decide +kernel))) rfl
theorem kv_420 : Cond.code yX7_step prog_9_method_12_code 1 none ∈ gtb := gtb_mem (in_t2 (List.mem_of_getElem? (i := 70) (rfl))) rfl
theorem kv_421 : Cond.methodLink "NoonShade$Text" 71 yX7_fits ∈ gtb := gtb_mem (in_t2 (List.mem_of_getElem? (i := 153) (by decide +kernel))) rfl
theorem kv_422 : Cond.instanceMethod yX7_fits ∈ gtb := gtb_mem (in_t2 (List.mem_of_getElem? (i := 155) (by decide +kernel))) rfl
theorem kv_423 : Cond.selects "NoonShade$Text" yX7_fits yX7_fits ∈ gtb := gtb_mem (in_t0 (List.mem_of_getElem? (i := 6) (by decide +kernel))) rfl
theorem kv_424 : Cond.code yX7_fits prog_9_method_9_code 4 (some .boolean) ∈ gtb := gtb_mem (in_t2 (List.mem_of_getElem? (i := 156) (rfl))) rfl
theorem kv_425 : Cond.fieldLink "NoonShade$Text" 98 "NoonShade$Isle" "hour" "I" ∈ gtb := gtb_mem (in_t1 (List.mem_of_getElem? (i := 65) (by decide +kernel))) rfl
theorem kv_426 : Cond.methodLink "NoonShade$Text" 101 yX2_addCaster ∈ gtb := gtb_mem (in_t2 (List.mem_of_getElem? (i := 178) (by decide +kernel))) rfl
theorem kv_427 : Cond.methodLink "NoonShade$Text" 105 yX2_addJar ∈ gtb := gtb_mem (in_t2 (List.mem_of_getElem? (i := 179) (by decide +kernel))) rfl
theorem kv_428 : Cond.methodLink "NoonShade$Text" 108 yX2_draw ∈ gtb := gtb_mem (in_t2 (List.mem_of_getElem? (i := 180) (by decide +kernel))) rfl
theorem kv_429 : Cond.methodLink "NoonShade$Text" 112 yX2_pour ∈ gtb := gtb_mem (in_t2 (List.mem_of_getElem? (i := 202) (by decide +kernel))) rfl
theorem kv_430 : Cond.methodLink "NoonShade$Text" 115 yX2_passHours ∈ gtb := gtb_mem (in_t2 (List.mem_of_getElem? (i := 210) (by decide +kernel))) rfl
theorem kv_431 : Cond.methodLink "NoonShade$Text" 27 yX2_begin ∈ gtb := gtb_mem (in_t2 (List.mem_of_getElem? (i := 66) (by decide +kernel))) rfl
theorem kv_432 : Cond.methodLink "NoonShade$Text" 46 yX7_mayBegin ∈ gtb := gtb_mem (in_t2 (List.mem_of_getElem? (i := 143) (by decide +kernel))) rfl
theorem kv_433 : Cond.static yX7_mayBegin ∈ gtb := gtb_mem (in_t2 (List.mem_of_getElem? (i := 144) (by decide +kernel))) rfl
theorem kv_434 : Cond.code yX7_mayBegin prog_9_method_6_code 3 (some .boolean) ∈ gtb := gtb_mem (in_t2 (List.mem_of_getElem? (i := 145) (rfl))) rfl
theorem kv_435 : Cond.methodLink "NoonShade$Text" 42 yX7_wordNumber ∈ gtb := gtb_mem (in_t2 (List.mem_of_getElem? (i := 81) (by decide +kernel))) rfl
theorem kv_436 : Cond.instanceMethod yX7_wordNumber ∈ gtb := gtb_mem (in_t2 (List.mem_of_getElem? (i := 83) (by decide +kernel))) rfl
theorem kv_437 : Cond.selects "NoonShade$Text" yX7_wordNumber yX7_wordNumber ∈ gtb := gtb_mem (in_t0 (List.mem_of_getElem? (i := 3) (by decide +kernel))) rfl
theorem kv_438 : Cond.code yX7_wordNumber prog_9_method_16_code 1 (some .int) ∈ gtb := gtb_mem (in_t2 (List.mem_of_getElem? (i := 84) (rfl))) rfl
theorem kv_439 : Cond.methodLink "NoonShade$Text" 50 yX7_takeNumbers ∈ gtb := gtb_mem (in_t2 (List.mem_of_getElem? (i := 146) (by decide +kernel))) rfl
theorem kv_440 : Cond.instanceMethod yX7_takeNumbers ∈ gtb := gtb_mem (in_t2 (List.mem_of_getElem? (i := 148) (by decide +kernel))) rfl
theorem kv_441 : Cond.selects "NoonShade$Text" yX7_takeNumbers yX7_takeNumbers ∈ gtb := gtb_mem (in_t0 (List.mem_of_getElem? (i := 5) (by decide +kernel))) rfl
theorem kv_442 : Cond.code yX7_takeNumbers prog_9_method_7_code 5 (some .boolean) ∈ gtb := gtb_mem (in_t2 (List.mem_of_getElem? (i := 149) (rfl))) rfl
theorem kv_443 : Cond.methodLink "NoonShade$Text" 54 yX7_carryOut ∈ gtb := gtb_mem (in_t2 (List.mem_of_getElem? (i := 174) (by decide +kernel))) rfl
theorem kv_444 : Cond.instanceMethod yX7_carryOut ∈ gtb := gtb_mem (in_t2 (List.mem_of_getElem? (i := 176) (by decide +kernel))) rfl
theorem kv_445 : Cond.selects "NoonShade$Text" yX7_carryOut yX7_carryOut ∈ gtb := gtb_mem (in_t0 (List.mem_of_getElem? (i := 8) (by decide +kernel))) rfl
theorem kv_446 : Cond.code yX7_carryOut prog_9_method_11_code 3 none ∈ gtb := gtb_mem (in_t2 (List.mem_of_getElem? (i := 177) (rfl))) rfl
theorem kv_447 : Cond.methodLink "NoonShade$Text" 23 yX7_isFull ∈ gtb := gtb_mem (in_t2 (List.mem_of_getElem? (i := 49) (by decide +kernel))) rfl
theorem kv_448 : Cond.instanceMethod yX7_isFull ∈ gtb := gtb_mem (in_t2 (List.mem_of_getElem? (i := 42) (by decide +kernel))) rfl
theorem kv_449 : Cond.selects "NoonShade$Text" yX7_isFull yX7_isFull ∈ gtb := gtb_mem (in_t2 (List.mem_of_getElem? (i := 43) (by decide +kernel))) rfl
theorem kv_450 : Cond.code yX7_isFull prog_9_method_2_code 1 (some .boolean) ∈ gtb := gtb_mem (in_t2 (List.mem_of_getElem? (i := 44) (rfl))) rfl
theorem kv_451 : Cond.methodLink "NoonShade" 90 yX7_isFull ∈ gtb := gtb_mem (in_t2 (List.mem_of_getElem? (i := 41) (by decide +kernel))) rfl
theorem kv_452 : Cond.methodLink "NoonShade" 94 yX7_add ∈ gtb := gtb_mem (in_t2 (List.mem_of_getElem? (i := 45) (by decide +kernel))) rfl
theorem kv_453 : Cond.instanceMethod yX7_add ∈ gtb := gtb_mem (in_t2 (List.mem_of_getElem? (i := 46) (by decide +kernel))) rfl
theorem kv_454 : Cond.selects "NoonShade$Text" yX7_add yX7_add ∈ gtb := gtb_mem (in_t2 (List.mem_of_getElem? (i := 47) (by decide +kernel))) rfl
theorem kv_455 : Cond.code yX7_add prog_9_method_3_code 2 (some .int) ∈ gtb := gtb_mem (in_t2 (List.mem_of_getElem? (i := 48) (rfl))) rfl
theorem kv_456 : Cond.methodLink "NoonShade" 97 yX7_empty ∈ gtb := gtb_mem (in_t2 (List.mem_of_getElem? (i := 54) (by decide +kernel))) rfl
theorem kv_457 : Cond.instanceMethod yX7_empty ∈ gtb := gtb_mem (in_t2 (List.mem_of_getElem? (i := 55) (by decide +kernel))) rfl
theorem kv_458 : Cond.selects "NoonShade$Text" yX7_empty yX7_empty ∈ gtb := gtb_mem (in_t2 (List.mem_of_getElem? (i := 56) (by decide +kernel))) rfl
theorem kv_459 : Cond.code yX7_empty prog_9_method_4_code 2 (some .int) ∈ gtb := gtb_mem (in_t2 (List.mem_of_getElem? (i := 57) (rfl))) rfl
theorem kv_460 : Cond.methodLink "NoonShade" 100 yX7_tell ∈ gtb := gtb_mem (in_t2 (List.mem_of_getElem? (i := 62) (by decide +kernel))) rfl
theorem kv_461 : Cond.instanceMethod yX7_tell ∈ gtb := gtb_mem (in_t2 (List.mem_of_getElem? (i := 63) (by decide +kernel))) rfl
theorem kv_462 : Cond.selects "NoonShade$Text" yX7_tell yX7_tell ∈ gtb := gtb_mem (in_t2 (List.mem_of_getElem? (i := 64) (by decide +kernel))) rfl
theorem kv_463 : Cond.code yX7_tell prog_9_method_5_code 4 (some .int) ∈ gtb := gtb_mem (in_t2 (List.mem_of_getElem? (i := 65) (rfl))) rfl
theorem kv_464 : Cond.fieldLink "NoonShade" 19 "NoonShade" "images" "[LNoonShade$Isle;" ∈ gtb := gtb_mem (in_t1 (List.mem_of_getElem? (i := 202) (by decide +kernel))) rfl
theorem kv_465 : Cond.fieldLink "NoonShade" 23 "NoonShade" "imageKept" "[Z" ∈ gtb := gtb_mem (in_t1 (List.mem_of_getElem? (i := 203) (by decide +kernel))) rfl
