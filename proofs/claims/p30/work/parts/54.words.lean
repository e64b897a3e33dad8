theorem kv_350 : Cond.fieldLink "java/lang/String" 38 "java/lang/String" "COMPACT_STRINGS" "Z" ∈ gtb := gtb_mem (in_t2 (List.mem_of_getElem? (i := 98) (by decide +kernel))) rfl
theorem kv_351 : Cond.fieldLink "java/lang/String" 15 "java/lang/String" "coder" "B" ∈ gtb := gtb_mem (in_t6 (List.mem_of_getElem? (i := 20) (by decide +kernel))) rfl
theorem kv_352 : Cond.fieldLink "java/lang/String" 9 "java/lang/String" "value" "[B" ∈ gtb := gtb_mem (in_t6 (List.mem_of_getElem? (i := 19) (by decide +kernel))) rfl
theorem kv_353 : Cond.methodLink "java/lang/String" 335 yJ0_coder_7d493 ∈ gtb := gtb_mem (in_t2 (List.mem_of_getElem? (i := 94) (by decide +kernel))) rfl
theorem kv_354 : Cond.instanceMethod yJ0_coder_7d493 ∈ gtb := gtb_mem (in_t2 (List.mem_of_getElem? (i := 95) (by decide +kernel))) rfl
theorem kv_355 : Cond.selects "java/lang/String" yJ0_coder_7d493 yJ0_coder_7d493 ∈ gtb := gtb_mem (in_t2 (List.mem_of_getElem? (i := 96) (by decide +kernel))) rfl
theorem kv_356 : Cond.initialized "java/lang/String" ∈ gtb := gtb_mem (in_t1 (List.mem_of_getElem? (i := 9) (by decide +kernel))) rfl
theorem kv_357 : Cond.code yJ0_coder_7d493 prog_14_method_152_code 1 (some .byte) ∈ gtb := gtb_mem (in_t2 (List.mem_of_getElem? (i := 97) (rfl))) rfl
theorem kv_358 : Cond.fieldLink "java/lang/String" 1053 "jdk/internal/util/Preconditions" "SIOOBE_FORMATTER" "Ljava/util/function/BiFunction;" ∈ gtb := gtb_mem (in_t2 (List.mem_of_getElem? (i := 114) (by decide +kernel))) rfl
theorem kv_359 : Cond.methodLink "java/lang/String" 1059 yJ3_checkIndex_8e157 ∈ gtb := gtb_mem (in_t2 (List.mem_of_getElem? (i := 116) (by decide +kernel))) rfl
theorem kv_360 : Cond.static yJ3_checkIndex_8e157 ∈ gtb := gtb_mem (in_t2 (List.mem_of_getElem? (i := 117) (by decide +kernel))) rfl
theorem kv_361 : Cond.initialized "jdk/internal/util/Preconditions" ∈ gtb := gtb_mem (in_t1 (List.mem_of_getElem? (i := 11) (by decide +kernel))) rfl
theorem kv_362 : Cond.code yJ3_checkIndex_8e157 prog_18_method_11_code 3 (some .int) ∈ gtb := gtb_mem (in_t2 (List.mem_of_getElem? (i := 118) (rfl))) rfl
theorem kv_363 : Cond.methodLink "java/lang/StringLatin1" 9 yJ0_checkIndex_df160 ∈ gtb := gtb_mem (in_t2 (List.mem_of_getElem? (i := 111) (by decide +kernel))) rfl
theorem kv_364 : Cond.static yJ0_checkIndex_df160 ∈ gtb := gtb_mem (in_t2 (List.mem_of_getElem? (i := 112) (by decide +kernel))) rfl
theorem kv_365 : Cond.code yJ0_checkIndex_df160 prog_14_method_155_code 2 none ∈ gtb := gtb_mem (in_t2 (List.mem_of_getElem? (i := 113) (rfl))) rfl
theorem kv_366 : Cond.methodLink "java/lang/String" 492 yJ0_isLatin1_aae02 ∈ gtb := gtb_mem (in_t2 (List.mem_of_getElem? (i := 104) (by decide +kernel))) rfl
theorem kv_367 : Cond.instanceMethod yJ0_isLatin1_aae02 ∈ gtb := gtb_mem (in_t2 (List.mem_of_getElem? (i := 105) (by decide +kernel))) rfl
theorem kv_368 : Cond.selects "java/lang/String" yJ0_isLatin1_aae02 yJ0_isLatin1_aae02 ∈ gtb := gtb_mem (in_t2 (List.mem_of_getElem? (i := 106) (by decide +kernel))) rfl
theorem kv_369 : Cond.code yJ0_isLatin1_aae02 prog_14_method_154_code 1 (some .boolean) ∈ gtb := gtb_mem (in_t2 (List.mem_of_getElem? (i := 107) (rfl))) rfl
theorem kv_370 : Cond.methodLink "java/lang/String" 495 yJ1_charAt_3b067 ∈ gtb := gtb_mem (in_t2 (List.mem_of_getElem? (i := 108) (by decide +kernel))) rfl
theorem kv_371 : Cond.static yJ1_charAt_3b067 ∈ gtb := gtb_mem (in_t2 (List.mem_of_getElem? (i := 109) (by decide +kernel))) rfl
theorem kv_372 : Cond.initialized "java/lang/StringLatin1" ∈ gtb := gtb_mem (in_t1 (List.mem_of_getElem? (i := 10) (by decide +kernel))) rfl
theorem kv_373 : Cond.code yJ1_charAt_3b067 prog_15_method_2_code 2 (some .char) ∈ gtb := gtb_mem (in_t2 (List.mem_of_getElem? (i := 110) (rfl))) rfl
theorem kv_374 : Cond.methodLink "NoonShade$Text" 143 yJ0_length_8abf5 ∈ gtb := gtb_mem (in_t2 (List.mem_of_getElem? (i := 90) (by decide +kernel))) rfl
theorem kv_375 : Cond.instanceMethod yJ0_length_8abf5 ∈ gtb := gtb_mem (in_t2 (List.mem_of_getElem? (i := 91) (by decide +kernel))) rfl
theorem kv_376 : Cond.selects "java/lang/String" yJ0_length_8abf5 yJ0_length_8abf5 ∈ gtb := gtb_mem (in_t2 (List.mem_of_getElem? (i := 92) (by decide +kernel))) rfl
theorem kv_377 : Cond.code yJ0_length_8abf5 prog_14_method_54_code 1 (some .int) ∈ gtb := gtb_mem (in_t2 (List.mem_of_getElem? (i := 93) (rfl))) rfl
theorem kv_378 : Cond.fieldLink "NoonShade$Text" 33 "NoonShade$Text" "at" "I" ∈ gtb := gtb_mem (in_t1 (List.mem_of_getElem? (i := 143) (by decide +kernel))) rfl
theorem kv_379 : Cond.fieldLink "NoonShade$Text" 58 "NoonShade$Text" "start" "I" ∈ gtb := gtb_mem (in_t1 (List.mem_of_getElem? (i := 142) (by decide +kernel))) rfl
theorem kv_380 : Cond.fieldLink "NoonShade$Text" 11 "NoonShade$Text" "bytes" "[B" ∈ gtb := gtb_mem (in_t1 (List.mem_of_getElem? (i := 138) (by decide +kernel))) rfl
theorem kv_381 : Cond.methodLink "NoonShade$Text" 147 yJ0_charAt_5068e ∈ gtb := gtb_mem (in_t2 (List.mem_of_getElem? (i := 100) (by decide +kernel))) rfl
theorem kv_382 : Cond.instanceMethod yJ0_charAt_5068e ∈ gtb := gtb_mem (in_t2 (List.mem_of_getElem? (i := 101) (by decide +kernel))) rfl
theorem kv_383 : Cond.selects "java/lang/String" yJ0_charAt_5068e yJ0_charAt_5068e ∈ gtb := gtb_mem (in_t2 (List.mem_of_getElem? (i := 102) (by decide +kernel))) rfl
theorem kv_384 : Cond.code yJ0_charAt_5068e prog_14_method_56_code 2 (some .char) ∈ gtb := gtb_mem (in_t2 (List.mem_of_getElem? (i := 103) (rfl))) rfl
theorem kv_385 : Cond.methodLink "NoonShade$Text" 130 yX7_isWord ∈ gtb := gtb_mem (in_t2 (List.mem_of_getElem? (i := 86) (by decide +kernel))) rfl
theorem kv_386 : Cond.instanceMethod yX7_isWord ∈ gtb := gtb_mem (in_t2 (List.mem_of_getElem? (i := 88) (by decide +kernel))) rfl
theorem kv_387 : Cond.selects "NoonShade$Text" yX7_isWord yX7_isWord ∈ gtb := gtb_mem (in_t0 (List.mem_of_getElem? (i := 4) (by decide +kernel))) rfl
theorem kv_388 : Cond.initialized "NoonShade$Text" ∈ gtb := gtb_mem (in_t1 (List.mem_of_getElem? (i := 5) (by decide +kernel))) rfl
theorem kv_389 : Cond.code yX7_isWord prog_9_method_17_code 3 (some .boolean) ∈ gtb := gtb_mem (in_t2 (List.mem_of_getElem? (i := 89) (rfl))) rfl
theorem kv_390 : Cond.fieldLink "NoonShade$Text" 75 "NoonShade$Text" "number" "I" ∈ gtb := gtb_mem (in_t1 (List.mem_of_getElem? (i := 145) (by decide +kernel))) rfl
theorem kv_391 : Cond.fieldLink "NoonShade$Text" 19 "NoonShade$Text" "length" "I" ∈ gtb := gtb_mem (in_t1 (List.mem_of_getElem? (i := 140) (by decide +kernel))) rfl
theorem kv_392 : Cond.fieldLink "NoonShade$Text" 39 "NoonShade$Text" "token" "I" ∈ gtb := gtb_mem (in_t1 (List.mem_of_getElem? (i := 144) (by decide +kernel))) rfl
theorem kv_393 : Cond.methodLink "NoonShade$Text" 122 yX7_isFigure ∈ gtb := gtb_mem (in_t2 (List.mem_of_getElem? (i := 74) (by decide +kernel))) rfl
theorem kv_394 : Cond.static yX7_isFigure ∈ gtb := gtb_mem (in_t2 (List.mem_of_getElem? (i := 75) (by decide +kernel))) rfl
theorem kv_395 : Cond.code yX7_isFigure prog_9_method_15_code 1 (some .boolean) ∈ gtb := gtb_mem (in_t2 (List.mem_of_getElem? (i := 76) (rfl))) rfl
theorem kv_396 : Cond.methodLink "NoonShade$Text" 118 yX7_isLetter ∈ gtb := gtb_mem (in_t2 (List.mem_of_getElem? (i := 71) (by decide +kernel))) rfl
theorem kv_397 : Cond.static yX7_isLetter ∈ gtb := gtb_mem (in_t2 (List.mem_of_getElem? (i := 72) (by decide +kernel))) rfl
theorem kv_398 : Cond.code yX7_isLetter prog_9_method_14_code 1 (some .boolean) ∈ gtb := gtb_mem (in_t2 (List.mem_of_getElem? (i := 73) (rfl))) rfl
theorem kv_399 : Cond.methodLink "NoonShade$Text" 125 yX7_takeNumber ∈ gtb := gtb_mem (in_t2 (List.mem_of_getElem? (i := 77) (by decide +kernel))) rfl
theorem kv_400 : Cond.instanceMethod yX7_takeNumber ∈ gtb := gtb_mem (in_t2 (List.mem_of_getElem? (i := 79) (by decide +kernel))) rfl
theorem kv_401 : Cond.selects "NoonShade$Text" yX7_takeNumber yX7_takeNumber ∈ gtb := gtb_mem (in_t0 (List.mem_of_getElem? (i := 2) (by decide +kernel))) rfl
theorem kv_402 : Cond.code yX7_takeNumber prog_9_method_13_code 1 none ∈ gtb := gtb_mem (in_t2 (List.mem_of_getElem? (i := 80) (rfl))) rfl
