theorem kv_466 : Cond.fieldLink "NoonShadeModel" 20 "NoonShadeModel" "refused" "[I" ∈ gtb := gtb_mem (in_t4 (List.mem_of_getElem? (i := 74) (by decide +kernel))) rfl
theorem kv_467 : Cond.fieldLink "NoonShadeModel" 7 "NoonShadeModel" "all" "[I" ∈ gtb := gtb_mem (in_t4 (List.mem_of_getElem? (i := 71) (by decide +kernel))) rfl
theorem kv_468 : Cond.methodLink "NoonShadeModel" 46 yX9_in ∈ gtb := gtb_mem (in_t4 (List.mem_of_getElem? (i := 128) (by decide +kernel))) rfl
theorem kv_469 : Cond.static yX9_in ∈ gtb := gtb_mem (in_t4 (List.mem_of_getElem? (i := 129) (by decide +kernel))) rfl
theorem kv_470 : Cond.initialized "NoonShadeModel" ∈ gtb := gtb_mem (in_t1 (List.mem_of_getElem? (i := 8) (by decide +kernel))) rfl
theorem kv_471 : Cond.code yX9_in prog_11_method_3_code 6 (some .boolean) ∈ gtb := gtb_mem (in_t4 (List.mem_of_getElem? (i := 130) (rfl))) rfl
theorem kv_472 : Cond.constantLong "NoonShadeModel" 50 5 ∈ gtb := gtb_mem (in_t4 (List.mem_of_getElem? (i := 142) (by decide +kernel))) rfl
theorem kv_473 : Cond.constantLong "NoonShadeModel" 52 9 ∈ gtb := gtb_mem (in_t4 (List.mem_of_getElem? (i := 146) (by decide +kernel))) rfl
theorem kv_474 : Cond.constantLong "NoonShadeModel" 54 3 ∈ gtb := gtb_mem (in_t4 (List.mem_of_getElem? (i := 150) (by decide +kernel))) rfl
theorem kv_475 : Cond.constantLong "NoonShadeModel" 56 23 ∈ gtb := gtb_mem (in_t5 (List.mem_of_getElem? (i := 71) (by decide +kernel))) rfl
theorem kv_476 : Cond.constantLong "NoonShadeModel" 58 60 ∈ gtb := gtb_mem (in_t4 (List.mem_of_getElem? (i := 215) (by decide +kernel))) rfl
theorem kv_477 : Cond.methodLink "NoonShadeModel" 87 yX9_givesAs ∈ gtb := gtb_mem (in_t4 (List.mem_of_getElem? (i := 194) (by decide +kernel))) rfl
theorem kv_478 : Cond.static yX9_givesAs ∈ gtb := gtb_mem (in_t4 (List.mem_of_getElem? (i := 195) (by decide +kernel))) rfl
theorem kv_479 : Cond.code yX9_givesAs prog_11_method_22_code 6 (some .int) ∈ gtb := gtb_mem (in_t4 (List.mem_of_getElem? (i := 196) (rfl))) rfl
theorem kv_480 : Cond.methodLink "NoonShadeModel" 91 yX9_losesAs ∈ gtb := gtb_mem (in_t4 (List.mem_of_getElem? (i := 225) (by decide +kernel))) rfl
theorem kv_481 : Cond.static yX9_losesAs ∈ gtb := gtb_mem (in_t4 (List.mem_of_getElem? (i := 226) (by decide +kernel))) rfl
theorem kv_482 : Cond.code yX9_losesAs prog_11_method_23_code 4 (some .int) ∈ gtb := gtb_mem (in_t4 (List.mem_of_getElem? (i := 227) (rfl))) rfl
theorem kv_483 : Cond.methodLink "NoonShadeModel" 94 yX9_givesOf ∈ gtb := gtb_mem (in_t4 (List.mem_of_getElem? (i := 191) (by decide +kernel))) rfl
theorem kv_484 : Cond.static yX9_givesOf ∈ gtb := gtb_mem (in_t4 (List.mem_of_getElem? (i := 192) (by decide +kernel))) rfl
theorem kv_485 : Cond.code yX9_givesOf prog_11_method_24_code 3 (some .int) ∈ gtb := gtb_mem (in_t4 (List.mem_of_getElem? (i := 193) (rfl))) rfl
theorem kv_486 : Cond.methodLink "NoonShadeModel" 98 yX9_goIn ∈ gtb := gtb_mem (in_t4 (List.mem_of_getElem? (i := 197) (by decide +kernel))) rfl
theorem kv_487 : Cond.static yX9_goIn ∈ gtb := gtb_mem (in_t4 (List.mem_of_getElem? (i := 198) (by decide +kernel))) rfl
theorem kv_488 : Cond.code yX9_goIn prog_11_method_26_code 6 (some .int) ∈ gtb := gtb_mem (in_t4 (List.mem_of_getElem? (i := 199) (rfl))) rfl
theorem kv_489 : Cond.methodLink "NoonShadeModel" 102 yX9_losesOf ∈ gtb := gtb_mem (in_t4 (List.mem_of_getElem? (i := 222) (by decide +kernel))) rfl
theorem kv_490 : Cond.static yX9_losesOf ∈ gtb := gtb_mem (in_t4 (List.mem_of_getElem? (i := 223) (by decide +kernel))) rfl
theorem kv_491 : Cond.code yX9_losesOf prog_11_method_25_code 4 (some .int) ∈ gtb := gtb_mem (in_t4 (List.mem_of_getElem? (i := 224) (rfl))) rfl
theorem kv_492 : Cond.methodLink "NoonShadeModel" 106 yX9_goHour ∈ gtb := gtb_mem (in_t4 (List.mem_of_getElem? (i := 219) (by decide +kernel))) rfl
theorem kv_493 : Cond.static yX9_goHour ∈ gtb := gtb_mem (in_t4 (List.mem_of_getElem? (i := 220) (by decide +kernel))) rfl
theorem kv_494 : Cond.code yX9_goHour prog_11_method_29_code 2 none ∈ gtb := gtb_mem (in_t4 (List.mem_of_getElem? (i := 221) (rfl))) rfl
theorem kv_495 : Cond.fieldLink "NoonShadeModel" 27 "NoonShadeModel" "hand" "[I" ∈ gtb := gtb_mem (in_t4 (List.mem_of_getElem? (i := 77) (by decide +kernel))) rfl
theorem kv_496 : Cond.methodLink "NoonShadeModel" 116 yX9_has ∈ gtb := gtb_mem (in_t4 (List.mem_of_getElem? (i := 177) (by decide +kernel))) rfl
theorem kv_497 : Cond.static yX9_has ∈ gtb := gtb_mem (in_t4 (List.mem_of_getElem? (i := 178) (by decide +kernel))) rfl
theorem kv_498 : Cond.code yX9_has prog_11_method_7_code 2 (some .boolean) ∈ gtb := gtb_mem (in_t4 (List.mem_of_getElem? (i := 179) (rfl))) rfl
