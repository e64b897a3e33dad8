theorem kv_1007 : Cond.instantiable "NoonShade$Guess" 1 ∈ gtb := gtb_mem (in_t1 (List.mem_of_getElem? (i := 191) (by decide +kernel))) rfl
theorem kv_1008 : Cond.instantiable "NoonShade$Isle" 14 ∈ gtb := gtb_mem (in_t1 (List.mem_of_getElem? (i := 27) (by decide +kernel))) rfl
theorem kv_1009 : Cond.instantiable "NoonShade$Past" 2 ∈ gtb := gtb_mem (in_t1 (List.mem_of_getElem? (i := 48) (by decide +kernel))) rfl
theorem kv_1010 : Cond.instantiable "NoonShade$Plan" 6 ∈ gtb := gtb_mem (in_t1 (List.mem_of_getElem? (i := 164) (by decide +kernel))) rfl
theorem kv_1011 : Cond.instantiable "NoonShade$Rows" 2 ∈ gtb := gtb_mem (in_t1 (List.mem_of_getElem? (i := 33) (by decide +kernel))) rfl
theorem kv_1012 : Cond.instantiable "NoonShade$Text" 7 ∈ gtb := gtb_mem (in_t1 (List.mem_of_getElem? (i := 133) (by decide +kernel))) rfl
theorem kv_1013 : Cond.instantiable "NoonShade" 12 ∈ gtb := gtb_mem (in_t1 (List.mem_of_getElem? (i := 19) (by decide +kernel))) rfl
theorem kv_1014 : Cond.instantiable "NoonShadeModel" 17 ∈ gtb := gtb_mem (in_t4 (List.mem_of_getElem? (i := 63) (by decide +kernel))) rfl
theorem kv_1015 : Cond.arrayClass .int ∈ gtb := gtb_mem (in_t1 (List.mem_of_getElem? (i := 46) (by decide +kernel))) rfl
theorem kv_1016 : Cond.arrayClass .byte ∈ gtb := gtb_mem (in_t1 (List.mem_of_getElem? (i := 162) (by decide +kernel))) rfl
theorem kv_1017 : Cond.arrayClass .boolean ∈ gtb := gtb_mem (in_t1 (List.mem_of_getElem? (i := 161) (by decide +kernel))) rfl
theorem kv_1018 : Cond.classLink "NoonShadeLaw" 7 "NoonShade" ∈ gtb := gtb_mem (in_t1 (List.mem_of_getElem? (i := 18) (by decide +kernel))) rfl
theorem kv_1019 : Cond.methodLink "NoonShadeLaw" 9 yX8_init ∈ gtb := gtb_mem (in_t1 (List.mem_of_getElem? (i := 20) (by decide +kernel))) rfl
theorem kv_1020 : Cond.instanceMethod yX8_init ∈ gtb := gtb_mem (in_t1 (List.mem_of_getElem? (i := 21) (by decide +kernel))) rfl
theorem kv_1021 : Cond.code yX8_init prog_1_method_1_code 1 none ∈ gtb := gtb_mem (in_t1 (List.mem_of_getElem? (i := 22) (rfl))) rfl
theorem kv_1022 : Cond.classLink "NoonShadeLaw" 10 "NoonShadeModel" ∈ gtb := gtb_mem (in_t4 (List.mem_of_getElem? (i := 62) (by decide +kernel))) rfl
theorem kv_1023 : Cond.methodLink "NoonShadeLaw" 12 yX9_init ∈ gtb := gtb_mem (in_t4 (List.mem_of_getElem? (i := 64) (by decide +kernel))) rfl
theorem kv_1024 : Cond.instanceMethod yX9_init ∈ gtb := gtb_mem (in_t4 (List.mem_of_getElem? (i := 65) (by decide +kernel))) rfl
theorem kv_1025 : Cond.code yX9_init prog_11_method_1_code 1 none ∈ gtb := gtb_mem (in_t4 (List.mem_of_getElem? (i := 66) (rfl))) rfl
