theorem kw_632 : Cond.instantiable "NoonShade" 12 ∈ gtb := gtb_mem (in_t1 (List.mem_of_getElem? (i := 19) (by decide +kernel))) rfl
theorem kw_633 : Cond.instantiable "NoonShadeModel" 17 ∈ gtb := gtb_mem (in_t4 (List.mem_of_getElem? (i := 63) (by decide +kernel))) rfl
theorem kw_634 : Cond.classLink "NoonShadeLaw" 7 "NoonShade" ∈ gtb := gtb_mem (in_t1 (List.mem_of_getElem? (i := 18) (by decide +kernel))) rfl
theorem kw_635 : Cond.methodLink "NoonShadeLaw" 9 yX8_init ∈ gtb := gtb_mem (in_t1 (List.mem_of_getElem? (i := 20) (by decide +kernel))) rfl
theorem kw_636 : Cond.instanceMethod yX8_init ∈ gtb := gtb_mem (in_t1 (List.mem_of_getElem? (i := 21) (by decide +kernel))) rfl
theorem kw_637 : Cond.code yX8_init prog_1_method_1_code 1 none ∈ gtb := gtb_mem (in_t1 (List.mem_of_getElem? (i := 22) (rfl))) rfl
theorem kw_638 : Cond.classLink "NoonShadeLaw" 10 "NoonShadeModel" ∈ gtb := gtb_mem (in_t4 (List.mem_of_getElem? (i := 62) (by decide +kernel))) rfl
theorem kw_639 : Cond.methodLink "NoonShadeLaw" 12 yX9_init ∈ gtb := gtb_mem (in_t4 (List.mem_of_getElem? (i := 64) (by decide +kernel))) rfl
theorem kw_640 : Cond.instanceMethod yX9_init ∈ gtb := gtb_mem (in_t4 (List.mem_of_getElem? (i := 65) (by decide +kernel))) rfl
theorem kw_641 : Cond.code yX9_init prog_11_method_1_code 1 none ∈ gtb := gtb_mem (in_t4 (List.mem_of_getElem? (i := 66) (rfl))) rfl
