theorem kw_295 : Cond.methodLink "NoonShade$Rows" 3 ⟨"java/lang/Object", "<init>", "()V"⟩ ∈ gtb := gtb_mem (in_t1 (List.mem_of_getElem? (i := 37) (by decide +kernel))) rfl
theorem kw_296 : Cond.instanceMethod ⟨"java/lang/Object", "<init>", "()V"⟩ ∈ gtb := gtb_mem (in_t1 (List.mem_of_getElem? (i := 24) (by decide +kernel))) rfl
theorem kw_297 : Cond.code ⟨"java/lang/Object", "<init>", "()V"⟩ object_method_1_code 1 none ∈ gtb := gtb_mem (in_t1 (List.mem_of_getElem? (i := 25) (rfl))) rfl
theorem kw_298 : Cond.arrayClass .int ∈ gtb := gtb_mem (in_t1 (List.mem_of_getElem? (i := 46) (by decide +kernel))) rfl
theorem kw_299 : Cond.methodLink "NoonShade$Past" 3 ⟨"java/lang/Object", "<init>", "()V"⟩ ∈ gtb := gtb_mem (in_t1 (List.mem_of_getElem? (i := 52) (by decide +kernel))) rfl
theorem kw_300 : Cond.methodLink "NoonShade$Guess" 3 ⟨"java/lang/Object", "<init>", "()V"⟩ ∈ gtb := gtb_mem (in_t1 (List.mem_of_getElem? (i := 195) (by decide +kernel))) rfl
theorem kw_301 : Cond.fieldLink "NoonShade$Guess" 9 "NoonShade$Guess" "answers" "[I" ∈ gtb := gtb_mem (in_t1 (List.mem_of_getElem? (i := 196) (by decide +kernel))) rfl
theorem kw_302 : Cond.methodLink "NoonShade$Text" 3 ⟨"java/lang/Object", "<init>", "()V"⟩ ∈ gtb := gtb_mem (in_t1 (List.mem_of_getElem? (i := 137) (by decide +kernel))) rfl
theorem kw_303 : Cond.arrayClass .byte ∈ gtb := gtb_mem (in_t1 (List.mem_of_getElem? (i := 162) (by decide +kernel))) rfl
theorem kw_304 : Cond.fieldLink "NoonShade$Text" 15 "NoonShade$Text" "numbers" "[I" ∈ gtb := gtb_mem (in_t1 (List.mem_of_getElem? (i := 139) (by decide +kernel))) rfl
theorem kw_305 : Cond.methodLink "NoonShade$Plan" 3 ⟨"java/lang/Object", "<init>", "()V"⟩ ∈ gtb := gtb_mem (in_t1 (List.mem_of_getElem? (i := 168) (by decide +kernel))) rfl
theorem kw_306 : Cond.fieldLink "NoonShade$Plan" 11 "NoonShade$Plan" "given" "[I" ∈ gtb := gtb_mem (in_t1 (List.mem_of_getElem? (i := 169) (by decide +kernel))) rfl
theorem kw_307 : Cond.fieldLink "NoonShade$Plan" 15 "NoonShade$Plan" "end" "[I" ∈ gtb := gtb_mem (in_t1 (List.mem_of_getElem? (i := 170) (by decide +kernel))) rfl
theorem kw_308 : Cond.fieldLink "NoonShade$Plan" 18 "NoonShade$Plan" "row" "[I" ∈ gtb := gtb_mem (in_t1 (List.mem_of_getElem? (i := 171) (by decide +kernel))) rfl
theorem kw_309 : Cond.methodLink "NoonShade$Isle" 3 ⟨"java/lang/Object", "<init>", "()V"⟩ ∈ gtb := gtb_mem (in_t1 (List.mem_of_getElem? (i := 31) (by decide +kernel))) rfl
theorem kw_310 : Cond.classLink "NoonShade$Isle" 30 "NoonShade$Rows" ∈ gtb := gtb_mem (in_t1 (List.mem_of_getElem? (i := 32) (by decide +kernel))) rfl
theorem kw_311 : Cond.instantiable "NoonShade$Rows" 2 ∈ gtb := gtb_mem (in_t1 (List.mem_of_getElem? (i := 33) (by decide +kernel))) rfl
theorem kw_312 : Cond.instanceMethod yX6_init ∈ gtb := gtb_mem (in_t1 (List.mem_of_getElem? (i := 35) (by decide +kernel))) rfl
theorem kw_313 : Cond.code yX6_init prog_8_method_1_code 1 none ∈ gtb := gtb_mem (in_t1 (List.mem_of_getElem? (i := 36) (rfl))) rfl
theorem kw_314 : Cond.classLink "NoonShade$Isle" 40 "NoonShade$Past" ∈ gtb := gtb_mem (in_t1 (List.mem_of_getElem? (i := 47) (by decide +kernel))) rfl
theorem kw_315 : Cond.instantiable "NoonShade$Past" 2 ∈ gtb := gtb_mem (in_t1 (List.mem_of_getElem? (i := 48) (by decide +kernel))) rfl
theorem kw_316 : Cond.instanceMethod yX4_init ∈ gtb := gtb_mem (in_t1 (List.mem_of_getElem? (i := 50) (by decide +kernel))) rfl
theorem kw_317 : Cond.code yX4_init prog_6_method_1_code 1 none ∈ gtb := gtb_mem (in_t1 (List.mem_of_getElem? (i := 51) (rfl))) rfl
theorem kw_318 : Cond.methodLink "NoonShade" 1 ⟨"java/lang/Object", "<init>", "()V"⟩ ∈ gtb := gtb_mem (in_t1 (List.mem_of_getElem? (i := 23) (by decide +kernel))) rfl
theorem kw_319 : Cond.classLink "NoonShade" 7 "NoonShade$Isle" ∈ gtb := gtb_mem (in_t1 (List.mem_of_getElem? (i := 26) (by decide +kernel))) rfl
theorem kw_320 : Cond.instantiable "NoonShade$Isle" 14 ∈ gtb := gtb_mem (in_t1 (List.mem_of_getElem? (i := 27) (by decide +kernel))) rfl
theorem kw_321 : Cond.instanceMethod yX2_init ∈ gtb := gtb_mem (in_t1 (List.mem_of_getElem? (i := 29) (by decide +kernel))) rfl
theorem kw_322 : Cond.code yX2_init prog_4_method_1_code 1 none ∈ gtb := gtb_mem (in_t1 (List.mem_of_getElem? (i := 30) (rfl))) rfl
theorem kw_323 : Cond.arrayClass .boolean ∈ gtb := gtb_mem (in_t1 (List.mem_of_getElem? (i := 161) (by decide +kernel))) rfl
theorem kw_324 : Cond.classLink "NoonShade" 27 "NoonShade$Text" ∈ gtb := gtb_mem (in_t1 (List.mem_of_getElem? (i := 132) (by decide +kernel))) rfl
theorem kw_325 : Cond.instantiable "NoonShade$Text" 7 ∈ gtb := gtb_mem (in_t1 (List.mem_of_getElem? (i := 133) (by decide +kernel))) rfl
theorem kw_326 : Cond.instanceMethod yX7_init ∈ gtb := gtb_mem (in_t1 (List.mem_of_getElem? (i := 135) (by decide +kernel))) rfl
theorem kw_327 : Cond.code yX7_init prog_9_method_1_code 1 none ∈ gtb := gtb_mem (in_t1 (List.mem_of_getElem? (i := 136) (rfl))) rfl
theorem kw_328 : Cond.classLink "NoonShade" 34 "NoonShade$Plan" ∈ gtb := gtb_mem (in_t1 (List.mem_of_getElem? (i := 163) (by decide +kernel))) rfl
theorem kw_329 : Cond.instantiable "NoonShade$Plan" 6 ∈ gtb := gtb_mem (in_t1 (List.mem_of_getElem? (i := 164) (by decide +kernel))) rfl
theorem kw_330 : Cond.initialized "NoonShade$Plan" ∈ gtb := gtb_mem (in_t1 (List.mem_of_getElem? (i := 6) (by decide +kernel))) rfl
theorem kw_331 : Cond.instanceMethod yX5_init ∈ gtb := gtb_mem (in_t1 (List.mem_of_getElem? (i := 166) (by decide +kernel))) rfl
theorem kw_332 : Cond.code yX5_init prog_7_method_1_code 1 none ∈ gtb := gtb_mem (in_t1 (List.mem_of_getElem? (i := 167) (rfl))) rfl
theorem kw_333 : Cond.fieldLink "NoonShade" 37 "NoonShade" "plan" "LNoonShade$Plan;" ∈ gtb := gtb_mem (in_t1 (List.mem_of_getElem? (i := 205) (by decide +kernel))) rfl
theorem kw_334 : Cond.classLink "NoonShade" 41 "NoonShade$Guess" ∈ gtb := gtb_mem (in_t1 (List.mem_of_getElem? (i := 190) (by decide +kernel))) rfl
theorem kw_335 : Cond.instantiable "NoonShade$Guess" 1 ∈ gtb := gtb_mem (in_t1 (List.mem_of_getElem? (i := 191) (by decide +kernel))) rfl
theorem kw_336 : Cond.initialized "NoonShade$Guess" ∈ gtb := gtb_mem (in_t1 (List.mem_of_getElem? (i := 7) (by decide +kernel))) rfl
theorem kw_337 : Cond.instanceMethod yX1_init ∈ gtb := gtb_mem (in_t1 (List.mem_of_getElem? (i := 193) (by decide +kernel))) rfl
theorem kw_338 : Cond.code yX1_init prog_3_method_1_code 1 none ∈ gtb := gtb_mem (in_t1 (List.mem_of_getElem? (i := 194) (rfl))) rfl
theorem kw_339 : Cond.fieldLink "NoonShade" 44 "NoonShade" "guess" "LNoonShade$Guess;" ∈ gtb := gtb_mem (in_t1 (List.mem_of_getElem? (i := 206) (by decide +kernel))) rfl
theorem kw_340 : Cond.methodLink "NoonShadeModel" 1 ⟨"java/lang/Object", "<init>", "()V"⟩ ∈ gtb := gtb_mem (in_t4 (List.mem_of_getElem? (i := 67) (by decide +kernel))) rfl
theorem kw_341 : Cond.fieldLink "NoonShadeModel" 30 "NoonShadeModel" "tells" "[I" ∈ gtb := gtb_mem (in_t4 (List.mem_of_getElem? (i := 79) (by decide +kernel))) rfl
theorem kw_342 : Cond.fieldLink "NoonShadeModel" 36 "NoonShadeModel" "anew" "[I" ∈ gtb := gtb_mem (in_t4 (List.mem_of_getElem? (i := 86) (by decide +kernel))) rfl
theorem kw_343 : Cond.fieldLink "NoonShadeModel" 39 "NoonShadeModel" "values" "[I" ∈ gtb := gtb_mem (in_t4 (List.mem_of_getElem? (i := 87) (by decide +kernel))) rfl
