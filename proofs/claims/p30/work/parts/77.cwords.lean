theorem kw_5 : Cond.fieldLink "NoonShade" 10 "NoonShade" "now" "LNoonShade$Isle;" ∈ gtb := gtb_mem (in_t1 (List.mem_of_getElem? (i := 200) (by decide +kernel))) rfl
theorem kw_9 : Cond.initialized "NoonShade$Isle" ∈ gtb := gtb_mem (in_t1 (List.mem_of_getElem? (i := 2) (by decide +kernel))) rfl
theorem kw_25 : Cond.fieldLink "NoonShade$Isle" 33 "NoonShade$Isle" "notes" "LNoonShade$Rows;" ∈ gtb := gtb_mem (in_t1 (List.mem_of_getElem? (i := 96) (by decide +kernel))) rfl
theorem kw_29 : Cond.initialized "NoonShade$Rows" ∈ gtb := gtb_mem (in_t1 (List.mem_of_getElem? (i := 3) (by decide +kernel))) rfl
theorem kw_31 : Cond.fieldLink "NoonShade$Isle" 37 "NoonShade$Isle" "marks" "LNoonShade$Rows;" ∈ gtb := gtb_mem (in_t1 (List.mem_of_getElem? (i := 98) (by decide +kernel))) rfl
theorem kw_32 : Cond.fieldLink "NoonShade$Isle" 43 "NoonShade$Isle" "past" "LNoonShade$Past;" ∈ gtb := gtb_mem (in_t1 (List.mem_of_getElem? (i := 100) (by decide +kernel))) rfl
theorem kw_36 : Cond.initialized "NoonShade$Past" ∈ gtb := gtb_mem (in_t1 (List.mem_of_getElem? (i := 4) (by decide +kernel))) rfl
theorem kw_46 : Cond.fieldLink "NoonShade$Isle" 9 "NoonShade$Isle" "casterKind" "[I" ∈ gtb := gtb_mem (in_t1 (List.mem_of_getElem? (i := 79) (by decide +kernel))) rfl
theorem kw_47 : Cond.fieldLink "NoonShade$Isle" 15 "NoonShade$Isle" "height" "[I" ∈ gtb := gtb_mem (in_t1 (List.mem_of_getElem? (i := 81) (by decide +kernel))) rfl
theorem kw_48 : Cond.fieldLink "NoonShade$Isle" 18 "NoonShade$Isle" "casterTaste" "[I" ∈ gtb := gtb_mem (in_t1 (List.mem_of_getElem? (i := 83) (by decide +kernel))) rfl
theorem kw_49 : Cond.fieldLink "NoonShade$Isle" 21 "NoonShade$Isle" "jarKind" "[I" ∈ gtb := gtb_mem (in_t1 (List.mem_of_getElem? (i := 85) (by decide +kernel))) rfl
theorem kw_50 : Cond.fieldLink "NoonShade$Isle" 24 "NoonShade$Isle" "cool" "[I" ∈ gtb := gtb_mem (in_t1 (List.mem_of_getElem? (i := 88) (by decide +kernel))) rfl
theorem kw_51 : Cond.fieldLink "NoonShade$Isle" 27 "NoonShade$Isle" "jarTaste" "[I" ∈ gtb := gtb_mem (in_t1 (List.mem_of_getElem? (i := 93) (by decide +kernel))) rfl
theorem kw_67 : Cond.initialized "NoonShade$Text" ∈ gtb := gtb_mem (in_t1 (List.mem_of_getElem? (i := 5) (by decide +kernel))) rfl
theorem kw_69 : Cond.fieldLink "NoonShade$Text" 11 "NoonShade$Text" "bytes" "[B" ∈ gtb := gtb_mem (in_t1 (List.mem_of_getElem? (i := 138) (by decide +kernel))) rfl
theorem kw_70 : Cond.fieldLink "NoonShade" 30 "NoonShade" "text" "LNoonShade$Text;" ∈ gtb := gtb_mem (in_t1 (List.mem_of_getElem? (i := 204) (by decide +kernel))) rfl
theorem kw_91 : Cond.fieldLink "NoonShade" 16 "NoonShade" "draft" "LNoonShade$Isle;" ∈ gtb := gtb_mem (in_t1 (List.mem_of_getElem? (i := 201) (by decide +kernel))) rfl
theorem kw_103 : Cond.fieldLink "NoonShade" 48 "NoonShade" "above" "J" ∈ gtb := gtb_mem (in_t1 (List.mem_of_getElem? (i := 207) (by decide +kernel))) rfl
theorem kw_104 : Cond.fieldLink "NoonShade" 52 "NoonShade" "below" "J" ∈ gtb := gtb_mem (in_t1 (List.mem_of_getElem? (i := 208) (by decide +kernel))) rfl
theorem kw_105 : Cond.fieldLink "NoonShade" 23 "NoonShade" "imageKept" "[Z" ∈ gtb := gtb_mem (in_t1 (List.mem_of_getElem? (i := 203) (by decide +kernel))) rfl
theorem kw_142 : Cond.fieldLink "NoonShade$Past" 11 "NoonShade$Past" "cells" "[I" ∈ gtb := gtb_mem (in_t1 (List.mem_of_getElem? (i := 53) (by decide +kernel))) rfl
theorem kw_159 : Cond.fieldLink "NoonShade$Rows" 11 "NoonShade$Rows" "cells" "[I" ∈ gtb := gtb_mem (in_t1 (List.mem_of_getElem? (i := 38) (by decide +kernel))) rfl
theorem kw_170 : Cond.fieldLink "NoonShade" 19 "NoonShade" "images" "[LNoonShade$Isle;" ∈ gtb := gtb_mem (in_t1 (List.mem_of_getElem? (i := 202) (by decide +kernel))) rfl
theorem kw_186 : Cond.fieldLink "NoonShadeModel" 20 "NoonShadeModel" "refused" "[I" ∈ gtb := gtb_mem (in_t4 (List.mem_of_getElem? (i := 74) (by decide +kernel))) rfl
theorem kw_187 : Cond.fieldLink "NoonShadeModel" 7 "NoonShadeModel" "all" "[I" ∈ gtb := gtb_mem (in_t4 (List.mem_of_getElem? (i := 71) (by decide +kernel))) rfl
theorem kw_190 : Cond.initialized "NoonShadeModel" ∈ gtb := gtb_mem (in_t1 (List.mem_of_getElem? (i := 8) (by decide +kernel))) rfl
theorem kw_208 : Cond.methodLink "NoonShadeModel" 42 yX9_begin ∈ gtb := gtb_mem (in_t4 (List.mem_of_getElem? (i := 68) (by decide +kernel))) rfl
theorem kw_209 : Cond.static yX9_begin ∈ gtb := gtb_mem (in_t4 (List.mem_of_getElem? (i := 69) (by decide +kernel))) rfl
theorem kw_210 : Cond.code yX9_begin prog_11_method_9_code 3 none ∈ gtb := gtb_mem (in_t4 (List.mem_of_getElem? (i := 70) (rfl))) rfl
theorem kw_228 : Cond.fieldLink "NoonShadeModel" 33 "NoonShadeModel" "bytes" "[I" ∈ gtb := gtb_mem (in_t4 (List.mem_of_getElem? (i := 80) (by decide +kernel))) rfl
theorem kw_260 : Cond.fieldLink "NoonShadeModel" 23 "NoonShadeModel" "below" "J" ∈ gtb := gtb_mem (in_t4 (List.mem_of_getElem? (i := 76) (by decide +kernel))) rfl
theorem kw_262 : Cond.fieldLink "NoonShadeModel" 16 "NoonShadeModel" "isKept" "[Z" ∈ gtb := gtb_mem (in_t4 (List.mem_of_getElem? (i := 73) (by decide +kernel))) rfl
theorem kw_264 : Cond.fieldLink "NoonShadeModel" 13 "NoonShadeModel" "kept" "[I" ∈ gtb := gtb_mem (in_t4 (List.mem_of_getElem? (i := 72) (by decide +kernel))) rfl
theorem kw_281 : Cond.fieldLink "NoonShadeModel" 27 "NoonShadeModel" "hand" "[I" ∈ gtb := gtb_mem (in_t4 (List.mem_of_getElem? (i := 77) (by decide +kernel))) rfl
theorem kw_295 : Cond.methodLink "NoonShade$Rows" 3 ⟨"java/lang/Object", "<init>", "()V"⟩ ∈ gtb := gtb_mem (in_t1 (List.mem_of_getElem? (i := 37) (by decide +kernel))) rfl
theorem kw_296 : Cond.instanceMethod ⟨"java/lang/Object", "<init>", "()V"⟩ ∈ gtb := gtb_mem (in_t1 (List.mem_of_getElem? (i := 24) (by decide +kernel))) rfl
theorem kw_297 : Cond.code ⟨"java/lang/Object", "<init>", "()V"⟩ object_method_1_code 1 none ∈ gtb := gtb_mem (in_t1 (List.mem_of_getElem? (i := 25) (rfl))) rfl
theorem kw_298 : Cond.arrayClass .int ∈ gtb := gtb_mem (in_t1 (List.mem_of_getElem? (i := 46) (by decide +kernel))) rfl
theorem kw_299 : Cond.methodLink "NoonShade$Past" 3 ⟨"java/lang/Object", "<init>", "()V"⟩ ∈ gtb := gtb_mem (in_t1 (List.mem_of_getElem? (i := 52) (by decide +kernel))) rfl
theorem kw_300 : Cond.methodLink "NoonShade$Guess" 3 ⟨"java/lang/Object", "<init>", "()V"⟩ ∈ gtb := gtb_mem (in_t1 (List.mem_of_getElem? (i := 195) (by decide +kernel))) rfl
theorem kw_301 : Cond.fieldLink "NoonShade$Guess" 9 "NoonShade$Guess" "answers" "[I" ∈ gtb := gtb_mem (in_t1 (List.mem_of_getElem? (i := 196) (by decide +kernel))) rfl
theorem kw_302 : Cond.methodLink "NoonShade$Text" 3 ⟨"java/lang/Object", "<init>", "()V"⟩ ∈ gtb := gtb_mem (in_t1 (List.mem_of_getElem? (i := 137) (by decide +kernel))) rfl
theorem kw_303 : Cond.arrayClass .byte ∈ gtb := gtb_mem (in_t1 (List.mem_of_getElem? (i := 162) (by decide +kernel))) rfl
theorem kw_304 : Cond.fieldLink "NoonShade$Text" 15 "NoonShade$Text" "numbers" "[I" ∈ gtb := gtb_mem (in_t1 (List.mem_of_getElem? (i := 139) (by decide +kernel))) rfl
theorem kw_305 : Cond.methodLink "NoonShade$Plan" 3 ⟨"java/lang/Object", "<init>", "()V"⟩ ∈ gtb := gtb_mem (in_t1 (List.mem_of_getElem? (i := 168) (by decide +kernel))) rfl
theorem kw_306 : Cond.fieldLink "NoonShade$Plan" 11 "NoonShade$Plan" "given" "[I" ∈ gtb := gtb_mem (in_t1 (List.mem_of_getElem? (i := 169) (by decide +kernel))) rfl
theorem kw_307 : Cond.fieldLink "NoonShade$Plan" 15 "NoonShade$Plan" "end" "[I" ∈ gtb := gtb_mem (in_t1 (List.mem_of_getElem? (i := 170) (by decide +kernel))) rfl
theorem kw_308 : Cond.fieldLink "NoonShade$Plan" 18 "NoonShade$Plan" "row" "[I" ∈ gtb := gtb_mem (in_t1 (List.mem_of_getElem? (i := 171) (by decide +kernel))) rfl
theorem kw_309 : Cond.methodLink "NoonShade$Isle" 3 ⟨"java/lang/Object", "<init>", "()V"⟩ ∈ gtb := gtb_mem (in_t1 (List.mem_of_getElem? (i := 31) (by decide +kernel))) rfl
theorem kw_310 : Cond.classLink "NoonShade$Isle" 30 "NoonShade$Rows" ∈ gtb := gtb_mem (in_t1 (List.mem_of_getElem? (i := 32) (by decide +kernel))) rfl
theorem kw_311 : Cond.instantiable "NoonShade$Rows" 2 ∈ gtb := gtb_mem (in_t1 (List.mem_of_getElem? (i := 33) (by decide +kernel))) rfl
theorem kw_312 : Cond.instanceMethod yX6_init ∈ gtb := gtb_mem (in_t1 (List.mem_of_getElem? (i := 35) (by decide +kernel))) rfl
theorem kw_313 : Cond.code yX6_init prog_8_method_1_code 1 none ∈ gtb := gtb_mem (in_t1 (List.mem_of_getElem? (i := 36) (rfl))) rfl
theorem kw_314 : Cond.classLink "NoonShade$Isle" 40 "NoonShade$Past" ∈ gtb := gtb_mem (in_t1 (List.mem_of_getElem? (i := 47) (by decide +kernel))) rfl
theorem kw_315 : Cond.instantiable "NoonShade$Past" 2 ∈ gtb := gtb_mem (in_t1 (List.mem_of_getElem? (i := 48) (by decide +kernel))) rfl
theorem kw_316 : Cond.instanceMethod yX4_init ∈ gtb := gtb_mem (in_t1 (List.mem_of_getElem? (i := 50) (by decide +kernel))) rfl
theorem kw_317 : Cond.code yX4_init prog_6_method_1_code 1 none ∈ gtb := gtb_mem (in_t1 (List.mem_of_getElem? (i := 51) (rfl))) rfl
theorem kw_318 : Cond.methodLink "NoonShade" 1 ⟨"java/lang/Object", "<init>", "()V"⟩ ∈ gtb := gtb_mem (in_t1 (List.mem_of_getElem? (i := 23) (by decide +kernel))) rfl
theorem kw_319 : Cond.classLink "NoonShade" 7 "NoonShade$Isle" ∈ gtb := gtb_mem (in_t1 (List.mem_of_getElem? (i := 26) (by decide +kernel))) rfl
theorem kw_320 : Cond.instantiable "NoonShade$Isle" 14 ∈ gtb := gtb_mem (in_t1 (List.mem_of_getElem? (i := 27) (by decide +kernel))) rfl
theorem kw_321 : Cond.instanceMethod yX2_init ∈ gtb := gtb_mem (in_t1 (List.mem_of_getElem? (i := 29) (by decide +kernel))) rfl
theorem kw_322 : Cond.code yX2_init prog_4_method_1_code 1 none ∈ gtb := gtb_mem (in_t1 (List.mem_of_getElem? (i := 30) (rfl))) rfl
theorem kw_323 : Cond.arrayClass .boolean ∈ gtb := gtb_mem (in_t1 (List.mem_of_getElem? (i := 161) (by decide +kernel))) rfl
theorem kw_324 : Cond.classLink "NoonShade" 27 "NoonShade$Text" ∈ gtb := gtb_mem (in_t1 (List.mem_of_getElem? (i := 132) (by decide +kernel))) rfl
theorem kw_325 : Cond.instantiable "NoonShade$Text" 7 ∈ gtb := gtb_mem (in_t1 (List.mem_of_getElem? (i := 133) (by decide +kernel))) rfl
theorem kw_326 : Cond.instanceMethod yX7_init ∈ gtb := gtb_mem (in_t1 (List.mem_of_getElem? (i := 135) (by decide +kernel))) rfl
theorem kw_327 : Cond.code yX7_init prog_9_method_1_code 1 none ∈ gtb := gtb_mem (in_t1 (List.mem_of_getElem? (i := 136) (rfl))) rfl
theorem kw_328 : Cond.classLink "NoonShade" 34 "NoonShade$Plan" ∈ gtb := gtb_mem (in_t1 (List.mem_of_getElem? (i := 163) (by decide +kernel))) rfl
theorem kw_329 : Cond.instantiable "NoonShade$Plan" 6 ∈ gtb := gtb_mem (in_t1 (List.mem_of_getElem? (i := 164) (by decide +kernel))) rfl
theorem kw_330 : Cond.initialized "NoonShade$Plan" ∈ gtb := gtb_mem (in_t1 (List.mem_of_getElem? (i := 6) (by decide +kernel))) rfl
theorem kw_331 : Cond.instanceMethod yX5_init ∈ gtb := gtb_mem (in_t1 (List.mem_of_getElem? (i := 166) (by decide +kernel))) rfl
theorem kw_332 : Cond.code yX5_init prog_7_method_1_code 1 none ∈ gtb := gtb_mem (in_t1 (List.mem_of_getElem? (i := 167) (rfl))) rfl
theorem kw_333 : Cond.fieldLink "NoonShade" 37 "NoonShade" "plan" "LNoonShade$Plan;" ∈ gtb := gtb_mem (in_t1 (List.mem_of_getElem? (i := 205) (by decide +kernel))) rfl
theorem kw_334 : Cond.classLink "NoonShade" 41 "NoonShade$Guess" ∈ gtb := gtb_mem (in_t1 (List.mem_of_getElem? (i := 190) (by decide +kernel))) rfl
theorem kw_335 : Cond.instantiable "NoonShade$Guess" 1 ∈ gtb := gtb_mem (in_t1 (List.mem_of_getElem? (i := 191) (by decide +kernel))) rfl
theorem kw_336 : Cond.initialized "NoonShade$Guess" ∈ gtb := gtb_mem (in_t1 (List.mem_of_getElem? (i := 7) (by decide +kernel))) rfl
theorem kw_337 : Cond.instanceMethod yX1_init ∈ gtb := gtb_mem (in_t1 (List.mem_of_getElem? (i := 193) (by decide +kernel))) rfl
theorem kw_338 : Cond.code yX1_init prog_3_method_1_code 1 none ∈ gtb := gtb_mem (in_t1 (List.mem_of_getElem? (i := 194) (rfl))) rfl
theorem kw_339 : Cond.fieldLink "NoonShade" 44 "NoonShade" "guess" "LNoonShade$Guess;" ∈ gtb := gtb_mem (in_t1 (List.mem_of_getElem? (i := 206) (by decide +kernel))) rfl
theorem kw_340 : Cond.methodLink "NoonShadeModel" 1 ⟨"java/lang/Object", "<init>", "()V"⟩ ∈ gtb := gtb_mem (in_t4 (List.mem_of_getElem? (i := 67) (by decide +kernel))) rfl
theorem kw_341 : Cond.fieldLink "NoonShadeModel" 30 "NoonShadeModel" "tells" "[I" ∈ gtb := gtb_mem (in_t4 (List.mem_of_getElem? (i := 79) (by decide +kernel))) rfl
theorem kw_342 : Cond.fieldLink "NoonShadeModel" 36 "NoonShadeModel" "anew" "[I" ∈ gtb := gtb_mem (in_t4 (List.mem_of_getElem? (i := 86) (by decide +kernel))) rfl
theorem kw_343 : Cond.fieldLink "NoonShadeModel" 39 "NoonShadeModel" "values" "[I" ∈ gtb := gtb_mem (in_t4 (List.mem_of_getElem? (i := 87) (by decide +kernel))) rfl
