theorem kw_0 : Cond.fieldLink "NoonShade$Isle" 57 "NoonShade$Isle" "casters" "I" ∈ gtb := gtb_mem (in_t1 (List.mem_of_getElem? (i := 73) (by decide +kernel))) rfl
theorem kw_1 : Cond.fieldLink "NoonShade$Isle" 60 "NoonShade$Isle" "jars" "I" ∈ gtb := gtb_mem (in_t1 (List.mem_of_getElem? (i := 76) (by decide +kernel))) rfl
theorem kw_2 : Cond.fieldLink "NoonShade" 260 "NoonShade" "fulls" "I" ∈ gtb := gtb_mem (in_t1 (List.mem_of_getElem? (i := 211) (by decide +kernel))) rfl
theorem kw_3 : Cond.fieldLink "NoonShade" 257 "NoonShade" "noes" "I" ∈ gtb := gtb_mem (in_t1 (List.mem_of_getElem? (i := 210) (by decide +kernel))) rfl
theorem kw_4 : Cond.fieldLink "NoonShade" 254 "NoonShade" "bads" "I" ∈ gtb := gtb_mem (in_t1 (List.mem_of_getElem? (i := 209) (by decide +kernel))) rfl
theorem kw_5 : Cond.fieldLink "NoonShade" 10 "NoonShade" "now" "LNoonShade$Isle;" ∈ gtb := gtb_mem (in_t1 (List.mem_of_getElem? (i := 200) (by decide +kernel))) rfl
theorem kw_6 : Cond.methodLink "NoonShade" 108 yX2_hasCaster ∈ gtb := gtb_mem (in_t3 (List.mem_of_getElem? (i := 8) (by decide +kernel))) rfl
theorem kw_7 : Cond.instanceMethod yX2_hasCaster ∈ gtb := gtb_mem (in_t2 (List.mem_of_getElem? (i := 163) (by decide +kernel))) rfl
theorem kw_8 : Cond.selects "NoonShade$Isle" yX2_hasCaster yX2_hasCaster ∈ gtb := gtb_mem (in_t2 (List.mem_of_getElem? (i := 164) (by decide +kernel))) rfl
theorem kw_9 : Cond.initialized "NoonShade$Isle" ∈ gtb := gtb_mem (in_t1 (List.mem_of_getElem? (i := 2) (by decide +kernel))) rfl
theorem kw_10 : Cond.code yX2_hasCaster prog_4_method_4_code 2 (some .boolean) ∈ gtb := gtb_mem (in_t2 (List.mem_of_getElem? (i := 165) (rfl))) rfl
theorem kw_11 : Cond.methodLink "NoonShade" 59 yX8_refused ∈ gtb := gtb_mem (in_t2 (List.mem_of_getElem? (i := 4) (by decide +kernel))) rfl
theorem kw_12 : Cond.instanceMethod yX8_refused ∈ gtb := gtb_mem (in_t2 (List.mem_of_getElem? (i := 6) (by decide +kernel))) rfl
theorem kw_13 : Cond.selects "NoonShade" yX8_refused yX8_refused ∈ gtb := gtb_mem (in_t0 (List.mem_of_getElem? (i := 0) (by decide +kernel))) rfl
theorem kw_14 : Cond.initialized "NoonShade" ∈ gtb := gtb_mem (in_t1 (List.mem_of_getElem? (i := 1) (by decide +kernel))) rfl
theorem kw_15 : Cond.code yX8_refused prog_1_method_39_code 2 (some .int) ∈ gtb := gtb_mem (in_t2 (List.mem_of_getElem? (i := 7) (rfl))) rfl
theorem kw_16 : Cond.methodLink "NoonShade" 112 yX2_hasJar ∈ gtb := gtb_mem (in_t3 (List.mem_of_getElem? (i := 9) (by decide +kernel))) rfl
theorem kw_17 : Cond.instanceMethod yX2_hasJar ∈ gtb := gtb_mem (in_t2 (List.mem_of_getElem? (i := 171) (by decide +kernel))) rfl
theorem kw_18 : Cond.selects "NoonShade$Isle" yX2_hasJar yX2_hasJar ∈ gtb := gtb_mem (in_t2 (List.mem_of_getElem? (i := 172) (by decide +kernel))) rfl
theorem kw_19 : Cond.code yX2_hasJar prog_4_method_5_code 2 (some .boolean) ∈ gtb := gtb_mem (in_t2 (List.mem_of_getElem? (i := 173) (rfl))) rfl
