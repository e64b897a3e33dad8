theorem kv_659 : Cond.constantLong "NoonShadeModel" 242 97 ∈ gtb := gtb_mem (in_t5 (List.mem_of_getElem? (i := 182) (by decide +kernel))) rfl
theorem kv_660 : Cond.constantLong "NoonShadeModel" 244 122 ∈ gtb := gtb_mem (in_t5 (List.mem_of_getElem? (i := 183) (by decide +kernel))) rfl
theorem kv_661 : Cond.constantLong "NoonShadeModel" 246 48 ∈ gtb := gtb_mem (in_t5 (List.mem_of_getElem? (i := 187) (by decide +kernel))) rfl
theorem kv_662 : Cond.constantLong "NoonShadeModel" 248 57 ∈ gtb := gtb_mem (in_t5 (List.mem_of_getElem? (i := 188) (by decide +kernel))) rfl
theorem kv_663 : Cond.fieldLink "NoonShadeModel" 250 "NoonShadeModel" "tokenAt" "I" ∈ gtb := gtb_mem (in_t4 (List.mem_of_getElem? (i := 82) (by decide +kernel))) rfl
theorem kv_664 : Cond.fieldLink "NoonShadeModel" 253 "NoonShadeModel" "tokenLong" "I" ∈ gtb := gtb_mem (in_t4 (List.mem_of_getElem? (i := 83) (by decide +kernel))) rfl
theorem kv_665 : Cond.fieldLink "NoonShadeModel" 256 "NoonShadeModel" "token" "I" ∈ gtb := gtb_mem (in_t4 (List.mem_of_getElem? (i := 84) (by decide +kernel))) rfl
theorem kv_666 : Cond.fieldLink "NoonShadeModel" 259 "NoonShadeModel" "value" "I" ∈ gtb := gtb_mem (in_t4 (List.mem_of_getElem? (i := 85) (by decide +kernel))) rfl
theorem kv_667 : Cond.fieldLink "NoonShadeModel" 33 "NoonShadeModel" "bytes" "[I" ∈ gtb := gtb_mem (in_t4 (List.mem_of_getElem? (i := 80) (by decide +kernel))) rfl
theorem kv_668 : Cond.methodLink "NoonShadeModel" 262 yX9_isSmall ∈ gtb := gtb_mem (in_t5 (List.mem_of_getElem? (i := 179) (by decide +kernel))) rfl
theorem kv_669 : Cond.static yX9_isSmall ∈ gtb := gtb_mem (in_t5 (List.mem_of_getElem? (i := 180) (by decide +kernel))) rfl
theorem kv_670 : Cond.code yX9_isSmall prog_11_method_75_code 1 (some .boolean) ∈ gtb := gtb_mem (in_t5 (List.mem_of_getElem? (i := 181) (rfl))) rfl
theorem kv_671 : Cond.methodLink "NoonShadeModel" 265 yX9_isFigure ∈ gtb := gtb_mem (in_t5 (List.mem_of_getElem? (i := 184) (by decide +kernel))) rfl
theorem kv_672 : Cond.static yX9_isFigure ∈ gtb := gtb_mem (in_t5 (List.mem_of_getElem? (i := 185) (by decide +kernel))) rfl
theorem kv_673 : Cond.code yX9_isFigure prog_11_method_76_code 1 (some .boolean) ∈ gtb := gtb_mem (in_t5 (List.mem_of_getElem? (i := 186) (rfl))) rfl
theorem kv_674 : Cond.methodLink "NoonShadeModel" 268 yX9_lookAt ∈ gtb := gtb_mem (in_t5 (List.mem_of_getElem? (i := 175) (by decide +kernel))) rfl
theorem kv_675 : Cond.instanceMethod yX9_lookAt ∈ gtb := gtb_mem (in_t5 (List.mem_of_getElem? (i := 177) (by decide +kernel))) rfl
theorem kv_676 : Cond.selects "NoonShadeModel" yX9_lookAt yX9_lookAt ∈ gtb := gtb_mem (in_t0 (List.mem_of_getElem? (i := 47) (by decide +kernel))) rfl
theorem kv_677 : Cond.code yX9_lookAt prog_11_method_77_code 5 none ∈ gtb := gtb_mem (in_t5 (List.mem_of_getElem? (i := 178) (rfl))) rfl
theorem kv_678 : Cond.fieldLink "NoonShadeModel" 39 "NoonShadeModel" "values" "[I" ∈ gtb := gtb_mem (in_t4 (List.mem_of_getElem? (i := 87) (by decide +kernel))) rfl
theorem kv_679 : Cond.methodLink "NoonShadeModel" 272 yX9_goBehind ∈ gtb := gtb_mem (in_t5 (List.mem_of_getElem? (i := 193) (by decide +kernel))) rfl
theorem kv_680 : Cond.instanceMethod yX9_goBehind ∈ gtb := gtb_mem (in_t5 (List.mem_of_getElem? (i := 195) (by decide +kernel))) rfl
theorem kv_681 : Cond.selects "NoonShadeModel" yX9_goBehind yX9_goBehind ∈ gtb := gtb_mem (in_t0 (List.mem_of_getElem? (i := 49) (by decide +kernel))) rfl
theorem kv_682 : Cond.code yX9_goBehind prog_11_method_78_code 1 none ∈ gtb := gtb_mem (in_t5 (List.mem_of_getElem? (i := 196) (rfl))) rfl
theorem kv_683 : Cond.fieldLink "NoonShadeModel" 36 "NoonShadeModel" "anew" "[I" ∈ gtb := gtb_mem (in_t4 (List.mem_of_getElem? (i := 86) (by decide +kernel))) rfl
theorem kv_684 : Cond.methodLink "NoonShadeModel" 275 yX9_takes ∈ gtb := gtb_mem (in_t5 (List.mem_of_getElem? (i := 197) (by decide +kernel))) rfl
theorem kv_685 : Cond.instanceMethod yX9_takes ∈ gtb := gtb_mem (in_t5 (List.mem_of_getElem? (i := 199) (by decide +kernel))) rfl
theorem kv_686 : Cond.selects "NoonShadeModel" yX9_takes yX9_takes ∈ gtb := gtb_mem (in_t0 (List.mem_of_getElem? (i := 50) (by decide +kernel))) rfl
theorem kv_687 : Cond.code yX9_takes prog_11_method_80_code 4 (some .boolean) ∈ gtb := gtb_mem (in_t5 (List.mem_of_getElem? (i := 200) (rfl))) rfl
theorem kv_688 : Cond.methodLink "NoonShadeModel" 279 yX9_spells ∈ gtb := gtb_mem (in_t5 (List.mem_of_getElem? (i := 189) (by decide +kernel))) rfl
theorem kv_689 : Cond.instanceMethod yX9_spells ∈ gtb := gtb_mem (in_t5 (List.mem_of_getElem? (i := 191) (by decide +kernel))) rfl
theorem kv_690 : Cond.selects "NoonShadeModel" yX9_spells yX9_spells ∈ gtb := gtb_mem (in_t0 (List.mem_of_getElem? (i := 48) (by decide +kernel))) rfl
theorem kv_691 : Cond.code yX9_spells prog_11_method_79_code 10 (some .boolean) ∈ gtb := gtb_mem (in_t5 (List.mem_of_getElem? (i := 192) (rfl))) rfl
theorem kv_692 : Cond.methodLink "NoonShadeModel" 283 yX9_takesCaster ∈ gtb := gtb_mem (in_t5 (List.mem_of_getElem? (i := 205) (by decide +kernel))) rfl
theorem kv_693 : Cond.instanceMethod yX9_takesCaster ∈ gtb := gtb_mem (in_t5 (List.mem_of_getElem? (i := 207) (by decide +kernel))) rfl
theorem kv_694 : Cond.selects "NoonShadeModel" yX9_takesCaster yX9_takesCaster ∈ gtb := gtb_mem (in_t0 (List.mem_of_getElem? (i := 52) (by decide +kernel))) rfl
theorem kv_695 : Cond.code yX9_takesCaster prog_11_method_81_code 1 (some .boolean) ∈ gtb := gtb_mem (in_t5 (List.mem_of_getElem? (i := 208) (rfl))) rfl
theorem kv_696 : Cond.methodLink "NoonShadeModel" 287 yX9_takesJar ∈ gtb := gtb_mem (in_t5 (List.mem_of_getElem? (i := 209) (by decide +kernel))) rfl
theorem kv_697 : Cond.instanceMethod yX9_takesJar ∈ gtb := gtb_mem (in_t5 (List.mem_of_getElem? (i := 211) (by decide +kernel))) rfl
theorem kv_698 : Cond.selects "NoonShadeModel" yX9_takesJar yX9_takesJar ∈ gtb := gtb_mem (in_t0 (List.mem_of_getElem? (i := 53) (by decide +kernel))) rfl
theorem kv_699 : Cond.code yX9_takesJar prog_11_method_82_code 1 (some .boolean) ∈ gtb := gtb_mem (in_t5 (List.mem_of_getElem? (i := 212) (rfl))) rfl
theorem kv_700 : Cond.methodLink "NoonShadeModel" 290 yX9_takesLadle ∈ gtb := gtb_mem (in_t5 (List.mem_of_getElem? (i := 213) (by decide +kernel))) rfl
theorem kv_701 : Cond.instanceMethod yX9_takesLadle ∈ gtb := gtb_mem (in_t5 (List.mem_of_getElem? (i := 215) (by decide +kernel))) rfl
theorem kv_702 : Cond.selects "NoonShadeModel" yX9_takesLadle yX9_takesLadle ∈ gtb := gtb_mem (in_t0 (List.mem_of_getElem? (i := 54) (by decide +kernel))) rfl
theorem kv_703 : Cond.code yX9_takesLadle prog_11_method_83_code 2 (some .boolean) ∈ gtb := gtb_mem (in_t5 (List.mem_of_getElem? (i := 216) (rfl))) rfl
theorem kv_704 : Cond.methodLink "NoonShadeModel" 293 yX9_takesPour ∈ gtb := gtb_mem (in_t5 (List.mem_of_getElem? (i := 217) (by decide +kernel))) rfl
theorem kv_705 : Cond.instanceMethod yX9_takesPour ∈ gtb := gtb_mem (in_t5 (List.mem_of_getElem? (i := 219) (by decide +kernel))) rfl
theorem kv_706 : Cond.selects "NoonShadeModel" yX9_takesPour yX9_takesPour ∈ gtb := gtb_mem (in_t0 (List.mem_of_getElem? (i := 55) (by decide +kernel))) rfl
theorem kv_707 : Cond.code yX9_takesPour prog_11_method_84_code 2 (some .boolean) ∈ gtb := gtb_mem (in_t5 (List.mem_of_getElem? (i := 220) (rfl))) rfl
theorem kv_708 : Cond.methodLink "NoonShadeModel" 296 yX9_takesHours ∈ gtb := gtb_mem (in_t5 (List.mem_of_getElem? (i := 221) (by decide +kernel))) rfl
theorem kv_709 : Cond.instanceMethod yX9_takesHours ∈ gtb := gtb_mem (in_t5 (List.mem_of_getElem? (i := 223) (by decide +kernel))) rfl
theorem kv_710 : Cond.selects "NoonShadeModel" yX9_takesHours yX9_takesHours ∈ gtb := gtb_mem (in_t0 (List.mem_of_getElem? (i := 56) (by decide +kernel))) rfl
theorem kv_711 : Cond.code yX9_takesHours prog_11_method_85_code 1 (some .boolean) ∈ gtb := gtb_mem (in_t5 (List.mem_of_getElem? (i := 224) (rfl))) rfl
theorem kv_712 : Cond.methodLink "NoonShadeModel" 299 yX9_takesItem ∈ gtb := gtb_mem (in_t5 (List.mem_of_getElem? (i := 201) (by decide +kernel))) rfl
theorem kv_713 : Cond.instanceMethod yX9_takesItem ∈ gtb := gtb_mem (in_t5 (List.mem_of_getElem? (i := 203) (by decide +kernel))) rfl
theorem kv_714 : Cond.selects "NoonShadeModel" yX9_takesItem yX9_takesItem ∈ gtb := gtb_mem (in_t0 (List.mem_of_getElem? (i := 51) (by decide +kernel))) rfl
theorem kv_715 : Cond.code yX9_takesItem prog_11_method_86_code 1 (some .boolean) ∈ gtb := gtb_mem (in_t5 (List.mem_of_getElem? (i := 204) (rfl))) rfl
theorem kv_716 : Cond.constantLong "NoonShadeModel" 237 127 ∈ gtb := gtb_mem (in_t5 (List.mem_of_getElem? (i := 166) (by decide +kernel))) rfl
theorem kv_717 : Cond.fieldLink "NoonShadeModel" 16 "NoonShadeModel" "isKept" "[Z" ∈ gtb := gtb_mem (in_t4 (List.mem_of_getElem? (i := 73) (by decide +kernel))) rfl
theorem kv_718 : Cond.fieldLink "NoonShadeModel" 13 "NoonShadeModel" "kept" "[I" ∈ gtb := gtb_mem (in_t4 (List.mem_of_getElem? (i := 72) (by decide +kernel))) rfl
